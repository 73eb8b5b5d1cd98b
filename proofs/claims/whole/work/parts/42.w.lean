
/-! ===== the reference: a LINE's rows; what a TEXT gives ===== -/
theorem pBd_some {r : PRs} {g : Nat → List Tok → PRs} {q : Nat} {ts : List Tok} (h : pBd r g = (q, some ts)) : ∃ q1 t1, r = (q1, some t1) ∧ g q1 t1 = (q, some ts) := by
  obtain ⟨q1, o⟩ := r
  cases o with
  | none => exact absurd (congrArg Prod.snd h) (by intro e; cases e)
  | some t1 => exact ⟨q1, t1, rfl, h⟩
theorem pLp_ind {c : Nat → Int} {sub : Nat → PRs} {lev : Nat} {P : List Tok → Prop} (hP : ∀ q a b q2, P a → sub (q + 1) = (q2, some b) → lvC (c q) = (lev : Int) → P (a ++ b ++ [(c q, 0)])) : ∀ (n q : Nat) (ts : List Tok) (q2 : Nat) (t2 : List Tok), P ts → pLp c sub lev n q ts = (q2, some t2) → P t2
  | 0, q, ts, q2, t2, h, e => by cases e; exact h
  | n + 1, q, ts, q2, t2, h, e => by
    rw [pLp] at e
    by_cases hc : lvC (c q) = (lev : Int)
    · rw [if_pos hc] at e
      obtain ⟨q1, t1, e1, e2⟩ := pBd_some e
      have e3 : (if lev = 2 then (q1, some (ts ++ t1 ++ [(c q, 0)])) else pLp c sub lev n q1 (ts ++ t1 ++ [(c q, 0)])) = (q2, some t2) := e2
      have h1 := hP q ts t1 q1 h e1 hc
      by_cases h2 : lev = 2
      · rw [if_pos h2] at e3; cases e3; exact h1
      · rw [if_neg h2] at e3; exact pLp_ind hP n q1 _ q2 t2 h1 e3
    · rw [if_neg hc] at e; cases e; exact h
/-- what holds of numbers, names, and grows with signs, holds of all TERMS -/
theorem pT_ind {c : Nat → Int} {P : List Tok → Prop} (hnum : ∀ v : Int, -2147483648 ≤ v → v ≤ 2147483647 → P [(48, v)]) (hnam : ∀ j, 0 ≤ nmC j → P [(97, nmC j)]) (hneg : ∀ a v, P a → v = 126 ∨ v = 33 → P (a ++ [(v, 0)])) (hbin : ∀ a b e, P a → P b → 0 ≤ lvC e → P (a ++ b ++ [(e, 0)])) : ∀ (k : Nat), (∀ pos q ts, pOp c k pos = (q, some ts) → P ts) ∧ ∀ j pos q ts, pTm c (pOp c k) j pos = (q, some ts) → P ts := by
  have hfig : ∀ pos q ts, pFig c pos = (q, some ts) → P ts := by
    intro pos q ts h
    unfold pFig at h
    have hb : ∀ (n q0 : Nat) (v : Int), n ≤ 4 → 0 ≤ v → v < 10 ^ (4 - n) → 0 ≤ (pDg c n q0 v).2 ∧ (pDg c n q0 v).2 < 10000 := by
      intro n
      induction n with
      | zero => intro q0 v _ h0 h1; exact ⟨h0, by have : (10 : Int) ^ (4 - 0) = 10000 := by decide
                                                  show v < 10000; omega⟩
      | succ n ih =>
        intro q0 v hn h0 h1
        rw [pDg]
        by_cases hd : 48 ≤ c q0 ∧ c q0 ≤ 57
        · rw [if_pos hd]
          refine ih _ _ (by omega) (by omega) ?_
          rcases (by omega : n = 0 ∨ n = 1 ∨ n = 2 ∨ n = 3) with rfl | rfl | rfl | rfl
          · have e1 : (10 : Int) ^ (4 - (0 + 1)) = 1000 := by decide
            have e2 : (10 : Int) ^ (4 - 0) = 10000 := by decide
            omega
          · have e1 : (10 : Int) ^ (4 - (1 + 1)) = 100 := by decide
            have e2 : (10 : Int) ^ (4 - 1) = 1000 := by decide
            omega
          · have e1 : (10 : Int) ^ (4 - (2 + 1)) = 10 := by decide
            have e2 : (10 : Int) ^ (4 - 2) = 100 := by decide
            omega
          · have e1 : (10 : Int) ^ (4 - (3 + 1)) = 1 := by decide
            have e2 : (10 : Int) ^ (4 - 3) = 10 := by decide
            omega
        · rw [if_neg hd]
          refine ⟨h0, ?_⟩
          rcases (by omega : n = 0 ∨ n = 1 ∨ n = 2 ∨ n = 3) with rfl | rfl | rfl | rfl
          · have e1 : (10 : Int) ^ (4 - (0 + 1)) = 1000 := by decide
            show v < 10000; omega
          · have e1 : (10 : Int) ^ (4 - (1 + 1)) = 100 := by decide
            show v < 10000; omega
          · have e1 : (10 : Int) ^ (4 - (2 + 1)) = 10 := by decide
            show v < 10000; omega
          · have e1 : (10 : Int) ^ (4 - (3 + 1)) = 1 := by decide
            show v < 10000; omega
    have h9 := hb 4 pos 0 (Nat.le_refl _) (Int.le_refl _) (by decide)
    by_cases hd : 48 ≤ c (pDg c 4 pos 0).1 ∧ c (pDg c 4 pos 0).1 ≤ 57
    · rw [if_pos hd] at h; cases h
    · rw [if_neg hd] at h; cases h; exact hnum _ (by omega) (by omega)
  have hT : ∀ (po : Nat → PRs), (∀ pos q ts, po pos = (q, some ts) → P ts) → ∀ j pos q ts, pTm c po j pos = (q, some ts) → P ts := by
    intro po hpo j
    induction j with
    | zero => exact hpo
    | succ j ih =>
      intro pos q ts h
      obtain ⟨q1, t1, e1, e2⟩ := pBd_some (show pBd _ _ = _ from h)
      exact pLp_ind (P := P) (fun q a b q2 ha hs hl => hbin a b _ ha (ih _ _ _ hs) (by omega)) _ _ _ _ _ (ih _ _ _ e1) e2
  intro k
  have key : ∀ pos q ts, pOp c k pos = (q, some ts) → P ts := by
    induction k with
    | zero =>
      intro pos q ts h
      have h' : (if 48 ≤ c pos ∧ c pos ≤ 57 then pFig c pos else if 0 ≤ nmC (c pos) then (pos + 1, some [(97, nmC (c pos))]) else (pos, none)) = (q, some ts) := h
      by_cases h1 : 48 ≤ c pos ∧ c pos ≤ 57
      · rw [if_pos h1] at h'; exact hfig _ _ _ h'
      · rw [if_neg h1] at h'
        by_cases h2 : 0 ≤ nmC (c pos)
        · rw [if_pos h2] at h'; cases h'; exact hnam _ h2
        · rw [if_neg h2] at h'; cases h'
    | succ k ih =>
      intro pos q ts h
      by_cases h1 : 48 ≤ c pos ∧ c pos ≤ 57
      · rw [pOp_d h1] at h; exact hfig _ _ _ h
      · by_cases h2 : 0 ≤ nmC (c pos)
        · rw [pOp_n h1 h2] at h; cases h; exact hnam _ h2
        · by_cases h3 : c pos = 40
          · rw [pOp_p h3] at h
            obtain ⟨q1, t1, e1, e2⟩ := pBd_some (show pBd _ _ = _ from h)
            have e3 : (if c q1 = 41 then (q1 + 1, some t1) else (q1, none)) = (q, some ts) := e2
            by_cases h4 : c q1 = 41
            · rw [if_pos h4] at e3; cases e3; exact hT _ ih _ _ _ _ e1
            · rw [if_neg h4] at e3; cases e3
          · by_cases h4 : c pos = 33 ∨ c pos = 45
            · rw [pOp_u h4] at h
              obtain ⟨q1, t1, e1, e2⟩ := pBd_some (show pBd _ _ = _ from h)
              cases e2
              exact hneg _ _ (ih _ _ _ e1) (by split <;> simp)
            · rw [pOp_x h1 (by omega) (Or.inr ⟨h3, by omega, by omega⟩)] at h; cases h
  exact ⟨key, fun j => hT _ key j⟩
theorem pT0_ne {c : Nat → Int} {pos q : Nat} {ts : List Tok} (h : pT0 c pos = (q, some ts)) : 0 < ts.length :=
  (pT_ind (c := c) (P := fun ts => 0 < ts.length) (fun _ _ _ => Nat.one_pos) (fun _ _ => Nat.one_pos) (fun a v _ _ => by rw [List.length_append]; exact Nat.succ_pos _) (fun a b e _ _ _ => by rw [List.length_append]; exact Nat.succ_pos _) 6).2 5 pos q ts h
def mcodeL : Lin → List Tok
  | (none, ts) => ts.map mkT
  | (some t, ts) => (t ++ ts).map mkT
def tlC : Lin → Nat
  | (none, _) => 0
  | (some t, _) => t.length
def mcT : List Lin → List Tok
  | [] => []
  | x :: ls => mcodeL x ++ mcT ls
theorem mcT_app (a b : List Lin) : mcT (a ++ b) = mcT a ++ mcT b := by
  induction a with
  | nil => rfl
  | cons x a ih => show mcodeL x ++ mcT (a ++ b) = (mcodeL x ++ mcT a) ++ mcT b; rw [ih, List.append_assoc]
theorem mcT_s (ls : List Lin) (x : Lin) : mcT (ls ++ [x]) = mcT ls ++ mcodeL x := by rw [mcT_app]; show _ ++ (mcodeL x ++ []) = _; rw [List.append_nil]
def mTE (ls : List Lin) (j : Nat) : Nat := (mcT (ls.take j)).length + tlC (ls.getD j (none, []))
def mLE (ls : List Lin) (j : Nat) : Nat := (mcT (ls.take (j + 1))).length
def LIO (lo22 : Int32) (lo23 lo24 f22 f23 f24 : Nat → Int32) : Prop := f22 0 = lo22 ∧ ∀ j, j < 61 → f23 j = lo23 j ∧ f24 j = lo24 j
def MLR (lo22 : Int32) (lo23 lo24 f22 f23 f24 : Nat → Int32) (ls : List Lin) : Prop := LIO lo22 lo23 lo24 f22 f23 f24 ∧ (f22 1).toInt = ((ls.length : Nat) : Int) ∧ ∀ j, j < ls.length → (f23 (61 + j)).toInt = ((mTE ls j : Nat) : Int) ∧ (f24 (61 + j)).toInt = ((mLE ls j : Nat) : Int)
theorem mTE_old {ls : List Lin} {x : Lin} {j : Nat} (h : j < ls.length) : mTE (ls ++ [x]) j = mTE ls j := by
  unfold mTE; rw [List.take_append_of_le_length (by omega), gD_l h]
theorem mLE_old {ls : List Lin} {x : Lin} {j : Nat} (h : j < ls.length) : mLE (ls ++ [x]) j = mLE ls j := by
  unfold mLE; rw [List.take_append_of_le_length (by omega)]
theorem mTE_new (ls : List Lin) (x : Lin) : mTE (ls ++ [x]) ls.length = (mcT ls).length + tlC x := by
  unfold mTE; rw [List.take_append_of_le_length (Nat.le_refl _), List.take_length, gD_r (Nat.le_refl _), Nat.sub_self]; rfl
theorem mLE_new (ls : List Lin) (x : Lin) : mLE (ls ++ [x]) ls.length = (mcT (ls ++ [x])).length := by
  unfold mLE; rw [show ls.length + 1 = (ls ++ [x]).length by rw [List.length_append]; rfl, List.take_length]
theorem MLR_push {lo22 : Int32} {lo23 lo24 f22 f23 f24 g23 : Nat → Int32} {ls : List Lin} (h : MLR lo22 lo23 lo24 f22 f23 f24 ls) {x : Lin} {z le : Int32} (hz : z.toInt = ((ls.length + 1 : Nat) : Int)) (hg : ∀ j, j ≠ 61 + ls.length → g23 j = f23 j) (ht : (g23 (61 + ls.length)).toInt = (((mcT ls).length + tlC x : Nat) : Int)) (hle : le.toInt = (((mcT (ls ++ [x])).length : Nat) : Int)) : MLR lo22 lo23 lo24 (upd f22 1 z) g23 (upd f24 (61 + ls.length) le) (ls ++ [x]) := by
  refine ⟨⟨?_, fun j hj => ?_⟩, ?_, fun j hj => ?_⟩
  · unfold upd; rw [if_neg (by decide)]; exact h.1.1
  · unfold upd; rw [if_neg (by omega), hg j (by omega)]; exact h.1.2 j hj
  · unfold upd; rw [if_pos rfl, hz, List.length_append]; rfl
  · rw [List.length_append] at hj
    have hj' : j < ls.length + 1 := hj
    by_cases e : j = ls.length
    · subst e; unfold upd; rw [if_pos rfl, ht, hle, mTE_new, mLE_new]; exact ⟨rfl, rfl⟩
    · unfold upd; rw [if_neg (by omega), hg _ (by omega), mTE_old (by omega), mLE_old (by omega)]; exact h.2.2 j (by omega)
theorem LIO_up {lo22 : Int32} {lo23 lo24 f22 f23 f24 : Nat → Int32} (h : LIO lo22 lo23 lo24 f22 f23 f24) {z a b : Int32} {i k : Nat} (hi : 61 ≤ i) (hk : 61 ≤ k) : LIO lo22 lo23 lo24 (upd f22 1 z) (upd f23 i a) (upd f24 k b) := by
  refine ⟨by unfold upd; rw [if_neg (by decide)]; exact h.1, fun j hj => ?_⟩
  unfold upd; rw [if_neg (by omega), if_neg (by omega)]; exact h.2 j hj
theorem LIO_up3 {lo22 : Int32} {lo23 lo24 f22 f23 f24 : Nat → Int32} (h : LIO lo22 lo23 lo24 f22 f23 f24) {a : Int32} {i : Nat} (hi : 61 ≤ i) : LIO lo22 lo23 lo24 f22 (upd f23 i a) f24 :=
  ⟨h.1, fun j hj => by unfold upd; rw [if_neg (by omega)]; exact h.2 j hj⟩
theorem sh16 {x z : Int32} (hz : z = x.toInt16.toInt32) {n : Nat} (hx : x.toInt = ((n : Nat) : Int)) (h1 : n < 32768) : (vp_nar .short z).toInt = ((n : Nat) : Int) := by
  rw [hz, pk_vs, fb_short (by omega) (by omega), hx]
theorem MC_0 (a b : Nat → Int32) : MC a b a b (0 : Int32) [] := ⟨by decide, fun _ _ => ⟨rfl, rfl⟩, fun j hj => absurd hj (Nat.not_lt_zero j)⟩
theorem MLR_0 (a b c : Nat → Int32) : MLR (a 0) b c (upd a 1 (0 : Int32)) b c [] := ⟨⟨by unfold upd; rw [if_neg (by decide)], fun _ _ => ⟨rfl, rfl⟩⟩, by unfold upd; rw [if_pos rfl]; decide, fun j hj => absurd hj (Nat.not_lt_zero j)⟩
theorem mcL_len (x : Lin) : (mcodeL x).length = tlC x + x.2.length := by
  obtain ⟨o, ts⟩ := x
  cases o with
  | none => show (ts.map mkT).length = 0 + ts.length; rw [List.length_map]; omega
  | some t => show ((t ++ ts).map mkT).length = t.length + ts.length; rw [List.length_map, List.length_append]
/-- the law's rows hold a TEXT -/
def MLW (f20 f21 f22 f23 f24 : Nat → Int32) (ls : List Lin) : Prop := (f22 0).toInt = ((ls.length : Nat) : Int) ∧ ls.length ≤ 61 ∧ (mcT ls).length ≤ 120 ∧ (∀ j, j < (mcT ls).length → (f20 j).toInt = ((mcT ls).getD j (0, 0)).1 ∧ (f21 j).toInt = ((mcT ls).getD j (0, 0)).2) ∧ ∀ j, j < ls.length → (f23 j).toInt = ((mTE ls j : Nat) : Int) ∧ (f24 j).toInt = ((mLE ls j : Nat) : Int)
theorem MLW_lo {f20 f21 f22 f23 f24 g20 g21 g22 g23 g24 : Nat → Int32} {ls : List Lin} (h : MLW f20 f21 f22 f23 f24 ls) (h1 : LO f20 f21 g20 g21) (h2 : LIO (f22 0) f23 f24 g22 g23 g24) : MLW g20 g21 g22 g23 g24 ls := by
  refine ⟨by rw [h2.1]; exact h.1, h.2.1, h.2.2.1, fun j hj => ?_, fun j hj => ?_⟩
  · have := h.2.2.1
    rw [(h1 j (by omega)).1, (h1 j (by omega)).2]; exact h.2.2.2.1 j hj
  · have := h.2.1
    rw [(h2.2 j (by omega)).1, (h2.2 j (by omega)).2]; exact h.2.2.2.2 j hj
theorem b8 {x : Int32} (h0 : 0 ≤ x.toInt) (h1 : x.toInt < 128) : vp_nar .byte x = x := by rw [vp_nar_byte, fb_byte (by omega) (by omega)]
theorem s16 {x : Int32} (h0 : 0 ≤ x.toInt) (h1 : x.toInt < 32768) : vp_nar .short x = x := by rw [vp_nar_short, fb_short (by omega) (by omega)]
theorem mTE_le {ls : List Lin} {j : Nat} (h : j < ls.length) : mTE ls j ≤ mLE ls j ∧ mLE ls j ≤ (mcT ls).length ∧ (mcT (ls.take j)).length ≤ mTE ls j := by
  have h1 : ls.take (j + 1) = ls.take j ++ [ls[j]] := by rw [List.take_add_one, List.getElem?_eq_getElem h]; rfl
  have h2 : ls.getD j (none, []) = ls[j] := by rw [List.getD_eq_getElem?_getD, List.getElem?_eq_getElem h]; rfl
  refine ⟨?_, ?_, Nat.le_add_right _ _⟩
  · unfold mTE mLE; rw [h1, mcT_s, List.length_append, h2, mcL_len]; omega
  · unfold mLE
    have : mcT ls = mcT (ls.take (j + 1)) ++ mcT (ls.drop (j + 1)) := by rw [← mcT_app, List.take_append_drop]
    rw [this, List.length_append]; omega
theorem mkT_rng {c : Nat → Int} {pos q : Nat} {ts : List Tok} (h : pT0 c pos = (q, some ts)) : ∀ t ∈ ts.map mkT, 0 ≤ t.1 ∧ t.1 < 128 := by
  refine (pT_ind (c := c) (P := fun ts => ∀ t ∈ ts.map mkT, 0 ≤ t.1 ∧ t.1 < 128) ?_ ?_ ?_ ?_ 6).2 5 pos q ts h
  · intro v _ _ t ht; rw [List.map_singleton, List.mem_singleton] at ht; subst ht; exact ⟨(show (0 : Int) ≤ 1 by decide), (show (1 : Int) < 128 by decide)⟩
  · intro j _ t ht; rw [List.map_singleton, List.mem_singleton] at ht; subst ht; exact ⟨(show (0 : Int) ≤ 2 by decide), (show (2 : Int) < 128 by decide)⟩
  · intro a v ha hv t ht
    rw [List.map_append, List.map_singleton] at ht
    rcases List.mem_append.mp ht with g | g
    · exact ha t g
    · rw [List.mem_singleton] at g; subst g
      rcases hv with rfl | rfl <;> exact ⟨by decide, by decide⟩
  · intro a b e ha hb he t ht
    rw [List.map_append, List.map_append, List.map_singleton] at ht
    rcases List.mem_append.mp ht with g | g
    · rcases List.mem_append.mp g with g | g
      · exact ha t g
      · exact hb t g
    · rw [List.mem_singleton] at g; subst g
      rw [mkT_op he]
      have := lvC_big (show lvC e ≠ -2 by omega)
      exact ⟨this.1, this.2⟩
def RG (t : List Tok) : Prop := ∀ x ∈ t, 0 ≤ x.1 ∧ x.1 < 128
theorem RG_at {t : List Tok} (h : RG t) {j : Nat} (hj : j < t.length) : 0 ≤ (t.getD j (0, 0)).1 ∧ (t.getD j (0, 0)).1 < 128 := by
  rw [List.getD_eq_getElem?_getD, List.getElem?_eq_getElem hj]
  exact h _ (List.getElem_mem hj)
theorem RG_L {c : Nat → Int} {pos q : Nat} {x : Lin} (h : pLn c pos = (q, some x)) : RG (mcodeL x) := by
  unfold pLn at h
  split at h
  · cases h
  · rename_i q1 ts e
    split at h
    · split at h
      · cases h
      · rename_i q2 t2 e2
        cases h
        intro t ht
        rw [show mcodeL (some ts, t2) = (ts ++ t2).map mkT from rfl, List.map_append] at ht
        rcases List.mem_append.mp ht with g | g
        · exact mkT_rng e t g
        · exact mkT_rng e2 t g
    · cases h
      exact mkT_rng e
theorem RG_app {a b : List Tok} (ha : RG a) (hb : RG b) : RG (a ++ b) := fun t ht => (List.mem_append.mp ht).elim (ha t) (hb t)
theorem pLn_ne {c : Nat → Int} {pos q : Nat} {x : Lin} (h : pLn c pos = (q, some x)) : 0 < x.2.length := by
  unfold pLn at h
  split at h
  · cases h
  · rename_i q1 ts e
    split at h
    · split at h
      · cases h
      · rename_i q2 t2 e2; cases h; exact pT0_ne e2
    · cases h; exact pT0_ne e
theorem in_X11_oneLine_X11 : ∀ w ∈ wsX110, w ∈ wsX11_oneLine := fun w h => List.mem_cons_of_mem _ (List.mem_append_right _ h)
set_option maxHeartbeats 4000000 in
set_option maxRecDepth 100000 in
theorem c_X11_oneLine (l : Launch) (D : va_G) (Y : Nat → ClassId) (m : Nat) (R : Nat → Nat) (v0 : Int32) (v7 : Int32) (v8 : Int32) (v9 : Int32) (v15 : Int32) (v16 : Int32) (v17 : Int32) (v18 : Int32) (v19 : Int32) (v27 : Int32) (v31 : Int32) (v32 : Int32) (v33 : Int32) (v34 : Int32) (v38 : Int32) (v42 : Int32) (v44 : Int32) (a14 : Nat → Int32) (a20 : Nat → Int32) (a21 : Nat → Int32) (L : Nat) (c : Nat → Int) (pos : Nat) (lo20 : Nat → Int32) (lo21 : Nat → Int32) (t0 : List Tok) (opn : Nat) (a22 : Nat → Int32) (a23 : Nat → Int32) (a24 : Nat → Int32) (lo22 : Int32) (lo23 : Nat → Int32) (lo24 : Nat → Int32) (ls : List Lin) (tv15 : v15.toInt = ((L : Nat) : Int)) (tv16 : v16.toInt = ((pos : Nat) : Int)) (hL : L ≤ 120) (hpL : pos ≤ L) (hCH : MCHR a14 L c) (tv17 : v17.toInt = (-1)) (hMC : MC lo20 lo21 a20 a21 v19 t0) (tv18 : v18.toInt = ((opn : Nat) : Int)) (htp : t0.length ≤ pos) (hML : MLR lo22 lo23 lo24 a22 a23 a24 ls) (hls : ls.length ≤ 60) (ht0 : t0 = mcT ls) (ho : opn = 0) : Mg l yX11_oneLine wsX11_oneLine ({ frames := 46, cells := 0, slots := 0, locals := 992 }) D Y [(m, .inr (10, mF R v0 v7 v8 v9 v15 v16 v17 v18 v19 v27 v31 v32 v33 v34 v38 v42 v44)), ((R 14), .inl (Y 2, 120, .inl a14)), ((R 20), .inl (Y 2, 260, .inl a20)), ((R 21), .inl (Y 0, 260, .inl a21)), ((R 22), .inl (Y 0, 2, .inl a22)), ((R 23), .inl (Y 3, 122, .inl a23)), ((R 24), .inl (Y 3, 122, .inl a24))] [.ref m] 0 0 (fun vv__ ww__ => (∃ (q : Nat), ∃ (x_ : Lin), ∃ (z16 : Int32), ∃ (z19 : Int32), ∃ (b20 : Nat → Int32), ∃ (b21 : Nat → Int32), ∃ (b22 : Nat → Int32), ∃ (b23 : Nat → Int32), ∃ (b24 : Nat → Int32), vv__ = none ∧ ww__ = [(m, .inr (10, mF R v0 v7 v8 v9 v15 z16 v17 v18 z19 v27 v31 v32 v33 v34 v38 v42 v44)), ((R 14), .inl (Y 2, 120, .inl a14)), ((R 20), .inl (Y 2, 260, .inl b20)), ((R 21), .inl (Y 0, 260, .inl b21)), ((R 22), .inl (Y 0, 2, .inl b22)), ((R 23), .inl (Y 3, 122, .inl b23)), ((R 24), .inl (Y 3, 122, .inl b24))] ∧ (z16.toInt = ((q : Nat) : Int)) ∧ (pLn c pos = (q, some x_)) ∧ (pos + 1 ≤ q ∧ q ≤ L ∧ (t0 ++ mcodeL x_).length ≤ q) ∧ (MC lo20 lo21 b20 b21 z19 (t0 ++ mcodeL x_)) ∧ (MLR lo22 lo23 lo24 b22 b23 b24 (ls ++ [x_]))) ∨ (∃ (q : Nat), ∃ (z16 : Int32), ∃ (z17 : Int32), ∃ (z18 : Int32), ∃ (z19 : Int32), ∃ (b20 : Nat → Int32), ∃ (b21 : Nat → Int32), ∃ (b22 : Nat → Int32), ∃ (b23 : Nat → Int32), ∃ (b24 : Nat → Int32), vv__ = none ∧ ww__ = [(m, .inr (10, mF R v0 v7 v8 v9 v15 z16 z17 z18 z19 v27 v31 v32 v33 v34 v38 v42 v44)), ((R 14), .inl (Y 2, 120, .inl a14)), ((R 20), .inl (Y 2, 260, .inl b20)), ((R 21), .inl (Y 0, 260, .inl b21)), ((R 22), .inl (Y 0, 2, .inl b22)), ((R 23), .inl (Y 3, 122, .inl b23)), ((R 24), .inl (Y 3, 122, .inl b24))] ∧ (z16.toInt = ((q : Nat) : Int)) ∧ (z17.toInt = ((q : Nat) : Int)) ∧ (pLn c pos = (q, none)) ∧ (q ≤ L) ∧ (LO lo20 lo21 b20 b21) ∧ (LIO lo22 lo23 lo24 b22 b23 b24))) := by
  refine Mg_of (cc := cX11_oneLine) (maxL := 2) (ret := none) (ls0 := [(0, .ref m)]) RX11 (by decide) rfl rfl rfl (Nat.le_of_ble_eq_true rfl) (fun p__ e__ s__ m__ b__ t__ c__ X hr hn => ?_)
  have hm1 := hMC.1
  have hl1 := hML.2.1
  refine V_bipush (v := (61 : Int32)) X (by decide) dX11_oneLine_0 ?_
  refine V_aload_n X 0 rfl dX11_oneLine_2 ?_
  refine V_get (C := RX11) (T := TX11) (N := 50) (ci := 10) (v := .ref (R 22)) X in_X11_oneLine_X11 0 rfl rfl 22 (by decide) (List.mem_of_getElem? (i := 1) rfl) rfl rfl dX11_oneLine_3 ?_
  refine V_iconst (v := (1 : Int32)) X (by decide) dX11_oneLine_6 ?_
  refine V_iald X 4 1 rfl (show (1 : Int32).toInt = ((1 : Nat) : Int) from (show (1 : Int32).toInt = 1 from by decide)) (by omega) dX11_oneLine_7 ?_
  refine V_nm (fun x_1 ex_1 => ?_)
  have tx_1 : x_1.toInt = ((ls.length : Nat) : Int) := by rw [ex_1]; exact hl1
  refine V_iaddZ X (show (61 : Int32).toInt = 61 from by decide) tx_1 (by omega) (by omega) dX11_oneLine_8 (fun x_2 ex_2 tx_2 => ?_)
  have tx_2 : x_2.toInt = (((61 + ls.length) : Nat) : Int) := by omega
  refine V_istore_n (ls' := [(1, .int x_2), (0, .ref m)]) X (by decide) rfl dX11_oneLine_9 ?_
  refine V_aload_n X 1 rfl dX11_oneLine_10 ?_
  refine V_get (C := RX11) (T := TX11) (N := 50) (ci := 10) (v := .ref (R 23)) X in_X11_oneLine_X11 0 rfl rfl 23 (by decide) (List.mem_of_getElem? (i := 2) rfl) rfl rfl dX11_oneLine_11 ?_
  refine V_iload_n X 0 rfl dX11_oneLine_14 ?_
  refine V_aload_n X 1 rfl dX11_oneLine_15 ?_
  refine V_get (C := RX11) (T := TX11) (N := 50) (ci := 10) (v := .int v19) X in_X11_oneLine_X11 0 rfl rfl 19 (by decide) (List.mem_of_getElem? (i := 3) rfl) rfl rfl dX11_oneLine_16 ?_
  refine V_i2s X rfl dX11_oneLine_19 ?_
  refine V_nm (fun x_3 ex_3 => ?_)
  refine V_sast (ws' := [(m, .inr (10, mF R v0 v7 v8 v9 v15 v16 v17 v18 v19 v27 v31 v32 v33 v34 v38 v42 v44)), ((R 14), .inl (Y 2, 120, .inl a14)), ((R 20), .inl (Y 2, 260, .inl a20)), ((R 21), .inl (Y 0, 260, .inl a21)), ((R 22), .inl (Y 0, 2, .inl a22)), ((R 23), .inl (Y 3, 122, .inl (upd a23 (61 + ls.length) (vp_nar .short x_3)))), ((R 24), .inl (Y 3, 122, .inl a24))]) X 5 (61 + ls.length) rfl tx_2 (by omega) rfl dX11_oneLine_20 ?_
  refine V_aload_n X 1 rfl dX11_oneLine_21 ?_
  refine V_callV (C := RX11) (wr := [((R 22), .inl (Y 0, 2, .inl a22)), ((R 23), .inl (Y 3, 122, .inl (upd a23 (61 + ls.length) (vp_nar .short x_3)))), ((R 24), .inl (Y 3, 122, .inl a24))]) (st := []) X (c_X11_either_00 l D Y m R v0 v7 v8 v9 v15 v16 v17 v18 v19 v27 v31 v32 v33 v34 v38 v42 v44 a14 a20 a21 L c pos lo20 lo21 t0 opn tv15 tv16 hL hpL hCH tv17 hMC tv18 htp ho) 0 gX11_oneLine_X11_either rfl (by decide +kernel) ⟨rfl, rfl⟩ ⟨Nat.le_of_ble_eq_true rfl, Nat.le_of_ble_eq_true rfl⟩ [0, 1, 2, 3] [4, 5, 6] rfl rfl rfl rfl (by decide) (ci := 10) rfl rfl 0 rfl rfl rfl (Nat.le_of_ble_eq_true rfl) ⟨Nat.le_of_ble_eq_true rfl, Nat.le_of_ble_eq_true rfl⟩ dX11_oneLine_22 (fun v_22 w_22 h_22 => ?_)
  rcases h_22 with ⟨q_f, ts_f, z16_f, z19_f, b20_f, b21_f, rfl, rfl, tz16_f, hR_f, hqb_f, hMC2_f⟩ | ⟨q_f, l2_f, z16_f, z17_f, z18_f, z19_f, b20_f, b21_f, rfl, rfl, tz16_f, tz17_f, hR_f, hqL_f, tz19_f, hl2_f, hLO2_f⟩
  · refine V_to (pc' := 25) (ls' := [(1, .int x_2), (0, .ref m)]) (st' := []) (ws' := [((R 22), .inl (Y 0, 2, .inl a22)), ((R 23), .inl (Y 3, 122, .inl (upd a23 (61 + ls.length) (vp_nar .short x_3)))), ((R 24), .inl (Y 3, 122, .inl a24)), (m, .inr (10, mF R v0 v7 v8 v9 v15 z16_f v17 v18 z19_f v27 v31 v32 v33 v34 v38 v42 v44)), ((R 14), .inl (Y 2, 120, .inl a14)), ((R 20), .inl (Y 2, 260, .inl b20_f)), ((R 21), .inl (Y 0, 260, .inl b21_f))]) ?_ rfl rfl rfl rfl
    refine V_aload_n X 1 rfl dX11_oneLine_25 ?_
    refine V_get (C := RX11) (T := TX11) (N := 50) (ci := 10) (v := .int v17) X in_X11_oneLine_X11 3 rfl rfl 17 (by decide) (List.mem_of_getElem? (i := 4) rfl) rfl rfl dX11_oneLine_26 ?_
    refine V_if_ge X tv17 66 dX11_oneLine_29 (by decide) (fun c_29 => absurd c_29 (by decide)) (fun _ => ?_)
    refine V_aload_n X 1 rfl dX11_oneLine_32 ?_
    refine V_callV (C := RX11) (wr := [((R 22), .inl (Y 0, 2, .inl a22)), ((R 23), .inl (Y 3, 122, .inl (upd a23 (61 + ls.length) (vp_nar .short x_3)))), ((R 24), .inl (Y 3, 122, .inl a24)), ((R 20), .inl (Y 2, 260, .inl b20_f)), ((R 21), .inl (Y 0, 260, .inl b21_f))]) (st := []) X (c_X11_look l D Y m R v0 v7 v8 v9 v15 z16_f v17 v18 z19_f v27 v31 v32 v33 v34 v38 v42 v44 a14 L c q_f tv15 tz16_f hL (by omega) hCH) 0 gX11_oneLine_X11_look rfl (by decide +kernel) ⟨rfl, rfl⟩ ⟨Nat.le_of_ble_eq_true rfl, Nat.le_of_ble_eq_true rfl⟩ [3, 4] [0, 1, 2, 5, 6] rfl rfl rfl rfl (by decide) (ci := 10) rfl rfl 0 rfl rfl rfl (Nat.le_of_ble_eq_true rfl) ⟨Nat.le_of_ble_eq_true rfl, Nat.le_of_ble_eq_true rfl⟩ dX11_oneLine_33 (fun v_33 w_33 h_33 => ?_)
    obtain ⟨r_31, rfl, rfl, hhpk_32⟩ := h_33
    refine V_to (pc' := 36) (ls' := [(1, .int x_2), (0, .ref m)]) (st' := [.int r_31]) (ws' := [((R 22), .inl (Y 0, 2, .inl a22)), ((R 23), .inl (Y 3, 122, .inl (upd a23 (61 + ls.length) (vp_nar .short x_3)))), ((R 24), .inl (Y 3, 122, .inl a24)), ((R 20), .inl (Y 2, 260, .inl b20_f)), ((R 21), .inl (Y 0, 260, .inl b21_f)), (m, .inr (10, mF R v0 v7 v8 v9 v15 z16_f v17 v18 z19_f v27 v31 v32 v33 v34 v38 v42 v44)), ((R 14), .inl (Y 2, 120, .inl a14))]) ?_ rfl rfl rfl rfl
    refine V_bipush (v := (63 : Int32)) X (by decide) dX11_oneLine_36 ?_
    refine V_icmp_ne X rfl (show (63 : Int32).toInt = 63 from by decide) 66 dX11_oneLine_38 (by decide) (fun c_38 => ?_) (fun c_38 => ?_)
    · have hte : ((upd a23 (61 + ls.length) (vp_nar .short x_3)) (61 + ls.length)).toInt = ((t0.length : Nat) : Int) := by unfold upd; rw [if_pos rfl]; exact sh16 ex_3 hm1 (by omega)
      refine V_aload_n X 1 rfl dX11_oneLine_66 ?_
      refine V_get (C := RX11) (T := TX11) (N := 50) (ci := 10) (v := .ref (R 24)) X in_X11_oneLine_X11 5 rfl rfl 24 (by decide) (List.mem_of_getElem? (i := 6) rfl) rfl rfl dX11_oneLine_67 ?_
      refine V_iload_n X 0 rfl dX11_oneLine_70 ?_
      refine V_aload_n X 1 rfl dX11_oneLine_71 ?_
      refine V_get (C := RX11) (T := TX11) (N := 50) (ci := 10) (v := .int z19_f) X in_X11_oneLine_X11 5 rfl rfl 19 (by decide) (List.mem_of_getElem? (i := 3) rfl) rfl rfl dX11_oneLine_72 ?_
      refine V_i2s X rfl dX11_oneLine_75 ?_
      refine V_nm (fun x_33 ex_33 => ?_)
      refine V_sast (ws' := [((R 22), .inl (Y 0, 2, .inl a22)), ((R 23), .inl (Y 3, 122, .inl (upd a23 (61 + ls.length) (vp_nar .short x_3)))), ((R 24), .inl (Y 3, 122, .inl (upd a24 (61 + ls.length) (vp_nar .short x_33)))), ((R 20), .inl (Y 2, 260, .inl b20_f)), ((R 21), .inl (Y 0, 260, .inl b21_f)), (m, .inr (10, mF R v0 v7 v8 v9 v15 z16_f v17 v18 z19_f v27 v31 v32 v33 v34 v38 v42 v44)), ((R 14), .inl (Y 2, 120, .inl a14))]) X 2 (61 + ls.length) rfl tx_2 (by omega) rfl dX11_oneLine_76 ?_
      refine V_aload_n X 1 rfl dX11_oneLine_77 ?_
      refine V_get (C := RX11) (T := TX11) (N := 50) (ci := 10) (v := .ref (R 22)) X in_X11_oneLine_X11 5 rfl rfl 22 (by decide) (List.mem_of_getElem? (i := 1) rfl) rfl rfl dX11_oneLine_78 ?_
      refine V_iconst (v := (1 : Int32)) X (by decide) dX11_oneLine_81 ?_
      refine V_dup2 X rfl rfl dX11_oneLine_82 ?_
      refine V_iald X 0 1 rfl (show (1 : Int32).toInt = ((1 : Nat) : Int) from (show (1 : Int32).toInt = 1 from by decide)) (by omega) dX11_oneLine_83 ?_
      refine V_nm (fun x_34 ex_34 => ?_)
      have tx_34 : x_34.toInt = ((ls.length : Nat) : Int) := by rw [ex_34]; exact hl1
      refine V_iconst (v := (1 : Int32)) X (by decide) dX11_oneLine_84 ?_
      refine V_iaddZ X tx_34 (show (1 : Int32).toInt = 1 from by decide) (by omega) (by omega) dX11_oneLine_85 (fun x_35 ex_35 tx_35 => ?_)
      have tx_35 : x_35.toInt = (((ls.length + 1) : Nat) : Int) := by omega
      refine V_iast (ws' := [((R 22), .inl (Y 0, 2, .inl (upd a22 1 x_35))), ((R 23), .inl (Y 3, 122, .inl (upd a23 (61 + ls.length) (vp_nar .short x_3)))), ((R 24), .inl (Y 3, 122, .inl (upd a24 (61 + ls.length) (vp_nar .short x_33)))), ((R 20), .inl (Y 2, 260, .inl b20_f)), ((R 21), .inl (Y 0, 260, .inl b21_f)), (m, .inr (10, mF R v0 v7 v8 v9 v15 z16_f v17 v18 z19_f v27 v31 v32 v33 v34 v38 v42 v44)), ((R 14), .inl (Y 2, 120, .inl a14))]) X 0 1 rfl (show (1 : Int32).toInt = ((1 : Nat) : Int) from (show (1 : Int32).toInt = 1 from by decide)) (by omega) rfl dX11_oneLine_86 ?_
      refine V_ws (ws' := [(m, .inr (10, mF R v0 v7 v8 v9 v15 z16_f v17 v18 z19_f v27 v31 v32 v33 v34 v38 v42 v44)), ((R 14), .inl (Y 2, 120, .inl a14)), ((R 20), .inl (Y 2, 260, .inl b20_f)), ((R 21), .inl (Y 0, 260, .inl b21_f)), ((R 22), .inl (Y 0, 2, .inl (upd a22 1 x_35))), ((R 23), .inl (Y 3, 122, .inl (upd a23 (61 + ls.length) (vp_nar .short x_3)))), ((R 24), .inl (Y 3, 122, .inl (upd a24 (61 + ls.length) (vp_nar .short x_33))))]) [5, 6, 3, 4, 0, 1, 2] rfl rfl rfl ?_
      exact V_vret X hr dX11_oneLine_87 (Or.inl ⟨q_f, (none, ts_f), z16_f, z19_f, b20_f, b21_f, (upd a22 1 x_35), (upd a23 (61 + ls.length) (vp_nar .short x_3)), (upd a24 (61 + ls.length) (vp_nar .short x_33)), rfl, rfl, tz16_f, (pLn_1 hR_f (by omega)), (by have h8 := pT0_ne hR_f; rw [show mcodeL (none, ts_f) = ts_f.map mkT from rfl, List.length_append, List.length_map]; omega), hMC2_f, (MLR_push hML (x := (none, ts_f)) (by omega) (fun j hj => by unfold upd; rw [if_neg hj]) (by rw [hte, ht0]; rfl) (by rw [sh16 ex_33 hMC2_f.1 (by rw [List.length_append, List.length_map]; omega), mcT_s, ht0]; rfl))⟩)
    · have hc63 : c q_f = 63 := by omega
      have hqlt := MCHR_lt hCH (show c q_f ≠ -1 by omega)
      refine V_aload_n X 1 rfl dX11_oneLine_41 ?_
      refine V_dup X rfl dX11_oneLine_42 ?_
      refine V_get (C := RX11) (T := TX11) (N := 50) (ci := 10) (v := .int z16_f) X in_X11_oneLine_X11 5 rfl rfl 16 (by decide) (List.mem_of_getElem? (i := 5) rfl) rfl rfl dX11_oneLine_43 ?_
      refine V_iconst (v := (1 : Int32)) X (by decide) dX11_oneLine_46 ?_
      refine V_iaddZ X tz16_f (show (1 : Int32).toInt = 1 from by decide) (by omega) (by omega) dX11_oneLine_47 (fun x_36 ex_36 tx_36 => ?_)
      have tx_36 : x_36.toInt = (((q_f + 1) : Nat) : Int) := by omega
      refine V_put (C := RX11) (T := TX11) (N := 50) (ci := 10) (v := .int x_36) (ty := tyX11 16) (ws' := [((R 22), .inl (Y 0, 2, .inl a22)), ((R 23), .inl (Y 3, 122, .inl (upd a23 (61 + ls.length) (vp_nar .short x_3)))), ((R 24), .inl (Y 3, 122, .inl a24)), ((R 20), .inl (Y 2, 260, .inl b20_f)), ((R 21), .inl (Y 0, 260, .inl b21_f)), (m, .inr (10, mF R v0 v7 v8 v9 v15 x_36 v17 v18 z19_f v27 v31 v32 v33 v34 v38 v42 v44)), ((R 14), .inl (Y 2, 120, .inl a14))]) X in_X11_oneLine_X11 5 rfl rfl 16 (by decide) (List.mem_of_getElem? (i := 5) rfl) rfl tyX11 tyX11_ok nmX11 rfl (tyX11_ok 16 (by decide)) rfl rfl (Nat.le_of_ble_eq_true rfl) rfl dX11_oneLine_48 ?_
      refine V_aload_n X 1 rfl dX11_oneLine_51 ?_
      refine V_get (C := RX11) (T := TX11) (N := 50) (ci := 10) (v := .ref (R 23)) X in_X11_oneLine_X11 5 rfl rfl 23 (by decide) (List.mem_of_getElem? (i := 2) rfl) rfl rfl dX11_oneLine_52 ?_
      refine V_iload_n X 0 rfl dX11_oneLine_55 ?_
      refine V_aload_n X 1 rfl dX11_oneLine_56 ?_
      refine V_get (C := RX11) (T := TX11) (N := 50) (ci := 10) (v := .int z19_f) X in_X11_oneLine_X11 5 rfl rfl 19 (by decide) (List.mem_of_getElem? (i := 3) rfl) rfl rfl dX11_oneLine_57 ?_
      refine V_i2s X rfl dX11_oneLine_60 ?_
      refine V_nm (fun x_37 ex_37 => ?_)
      refine V_sast (ws' := [((R 22), .inl (Y 0, 2, .inl a22)), ((R 23), .inl (Y 3, 122, .inl (upd (upd a23 (61 + ls.length) (vp_nar .short x_3)) (61 + ls.length) (vp_nar .short x_37)))), ((R 24), .inl (Y 3, 122, .inl a24)), ((R 20), .inl (Y 2, 260, .inl b20_f)), ((R 21), .inl (Y 0, 260, .inl b21_f)), (m, .inr (10, mF R v0 v7 v8 v9 v15 x_36 v17 v18 z19_f v27 v31 v32 v33 v34 v38 v42 v44)), ((R 14), .inl (Y 2, 120, .inl a14))]) X 1 (61 + ls.length) rfl tx_2 (by omega) rfl dX11_oneLine_61 ?_
      refine V_aload_n X 1 rfl dX11_oneLine_62 ?_
      refine V_callV (C := RX11) (wr := [((R 22), .inl (Y 0, 2, .inl a22)), ((R 23), .inl (Y 3, 122, .inl (upd (upd a23 (61 + ls.length) (vp_nar .short x_3)) (61 + ls.length) (vp_nar .short x_37)))), ((R 24), .inl (Y 3, 122, .inl a24))]) (st := []) X (c_X11_either_00 l D Y m R v0 v7 v8 v9 v15 x_36 v17 v18 z19_f v27 v31 v32 v33 v34 v38 v42 v44 a14 b20_f b21_f L c (q_f + 1) lo20 lo21 (t0 ++ ts_f.map mkT) opn tv15 tx_36 hL (by omega) hCH tv17 hMC2_f tv18 (by rw [List.length_append, List.length_map]; omega) ho) 0 gX11_oneLine_X11_either rfl (by decide +kernel) ⟨rfl, rfl⟩ ⟨Nat.le_of_ble_eq_true rfl, Nat.le_of_ble_eq_true rfl⟩ [5, 6, 3, 4] [0, 1, 2] rfl rfl rfl rfl (by decide) (ci := 10) rfl rfl 0 rfl rfl rfl (Nat.le_of_ble_eq_true rfl) ⟨Nat.le_of_ble_eq_true rfl, Nat.le_of_ble_eq_true rfl⟩ dX11_oneLine_63 (fun v_63 w_63 h_63 => ?_)
      rcases h_63 with ⟨q_g, ts_g, z16_g, z19_g, b20_g, b21_g, rfl, rfl, tz16_g, hR_g, hqb_g, hMC2_g⟩ | ⟨q_g, l2_g, z16_g, z17_g, z18_g, z19_g, b20_g, b21_g, rfl, rfl, tz16_g, tz17_g, hR_g, hqL_g, tz19_g, hl2_g, hLO2_g⟩
      · refine V_to (pc' := 66) (ls' := [(1, .int x_2), (0, .ref m)]) (st' := []) (ws' := [((R 22), .inl (Y 0, 2, .inl a22)), ((R 23), .inl (Y 3, 122, .inl (upd (upd a23 (61 + ls.length) (vp_nar .short x_3)) (61 + ls.length) (vp_nar .short x_37)))), ((R 24), .inl (Y 3, 122, .inl a24)), (m, .inr (10, mF R v0 v7 v8 v9 v15 z16_g v17 v18 z19_g v27 v31 v32 v33 v34 v38 v42 v44)), ((R 14), .inl (Y 2, 120, .inl a14)), ((R 20), .inl (Y 2, 260, .inl b20_g)), ((R 21), .inl (Y 0, 260, .inl b21_g))]) ?_ rfl rfl rfl rfl
        have hte : ((upd (upd a23 (61 + ls.length) (vp_nar .short x_3)) (61 + ls.length) (vp_nar .short x_37)) (61 + ls.length)).toInt = (((t0 ++ ts_f.map mkT).length : Nat) : Int) := by unfold upd; rw [if_pos rfl]; exact sh16 ex_37 hMC2_f.1 (by rw [List.length_append, List.length_map]; omega)
        refine V_aload_n X 1 rfl dX11_oneLine_66 ?_
        refine V_get (C := RX11) (T := TX11) (N := 50) (ci := 10) (v := .ref (R 24)) X in_X11_oneLine_X11 3 rfl rfl 24 (by decide) (List.mem_of_getElem? (i := 6) rfl) rfl rfl dX11_oneLine_67 ?_
        refine V_iload_n X 0 rfl dX11_oneLine_70 ?_
        refine V_aload_n X 1 rfl dX11_oneLine_71 ?_
        refine V_get (C := RX11) (T := TX11) (N := 50) (ci := 10) (v := .int z19_g) X in_X11_oneLine_X11 3 rfl rfl 19 (by decide) (List.mem_of_getElem? (i := 3) rfl) rfl rfl dX11_oneLine_72 ?_
        refine V_i2s X rfl dX11_oneLine_75 ?_
        refine V_nm (fun x_64 ex_64 => ?_)
        refine V_sast (ws' := [((R 22), .inl (Y 0, 2, .inl a22)), ((R 23), .inl (Y 3, 122, .inl (upd (upd a23 (61 + ls.length) (vp_nar .short x_3)) (61 + ls.length) (vp_nar .short x_37)))), ((R 24), .inl (Y 3, 122, .inl (upd a24 (61 + ls.length) (vp_nar .short x_64)))), (m, .inr (10, mF R v0 v7 v8 v9 v15 z16_g v17 v18 z19_g v27 v31 v32 v33 v34 v38 v42 v44)), ((R 14), .inl (Y 2, 120, .inl a14)), ((R 20), .inl (Y 2, 260, .inl b20_g)), ((R 21), .inl (Y 0, 260, .inl b21_g))]) X 2 (61 + ls.length) rfl tx_2 (by omega) rfl dX11_oneLine_76 ?_
        refine V_aload_n X 1 rfl dX11_oneLine_77 ?_
        refine V_get (C := RX11) (T := TX11) (N := 50) (ci := 10) (v := .ref (R 22)) X in_X11_oneLine_X11 3 rfl rfl 22 (by decide) (List.mem_of_getElem? (i := 1) rfl) rfl rfl dX11_oneLine_78 ?_
        refine V_iconst (v := (1 : Int32)) X (by decide) dX11_oneLine_81 ?_
        refine V_dup2 X rfl rfl dX11_oneLine_82 ?_
        refine V_iald X 0 1 rfl (show (1 : Int32).toInt = ((1 : Nat) : Int) from (show (1 : Int32).toInt = 1 from by decide)) (by omega) dX11_oneLine_83 ?_
        refine V_nm (fun x_65 ex_65 => ?_)
        have tx_65 : x_65.toInt = ((ls.length : Nat) : Int) := by rw [ex_65]; exact hl1
        refine V_iconst (v := (1 : Int32)) X (by decide) dX11_oneLine_84 ?_
        refine V_iaddZ X tx_65 (show (1 : Int32).toInt = 1 from by decide) (by omega) (by omega) dX11_oneLine_85 (fun x_66 ex_66 tx_66 => ?_)
        have tx_66 : x_66.toInt = (((ls.length + 1) : Nat) : Int) := by omega
        refine V_iast (ws' := [((R 22), .inl (Y 0, 2, .inl (upd a22 1 x_66))), ((R 23), .inl (Y 3, 122, .inl (upd (upd a23 (61 + ls.length) (vp_nar .short x_3)) (61 + ls.length) (vp_nar .short x_37)))), ((R 24), .inl (Y 3, 122, .inl (upd a24 (61 + ls.length) (vp_nar .short x_64)))), (m, .inr (10, mF R v0 v7 v8 v9 v15 z16_g v17 v18 z19_g v27 v31 v32 v33 v34 v38 v42 v44)), ((R 14), .inl (Y 2, 120, .inl a14)), ((R 20), .inl (Y 2, 260, .inl b20_g)), ((R 21), .inl (Y 0, 260, .inl b21_g))]) X 0 1 rfl (show (1 : Int32).toInt = ((1 : Nat) : Int) from (show (1 : Int32).toInt = 1 from by decide)) (by omega) rfl dX11_oneLine_86 ?_
        refine V_ws (ws' := [(m, .inr (10, mF R v0 v7 v8 v9 v15 z16_g v17 v18 z19_g v27 v31 v32 v33 v34 v38 v42 v44)), ((R 14), .inl (Y 2, 120, .inl a14)), ((R 20), .inl (Y 2, 260, .inl b20_g)), ((R 21), .inl (Y 0, 260, .inl b21_g)), ((R 22), .inl (Y 0, 2, .inl (upd a22 1 x_66))), ((R 23), .inl (Y 3, 122, .inl (upd (upd a23 (61 + ls.length) (vp_nar .short x_3)) (61 + ls.length) (vp_nar .short x_37)))), ((R 24), .inl (Y 3, 122, .inl (upd a24 (61 + ls.length) (vp_nar .short x_64))))]) [3, 4, 5, 6, 0, 1, 2] rfl rfl rfl ?_
        exact V_vret X hr dX11_oneLine_87 (Or.inl ⟨q_g, (some ts_f, ts_g), z16_g, z19_g, b20_g, b21_g, (upd a22 1 x_66), (upd (upd a23 (61 + ls.length) (vp_nar .short x_3)) (61 + ls.length) (vp_nar .short x_37)), (upd a24 (61 + ls.length) (vp_nar .short x_64)), rfl, rfl, tz16_g, (pLn_2 hR_f hc63 hR_g), (by have h8 := pT0_ne hR_f; rw [show mcodeL (some ts_f, ts_g) = (ts_f ++ ts_g).map mkT from rfl, List.length_append, List.length_map, List.length_append]; omega), (by show MC _ _ _ _ _ (t0 ++ (ts_f ++ ts_g).map mkT); rw [mapp]; exact hMC2_g), (MLR_push hML (x := (some ts_f, ts_g)) (by omega) (fun j hj => by unfold upd; rw [if_neg hj, if_neg hj]) (by rw [hte, ht0, List.length_append, List.length_map]; rfl) (by rw [sh16 ex_64 hMC2_g.1 (by rw [List.length_append, List.length_append, List.length_map, List.length_map]; omega), mcT_s, ht0, ← mapp]; rfl))⟩)
      · refine V_to (pc' := 66) (ls' := [(1, .int x_2), (0, .ref m)]) (st' := []) (ws' := [((R 22), .inl (Y 0, 2, .inl a22)), ((R 23), .inl (Y 3, 122, .inl (upd (upd a23 (61 + ls.length) (vp_nar .short x_3)) (61 + ls.length) (vp_nar .short x_37)))), ((R 24), .inl (Y 3, 122, .inl a24)), (m, .inr (10, mF R v0 v7 v8 v9 v15 z16_g z17_g z18_g z19_g v27 v31 v32 v33 v34 v38 v42 v44)), ((R 14), .inl (Y 2, 120, .inl a14)), ((R 20), .inl (Y 2, 260, .inl b20_g)), ((R 21), .inl (Y 0, 260, .inl b21_g))]) ?_ rfl rfl rfl rfl
        refine V_aload_n X 1 rfl dX11_oneLine_66 ?_
        refine V_get (C := RX11) (T := TX11) (N := 50) (ci := 10) (v := .ref (R 24)) X in_X11_oneLine_X11 3 rfl rfl 24 (by decide) (List.mem_of_getElem? (i := 6) rfl) rfl rfl dX11_oneLine_67 ?_
        refine V_iload_n X 0 rfl dX11_oneLine_70 ?_
        refine V_aload_n X 1 rfl dX11_oneLine_71 ?_
        refine V_get (C := RX11) (T := TX11) (N := 50) (ci := 10) (v := .int z19_g) X in_X11_oneLine_X11 3 rfl rfl 19 (by decide) (List.mem_of_getElem? (i := 3) rfl) rfl rfl dX11_oneLine_72 ?_
        refine V_i2s X rfl dX11_oneLine_75 ?_
        refine V_nm (fun x_67 ex_67 => ?_)
        refine V_sast (ws' := [((R 22), .inl (Y 0, 2, .inl a22)), ((R 23), .inl (Y 3, 122, .inl (upd (upd a23 (61 + ls.length) (vp_nar .short x_3)) (61 + ls.length) (vp_nar .short x_37)))), ((R 24), .inl (Y 3, 122, .inl (upd a24 (61 + ls.length) (vp_nar .short x_67)))), (m, .inr (10, mF R v0 v7 v8 v9 v15 z16_g z17_g z18_g z19_g v27 v31 v32 v33 v34 v38 v42 v44)), ((R 14), .inl (Y 2, 120, .inl a14)), ((R 20), .inl (Y 2, 260, .inl b20_g)), ((R 21), .inl (Y 0, 260, .inl b21_g))]) X 2 (61 + ls.length) rfl tx_2 (by omega) rfl dX11_oneLine_76 ?_
        refine V_aload_n X 1 rfl dX11_oneLine_77 ?_
        refine V_get (C := RX11) (T := TX11) (N := 50) (ci := 10) (v := .ref (R 22)) X in_X11_oneLine_X11 3 rfl rfl 22 (by decide) (List.mem_of_getElem? (i := 1) rfl) rfl rfl dX11_oneLine_78 ?_
        refine V_iconst (v := (1 : Int32)) X (by decide) dX11_oneLine_81 ?_
        refine V_dup2 X rfl rfl dX11_oneLine_82 ?_
        refine V_iald X 0 1 rfl (show (1 : Int32).toInt = ((1 : Nat) : Int) from (show (1 : Int32).toInt = 1 from by decide)) (by omega) dX11_oneLine_83 ?_
        refine V_nm (fun x_68 ex_68 => ?_)
        have tx_68 : x_68.toInt = ((ls.length : Nat) : Int) := by rw [ex_68]; exact hl1
        refine V_iconst (v := (1 : Int32)) X (by decide) dX11_oneLine_84 ?_
        refine V_iaddZ X tx_68 (show (1 : Int32).toInt = 1 from by decide) (by omega) (by omega) dX11_oneLine_85 (fun x_69 ex_69 tx_69 => ?_)
        have tx_69 : x_69.toInt = (((ls.length + 1) : Nat) : Int) := by omega
        refine V_iast (ws' := [((R 22), .inl (Y 0, 2, .inl (upd a22 1 x_69))), ((R 23), .inl (Y 3, 122, .inl (upd (upd a23 (61 + ls.length) (vp_nar .short x_3)) (61 + ls.length) (vp_nar .short x_37)))), ((R 24), .inl (Y 3, 122, .inl (upd a24 (61 + ls.length) (vp_nar .short x_67)))), (m, .inr (10, mF R v0 v7 v8 v9 v15 z16_g z17_g z18_g z19_g v27 v31 v32 v33 v34 v38 v42 v44)), ((R 14), .inl (Y 2, 120, .inl a14)), ((R 20), .inl (Y 2, 260, .inl b20_g)), ((R 21), .inl (Y 0, 260, .inl b21_g))]) X 0 1 rfl (show (1 : Int32).toInt = ((1 : Nat) : Int) from (show (1 : Int32).toInt = 1 from by decide)) (by omega) rfl dX11_oneLine_86 ?_
        refine V_ws (ws' := [(m, .inr (10, mF R v0 v7 v8 v9 v15 z16_g z17_g z18_g z19_g v27 v31 v32 v33 v34 v38 v42 v44)), ((R 14), .inl (Y 2, 120, .inl a14)), ((R 20), .inl (Y 2, 260, .inl b20_g)), ((R 21), .inl (Y 0, 260, .inl b21_g)), ((R 22), .inl (Y 0, 2, .inl (upd a22 1 x_69))), ((R 23), .inl (Y 3, 122, .inl (upd (upd a23 (61 + ls.length) (vp_nar .short x_3)) (61 + ls.length) (vp_nar .short x_37)))), ((R 24), .inl (Y 3, 122, .inl (upd a24 (61 + ls.length) (vp_nar .short x_67))))]) [3, 4, 5, 6, 0, 1, 2] rfl rfl rfl ?_
        exact V_vret X hr dX11_oneLine_87 (Or.inr (⟨q_g, z16_g, z17_g, z18_g, z19_g, b20_g, b21_g, (upd a22 1 x_69), (upd (upd a23 (61 + ls.length) (vp_nar .short x_3)) (61 + ls.length) (vp_nar .short x_37)), (upd a24 (61 + ls.length) (vp_nar .short x_67)), rfl, rfl, tz16_g, tz17_g, (pLn_2n hR_f hc63 hR_g), hqL_g, hLO2_g, (LIO_up (LIO_up3 hML.1 (by omega)) (by omega) (by omega))⟩))
  · refine V_to (pc' := 25) (ls' := [(1, .int x_2), (0, .ref m)]) (st' := []) (ws' := [((R 22), .inl (Y 0, 2, .inl a22)), ((R 23), .inl (Y 3, 122, .inl (upd a23 (61 + ls.length) (vp_nar .short x_3)))), ((R 24), .inl (Y 3, 122, .inl a24)), (m, .inr (10, mF R v0 v7 v8 v9 v15 z16_f z17_f z18_f z19_f v27 v31 v32 v33 v34 v38 v42 v44)), ((R 14), .inl (Y 2, 120, .inl a14)), ((R 20), .inl (Y 2, 260, .inl b20_f)), ((R 21), .inl (Y 0, 260, .inl b21_f))]) ?_ rfl rfl rfl rfl
    refine V_aload_n X 1 rfl dX11_oneLine_25 ?_
    refine V_get (C := RX11) (T := TX11) (N := 50) (ci := 10) (v := .int z17_f) X in_X11_oneLine_X11 3 rfl rfl 17 (by decide) (List.mem_of_getElem? (i := 4) rfl) rfl rfl dX11_oneLine_26 ?_
    refine V_if_ge X tz17_f 66 dX11_oneLine_29 (by decide) (fun c_29 => ?_) (fun c_29 => False.elim (by omega))
    refine V_aload_n X 1 rfl dX11_oneLine_66 ?_
    refine V_get (C := RX11) (T := TX11) (N := 50) (ci := 10) (v := .ref (R 24)) X in_X11_oneLine_X11 3 rfl rfl 24 (by decide) (List.mem_of_getElem? (i := 6) rfl) rfl rfl dX11_oneLine_67 ?_
    refine V_iload_n X 0 rfl dX11_oneLine_70 ?_
    refine V_aload_n X 1 rfl dX11_oneLine_71 ?_
    refine V_get (C := RX11) (T := TX11) (N := 50) (ci := 10) (v := .int z19_f) X in_X11_oneLine_X11 3 rfl rfl 19 (by decide) (List.mem_of_getElem? (i := 3) rfl) rfl rfl dX11_oneLine_72 ?_
    refine V_i2s X rfl dX11_oneLine_75 ?_
    refine V_nm (fun x_70 ex_70 => ?_)
    refine V_sast (ws' := [((R 22), .inl (Y 0, 2, .inl a22)), ((R 23), .inl (Y 3, 122, .inl (upd a23 (61 + ls.length) (vp_nar .short x_3)))), ((R 24), .inl (Y 3, 122, .inl (upd a24 (61 + ls.length) (vp_nar .short x_70)))), (m, .inr (10, mF R v0 v7 v8 v9 v15 z16_f z17_f z18_f z19_f v27 v31 v32 v33 v34 v38 v42 v44)), ((R 14), .inl (Y 2, 120, .inl a14)), ((R 20), .inl (Y 2, 260, .inl b20_f)), ((R 21), .inl (Y 0, 260, .inl b21_f))]) X 2 (61 + ls.length) rfl tx_2 (by omega) rfl dX11_oneLine_76 ?_
    refine V_aload_n X 1 rfl dX11_oneLine_77 ?_
    refine V_get (C := RX11) (T := TX11) (N := 50) (ci := 10) (v := .ref (R 22)) X in_X11_oneLine_X11 3 rfl rfl 22 (by decide) (List.mem_of_getElem? (i := 1) rfl) rfl rfl dX11_oneLine_78 ?_
    refine V_iconst (v := (1 : Int32)) X (by decide) dX11_oneLine_81 ?_
    refine V_dup2 X rfl rfl dX11_oneLine_82 ?_
    refine V_iald X 0 1 rfl (show (1 : Int32).toInt = ((1 : Nat) : Int) from (show (1 : Int32).toInt = 1 from by decide)) (by omega) dX11_oneLine_83 ?_
    refine V_nm (fun x_71 ex_71 => ?_)
    have tx_71 : x_71.toInt = ((ls.length : Nat) : Int) := by rw [ex_71]; exact hl1
    refine V_iconst (v := (1 : Int32)) X (by decide) dX11_oneLine_84 ?_
    refine V_iaddZ X tx_71 (show (1 : Int32).toInt = 1 from by decide) (by omega) (by omega) dX11_oneLine_85 (fun x_72 ex_72 tx_72 => ?_)
    have tx_72 : x_72.toInt = (((ls.length + 1) : Nat) : Int) := by omega
    refine V_iast (ws' := [((R 22), .inl (Y 0, 2, .inl (upd a22 1 x_72))), ((R 23), .inl (Y 3, 122, .inl (upd a23 (61 + ls.length) (vp_nar .short x_3)))), ((R 24), .inl (Y 3, 122, .inl (upd a24 (61 + ls.length) (vp_nar .short x_70)))), (m, .inr (10, mF R v0 v7 v8 v9 v15 z16_f z17_f z18_f z19_f v27 v31 v32 v33 v34 v38 v42 v44)), ((R 14), .inl (Y 2, 120, .inl a14)), ((R 20), .inl (Y 2, 260, .inl b20_f)), ((R 21), .inl (Y 0, 260, .inl b21_f))]) X 0 1 rfl (show (1 : Int32).toInt = ((1 : Nat) : Int) from (show (1 : Int32).toInt = 1 from by decide)) (by omega) rfl dX11_oneLine_86 ?_
    refine V_ws (ws' := [(m, .inr (10, mF R v0 v7 v8 v9 v15 z16_f z17_f z18_f z19_f v27 v31 v32 v33 v34 v38 v42 v44)), ((R 14), .inl (Y 2, 120, .inl a14)), ((R 20), .inl (Y 2, 260, .inl b20_f)), ((R 21), .inl (Y 0, 260, .inl b21_f)), ((R 22), .inl (Y 0, 2, .inl (upd a22 1 x_72))), ((R 23), .inl (Y 3, 122, .inl (upd a23 (61 + ls.length) (vp_nar .short x_3)))), ((R 24), .inl (Y 3, 122, .inl (upd a24 (61 + ls.length) (vp_nar .short x_70))))]) [3, 4, 5, 6, 0, 1, 2] rfl rfl rfl ?_
    exact V_vret X hr dX11_oneLine_87 (Or.inr (⟨q_f, z16_f, z17_f, z18_f, z19_f, b20_f, b21_f, (upd a22 1 x_72), (upd a23 (61 + ls.length) (vp_nar .short x_3)), (upd a24 (61 + ls.length) (vp_nar .short x_70)), rfl, rfl, tz16_f, tz17_f, (pLn_n hR_f), hqL_f, hLO2_f, (LIO_up hML.1 (by omega) (by omega))⟩))

theorem in_X11_readText_X11 : ∀ w ∈ wsX110, w ∈ wsX11_readText := fun w h => List.mem_cons_of_mem _ (List.mem_append_right _ h)
set_option maxHeartbeats 4000000 in
set_option maxRecDepth 100000 in
theorem c_X11_readText (l : Launch) (D : va_G) (Y : Nat → ClassId) (m : Nat) (R : Nat → Nat) (v0 : Int32) (v7 : Int32) (v8 : Int32) (v9 : Int32) (v15 : Int32) (v16 : Int32) (v17 : Int32) (v18 : Int32) (v19 : Int32) (v27 : Int32) (v31 : Int32) (v32 : Int32) (v33 : Int32) (v34 : Int32) (v38 : Int32) (v42 : Int32) (v44 : Int32) (a14 : Nat → Int32) (a20 : Nat → Int32) (a21 : Nat → Int32) (a22 : Nat → Int32) (a23 : Nat → Int32) (a24 : Nat → Int32) (L : Nat) (c : Nat → Int) (tv15 : v15.toInt = ((L : Nat) : Int)) (hL : L ≤ 120) (hCH : MCHR a14 L c) : Mg l yX11_readText wsX11_readText ({ frames := 47, cells := 0, slots := 0, locals := 1013 }) D Y [(m, .inr (10, mF R v0 v7 v8 v9 v15 v16 v17 v18 v19 v27 v31 v32 v33 v34 v38 v42 v44)), ((R 14), .inl (Y 2, 120, .inl a14)), ((R 20), .inl (Y 2, 260, .inl a20)), ((R 21), .inl (Y 0, 260, .inl a21)), ((R 22), .inl (Y 0, 2, .inl a22)), ((R 23), .inl (Y 3, 122, .inl a23)), ((R 24), .inl (Y 3, 122, .inl a24))] [.ref m, .int (0 : Int32)] 0 0 (fun vv__ ww__ => (∃ (ls : List Lin), ∃ (z16 : Int32), ∃ (z17 : Int32), ∃ (z18 : Int32), ∃ (z19 : Int32), ∃ (b20 : Nat → Int32), ∃ (b21 : Nat → Int32), ∃ (b22 : Nat → Int32), ∃ (b23 : Nat → Int32), ∃ (b24 : Nat → Int32), vv__ = some (.int (-1 : Int32)) ∧ ww__ = [(m, .inr (10, mF R v0 v7 v8 v9 (0 : Int32) z16 z17 z18 z19 v27 v31 v32 v33 v34 v38 v42 v44)), ((R 14), .inl (Y 2, 120, .inl a14)), ((R 20), .inl (Y 2, 260, .inl b20)), ((R 21), .inl (Y 0, 260, .inl b21)), ((R 22), .inl (Y 0, 2, .inl b22)), ((R 23), .inl (Y 3, 122, .inl b23)), ((R 24), .inl (Y 3, 122, .inl b24))] ∧ (pAll c = (L, some ls)) ∧ (MLW b20 b21 b22 b23 b24 ls)) ∨ (∃ (r : Int32), ∃ (q : Nat), ∃ (z16 : Int32), ∃ (z17 : Int32), ∃ (z18 : Int32), ∃ (z19 : Int32), ∃ (b20 : Nat → Int32), ∃ (b21 : Nat → Int32), ∃ (b22 : Nat → Int32), ∃ (b23 : Nat → Int32), ∃ (b24 : Nat → Int32), vv__ = some (.int r) ∧ ww__ = [(m, .inr (10, mF R v0 v7 v8 v9 (0 : Int32) z16 z17 z18 z19 v27 v31 v32 v33 v34 v38 v42 v44)), ((R 14), .inl (Y 2, 120, .inl a14)), ((R 20), .inl (Y 2, 260, .inl b20)), ((R 21), .inl (Y 0, 260, .inl b21)), ((R 22), .inl (Y 0, 2, .inl b22)), ((R 23), .inl (Y 3, 122, .inl b23)), ((R 24), .inl (Y 3, 122, .inl b24))] ∧ (r.toInt = ((q : Nat) : Int)) ∧ (pAll c = (q, none) ∨ ∃ ls, pAll c = (q, some ls) ∧ q < L) ∧ (q ≤ L) ∧ (LO a20 a21 b20 b21) ∧ (LIO (a22 0) a23 a24 b22 b23 b24))) := by
  refine Mg_of (cc := cX11_readText) (maxL := 3) (ret := (some .int)) (ls0 := [(0, .ref m), (1, .int (0 : Int32))]) RX11 (by decide) rfl rfl rfl (Nat.le_of_ble_eq_true rfl) (fun p__ e__ s__ m__ b__ t__ c__ X hr hn => ?_)
  refine V_aload_n X 0 rfl dX11_readText_0 ?_
  refine V_iconst (v := (0 : Int32)) X (by decide) dX11_readText_1 ?_
  refine V_put (C := RX11) (T := TX11) (N := 50) (ci := 10) (v := .int (0 : Int32)) (ty := tyX11 16) (ws' := [(m, .inr (10, mF R v0 v7 v8 v9 v15 (0 : Int32) v17 v18 v19 v27 v31 v32 v33 v34 v38 v42 v44)), ((R 14), .inl (Y 2, 120, .inl a14)), ((R 20), .inl (Y 2, 260, .inl a20)), ((R 21), .inl (Y 0, 260, .inl a21)), ((R 22), .inl (Y 0, 2, .inl a22)), ((R 23), .inl (Y 3, 122, .inl a23)), ((R 24), .inl (Y 3, 122, .inl a24))]) X in_X11_readText_X11 0 rfl rfl 16 (by decide) (List.mem_of_getElem? (i := 1) rfl) rfl tyX11 tyX11_ok nmX11 rfl (tyX11_ok 16 (by decide)) rfl rfl (Nat.le_of_ble_eq_true rfl) rfl dX11_readText_2 ?_
  refine V_aload_n X 0 rfl dX11_readText_5 ?_
  refine V_iconst (v := (-1 : Int32)) X (by decide) dX11_readText_6 ?_
  refine V_put (C := RX11) (T := TX11) (N := 50) (ci := 10) (v := .int (-1 : Int32)) (ty := tyX11 17) (ws' := [(m, .inr (10, mF R v0 v7 v8 v9 v15 (0 : Int32) (-1 : Int32) v18 v19 v27 v31 v32 v33 v34 v38 v42 v44)), ((R 14), .inl (Y 2, 120, .inl a14)), ((R 20), .inl (Y 2, 260, .inl a20)), ((R 21), .inl (Y 0, 260, .inl a21)), ((R 22), .inl (Y 0, 2, .inl a22)), ((R 23), .inl (Y 3, 122, .inl a23)), ((R 24), .inl (Y 3, 122, .inl a24))]) X in_X11_readText_X11 0 rfl rfl 17 (by decide) (List.mem_of_getElem? (i := 2) rfl) rfl tyX11 tyX11_ok nmX11 rfl (tyX11_ok 17 (by decide)) rfl rfl (Nat.le_of_ble_eq_true rfl) rfl dX11_readText_7 ?_
  refine V_aload_n X 0 rfl dX11_readText_10 ?_
  refine V_iconst (v := (0 : Int32)) X (by decide) dX11_readText_11 ?_
  refine V_put (C := RX11) (T := TX11) (N := 50) (ci := 10) (v := .int (0 : Int32)) (ty := tyX11 18) (ws' := [(m, .inr (10, mF R v0 v7 v8 v9 v15 (0 : Int32) (-1 : Int32) (0 : Int32) v19 v27 v31 v32 v33 v34 v38 v42 v44)), ((R 14), .inl (Y 2, 120, .inl a14)), ((R 20), .inl (Y 2, 260, .inl a20)), ((R 21), .inl (Y 0, 260, .inl a21)), ((R 22), .inl (Y 0, 2, .inl a22)), ((R 23), .inl (Y 3, 122, .inl a23)), ((R 24), .inl (Y 3, 122, .inl a24))]) X in_X11_readText_X11 0 rfl rfl 18 (by decide) (List.mem_of_getElem? (i := 3) rfl) rfl tyX11 tyX11_ok nmX11 rfl (tyX11_ok 18 (by decide)) rfl rfl (Nat.le_of_ble_eq_true rfl) rfl dX11_readText_12 ?_
  refine V_aload_n X 0 rfl dX11_readText_15 ?_
  refine V_iconst (v := (0 : Int32)) X (by decide) dX11_readText_16 ?_
  refine V_put (C := RX11) (T := TX11) (N := 50) (ci := 10) (v := .int (0 : Int32)) (ty := tyX11 19) (ws' := [(m, .inr (10, mF R v0 v7 v8 v9 v15 (0 : Int32) (-1 : Int32) (0 : Int32) (0 : Int32) v27 v31 v32 v33 v34 v38 v42 v44)), ((R 14), .inl (Y 2, 120, .inl a14)), ((R 20), .inl (Y 2, 260, .inl a20)), ((R 21), .inl (Y 0, 260, .inl a21)), ((R 22), .inl (Y 0, 2, .inl a22)), ((R 23), .inl (Y 3, 122, .inl a23)), ((R 24), .inl (Y 3, 122, .inl a24))]) X in_X11_readText_X11 0 rfl rfl 19 (by decide) (List.mem_of_getElem? (i := 4) rfl) rfl tyX11 tyX11_ok nmX11 rfl (tyX11_ok 19 (by decide)) rfl rfl (Nat.le_of_ble_eq_true rfl) rfl dX11_readText_17 ?_
  refine V_aload_n X 0 rfl dX11_readText_20 ?_
  refine V_get (C := RX11) (T := TX11) (N := 50) (ci := 10) (v := .ref (R 22)) X in_X11_readText_X11 0 rfl rfl 22 (by decide) (List.mem_of_getElem? (i := 5) rfl) rfl rfl dX11_readText_21 ?_
  refine V_iconst (v := (1 : Int32)) X (by decide) dX11_readText_24 ?_
  refine V_iconst (v := (0 : Int32)) X (by decide) dX11_readText_25 ?_
  refine V_iast (ws' := [(m, .inr (10, mF R v0 v7 v8 v9 v15 (0 : Int32) (-1 : Int32) (0 : Int32) (0 : Int32) v27 v31 v32 v33 v34 v38 v42 v44)), ((R 14), .inl (Y 2, 120, .inl a14)), ((R 20), .inl (Y 2, 260, .inl a20)), ((R 21), .inl (Y 0, 260, .inl a21)), ((R 22), .inl (Y 0, 2, .inl (upd a22 1 (0 : Int32)))), ((R 23), .inl (Y 3, 122, .inl a23)), ((R 24), .inl (Y 3, 122, .inl a24))]) X 4 1 rfl (show (1 : Int32).toInt = ((1 : Nat) : Int) from (show (1 : Int32).toInt = 1 from by decide)) (by omega) rfl dX11_readText_26 ?_
  refine V_aload_n X 0 rfl dX11_readText_27 ?_
  refine V_callV (C := RX11) (wr := []) (st := []) X (c_X11_oneLine l D Y m R v0 v7 v8 v9 v15 (0 : Int32) (-1 : Int32) (0 : Int32) (0 : Int32) v27 v31 v32 v33 v34 v38 v42 v44 a14 a20 a21 L c 0 a20 a21 ([] : List Tok) 0 (upd a22 1 (0 : Int32)) a23 a24 (a22 0) a23 a24 ([] : List Lin) tv15 (by decide) hL (Nat.zero_le _) hCH (by decide) (MC_0 a20 a21) (by decide) (Nat.le_refl _) (MLR_0 a22 a23 a24) (Nat.zero_le _) rfl rfl) 0 gX11_readText_X11_oneLine rfl (by decide +kernel) ⟨rfl, rfl⟩ ⟨Nat.le_of_ble_eq_true rfl, Nat.le_of_ble_eq_true rfl⟩ [0, 1, 2, 3, 4, 5, 6] [] rfl rfl rfl rfl (by decide) (ci := 10) rfl rfl 0 rfl rfl rfl (Nat.le_of_ble_eq_true rfl) ⟨Nat.le_of_ble_eq_true rfl, Nat.le_of_ble_eq_true rfl⟩ dX11_readText_28 (fun v_28 w_28 h_28 => ?_)
  rcases h_28 with ⟨q_f, x_f, z16_f, z19_f, b20_f, b21_f, b22_f, b23_f, b24_f, rfl, rfl, tz16_f, hR_f, hqb_f, hMC2_f, hML2_f⟩ | ⟨q_f, z16_f, z17_f, z18_f, z19_f, b20_f, b21_f, b22_f, b23_f, b24_f, rfl, rfl, tz16_f, tz17_f, hR_f, hqL_f, hLO2_f, hLI2_f⟩
  · refine V_to (pc' := 31) (ls' := [(0, .ref m), (1, .int (0 : Int32))]) (st' := []) (ws' := [(m, .inr (10, mF R v0 v7 v8 v9 v15 z16_f (-1 : Int32) (0 : Int32) z19_f v27 v31 v32 v33 v34 v38 v42 v44)), ((R 14), .inl (Y 2, 120, .inl a14)), ((R 20), .inl (Y 2, 260, .inl b20_f)), ((R 21), .inl (Y 0, 260, .inl b21_f)), ((R 22), .inl (Y 0, 2, .inl b22_f)), ((R 23), .inl (Y 3, 122, .inl b23_f)), ((R 24), .inl (Y 3, 122, .inl b24_f))]) ?_ rfl rfl rfl rfl
    refine V_to (V_ind10 (fun (i : Nat) (p3 : Int32) (q3 : Nat) (z3 : Int32) (g20 : Nat → Int32) (g21 : Nat → Int32) (g22 : Nat → Int32) (g23 : Nat → Int32) (g24 : Nat → Int32) (ls3 : List Lin) => (p3.toInt = ((q3 : Nat) : Int)) ∧ (i ≤ 120 ∧ ls3.length = i + 1 ∧ 2 * ls3.length ≤ q3 + 1 ∧ q3 ≤ L) ∧ ((mcT ls3).length ≤ q3) ∧ (MC a20 a21 g20 g21 z3 (mcT ls3)) ∧ (MLR (a22 0) a23 a24 g22 g23 g24 ls3) ∧ (RG (mcT ls3)) ∧ (pTx c (120 - i) q3 ls3 = pAll c)) (fun (i : Nat) (p3 : Int32) (q3 : Nat) (z3 : Int32) (g20 : Nat → Int32) (g21 : Nat → Int32) (g22 : Nat → Int32) (g23 : Nat → Int32) (g24 : Nat → Int32) (ls3 : List Lin) => 120 - i) (fun (i : Nat) (p3 : Int32) (q3 : Nat) (z3 : Int32) (g20 : Nat → Int32) (g21 : Nat → Int32) (g22 : Nat → Int32) (g23 : Nat → Int32) (g24 : Nat → Int32) (ls3 : List Lin) => [(0, .ref m), (1, .int (0 : Int32))]) (fun (i : Nat) (p3 : Int32) (q3 : Nat) (z3 : Int32) (g20 : Nat → Int32) (g21 : Nat → Int32) (g22 : Nat → Int32) (g23 : Nat → Int32) (g24 : Nat → Int32) (ls3 : List Lin) => [(m, .inr (10, mF R v0 v7 v8 v9 v15 p3 (-1 : Int32) (0 : Int32) z3 v27 v31 v32 v33 v34 v38 v42 v44)), ((R 14), .inl (Y 2, 120, .inl a14)), ((R 20), .inl (Y 2, 260, .inl g20)), ((R 21), .inl (Y 0, 260, .inl g21)), ((R 22), .inl (Y 0, 2, .inl g22)), ((R 23), .inl (Y 3, 122, .inl g23)), ((R 24), .inl (Y 3, 122, .inl g24))]) (fun i p3 q3 z3 g20 g21 g22 g23 g24 ls3 hI_31 ih_31 => ?_) 0 z16_f q_f z19_f b20_f b21_f b22_f b23_f b24_f [x_f] ?_) rfl rfl rfl rfl
    · obtain ⟨tp3, hi3, hMl3, hMC3, hML3, hRG3, hP3⟩ := hI_31
      refine V_to (ls' := [(0, .ref m), (1, .int (0 : Int32))]) (ws' := [(m, .inr (10, mF R v0 v7 v8 v9 v15 p3 (-1 : Int32) (0 : Int32) z3 v27 v31 v32 v33 v34 v38 v42 v44)), ((R 14), .inl (Y 2, 120, .inl a14)), ((R 20), .inl (Y 2, 260, .inl g20)), ((R 21), .inl (Y 0, 260, .inl g21)), ((R 22), .inl (Y 0, 2, .inl g22)), ((R 23), .inl (Y 3, 122, .inl g23)), ((R 24), .inl (Y 3, 122, .inl g24))]) ?_ rfl rfl rfl rfl
      refine V_aload_n X 0 rfl dX11_readText_31 ?_
      refine V_get (C := RX11) (T := TX11) (N := 50) (ci := 10) (v := .int (-1 : Int32)) X in_X11_readText_X11 0 rfl rfl 17 (by decide) (List.mem_of_getElem? (i := 2) rfl) rfl rfl dX11_readText_32 ?_
      refine V_if_ge X (show (-1 : Int32).toInt = (-1) from by decide) 64 dX11_readText_35 (by decide) (fun c_35 => absurd c_35 (by decide)) (fun _ => ?_)
      refine V_aload_n X 0 rfl dX11_readText_38 ?_
      refine V_callV (C := RX11) (wr := [((R 20), .inl (Y 2, 260, .inl g20)), ((R 21), .inl (Y 0, 260, .inl g21)), ((R 22), .inl (Y 0, 2, .inl g22)), ((R 23), .inl (Y 3, 122, .inl g23)), ((R 24), .inl (Y 3, 122, .inl g24))]) (st := []) X (c_X11_look l D Y m R v0 v7 v8 v9 v15 p3 (-1 : Int32) (0 : Int32) z3 v27 v31 v32 v33 v34 v38 v42 v44 a14 L c q3 tv15 tp3 hL (by omega) hCH) 0 gX11_readText_X11_look rfl (by decide +kernel) ⟨rfl, rfl⟩ ⟨Nat.le_of_ble_eq_true rfl, Nat.le_of_ble_eq_true rfl⟩ [0, 1] [2, 3, 4, 5, 6] rfl rfl rfl rfl (by decide) (ci := 10) rfl rfl 0 rfl rfl rfl (Nat.le_of_ble_eq_true rfl) ⟨Nat.le_of_ble_eq_true rfl, Nat.le_of_ble_eq_true rfl⟩ dX11_readText_39 (fun v_39 w_39 h_39 => ?_)
      obtain ⟨r_33, rfl, rfl, hhpk_34⟩ := h_39
      refine V_to (pc' := 42) (ls' := [(0, .ref m), (1, .int (0 : Int32))]) (st' := [.int r_33]) (ws' := [((R 20), .inl (Y 2, 260, .inl g20)), ((R 21), .inl (Y 0, 260, .inl g21)), ((R 22), .inl (Y 0, 2, .inl g22)), ((R 23), .inl (Y 3, 122, .inl g23)), ((R 24), .inl (Y 3, 122, .inl g24)), (m, .inr (10, mF R v0 v7 v8 v9 v15 p3 (-1 : Int32) (0 : Int32) z3 v27 v31 v32 v33 v34 v38 v42 v44)), ((R 14), .inl (Y 2, 120, .inl a14))]) ?_ rfl rfl rfl rfl
      refine V_bipush (v := (59 : Int32)) X (by decide) dX11_readText_42 ?_
      refine V_icmp_ne X rfl (show (59 : Int32).toInt = 59 from by decide) 64 dX11_readText_44 (by decide) (fun c_44 => ?_) (fun c_44 => ?_)
      · refine V_aload_n X 0 rfl dX11_readText_64 ?_
        refine V_get (C := RX11) (T := TX11) (N := 50) (ci := 10) (v := .int (-1 : Int32)) X in_X11_readText_X11 5 rfl rfl 17 (by decide) (List.mem_of_getElem? (i := 2) rfl) rfl rfl dX11_readText_65 ?_
        refine V_if_ge X (show (-1 : Int32).toInt = (-1) from by decide) 86 dX11_readText_68 (by decide) (fun c_68 => absurd c_68 (by decide)) (fun _ => ?_)
        refine V_aload_n X 0 rfl dX11_readText_71 ?_
        refine V_get (C := RX11) (T := TX11) (N := 50) (ci := 10) (v := .int p3) X in_X11_readText_X11 5 rfl rfl 16 (by decide) (List.mem_of_getElem? (i := 1) rfl) rfl rfl dX11_readText_72 ?_
        refine V_aload_n X 0 rfl dX11_readText_75 ?_
        refine V_get (C := RX11) (T := TX11) (N := 50) (ci := 10) (v := .int v15) X in_X11_readText_X11 5 rfl rfl 15 (by decide) (List.mem_of_getElem? (i := 6) rfl) rfl rfl dX11_readText_76 ?_
        refine V_icmp_ge X tp3 tv15 86 dX11_readText_79 (by decide) (fun c_79 => ?_) (fun c_79 => ?_)
        · have hPx : pAll c = (q3, some ls3) := pTx_x hP3 (Or.inr (by omega))
          refine V_aload_n X 0 rfl dX11_readText_86 ?_
          refine V_iconst (v := (0 : Int32)) X (by decide) dX11_readText_87 ?_
          refine V_put (C := RX11) (T := TX11) (N := 50) (ci := 10) (v := .int (0 : Int32)) (ty := tyX11 15) (ws' := [((R 20), .inl (Y 2, 260, .inl g20)), ((R 21), .inl (Y 0, 260, .inl g21)), ((R 22), .inl (Y 0, 2, .inl g22)), ((R 23), .inl (Y 3, 122, .inl g23)), ((R 24), .inl (Y 3, 122, .inl g24)), (m, .inr (10, mF R v0 v7 v8 v9 (0 : Int32) p3 (-1 : Int32) (0 : Int32) z3 v27 v31 v32 v33 v34 v38 v42 v44)), ((R 14), .inl (Y 2, 120, .inl a14))]) X in_X11_readText_X11 5 rfl rfl 15 (by decide) (List.mem_of_getElem? (i := 6) rfl) rfl tyX11 tyX11_ok nmX11 rfl (tyX11_ok 15 (by decide)) rfl rfl (Nat.le_of_ble_eq_true rfl) rfl dX11_readText_88 ?_
          refine V_aload_n X 0 rfl dX11_readText_91 ?_
          refine V_get (C := RX11) (T := TX11) (N := 50) (ci := 10) (v := .int (-1 : Int32)) X in_X11_readText_X11 5 rfl rfl 17 (by decide) (List.mem_of_getElem? (i := 2) rfl) rfl rfl dX11_readText_92 ?_
          refine V_if_lt X (show (-1 : Int32).toInt = (-1) from by decide) 103 dX11_readText_95 (by decide) (fun _ => ?_) (fun c_95 => absurd c_95 (by decide))
          refine V_iconst (v := (0 : Int32)) X (by decide) dX11_readText_103 ?_
          refine V_istore_n (ls' := [(2, .int (0 : Int32)), (0, .ref m), (1, .int (0 : Int32))]) X (by decide) rfl dX11_readText_104 ?_
          refine V_ls (ls' := [(0, .ref m), (1, .int (0 : Int32)), (2, .int (0 : Int32))]) [1, 2, 0] rfl ?_
          refine V_ws (ws' := [(m, .inr (10, mF R v0 v7 v8 v9 (0 : Int32) p3 (-1 : Int32) (0 : Int32) z3 v27 v31 v32 v33 v34 v38 v42 v44)), ((R 14), .inl (Y 2, 120, .inl a14)), ((R 20), .inl (Y 2, 260, .inl g20)), ((R 21), .inl (Y 0, 260, .inl g21)), ((R 22), .inl (Y 0, 2, .inl g22)), ((R 23), .inl (Y 3, 122, .inl g23)), ((R 24), .inl (Y 3, 122, .inl g24))]) [5, 6, 0, 1, 2, 3, 4] rfl rfl rfl ?_
          refine V_to (V_ind4 (fun (i2 : Int32) (k : Nat) (h20 : Nat → Int32) (h21 : Nat → Int32) => (i2.toInt = ((k : Nat) : Int)) ∧ (k ≤ (mcT ls3).length) ∧ (∀ j, j < k → h20 j = g20 (130 + j) ∧ h21 j = g21 (130 + j)) ∧ (∀ j, 130 ≤ j → h20 j = g20 j ∧ h21 j = g21 j)) (fun (i2 : Int32) (k : Nat) (h20 : Nat → Int32) (h21 : Nat → Int32) => (mcT ls3).length - k) (fun (i2 : Int32) (k : Nat) (h20 : Nat → Int32) (h21 : Nat → Int32) => [(0, .ref m), (1, .int (0 : Int32)), (2, .int i2)]) (fun (i2 : Int32) (k : Nat) (h20 : Nat → Int32) (h21 : Nat → Int32) => [(m, .inr (10, mF R v0 v7 v8 v9 (0 : Int32) p3 (-1 : Int32) (0 : Int32) z3 v27 v31 v32 v33 v34 v38 v42 v44)), ((R 14), .inl (Y 2, 120, .inl a14)), ((R 20), .inl (Y 2, 260, .inl h20)), ((R 21), .inl (Y 0, 260, .inl h21)), ((R 22), .inl (Y 0, 2, .inl g22)), ((R 23), .inl (Y 3, 122, .inl g23)), ((R 24), .inl (Y 3, 122, .inl g24))]) (fun i2 k h20 h21 hI_105 ih_105 => ?_) (0 : Int32) 0 g20 g21 ?_) rfl rfl rfl rfl
          · obtain ⟨ti2, hk, hc1, hc2⟩ := hI_105
            refine V_to (ls' := [(0, .ref m), (1, .int (0 : Int32)), (2, .int i2)]) (ws' := [(m, .inr (10, mF R v0 v7 v8 v9 (0 : Int32) p3 (-1 : Int32) (0 : Int32) z3 v27 v31 v32 v33 v34 v38 v42 v44)), ((R 14), .inl (Y 2, 120, .inl a14)), ((R 20), .inl (Y 2, 260, .inl h20)), ((R 21), .inl (Y 0, 260, .inl h21)), ((R 22), .inl (Y 0, 2, .inl g22)), ((R 23), .inl (Y 3, 122, .inl g23)), ((R 24), .inl (Y 3, 122, .inl g24))]) ?_ rfl rfl rfl rfl
            refine V_iload_n X 2 rfl dX11_readText_105 ?_
            refine V_aload_n X 0 rfl dX11_readText_106 ?_
            refine V_get (C := RX11) (T := TX11) (N := 50) (ci := 10) (v := .int z3) X in_X11_readText_X11 0 rfl rfl 19 (by decide) (List.mem_of_getElem? (i := 4) rfl) rfl rfl dX11_readText_107 ?_
            refine V_icmp_ge X ti2 hMC3.1 163 dX11_readText_110 (by decide) (fun c_110 => ?_) (fun c_110 => ?_)
            · have hl3 := hML3.2.1
              refine V_aload_n X 0 rfl dX11_readText_163 ?_
              refine V_get (C := RX11) (T := TX11) (N := 50) (ci := 10) (v := .ref (R 22)) X in_X11_readText_X11 0 rfl rfl 22 (by decide) (List.mem_of_getElem? (i := 5) rfl) rfl rfl dX11_readText_164 ?_
              refine V_iload_n X 1 rfl dX11_readText_167 ?_
              refine V_aload_n X 0 rfl dX11_readText_168 ?_
              refine V_get (C := RX11) (T := TX11) (N := 50) (ci := 10) (v := .ref (R 22)) X in_X11_readText_X11 0 rfl rfl 22 (by decide) (List.mem_of_getElem? (i := 5) rfl) rfl rfl dX11_readText_169 ?_
              refine V_iconst (v := (1 : Int32)) X (by decide) dX11_readText_172 ?_
              refine V_iald X 4 1 rfl (show (1 : Int32).toInt = ((1 : Nat) : Int) from (show (1 : Int32).toInt = 1 from by decide)) (by omega) dX11_readText_173 ?_
              refine V_nm (fun x_35 ex_35 => ?_)
              have tx_35 : x_35.toInt = ((ls3.length : Nat) : Int) := by rw [ex_35]; exact hl3
              refine V_iast (ws' := [(m, .inr (10, mF R v0 v7 v8 v9 (0 : Int32) p3 (-1 : Int32) (0 : Int32) z3 v27 v31 v32 v33 v34 v38 v42 v44)), ((R 14), .inl (Y 2, 120, .inl a14)), ((R 20), .inl (Y 2, 260, .inl h20)), ((R 21), .inl (Y 0, 260, .inl h21)), ((R 22), .inl (Y 0, 2, .inl (upd g22 0 x_35))), ((R 23), .inl (Y 3, 122, .inl g23)), ((R 24), .inl (Y 3, 122, .inl g24))]) X 4 0 rfl (show (0 : Int32).toInt = ((0 : Nat) : Int) from (show (0 : Int32).toInt = 0 from by decide)) (by omega) rfl dX11_readText_174 ?_
              refine V_iconst (v := (0 : Int32)) X (by decide) dX11_readText_175 ?_
              refine V_istore_n (ls' := [(2, .int (0 : Int32)), (0, .ref m), (1, .int (0 : Int32))]) X (by decide) rfl dX11_readText_176 ?_
              refine V_ls (ls' := [(0, .ref m), (1, .int (0 : Int32)), (2, .int (0 : Int32))]) [1, 2, 0] rfl ?_
              refine V_to (V_ind4 (fun (i2 : Int32) (k : Nat) (h23 : Nat → Int32) (h24 : Nat → Int32) => (i2.toInt = ((k : Nat) : Int)) ∧ (k ≤ ls3.length) ∧ (∀ j, j < k → h23 j = g23 (61 + j) ∧ h24 j = g24 (61 + j)) ∧ (∀ j, 61 ≤ j → h23 j = g23 j ∧ h24 j = g24 j)) (fun (i2 : Int32) (k : Nat) (h23 : Nat → Int32) (h24 : Nat → Int32) => ls3.length - k) (fun (i2 : Int32) (k : Nat) (h23 : Nat → Int32) (h24 : Nat → Int32) => [(0, .ref m), (1, .int (0 : Int32)), (2, .int i2)]) (fun (i2 : Int32) (k : Nat) (h23 : Nat → Int32) (h24 : Nat → Int32) => [(m, .inr (10, mF R v0 v7 v8 v9 (0 : Int32) p3 (-1 : Int32) (0 : Int32) z3 v27 v31 v32 v33 v34 v38 v42 v44)), ((R 14), .inl (Y 2, 120, .inl a14)), ((R 20), .inl (Y 2, 260, .inl h20)), ((R 21), .inl (Y 0, 260, .inl h21)), ((R 22), .inl (Y 0, 2, .inl (upd g22 0 x_35))), ((R 23), .inl (Y 3, 122, .inl h23)), ((R 24), .inl (Y 3, 122, .inl h24))]) (fun i2 k h23 h24 hI_177 ih_177 => ?_) (0 : Int32) 0 g23 g24 ?_) rfl rfl rfl rfl
              · obtain ⟨ti2, hk2, hd1, hd2⟩ := hI_177
                refine V_to (ls' := [(0, .ref m), (1, .int (0 : Int32)), (2, .int i2)]) (ws' := [(m, .inr (10, mF R v0 v7 v8 v9 (0 : Int32) p3 (-1 : Int32) (0 : Int32) z3 v27 v31 v32 v33 v34 v38 v42 v44)), ((R 14), .inl (Y 2, 120, .inl a14)), ((R 20), .inl (Y 2, 260, .inl h20)), ((R 21), .inl (Y 0, 260, .inl h21)), ((R 22), .inl (Y 0, 2, .inl (upd g22 0 x_35))), ((R 23), .inl (Y 3, 122, .inl h23)), ((R 24), .inl (Y 3, 122, .inl h24))]) ?_ rfl rfl rfl rfl
                refine V_iload_n X 2 rfl dX11_readText_177 ?_
                refine V_aload_n X 0 rfl dX11_readText_178 ?_
                refine V_get (C := RX11) (T := TX11) (N := 50) (ci := 10) (v := .ref (R 22)) X in_X11_readText_X11 0 rfl rfl 22 (by decide) (List.mem_of_getElem? (i := 5) rfl) rfl rfl dX11_readText_179 ?_
                refine V_iload_n X 1 rfl dX11_readText_182 ?_
                refine V_iald X 4 0 rfl (show (0 : Int32).toInt = ((0 : Nat) : Int) from (show (0 : Int32).toInt = 0 from by decide)) (by omega) dX11_readText_183 ?_
                refine V_nm (fun x_36 ex_36 => ?_)
                have tx_36 : x_36.toInt = ((ls3.length : Nat) : Int) := by rw [ex_36]; exact (by show (upd g22 0 _ 0).toInt = _; unfold upd; rw [if_pos rfl]; omega)
                refine V_icmp_ge X ti2 tx_36 233 dX11_readText_184 (by decide) (fun c_184 => ?_) (fun c_184 => ?_)
                · refine V_iconst (v := (-1 : Int32)) X (by decide) dX11_readText_233 ?_
                  exact V_iret X hr dX11_readText_234 (Or.inl ⟨ls3, p3, (-1 : Int32), (0 : Int32), z3, h20, h21, (upd g22 0 x_35), h23, h24, rfl, rfl, (by have h9 := hPx; rw [show q3 = L by omega] at h9; exact h9), ⟨by unfold upd; rw [if_pos rfl]; assumption, by omega, by omega, fun j hj => by rw [(hc1 j (by omega)).1, (hc1 j (by omega)).2]; exact hMC3.2.2 j hj, fun j hj => by rw [(hd1 j (by omega)).1, (hd1 j (by omega)).2]; exact hML3.2.2 j hj⟩⟩)
                · have hw9 := hML3.2.2 k (by omega)
                  have hw8 := mTE_le (show k < ls3.length by omega)
                  have hv23 : vp_nar .short (h23 (61 + k)) = h23 (61 + k) := s16 (by rw [(hd2 (61 + k) (by omega)).1]; omega) (by rw [(hd2 (61 + k) (by omega)).1]; omega)
                  have hv24 : vp_nar .short (h24 (61 + k)) = h24 (61 + k) := s16 (by rw [(hd2 (61 + k) (by omega)).2]; omega) (by rw [(hd2 (61 + k) (by omega)).2]; omega)
                  refine V_aload_n X 0 rfl dX11_readText_187 ?_
                  refine V_get (C := RX11) (T := TX11) (N := 50) (ci := 10) (v := .ref (R 23)) X in_X11_readText_X11 0 rfl rfl 23 (by decide) (List.mem_of_getElem? (i := 9) rfl) rfl rfl dX11_readText_188 ?_
                  refine V_bipush (v := (61 : Int32)) X (by decide) dX11_readText_191 ?_
                  refine V_iload_n X 1 rfl dX11_readText_193 ?_
                  refine V_imulZ X (show (61 : Int32).toInt = 61 from by decide) (show (0 : Int32).toInt = 0 from by decide) (by omega) (by omega) dX11_readText_194 (fun x_37 ex_37 tx_37 => ?_)
                  have tx_37 : x_37.toInt = (((61 * 0) : Nat) : Int) := by omega
                  obtain rfl : x_37 = (0 : Int32) := ex_37.trans (by decide)
                  refine V_iload_n X 2 rfl dX11_readText_195 ?_
                  refine V_iaddZ X (show (0 : Int32).toInt = 0 from by decide) ti2 (by omega) (by omega) dX11_readText_196 (fun x_38 ex_38 tx_38 => ?_)
                  have tx_38 : x_38.toInt = (((0 + k) : Nat) : Int) := by omega
                  refine V_aload_n X 0 rfl dX11_readText_197 ?_
                  refine V_get (C := RX11) (T := TX11) (N := 50) (ci := 10) (v := .ref (R 23)) X in_X11_readText_X11 0 rfl rfl 23 (by decide) (List.mem_of_getElem? (i := 9) rfl) rfl rfl dX11_readText_198 ?_
                  refine V_bipush (v := (61 : Int32)) X (by decide) dX11_readText_201 ?_
                  refine V_iload_n X 2 rfl dX11_readText_203 ?_
                  refine V_iaddZ X (show (61 : Int32).toInt = 61 from by decide) ti2 (by omega) (by omega) dX11_readText_204 (fun x_39 ex_39 tx_39 => ?_)
                  have tx_39 : x_39.toInt = (((61 + k) : Nat) : Int) := by omega
                  refine V_sald X 5 (61 + k) rfl tx_39 (by omega) dX11_readText_205 ?_
                  refine V_sast (ws' := [(m, .inr (10, mF R v0 v7 v8 v9 (0 : Int32) p3 (-1 : Int32) (0 : Int32) z3 v27 v31 v32 v33 v34 v38 v42 v44)), ((R 14), .inl (Y 2, 120, .inl a14)), ((R 20), .inl (Y 2, 260, .inl h20)), ((R 21), .inl (Y 0, 260, .inl h21)), ((R 22), .inl (Y 0, 2, .inl (upd g22 0 x_35))), ((R 23), .inl (Y 3, 122, .inl (upd h23 (0 + k) (vp_nar .short (h23 (61 + k)))))), ((R 24), .inl (Y 3, 122, .inl h24))]) X 5 (0 + k) rfl tx_38 (by omega) rfl dX11_readText_206 ?_
                  refine V_aload_n X 0 rfl dX11_readText_207 ?_
                  refine V_get (C := RX11) (T := TX11) (N := 50) (ci := 10) (v := .ref (R 24)) X in_X11_readText_X11 0 rfl rfl 24 (by decide) (List.mem_of_getElem? (i := 10) rfl) rfl rfl dX11_readText_208 ?_
                  refine V_bipush (v := (61 : Int32)) X (by decide) dX11_readText_211 ?_
                  refine V_iload_n X 1 rfl dX11_readText_213 ?_
                  refine V_imulZ X (show (61 : Int32).toInt = 61 from by decide) (show (0 : Int32).toInt = 0 from by decide) (by omega) (by omega) dX11_readText_214 (fun x_40 ex_40 tx_40 => ?_)
                  have tx_40 : x_40.toInt = (((61 * 0) : Nat) : Int) := by omega
                  obtain rfl : x_40 = (0 : Int32) := ex_40.trans (by decide)
                  refine V_iload_n X 2 rfl dX11_readText_215 ?_
                  refine V_iaddZ X (show (0 : Int32).toInt = 0 from by decide) ti2 (by omega) (by omega) dX11_readText_216 (fun x_41 ex_41 tx_41 => ?_)
                  have tx_41 : x_41.toInt = (((0 + k) : Nat) : Int) := by omega
                  refine V_aload_n X 0 rfl dX11_readText_217 ?_
                  refine V_get (C := RX11) (T := TX11) (N := 50) (ci := 10) (v := .ref (R 24)) X in_X11_readText_X11 0 rfl rfl 24 (by decide) (List.mem_of_getElem? (i := 10) rfl) rfl rfl dX11_readText_218 ?_
                  refine V_bipush (v := (61 : Int32)) X (by decide) dX11_readText_221 ?_
                  refine V_iload_n X 2 rfl dX11_readText_223 ?_
                  refine V_iaddZ X (show (61 : Int32).toInt = 61 from by decide) ti2 (by omega) (by omega) dX11_readText_224 (fun x_42 ex_42 tx_42 => ?_)
                  have tx_42 : x_42.toInt = (((61 + k) : Nat) : Int) := by omega
                  refine V_sald X 6 (61 + k) rfl tx_42 (by omega) dX11_readText_225 ?_
                  refine V_sast (ws' := [(m, .inr (10, mF R v0 v7 v8 v9 (0 : Int32) p3 (-1 : Int32) (0 : Int32) z3 v27 v31 v32 v33 v34 v38 v42 v44)), ((R 14), .inl (Y 2, 120, .inl a14)), ((R 20), .inl (Y 2, 260, .inl h20)), ((R 21), .inl (Y 0, 260, .inl h21)), ((R 22), .inl (Y 0, 2, .inl (upd g22 0 x_35))), ((R 23), .inl (Y 3, 122, .inl (upd h23 (0 + k) (vp_nar .short (h23 (61 + k)))))), ((R 24), .inl (Y 3, 122, .inl (upd h24 (0 + k) (vp_nar .short (h24 (61 + k))))))]) X 6 (0 + k) rfl tx_41 (by omega) rfl dX11_readText_226 ?_
                  refine V_iincZ X (fun vv_ => [(2, .int vv_), (0, .ref m), (1, .int (0 : Int32))]) ti2 (by omega) (by omega) (by decide) 2 rfl (by decide) (fun _ => rfl) dX11_readText_227 (fun x_43 ex_43 tx_43 => ?_)
                  have tx_43 : x_43.toInt = (((k + 1) : Nat) : Int) := by omega
                  refine V_goto X 177 (by decide) dX11_readText_230 ?_
                  refine V_ls (ls' := [(0, .ref m), (1, .int (0 : Int32)), (2, .int x_43)]) [1, 2, 0] rfl ?_
                  exact V_to (ih_177 x_43 (k + 1) (upd h23 (0 + k) (vp_nar .short (h23 (61 + k)))) (upd h24 (0 + k) (vp_nar .short (h24 (61 + k)))) ⟨(by omega), (by omega), (fun j hj => by unfold upd; by_cases e : j = 0 + k; (rw [if_pos e, if_pos e, e, hv23, hv24, (hd2 (61 + k) (by omega)).1, (hd2 (61 + k) (by omega)).2]; constructor <;> congr 1 <;> omega); (rw [if_neg e, if_neg e]; exact hd1 j (by omega))), (fun j hj => by unfold upd; rw [if_neg (by omega), if_neg (by omega)]; exact hd2 j hj)⟩ (by omega)) rfl rfl rfl rfl
              · exact ⟨(by have h9 : (0 : Int32).toInt = 0 := (show (0 : Int32).toInt = 0 from by decide); omega), (by omega), (fun j hj => absurd hj (Nat.not_lt_zero j)), (fun j _ => ⟨rfl, rfl⟩)⟩
            · have hv9 := (hMC3.2.2 k (by omega)).1
              have hv8 := RG_at hRG3 (show k < (mcT ls3).length by omega)
              have hv20 : vp_nar .byte (h20 (130 + k)) = h20 (130 + k) := b8 (by rw [(hc2 (130 + k) (by omega)).1]; omega) (by rw [(hc2 (130 + k) (by omega)).1]; omega)
              refine V_aload_n X 0 rfl dX11_readText_113 ?_
              refine V_get (C := RX11) (T := TX11) (N := 50) (ci := 10) (v := .ref (R 20)) X in_X11_readText_X11 0 rfl rfl 20 (by decide) (List.mem_of_getElem? (i := 7) rfl) rfl rfl dX11_readText_114 ?_
              refine V_sipush (v := (130 : Int32)) X (by decide) dX11_readText_117 ?_
              refine V_iload_n X 1 rfl dX11_readText_120 ?_
              refine V_imulZ X (show (130 : Int32).toInt = 130 from by decide) (show (0 : Int32).toInt = 0 from by decide) (by omega) (by omega) dX11_readText_121 (fun x_44 ex_44 tx_44 => ?_)
              have tx_44 : x_44.toInt = (((130 * 0) : Nat) : Int) := by omega
              obtain rfl : x_44 = (0 : Int32) := ex_44.trans (by decide)
              refine V_iload_n X 2 rfl dX11_readText_122 ?_
              refine V_iaddZ X (show (0 : Int32).toInt = 0 from by decide) ti2 (by omega) (by omega) dX11_readText_123 (fun x_45 ex_45 tx_45 => ?_)
              have tx_45 : x_45.toInt = (((0 + k) : Nat) : Int) := by omega
              refine V_aload_n X 0 rfl dX11_readText_124 ?_
              refine V_get (C := RX11) (T := TX11) (N := 50) (ci := 10) (v := .ref (R 20)) X in_X11_readText_X11 0 rfl rfl 20 (by decide) (List.mem_of_getElem? (i := 7) rfl) rfl rfl dX11_readText_125 ?_
              refine V_sipush (v := (130 : Int32)) X (by decide) dX11_readText_128 ?_
              refine V_iload_n X 2 rfl dX11_readText_131 ?_
              refine V_iaddZ X (show (130 : Int32).toInt = 130 from by decide) ti2 (by omega) (by omega) dX11_readText_132 (fun x_46 ex_46 tx_46 => ?_)
              have tx_46 : x_46.toInt = (((130 + k) : Nat) : Int) := by omega
              refine V_bald X 2 (130 + k) rfl tx_46 (by omega) dX11_readText_133 ?_
              refine V_bast (ws' := [(m, .inr (10, mF R v0 v7 v8 v9 (0 : Int32) p3 (-1 : Int32) (0 : Int32) z3 v27 v31 v32 v33 v34 v38 v42 v44)), ((R 14), .inl (Y 2, 120, .inl a14)), ((R 20), .inl (Y 2, 260, .inl (upd h20 (0 + k) (vp_nar .byte (h20 (130 + k)))))), ((R 21), .inl (Y 0, 260, .inl h21)), ((R 22), .inl (Y 0, 2, .inl g22)), ((R 23), .inl (Y 3, 122, .inl g23)), ((R 24), .inl (Y 3, 122, .inl g24))]) X 2 (0 + k) rfl tx_45 (by omega) rfl dX11_readText_134 ?_
              refine V_aload_n X 0 rfl dX11_readText_135 ?_
              refine V_get (C := RX11) (T := TX11) (N := 50) (ci := 10) (v := .ref (R 21)) X in_X11_readText_X11 0 rfl rfl 21 (by decide) (List.mem_of_getElem? (i := 8) rfl) rfl rfl dX11_readText_136 ?_
              refine V_sipush (v := (130 : Int32)) X (by decide) dX11_readText_139 ?_
              refine V_iload_n X 1 rfl dX11_readText_142 ?_
              refine V_imulZ X (show (130 : Int32).toInt = 130 from by decide) (show (0 : Int32).toInt = 0 from by decide) (by omega) (by omega) dX11_readText_143 (fun x_47 ex_47 tx_47 => ?_)
              have tx_47 : x_47.toInt = (((130 * 0) : Nat) : Int) := by omega
              obtain rfl : x_47 = (0 : Int32) := ex_47.trans (by decide)
              refine V_iload_n X 2 rfl dX11_readText_144 ?_
              refine V_iaddZ X (show (0 : Int32).toInt = 0 from by decide) ti2 (by omega) (by omega) dX11_readText_145 (fun x_48 ex_48 tx_48 => ?_)
              have tx_48 : x_48.toInt = (((0 + k) : Nat) : Int) := by omega
              refine V_aload_n X 0 rfl dX11_readText_146 ?_
              refine V_get (C := RX11) (T := TX11) (N := 50) (ci := 10) (v := .ref (R 21)) X in_X11_readText_X11 0 rfl rfl 21 (by decide) (List.mem_of_getElem? (i := 8) rfl) rfl rfl dX11_readText_147 ?_
              refine V_sipush (v := (130 : Int32)) X (by decide) dX11_readText_150 ?_
              refine V_iload_n X 2 rfl dX11_readText_153 ?_
              refine V_iaddZ X (show (130 : Int32).toInt = 130 from by decide) ti2 (by omega) (by omega) dX11_readText_154 (fun x_49 ex_49 tx_49 => ?_)
              have tx_49 : x_49.toInt = (((130 + k) : Nat) : Int) := by omega
              refine V_iald X 3 (130 + k) rfl tx_49 (by omega) dX11_readText_155 ?_
              refine V_iast (ws' := [(m, .inr (10, mF R v0 v7 v8 v9 (0 : Int32) p3 (-1 : Int32) (0 : Int32) z3 v27 v31 v32 v33 v34 v38 v42 v44)), ((R 14), .inl (Y 2, 120, .inl a14)), ((R 20), .inl (Y 2, 260, .inl (upd h20 (0 + k) (vp_nar .byte (h20 (130 + k)))))), ((R 21), .inl (Y 0, 260, .inl (upd h21 (0 + k) (h21 (130 + k))))), ((R 22), .inl (Y 0, 2, .inl g22)), ((R 23), .inl (Y 3, 122, .inl g23)), ((R 24), .inl (Y 3, 122, .inl g24))]) X 3 (0 + k) rfl tx_48 (by omega) rfl dX11_readText_156 ?_
              refine V_iincZ X (fun vv_ => [(2, .int vv_), (0, .ref m), (1, .int (0 : Int32))]) ti2 (by omega) (by omega) (by decide) 2 rfl (by decide) (fun _ => rfl) dX11_readText_157 (fun x_50 ex_50 tx_50 => ?_)
              have tx_50 : x_50.toInt = (((k + 1) : Nat) : Int) := by omega
              refine V_goto X 105 (by decide) dX11_readText_160 ?_
              refine V_ls (ls' := [(0, .ref m), (1, .int (0 : Int32)), (2, .int x_50)]) [1, 2, 0] rfl ?_
              exact V_to (ih_105 x_50 (k + 1) (upd h20 (0 + k) (vp_nar .byte (h20 (130 + k)))) (upd h21 (0 + k) (h21 (130 + k))) ⟨(by omega), (by omega), (fun j hj => by unfold upd; by_cases e : j = 0 + k; (rw [if_pos e, if_pos e, e, hv20, (hc2 (130 + k) (by omega)).1, (hc2 (130 + k) (by omega)).2]; constructor <;> congr 1 <;> omega); (rw [if_neg e, if_neg e]; exact hc1 j (by omega))), (fun j hj => by unfold upd; rw [if_neg (by omega), if_neg (by omega)]; exact hc2 j hj)⟩ (by omega)) rfl rfl rfl rfl
          · exact ⟨(by have h9 : (0 : Int32).toInt = 0 := (show (0 : Int32).toInt = 0 from by decide); omega), (by omega), (fun j hj => absurd hj (Nat.not_lt_zero j)), (fun j _ => ⟨rfl, rfl⟩)⟩
        · refine V_aload_n X 0 rfl dX11_readText_82 ?_
          refine V_callV (C := RX11) (wr := [((R 20), .inl (Y 2, 260, .inl g20)), ((R 21), .inl (Y 0, 260, .inl g21)), ((R 22), .inl (Y 0, 2, .inl g22)), ((R 23), .inl (Y 3, 122, .inl g23)), ((R 24), .inl (Y 3, 122, .inl g24)), ((R 14), .inl (Y 2, 120, .inl a14))]) (st := []) X (c_X11_faulty l D Y m R v0 v7 v8 v9 v15 p3 (-1 : Int32) (0 : Int32) z3 v27 v31 v32 v33 v34 v38 v42 v44 (show (-1 : Int32).toInt = (-1) from by decide)) 0 gX11_readText_X11_faulty rfl (by decide +kernel) ⟨rfl, rfl⟩ ⟨Nat.le_of_ble_eq_true rfl, Nat.le_of_ble_eq_true rfl⟩ [5] [0, 1, 2, 3, 4, 6] rfl rfl rfl rfl (by decide) (ci := 10) rfl rfl 0 rfl rfl rfl (Nat.le_of_ble_eq_true rfl) ⟨Nat.le_of_ble_eq_true rfl, Nat.le_of_ble_eq_true rfl⟩ dX11_readText_83 (fun v_83 w_83 h_83 => ?_)
          obtain ⟨rfl, rfl⟩ := h_83
          refine V_to (pc' := 86) (ls' := [(0, .ref m), (1, .int (0 : Int32))]) (st' := []) (ws' := [((R 20), .inl (Y 2, 260, .inl g20)), ((R 21), .inl (Y 0, 260, .inl g21)), ((R 22), .inl (Y 0, 2, .inl g22)), ((R 23), .inl (Y 3, 122, .inl g23)), ((R 24), .inl (Y 3, 122, .inl g24)), ((R 14), .inl (Y 2, 120, .inl a14)), (m, .inr (10, mF R v0 v7 v8 v9 v15 p3 p3 (0 : Int32) z3 v27 v31 v32 v33 v34 v38 v42 v44))]) ?_ rfl rfl rfl rfl
          have hPx : pAll c = (q3, some ls3) := pTx_x hP3 (Or.inr (by omega))
          refine V_aload_n X 0 rfl dX11_readText_86 ?_
          refine V_iconst (v := (0 : Int32)) X (by decide) dX11_readText_87 ?_
          refine V_put (C := RX11) (T := TX11) (N := 50) (ci := 10) (v := .int (0 : Int32)) (ty := tyX11 15) (ws' := [((R 20), .inl (Y 2, 260, .inl g20)), ((R 21), .inl (Y 0, 260, .inl g21)), ((R 22), .inl (Y 0, 2, .inl g22)), ((R 23), .inl (Y 3, 122, .inl g23)), ((R 24), .inl (Y 3, 122, .inl g24)), ((R 14), .inl (Y 2, 120, .inl a14)), (m, .inr (10, mF R v0 v7 v8 v9 (0 : Int32) p3 p3 (0 : Int32) z3 v27 v31 v32 v33 v34 v38 v42 v44))]) X in_X11_readText_X11 6 rfl rfl 15 (by decide) (List.mem_of_getElem? (i := 6) rfl) rfl tyX11 tyX11_ok nmX11 rfl (tyX11_ok 15 (by decide)) rfl rfl (Nat.le_of_ble_eq_true rfl) rfl dX11_readText_88 ?_
          refine V_aload_n X 0 rfl dX11_readText_91 ?_
          refine V_get (C := RX11) (T := TX11) (N := 50) (ci := 10) (v := .int p3) X in_X11_readText_X11 6 rfl rfl 17 (by decide) (List.mem_of_getElem? (i := 2) rfl) rfl rfl dX11_readText_92 ?_
          refine V_if_lt X rfl 103 dX11_readText_95 (by decide) (fun c_95 => ?_) (fun c_95 => ?_)
          · refine V_iconst (v := (0 : Int32)) X (by decide) dX11_readText_103 ?_
            refine V_istore_n (ls' := [(2, .int (0 : Int32)), (0, .ref m), (1, .int (0 : Int32))]) X (by decide) rfl dX11_readText_104 ?_
            refine V_ls (ls' := [(0, .ref m), (1, .int (0 : Int32)), (2, .int (0 : Int32))]) [1, 2, 0] rfl ?_
            refine V_ws (ws' := [(m, .inr (10, mF R v0 v7 v8 v9 (0 : Int32) p3 p3 (0 : Int32) z3 v27 v31 v32 v33 v34 v38 v42 v44)), ((R 14), .inl (Y 2, 120, .inl a14)), ((R 20), .inl (Y 2, 260, .inl g20)), ((R 21), .inl (Y 0, 260, .inl g21)), ((R 22), .inl (Y 0, 2, .inl g22)), ((R 23), .inl (Y 3, 122, .inl g23)), ((R 24), .inl (Y 3, 122, .inl g24))]) [6, 5, 0, 1, 2, 3, 4] rfl rfl rfl ?_
            refine V_to (V_ind4 (fun (i2 : Int32) (k : Nat) (h20 : Nat → Int32) (h21 : Nat → Int32) => (i2.toInt = ((k : Nat) : Int)) ∧ (k ≤ (mcT ls3).length) ∧ (∀ j, j < k → h20 j = g20 (130 + j) ∧ h21 j = g21 (130 + j)) ∧ (∀ j, 130 ≤ j → h20 j = g20 j ∧ h21 j = g21 j)) (fun (i2 : Int32) (k : Nat) (h20 : Nat → Int32) (h21 : Nat → Int32) => (mcT ls3).length - k) (fun (i2 : Int32) (k : Nat) (h20 : Nat → Int32) (h21 : Nat → Int32) => [(0, .ref m), (1, .int (0 : Int32)), (2, .int i2)]) (fun (i2 : Int32) (k : Nat) (h20 : Nat → Int32) (h21 : Nat → Int32) => [(m, .inr (10, mF R v0 v7 v8 v9 (0 : Int32) p3 p3 (0 : Int32) z3 v27 v31 v32 v33 v34 v38 v42 v44)), ((R 14), .inl (Y 2, 120, .inl a14)), ((R 20), .inl (Y 2, 260, .inl h20)), ((R 21), .inl (Y 0, 260, .inl h21)), ((R 22), .inl (Y 0, 2, .inl g22)), ((R 23), .inl (Y 3, 122, .inl g23)), ((R 24), .inl (Y 3, 122, .inl g24))]) (fun i2 k h20 h21 hI_105 ih_105 => ?_) (0 : Int32) 0 g20 g21 ?_) rfl rfl rfl rfl
            · obtain ⟨ti2, hk, hc1, hc2⟩ := hI_105
              refine V_to (ls' := [(0, .ref m), (1, .int (0 : Int32)), (2, .int i2)]) (ws' := [(m, .inr (10, mF R v0 v7 v8 v9 (0 : Int32) p3 p3 (0 : Int32) z3 v27 v31 v32 v33 v34 v38 v42 v44)), ((R 14), .inl (Y 2, 120, .inl a14)), ((R 20), .inl (Y 2, 260, .inl h20)), ((R 21), .inl (Y 0, 260, .inl h21)), ((R 22), .inl (Y 0, 2, .inl g22)), ((R 23), .inl (Y 3, 122, .inl g23)), ((R 24), .inl (Y 3, 122, .inl g24))]) ?_ rfl rfl rfl rfl
              refine V_iload_n X 2 rfl dX11_readText_105 ?_
              refine V_aload_n X 0 rfl dX11_readText_106 ?_
              refine V_get (C := RX11) (T := TX11) (N := 50) (ci := 10) (v := .int z3) X in_X11_readText_X11 0 rfl rfl 19 (by decide) (List.mem_of_getElem? (i := 4) rfl) rfl rfl dX11_readText_107 ?_
              refine V_icmp_ge X ti2 hMC3.1 163 dX11_readText_110 (by decide) (fun c_110 => ?_) (fun c_110 => ?_)
              · have hl3 := hML3.2.1
                refine V_aload_n X 0 rfl dX11_readText_163 ?_
                refine V_get (C := RX11) (T := TX11) (N := 50) (ci := 10) (v := .ref (R 22)) X in_X11_readText_X11 0 rfl rfl 22 (by decide) (List.mem_of_getElem? (i := 5) rfl) rfl rfl dX11_readText_164 ?_
                refine V_iload_n X 1 rfl dX11_readText_167 ?_
                refine V_aload_n X 0 rfl dX11_readText_168 ?_
                refine V_get (C := RX11) (T := TX11) (N := 50) (ci := 10) (v := .ref (R 22)) X in_X11_readText_X11 0 rfl rfl 22 (by decide) (List.mem_of_getElem? (i := 5) rfl) rfl rfl dX11_readText_169 ?_
                refine V_iconst (v := (1 : Int32)) X (by decide) dX11_readText_172 ?_
                refine V_iald X 4 1 rfl (show (1 : Int32).toInt = ((1 : Nat) : Int) from (show (1 : Int32).toInt = 1 from by decide)) (by omega) dX11_readText_173 ?_
                refine V_nm (fun x_52 ex_52 => ?_)
                have tx_52 : x_52.toInt = ((ls3.length : Nat) : Int) := by rw [ex_52]; exact hl3
                refine V_iast (ws' := [(m, .inr (10, mF R v0 v7 v8 v9 (0 : Int32) p3 p3 (0 : Int32) z3 v27 v31 v32 v33 v34 v38 v42 v44)), ((R 14), .inl (Y 2, 120, .inl a14)), ((R 20), .inl (Y 2, 260, .inl h20)), ((R 21), .inl (Y 0, 260, .inl h21)), ((R 22), .inl (Y 0, 2, .inl (upd g22 0 x_52))), ((R 23), .inl (Y 3, 122, .inl g23)), ((R 24), .inl (Y 3, 122, .inl g24))]) X 4 0 rfl (show (0 : Int32).toInt = ((0 : Nat) : Int) from (show (0 : Int32).toInt = 0 from by decide)) (by omega) rfl dX11_readText_174 ?_
                refine V_iconst (v := (0 : Int32)) X (by decide) dX11_readText_175 ?_
                refine V_istore_n (ls' := [(2, .int (0 : Int32)), (0, .ref m), (1, .int (0 : Int32))]) X (by decide) rfl dX11_readText_176 ?_
                refine V_ls (ls' := [(0, .ref m), (1, .int (0 : Int32)), (2, .int (0 : Int32))]) [1, 2, 0] rfl ?_
                refine V_to (V_ind4 (fun (i2 : Int32) (k : Nat) (h23 : Nat → Int32) (h24 : Nat → Int32) => (i2.toInt = ((k : Nat) : Int)) ∧ (k ≤ ls3.length) ∧ (∀ j, j < k → h23 j = g23 (61 + j) ∧ h24 j = g24 (61 + j)) ∧ (∀ j, 61 ≤ j → h23 j = g23 j ∧ h24 j = g24 j)) (fun (i2 : Int32) (k : Nat) (h23 : Nat → Int32) (h24 : Nat → Int32) => ls3.length - k) (fun (i2 : Int32) (k : Nat) (h23 : Nat → Int32) (h24 : Nat → Int32) => [(0, .ref m), (1, .int (0 : Int32)), (2, .int i2)]) (fun (i2 : Int32) (k : Nat) (h23 : Nat → Int32) (h24 : Nat → Int32) => [(m, .inr (10, mF R v0 v7 v8 v9 (0 : Int32) p3 p3 (0 : Int32) z3 v27 v31 v32 v33 v34 v38 v42 v44)), ((R 14), .inl (Y 2, 120, .inl a14)), ((R 20), .inl (Y 2, 260, .inl h20)), ((R 21), .inl (Y 0, 260, .inl h21)), ((R 22), .inl (Y 0, 2, .inl (upd g22 0 x_52))), ((R 23), .inl (Y 3, 122, .inl h23)), ((R 24), .inl (Y 3, 122, .inl h24))]) (fun i2 k h23 h24 hI_177 ih_177 => ?_) (0 : Int32) 0 g23 g24 ?_) rfl rfl rfl rfl
                · obtain ⟨ti2, hk2, hd1, hd2⟩ := hI_177
                  refine V_to (ls' := [(0, .ref m), (1, .int (0 : Int32)), (2, .int i2)]) (ws' := [(m, .inr (10, mF R v0 v7 v8 v9 (0 : Int32) p3 p3 (0 : Int32) z3 v27 v31 v32 v33 v34 v38 v42 v44)), ((R 14), .inl (Y 2, 120, .inl a14)), ((R 20), .inl (Y 2, 260, .inl h20)), ((R 21), .inl (Y 0, 260, .inl h21)), ((R 22), .inl (Y 0, 2, .inl (upd g22 0 x_52))), ((R 23), .inl (Y 3, 122, .inl h23)), ((R 24), .inl (Y 3, 122, .inl h24))]) ?_ rfl rfl rfl rfl
                  refine V_iload_n X 2 rfl dX11_readText_177 ?_
                  refine V_aload_n X 0 rfl dX11_readText_178 ?_
                  refine V_get (C := RX11) (T := TX11) (N := 50) (ci := 10) (v := .ref (R 22)) X in_X11_readText_X11 0 rfl rfl 22 (by decide) (List.mem_of_getElem? (i := 5) rfl) rfl rfl dX11_readText_179 ?_
                  refine V_iload_n X 1 rfl dX11_readText_182 ?_
                  refine V_iald X 4 0 rfl (show (0 : Int32).toInt = ((0 : Nat) : Int) from (show (0 : Int32).toInt = 0 from by decide)) (by omega) dX11_readText_183 ?_
                  refine V_nm (fun x_53 ex_53 => ?_)
                  have tx_53 : x_53.toInt = ((ls3.length : Nat) : Int) := by rw [ex_53]; exact (by show (upd g22 0 _ 0).toInt = _; unfold upd; rw [if_pos rfl]; omega)
                  refine V_icmp_ge X ti2 tx_53 233 dX11_readText_184 (by decide) (fun c_184 => ?_) (fun c_184 => ?_)
                  · refine V_iconst (v := (-1 : Int32)) X (by decide) dX11_readText_233 ?_
                    exact V_iret X hr dX11_readText_234 (Or.inl ⟨ls3, p3, p3, (0 : Int32), z3, h20, h21, (upd g22 0 x_52), h23, h24, rfl, rfl, (by have h9 := hPx; rw [show q3 = L by omega] at h9; exact h9), ⟨by unfold upd; rw [if_pos rfl]; assumption, by omega, by omega, fun j hj => by rw [(hc1 j (by omega)).1, (hc1 j (by omega)).2]; exact hMC3.2.2 j hj, fun j hj => by rw [(hd1 j (by omega)).1, (hd1 j (by omega)).2]; exact hML3.2.2 j hj⟩⟩)
                  · have hw9 := hML3.2.2 k (by omega)
                    have hw8 := mTE_le (show k < ls3.length by omega)
                    have hv23 : vp_nar .short (h23 (61 + k)) = h23 (61 + k) := s16 (by rw [(hd2 (61 + k) (by omega)).1]; omega) (by rw [(hd2 (61 + k) (by omega)).1]; omega)
                    have hv24 : vp_nar .short (h24 (61 + k)) = h24 (61 + k) := s16 (by rw [(hd2 (61 + k) (by omega)).2]; omega) (by rw [(hd2 (61 + k) (by omega)).2]; omega)
                    refine V_aload_n X 0 rfl dX11_readText_187 ?_
                    refine V_get (C := RX11) (T := TX11) (N := 50) (ci := 10) (v := .ref (R 23)) X in_X11_readText_X11 0 rfl rfl 23 (by decide) (List.mem_of_getElem? (i := 9) rfl) rfl rfl dX11_readText_188 ?_
                    refine V_bipush (v := (61 : Int32)) X (by decide) dX11_readText_191 ?_
                    refine V_iload_n X 1 rfl dX11_readText_193 ?_
                    refine V_imulZ X (show (61 : Int32).toInt = 61 from by decide) (show (0 : Int32).toInt = 0 from by decide) (by omega) (by omega) dX11_readText_194 (fun x_54 ex_54 tx_54 => ?_)
                    have tx_54 : x_54.toInt = (((61 * 0) : Nat) : Int) := by omega
                    obtain rfl : x_54 = (0 : Int32) := ex_54.trans (by decide)
                    refine V_iload_n X 2 rfl dX11_readText_195 ?_
                    refine V_iaddZ X (show (0 : Int32).toInt = 0 from by decide) ti2 (by omega) (by omega) dX11_readText_196 (fun x_55 ex_55 tx_55 => ?_)
                    have tx_55 : x_55.toInt = (((0 + k) : Nat) : Int) := by omega
                    refine V_aload_n X 0 rfl dX11_readText_197 ?_
                    refine V_get (C := RX11) (T := TX11) (N := 50) (ci := 10) (v := .ref (R 23)) X in_X11_readText_X11 0 rfl rfl 23 (by decide) (List.mem_of_getElem? (i := 9) rfl) rfl rfl dX11_readText_198 ?_
                    refine V_bipush (v := (61 : Int32)) X (by decide) dX11_readText_201 ?_
                    refine V_iload_n X 2 rfl dX11_readText_203 ?_
                    refine V_iaddZ X (show (61 : Int32).toInt = 61 from by decide) ti2 (by omega) (by omega) dX11_readText_204 (fun x_56 ex_56 tx_56 => ?_)
                    have tx_56 : x_56.toInt = (((61 + k) : Nat) : Int) := by omega
                    refine V_sald X 5 (61 + k) rfl tx_56 (by omega) dX11_readText_205 ?_
                    refine V_sast (ws' := [(m, .inr (10, mF R v0 v7 v8 v9 (0 : Int32) p3 p3 (0 : Int32) z3 v27 v31 v32 v33 v34 v38 v42 v44)), ((R 14), .inl (Y 2, 120, .inl a14)), ((R 20), .inl (Y 2, 260, .inl h20)), ((R 21), .inl (Y 0, 260, .inl h21)), ((R 22), .inl (Y 0, 2, .inl (upd g22 0 x_52))), ((R 23), .inl (Y 3, 122, .inl (upd h23 (0 + k) (vp_nar .short (h23 (61 + k)))))), ((R 24), .inl (Y 3, 122, .inl h24))]) X 5 (0 + k) rfl tx_55 (by omega) rfl dX11_readText_206 ?_
                    refine V_aload_n X 0 rfl dX11_readText_207 ?_
                    refine V_get (C := RX11) (T := TX11) (N := 50) (ci := 10) (v := .ref (R 24)) X in_X11_readText_X11 0 rfl rfl 24 (by decide) (List.mem_of_getElem? (i := 10) rfl) rfl rfl dX11_readText_208 ?_
                    refine V_bipush (v := (61 : Int32)) X (by decide) dX11_readText_211 ?_
                    refine V_iload_n X 1 rfl dX11_readText_213 ?_
                    refine V_imulZ X (show (61 : Int32).toInt = 61 from by decide) (show (0 : Int32).toInt = 0 from by decide) (by omega) (by omega) dX11_readText_214 (fun x_57 ex_57 tx_57 => ?_)
                    have tx_57 : x_57.toInt = (((61 * 0) : Nat) : Int) := by omega
                    obtain rfl : x_57 = (0 : Int32) := ex_57.trans (by decide)
                    refine V_iload_n X 2 rfl dX11_readText_215 ?_
                    refine V_iaddZ X (show (0 : Int32).toInt = 0 from by decide) ti2 (by omega) (by omega) dX11_readText_216 (fun x_58 ex_58 tx_58 => ?_)
                    have tx_58 : x_58.toInt = (((0 + k) : Nat) : Int) := by omega
                    refine V_aload_n X 0 rfl dX11_readText_217 ?_
                    refine V_get (C := RX11) (T := TX11) (N := 50) (ci := 10) (v := .ref (R 24)) X in_X11_readText_X11 0 rfl rfl 24 (by decide) (List.mem_of_getElem? (i := 10) rfl) rfl rfl dX11_readText_218 ?_
                    refine V_bipush (v := (61 : Int32)) X (by decide) dX11_readText_221 ?_
                    refine V_iload_n X 2 rfl dX11_readText_223 ?_
                    refine V_iaddZ X (show (61 : Int32).toInt = 61 from by decide) ti2 (by omega) (by omega) dX11_readText_224 (fun x_59 ex_59 tx_59 => ?_)
                    have tx_59 : x_59.toInt = (((61 + k) : Nat) : Int) := by omega
                    refine V_sald X 6 (61 + k) rfl tx_59 (by omega) dX11_readText_225 ?_
                    refine V_sast (ws' := [(m, .inr (10, mF R v0 v7 v8 v9 (0 : Int32) p3 p3 (0 : Int32) z3 v27 v31 v32 v33 v34 v38 v42 v44)), ((R 14), .inl (Y 2, 120, .inl a14)), ((R 20), .inl (Y 2, 260, .inl h20)), ((R 21), .inl (Y 0, 260, .inl h21)), ((R 22), .inl (Y 0, 2, .inl (upd g22 0 x_52))), ((R 23), .inl (Y 3, 122, .inl (upd h23 (0 + k) (vp_nar .short (h23 (61 + k)))))), ((R 24), .inl (Y 3, 122, .inl (upd h24 (0 + k) (vp_nar .short (h24 (61 + k))))))]) X 6 (0 + k) rfl tx_58 (by omega) rfl dX11_readText_226 ?_
                    refine V_iincZ X (fun vv_ => [(2, .int vv_), (0, .ref m), (1, .int (0 : Int32))]) ti2 (by omega) (by omega) (by decide) 2 rfl (by decide) (fun _ => rfl) dX11_readText_227 (fun x_60 ex_60 tx_60 => ?_)
                    have tx_60 : x_60.toInt = (((k + 1) : Nat) : Int) := by omega
                    refine V_goto X 177 (by decide) dX11_readText_230 ?_
                    refine V_ls (ls' := [(0, .ref m), (1, .int (0 : Int32)), (2, .int x_60)]) [1, 2, 0] rfl ?_
                    exact V_to (ih_177 x_60 (k + 1) (upd h23 (0 + k) (vp_nar .short (h23 (61 + k)))) (upd h24 (0 + k) (vp_nar .short (h24 (61 + k)))) ⟨(by omega), (by omega), (fun j hj => by unfold upd; by_cases e : j = 0 + k; (rw [if_pos e, if_pos e, e, hv23, hv24, (hd2 (61 + k) (by omega)).1, (hd2 (61 + k) (by omega)).2]; constructor <;> congr 1 <;> omega); (rw [if_neg e, if_neg e]; exact hd1 j (by omega))), (fun j hj => by unfold upd; rw [if_neg (by omega), if_neg (by omega)]; exact hd2 j hj)⟩ (by omega)) rfl rfl rfl rfl
                · exact ⟨(by have h9 : (0 : Int32).toInt = 0 := (show (0 : Int32).toInt = 0 from by decide); omega), (by omega), (fun j hj => absurd hj (Nat.not_lt_zero j)), (fun j _ => ⟨rfl, rfl⟩)⟩
              · have hv9 := (hMC3.2.2 k (by omega)).1
                have hv8 := RG_at hRG3 (show k < (mcT ls3).length by omega)
                have hv20 : vp_nar .byte (h20 (130 + k)) = h20 (130 + k) := b8 (by rw [(hc2 (130 + k) (by omega)).1]; omega) (by rw [(hc2 (130 + k) (by omega)).1]; omega)
                refine V_aload_n X 0 rfl dX11_readText_113 ?_
                refine V_get (C := RX11) (T := TX11) (N := 50) (ci := 10) (v := .ref (R 20)) X in_X11_readText_X11 0 rfl rfl 20 (by decide) (List.mem_of_getElem? (i := 7) rfl) rfl rfl dX11_readText_114 ?_
                refine V_sipush (v := (130 : Int32)) X (by decide) dX11_readText_117 ?_
                refine V_iload_n X 1 rfl dX11_readText_120 ?_
                refine V_imulZ X (show (130 : Int32).toInt = 130 from by decide) (show (0 : Int32).toInt = 0 from by decide) (by omega) (by omega) dX11_readText_121 (fun x_61 ex_61 tx_61 => ?_)
                have tx_61 : x_61.toInt = (((130 * 0) : Nat) : Int) := by omega
                obtain rfl : x_61 = (0 : Int32) := ex_61.trans (by decide)
                refine V_iload_n X 2 rfl dX11_readText_122 ?_
                refine V_iaddZ X (show (0 : Int32).toInt = 0 from by decide) ti2 (by omega) (by omega) dX11_readText_123 (fun x_62 ex_62 tx_62 => ?_)
                have tx_62 : x_62.toInt = (((0 + k) : Nat) : Int) := by omega
                refine V_aload_n X 0 rfl dX11_readText_124 ?_
                refine V_get (C := RX11) (T := TX11) (N := 50) (ci := 10) (v := .ref (R 20)) X in_X11_readText_X11 0 rfl rfl 20 (by decide) (List.mem_of_getElem? (i := 7) rfl) rfl rfl dX11_readText_125 ?_
                refine V_sipush (v := (130 : Int32)) X (by decide) dX11_readText_128 ?_
                refine V_iload_n X 2 rfl dX11_readText_131 ?_
                refine V_iaddZ X (show (130 : Int32).toInt = 130 from by decide) ti2 (by omega) (by omega) dX11_readText_132 (fun x_63 ex_63 tx_63 => ?_)
                have tx_63 : x_63.toInt = (((130 + k) : Nat) : Int) := by omega
                refine V_bald X 2 (130 + k) rfl tx_63 (by omega) dX11_readText_133 ?_
                refine V_bast (ws' := [(m, .inr (10, mF R v0 v7 v8 v9 (0 : Int32) p3 p3 (0 : Int32) z3 v27 v31 v32 v33 v34 v38 v42 v44)), ((R 14), .inl (Y 2, 120, .inl a14)), ((R 20), .inl (Y 2, 260, .inl (upd h20 (0 + k) (vp_nar .byte (h20 (130 + k)))))), ((R 21), .inl (Y 0, 260, .inl h21)), ((R 22), .inl (Y 0, 2, .inl g22)), ((R 23), .inl (Y 3, 122, .inl g23)), ((R 24), .inl (Y 3, 122, .inl g24))]) X 2 (0 + k) rfl tx_62 (by omega) rfl dX11_readText_134 ?_
                refine V_aload_n X 0 rfl dX11_readText_135 ?_
                refine V_get (C := RX11) (T := TX11) (N := 50) (ci := 10) (v := .ref (R 21)) X in_X11_readText_X11 0 rfl rfl 21 (by decide) (List.mem_of_getElem? (i := 8) rfl) rfl rfl dX11_readText_136 ?_
                refine V_sipush (v := (130 : Int32)) X (by decide) dX11_readText_139 ?_
                refine V_iload_n X 1 rfl dX11_readText_142 ?_
                refine V_imulZ X (show (130 : Int32).toInt = 130 from by decide) (show (0 : Int32).toInt = 0 from by decide) (by omega) (by omega) dX11_readText_143 (fun x_64 ex_64 tx_64 => ?_)
                have tx_64 : x_64.toInt = (((130 * 0) : Nat) : Int) := by omega
                obtain rfl : x_64 = (0 : Int32) := ex_64.trans (by decide)
                refine V_iload_n X 2 rfl dX11_readText_144 ?_
                refine V_iaddZ X (show (0 : Int32).toInt = 0 from by decide) ti2 (by omega) (by omega) dX11_readText_145 (fun x_65 ex_65 tx_65 => ?_)
                have tx_65 : x_65.toInt = (((0 + k) : Nat) : Int) := by omega
                refine V_aload_n X 0 rfl dX11_readText_146 ?_
                refine V_get (C := RX11) (T := TX11) (N := 50) (ci := 10) (v := .ref (R 21)) X in_X11_readText_X11 0 rfl rfl 21 (by decide) (List.mem_of_getElem? (i := 8) rfl) rfl rfl dX11_readText_147 ?_
                refine V_sipush (v := (130 : Int32)) X (by decide) dX11_readText_150 ?_
                refine V_iload_n X 2 rfl dX11_readText_153 ?_
                refine V_iaddZ X (show (130 : Int32).toInt = 130 from by decide) ti2 (by omega) (by omega) dX11_readText_154 (fun x_66 ex_66 tx_66 => ?_)
                have tx_66 : x_66.toInt = (((130 + k) : Nat) : Int) := by omega
                refine V_iald X 3 (130 + k) rfl tx_66 (by omega) dX11_readText_155 ?_
                refine V_iast (ws' := [(m, .inr (10, mF R v0 v7 v8 v9 (0 : Int32) p3 p3 (0 : Int32) z3 v27 v31 v32 v33 v34 v38 v42 v44)), ((R 14), .inl (Y 2, 120, .inl a14)), ((R 20), .inl (Y 2, 260, .inl (upd h20 (0 + k) (vp_nar .byte (h20 (130 + k)))))), ((R 21), .inl (Y 0, 260, .inl (upd h21 (0 + k) (h21 (130 + k))))), ((R 22), .inl (Y 0, 2, .inl g22)), ((R 23), .inl (Y 3, 122, .inl g23)), ((R 24), .inl (Y 3, 122, .inl g24))]) X 3 (0 + k) rfl tx_65 (by omega) rfl dX11_readText_156 ?_
                refine V_iincZ X (fun vv_ => [(2, .int vv_), (0, .ref m), (1, .int (0 : Int32))]) ti2 (by omega) (by omega) (by decide) 2 rfl (by decide) (fun _ => rfl) dX11_readText_157 (fun x_67 ex_67 tx_67 => ?_)
                have tx_67 : x_67.toInt = (((k + 1) : Nat) : Int) := by omega
                refine V_goto X 105 (by decide) dX11_readText_160 ?_
                refine V_ls (ls' := [(0, .ref m), (1, .int (0 : Int32)), (2, .int x_67)]) [1, 2, 0] rfl ?_
                exact V_to (ih_105 x_67 (k + 1) (upd h20 (0 + k) (vp_nar .byte (h20 (130 + k)))) (upd h21 (0 + k) (h21 (130 + k))) ⟨(by omega), (by omega), (fun j hj => by unfold upd; by_cases e : j = 0 + k; (rw [if_pos e, if_pos e, e, hv20, (hc2 (130 + k) (by omega)).1, (hc2 (130 + k) (by omega)).2]; constructor <;> congr 1 <;> omega); (rw [if_neg e, if_neg e]; exact hc1 j (by omega))), (fun j hj => by unfold upd; rw [if_neg (by omega), if_neg (by omega)]; exact hc2 j hj)⟩ (by omega)) rfl rfl rfl rfl
            · exact ⟨(by have h9 : (0 : Int32).toInt = 0 := (show (0 : Int32).toInt = 0 from by decide); omega), (by omega), (fun j hj => absurd hj (Nat.not_lt_zero j)), (fun j _ => ⟨rfl, rfl⟩)⟩
          · refine V_aload_n X 0 rfl dX11_readText_98 ?_
            refine V_get (C := RX11) (T := TX11) (N := 50) (ci := 10) (v := .int p3) X in_X11_readText_X11 6 rfl rfl 17 (by decide) (List.mem_of_getElem? (i := 2) rfl) rfl rfl dX11_readText_99 ?_
            refine V_ws (ws' := [(m, .inr (10, mF R v0 v7 v8 v9 (0 : Int32) p3 p3 (0 : Int32) z3 v27 v31 v32 v33 v34 v38 v42 v44)), ((R 14), .inl (Y 2, 120, .inl a14)), ((R 20), .inl (Y 2, 260, .inl g20)), ((R 21), .inl (Y 0, 260, .inl g21)), ((R 22), .inl (Y 0, 2, .inl g22)), ((R 23), .inl (Y 3, 122, .inl g23)), ((R 24), .inl (Y 3, 122, .inl g24))]) [6, 5, 0, 1, 2, 3, 4] rfl rfl rfl ?_
            exact V_iret X hr dX11_readText_102 (Or.inr (⟨p3, q3, p3, p3, (0 : Int32), z3, g20, g21, g22, g23, g24, rfl, rfl, tp3, (Or.inr ⟨ls3, hPx, by omega⟩), (by omega), hMC3.2.1, hML3.1⟩))
      · have hc59 : c q3 = 59 := by omega
        have hqlt := MCHR_lt hCH (show c q3 ≠ -1 by omega)
        refine V_aload_n X 0 rfl dX11_readText_47 ?_
        refine V_dup X rfl dX11_readText_48 ?_
        refine V_get (C := RX11) (T := TX11) (N := 50) (ci := 10) (v := .int p3) X in_X11_readText_X11 5 rfl rfl 16 (by decide) (List.mem_of_getElem? (i := 1) rfl) rfl rfl dX11_readText_49 ?_
        refine V_iconst (v := (1 : Int32)) X (by decide) dX11_readText_52 ?_
        refine V_iaddZ X tp3 (show (1 : Int32).toInt = 1 from by decide) (by omega) (by omega) dX11_readText_53 (fun x_68 ex_68 tx_68 => ?_)
        have tx_68 : x_68.toInt = (((q3 + 1) : Nat) : Int) := by omega
        refine V_put (C := RX11) (T := TX11) (N := 50) (ci := 10) (v := .int x_68) (ty := tyX11 16) (ws' := [((R 20), .inl (Y 2, 260, .inl g20)), ((R 21), .inl (Y 0, 260, .inl g21)), ((R 22), .inl (Y 0, 2, .inl g22)), ((R 23), .inl (Y 3, 122, .inl g23)), ((R 24), .inl (Y 3, 122, .inl g24)), (m, .inr (10, mF R v0 v7 v8 v9 v15 x_68 (-1 : Int32) (0 : Int32) z3 v27 v31 v32 v33 v34 v38 v42 v44)), ((R 14), .inl (Y 2, 120, .inl a14))]) X in_X11_readText_X11 5 rfl rfl 16 (by decide) (List.mem_of_getElem? (i := 1) rfl) rfl tyX11 tyX11_ok nmX11 rfl (tyX11_ok 16 (by decide)) rfl rfl (Nat.le_of_ble_eq_true rfl) rfl dX11_readText_54 ?_
        refine V_aload_n X 0 rfl dX11_readText_57 ?_
        refine V_callV (C := RX11) (wr := []) (st := []) X (c_X11_oneLine l D Y m R v0 v7 v8 v9 v15 x_68 (-1 : Int32) (0 : Int32) z3 v27 v31 v32 v33 v34 v38 v42 v44 a14 g20 g21 L c (q3 + 1) a20 a21 (mcT ls3) 0 g22 g23 g24 (a22 0) a23 a24 ls3 tv15 tx_68 hL (by omega) hCH (by decide) hMC3 (by decide) (by omega) hML3 (by omega) rfl rfl) 0 gX11_readText_X11_oneLine rfl (by decide +kernel) ⟨rfl, rfl⟩ ⟨Nat.le_of_ble_eq_true rfl, Nat.le_of_ble_eq_true rfl⟩ [5, 6, 0, 1, 2, 3, 4] [] rfl rfl rfl rfl (by decide) (ci := 10) rfl rfl 0 rfl rfl rfl (Nat.le_of_ble_eq_true rfl) ⟨Nat.le_of_ble_eq_true rfl, Nat.le_of_ble_eq_true rfl⟩ dX11_readText_58 (fun v_58 w_58 h_58 => ?_)
        rcases h_58 with ⟨q_g, x_g, z16_g, z19_g, b20_g, b21_g, b22_g, b23_g, b24_g, rfl, rfl, tz16_g, hR_g, hqb_g, hMC2_g, hML2_g⟩ | ⟨q_g, z16_g, z17_g, z18_g, z19_g, b20_g, b21_g, b22_g, b23_g, b24_g, rfl, rfl, tz16_g, tz17_g, hR_g, hqL_g, hLO2_g, hLI2_g⟩
        · refine V_to (pc' := 61) (ls' := [(0, .ref m), (1, .int (0 : Int32))]) (st' := []) (ws' := [(m, .inr (10, mF R v0 v7 v8 v9 v15 z16_g (-1 : Int32) (0 : Int32) z19_g v27 v31 v32 v33 v34 v38 v42 v44)), ((R 14), .inl (Y 2, 120, .inl a14)), ((R 20), .inl (Y 2, 260, .inl b20_g)), ((R 21), .inl (Y 0, 260, .inl b21_g)), ((R 22), .inl (Y 0, 2, .inl b22_g)), ((R 23), .inl (Y 3, 122, .inl b23_g)), ((R 24), .inl (Y 3, 122, .inl b24_g))]) ?_ rfl rfl rfl rfl
          refine V_goto X 31 (by decide) dX11_readText_61 ?_
          exact V_to (ih_31 (i + 1) z16_g q_g z19_g b20_g b21_g b22_g b23_g b24_g (ls3 ++ [x_g]) ⟨tz16_g, (by rw [List.length_append, List.length_singleton]; omega), (by rw [mcT_s]; exact hqb_g.2.2), (by rw [mcT_s]; exact hMC2_g), hML2_g, (by rw [mcT_s]; exact RG_app hRG3 (RG_L hR_g)), (by rw [show 120 - (i + 1) = 120 - i - 1 by omega]; exact pTx_y hP3 (by omega) hc59 hR_g)⟩ (by omega)) rfl rfl rfl rfl
        · refine V_to (pc' := 61) (ls' := [(0, .ref m), (1, .int (0 : Int32))]) (st' := []) (ws' := [(m, .inr (10, mF R v0 v7 v8 v9 v15 z16_g z17_g z18_g z19_g v27 v31 v32 v33 v34 v38 v42 v44)), ((R 14), .inl (Y 2, 120, .inl a14)), ((R 20), .inl (Y 2, 260, .inl b20_g)), ((R 21), .inl (Y 0, 260, .inl b21_g)), ((R 22), .inl (Y 0, 2, .inl b22_g)), ((R 23), .inl (Y 3, 122, .inl b23_g)), ((R 24), .inl (Y 3, 122, .inl b24_g))]) ?_ rfl rfl rfl rfl
          refine V_goto X 31 (by decide) dX11_readText_61 ?_
          refine V_aload_n X 0 rfl dX11_readText_31 ?_
          refine V_get (C := RX11) (T := TX11) (N := 50) (ci := 10) (v := .int z17_g) X in_X11_readText_X11 0 rfl rfl 17 (by decide) (List.mem_of_getElem? (i := 2) rfl) rfl rfl dX11_readText_32 ?_
          refine V_if_ge X tz17_g 64 dX11_readText_35 (by decide) (fun c_35 => ?_) (fun c_35 => False.elim (by omega))
          refine V_aload_n X 0 rfl dX11_readText_64 ?_
          refine V_get (C := RX11) (T := TX11) (N := 50) (ci := 10) (v := .int z17_g) X in_X11_readText_X11 0 rfl rfl 17 (by decide) (List.mem_of_getElem? (i := 2) rfl) rfl rfl dX11_readText_65 ?_
          refine V_if_ge X tz17_g 86 dX11_readText_68 (by decide) (fun c_68 => ?_) (fun c_68 => False.elim (by omega))
          refine V_aload_n X 0 rfl dX11_readText_86 ?_
          refine V_iconst (v := (0 : Int32)) X (by decide) dX11_readText_87 ?_
          refine V_put (C := RX11) (T := TX11) (N := 50) (ci := 10) (v := .int (0 : Int32)) (ty := tyX11 15) (ws' := [(m, .inr (10, mF R v0 v7 v8 v9 (0 : Int32) z16_g z17_g z18_g z19_g v27 v31 v32 v33 v34 v38 v42 v44)), ((R 14), .inl (Y 2, 120, .inl a14)), ((R 20), .inl (Y 2, 260, .inl b20_g)), ((R 21), .inl (Y 0, 260, .inl b21_g)), ((R 22), .inl (Y 0, 2, .inl b22_g)), ((R 23), .inl (Y 3, 122, .inl b23_g)), ((R 24), .inl (Y 3, 122, .inl b24_g))]) X in_X11_readText_X11 0 rfl rfl 15 (by decide) (List.mem_of_getElem? (i := 6) rfl) rfl tyX11 tyX11_ok nmX11 rfl (tyX11_ok 15 (by decide)) rfl rfl (Nat.le_of_ble_eq_true rfl) rfl dX11_readText_88 ?_
          refine V_aload_n X 0 rfl dX11_readText_91 ?_
          refine V_get (C := RX11) (T := TX11) (N := 50) (ci := 10) (v := .int z17_g) X in_X11_readText_X11 0 rfl rfl 17 (by decide) (List.mem_of_getElem? (i := 2) rfl) rfl rfl dX11_readText_92 ?_
          refine V_if_lt X tz17_g 103 dX11_readText_95 (by decide) (fun c_95 => False.elim (by omega)) (fun c_95 => ?_)
          refine V_aload_n X 0 rfl dX11_readText_98 ?_
          refine V_get (C := RX11) (T := TX11) (N := 50) (ci := 10) (v := .int z17_g) X in_X11_readText_X11 0 rfl rfl 17 (by decide) (List.mem_of_getElem? (i := 2) rfl) rfl rfl dX11_readText_99 ?_
          exact V_iret X hr dX11_readText_102 (Or.inr (⟨z17_g, q_g, z16_g, z17_g, z18_g, z19_g, b20_g, b21_g, b22_g, b23_g, b24_g, rfl, rfl, tz17_g, (Or.inl (pTx_n hP3 (by omega) hc59 hR_g)), hqL_g, hLO2_g, hLI2_g⟩))
    · exact ⟨tz16_f, ⟨Nat.zero_le _, rfl, by show 2 * 1 ≤ _; omega, hqb_f.2.1⟩, (by have h9 := hqb_f.2.2; rw [List.nil_append] at h9; rw [show mcT [x_f] = mcodeL x_f ++ [] from rfl, List.append_nil]; exact h9), (by have h9 := hMC2_f; rw [List.nil_append] at h9; rw [show mcT [x_f] = mcodeL x_f ++ [] from rfl, List.append_nil]; exact h9), hML2_f, (by rw [show mcT [x_f] = mcodeL x_f ++ [] from rfl, List.append_nil]; exact RG_L hR_f), (pAll_s hR_f).symm⟩
  · refine V_to (pc' := 31) (ls' := [(0, .ref m), (1, .int (0 : Int32))]) (st' := []) (ws' := [(m, .inr (10, mF R v0 v7 v8 v9 v15 z16_f z17_f z18_f z19_f v27 v31 v32 v33 v34 v38 v42 v44)), ((R 14), .inl (Y 2, 120, .inl a14)), ((R 20), .inl (Y 2, 260, .inl b20_f)), ((R 21), .inl (Y 0, 260, .inl b21_f)), ((R 22), .inl (Y 0, 2, .inl b22_f)), ((R 23), .inl (Y 3, 122, .inl b23_f)), ((R 24), .inl (Y 3, 122, .inl b24_f))]) ?_ rfl rfl rfl rfl
    refine V_aload_n X 0 rfl dX11_readText_31 ?_
    refine V_get (C := RX11) (T := TX11) (N := 50) (ci := 10) (v := .int z17_f) X in_X11_readText_X11 0 rfl rfl 17 (by decide) (List.mem_of_getElem? (i := 2) rfl) rfl rfl dX11_readText_32 ?_
    refine V_if_ge X tz17_f 64 dX11_readText_35 (by decide) (fun c_35 => ?_) (fun c_35 => False.elim (by omega))
    refine V_aload_n X 0 rfl dX11_readText_64 ?_
    refine V_get (C := RX11) (T := TX11) (N := 50) (ci := 10) (v := .int z17_f) X in_X11_readText_X11 0 rfl rfl 17 (by decide) (List.mem_of_getElem? (i := 2) rfl) rfl rfl dX11_readText_65 ?_
    refine V_if_ge X tz17_f 86 dX11_readText_68 (by decide) (fun c_68 => ?_) (fun c_68 => False.elim (by omega))
    refine V_aload_n X 0 rfl dX11_readText_86 ?_
    refine V_iconst (v := (0 : Int32)) X (by decide) dX11_readText_87 ?_
    refine V_put (C := RX11) (T := TX11) (N := 50) (ci := 10) (v := .int (0 : Int32)) (ty := tyX11 15) (ws' := [(m, .inr (10, mF R v0 v7 v8 v9 (0 : Int32) z16_f z17_f z18_f z19_f v27 v31 v32 v33 v34 v38 v42 v44)), ((R 14), .inl (Y 2, 120, .inl a14)), ((R 20), .inl (Y 2, 260, .inl b20_f)), ((R 21), .inl (Y 0, 260, .inl b21_f)), ((R 22), .inl (Y 0, 2, .inl b22_f)), ((R 23), .inl (Y 3, 122, .inl b23_f)), ((R 24), .inl (Y 3, 122, .inl b24_f))]) X in_X11_readText_X11 0 rfl rfl 15 (by decide) (List.mem_of_getElem? (i := 6) rfl) rfl tyX11 tyX11_ok nmX11 rfl (tyX11_ok 15 (by decide)) rfl rfl (Nat.le_of_ble_eq_true rfl) rfl dX11_readText_88 ?_
    refine V_aload_n X 0 rfl dX11_readText_91 ?_
    refine V_get (C := RX11) (T := TX11) (N := 50) (ci := 10) (v := .int z17_f) X in_X11_readText_X11 0 rfl rfl 17 (by decide) (List.mem_of_getElem? (i := 2) rfl) rfl rfl dX11_readText_92 ?_
    refine V_if_lt X tz17_f 103 dX11_readText_95 (by decide) (fun c_95 => False.elim (by omega)) (fun c_95 => ?_)
    refine V_aload_n X 0 rfl dX11_readText_98 ?_
    refine V_get (C := RX11) (T := TX11) (N := 50) (ci := 10) (v := .int z17_f) X in_X11_readText_X11 0 rfl rfl 17 (by decide) (List.mem_of_getElem? (i := 2) rfl) rfl rfl dX11_readText_99 ?_
    exact V_iret X hr dX11_readText_102 (Or.inr (⟨z17_f, q_f, z16_f, z17_f, z18_f, z19_f, b20_f, b21_f, b22_f, b23_f, b24_f, rfl, rfl, tz17_f, (Or.inl (pAll_n hR_f)), hqL_f, hLO2_f, hLI2_f⟩))

theorem in_X11_law_X11 : ∀ w ∈ wsX110, w ∈ wsX11_law := fun w h => List.mem_cons_of_mem _ (List.mem_append_right _ h)
set_option maxHeartbeats 4000000 in
set_option maxRecDepth 100000 in
theorem c_X11_law (l : Launch) (D : va_G) (Y : Nat → ClassId) (m : Nat) (R : Nat → Nat) (v0 : Int32) (v7 : Int32) (v8 : Int32) (v9 : Int32) (v15 : Int32) (v16 : Int32) (v17 : Int32) (v18 : Int32) (v19 : Int32) (v27 : Int32) (v31 : Int32) (v32 : Int32) (v33 : Int32) (v34 : Int32) (v38 : Int32) (v42 : Int32) (v44 : Int32) (a14 : Nat → Int32) (a20 : Nat → Int32) (a21 : Nat → Int32) (a22 : Nat → Int32) (a23 : Nat → Int32) (a24 : Nat → Int32) (L : Nat) (c : Nat → Int) (tv15 : v15.toInt = ((L : Nat) : Int)) (hL : L ≤ 120) (hCH : MCHR a14 L c) : Mg l yX11_law wsX11_law ({ frames := 48, cells := 0, slots := 0, locals := 1035 }) D Y [(m, .inr (10, mF R v0 v7 v8 v9 v15 v16 v17 v18 v19 v27 v31 v32 v33 v34 v38 v42 v44)), ((R 14), .inl (Y 2, 120, .inl a14)), ((R 20), .inl (Y 2, 260, .inl a20)), ((R 21), .inl (Y 0, 260, .inl a21)), ((R 22), .inl (Y 0, 2, .inl a22)), ((R 23), .inl (Y 3, 122, .inl a23)), ((R 24), .inl (Y 3, 122, .inl a24))] [.ref m] 0 0 (fun vv__ ww__ => (∃ (ls : List Lin), ∃ (z16 : Int32), ∃ (z17 : Int32), ∃ (z18 : Int32), ∃ (z19 : Int32), ∃ (b20 : Nat → Int32), ∃ (b21 : Nat → Int32), ∃ (b22 : Nat → Int32), ∃ (b23 : Nat → Int32), ∃ (b24 : Nat → Int32), vv__ = some (.int (1 : Int32)) ∧ ww__ = [(m, .inr (10, mF R v0 v7 v8 v9 (0 : Int32) z16 z17 z18 z19 (1 : Int32) v31 v32 v33 v34 v38 v42 v44)), ((R 14), .inl (Y 2, 120, .inl a14)), ((R 20), .inl (Y 2, 260, .inl b20)), ((R 21), .inl (Y 0, 260, .inl b21)), ((R 22), .inl (Y 0, 2, .inl b22)), ((R 23), .inl (Y 3, 122, .inl b23)), ((R 24), .inl (Y 3, 122, .inl b24))] ∧ (pAll c = (L, some ls)) ∧ (MLW b20 b21 b22 b23 b24 ls)) ∨ (∃ (r : Int32), ∃ (q : Nat), ∃ (z16 : Int32), ∃ (z17 : Int32), ∃ (z18 : Int32), ∃ (z19 : Int32), ∃ (b20 : Nat → Int32), ∃ (b21 : Nat → Int32), ∃ (b22 : Nat → Int32), ∃ (b23 : Nat → Int32), ∃ (b24 : Nat → Int32), vv__ = some (.int r) ∧ ww__ = [(m, .inr (10, mF R v0 v7 v8 v9 (0 : Int32) z16 z17 z18 z19 v27 v31 v32 v33 v34 v38 v42 v44)), ((R 14), .inl (Y 2, 120, .inl a14)), ((R 20), .inl (Y 2, 260, .inl b20)), ((R 21), .inl (Y 0, 260, .inl b21)), ((R 22), .inl (Y 0, 2, .inl b22)), ((R 23), .inl (Y 3, 122, .inl b23)), ((R 24), .inl (Y 3, 122, .inl b24))] ∧ (r.toInt = -100 - ((q : Nat) : Int)) ∧ (pAll c = (q, none) ∨ ∃ ls, pAll c = (q, some ls) ∧ q < L) ∧ (q ≤ L) ∧ (LO a20 a21 b20 b21) ∧ (LIO (a22 0) a23 a24 b22 b23 b24))) := by
  refine Mg_of (cc := cX11_law) (maxL := 2) (ret := (some .int)) (ls0 := [(0, .ref m)]) RX11 (by decide) rfl rfl rfl (Nat.le_of_ble_eq_true rfl) (fun p__ e__ s__ m__ b__ t__ c__ X hr hn => ?_)
  refine V_aload_n X 0 rfl dX11_law_0 ?_
  refine V_iconst (v := (0 : Int32)) X (by decide) dX11_law_1 ?_
  refine V_callV (C := RX11) (wr := []) (st := []) X (c_X11_readText l D Y m R v0 v7 v8 v9 v15 v16 v17 v18 v19 v27 v31 v32 v33 v34 v38 v42 v44 a14 a20 a21 a22 a23 a24 L c tv15 hL hCH) 1 gX11_law_X11_readText rfl (by decide +kernel) ⟨rfl, rfl⟩ ⟨Nat.le_of_ble_eq_true rfl, Nat.le_of_ble_eq_true rfl⟩ [0, 1, 2, 3, 4, 5, 6] [] rfl rfl rfl rfl (by decide) (ci := 10) rfl rfl 0 rfl rfl rfl (Nat.le_of_ble_eq_true rfl) ⟨Nat.le_of_ble_eq_true rfl, Nat.le_of_ble_eq_true rfl⟩ dX11_law_2 (fun v_2 w_2 h_2 => ?_)
  rcases h_2 with ⟨ls_w, z16_3, z17_4, z18_5, z19_6, b20_7, b21_8, b22_9, b23_10, b24_11, rfl, rfl, hhR_12, hhMW_13⟩ | ⟨r_14, q_w, z16_16, z17_17, z18_18, z19_19, b20_20, b21_21, b22_22, b23_23, b24_24, rfl, rfl, htr_25, hhR_26, hhqL_27, hhLO2_28, hhLI2_29⟩
  · refine V_to (pc' := 5) (ls' := [(0, .ref m)]) (st' := [.int (-1 : Int32)]) (ws' := [(m, .inr (10, mF R v0 v7 v8 v9 (0 : Int32) z16_3 z17_4 z18_5 z19_6 v27 v31 v32 v33 v34 v38 v42 v44)), ((R 14), .inl (Y 2, 120, .inl a14)), ((R 20), .inl (Y 2, 260, .inl b20_7)), ((R 21), .inl (Y 0, 260, .inl b21_8)), ((R 22), .inl (Y 0, 2, .inl b22_9)), ((R 23), .inl (Y 3, 122, .inl b23_10)), ((R 24), .inl (Y 3, 122, .inl b24_11))]) ?_ rfl rfl rfl rfl
    refine V_istore_n (ls' := [(1, .int (-1 : Int32)), (0, .ref m)]) X (by decide) rfl dX11_law_5 ?_
    refine V_iload_n X 0 rfl dX11_law_6 ?_
    refine V_if_lt X (show (-1 : Int32).toInt = (-1) from by decide) 15 dX11_law_7 (by decide) (fun _ => ?_) (fun c_7 => absurd c_7 (by decide))
    refine V_aload_n X 1 rfl dX11_law_15 ?_
    refine V_iconst (v := (1 : Int32)) X (by decide) dX11_law_16 ?_
    refine V_put (C := RX11) (T := TX11) (N := 50) (ci := 10) (v := .int (1 : Int32)) (ty := tyX11 27) (ws' := [(m, .inr (10, mF R v0 v7 v8 v9 (0 : Int32) z16_3 z17_4 z18_5 z19_6 (1 : Int32) v31 v32 v33 v34 v38 v42 v44)), ((R 14), .inl (Y 2, 120, .inl a14)), ((R 20), .inl (Y 2, 260, .inl b20_7)), ((R 21), .inl (Y 0, 260, .inl b21_8)), ((R 22), .inl (Y 0, 2, .inl b22_9)), ((R 23), .inl (Y 3, 122, .inl b23_10)), ((R 24), .inl (Y 3, 122, .inl b24_11))]) X in_X11_law_X11 0 rfl rfl 27 (by decide) (List.mem_of_getElem? (i := 1) rfl) rfl tyX11 tyX11_ok nmX11 rfl (tyX11_ok 27 (by decide)) rfl rfl (Nat.le_of_ble_eq_true rfl) rfl dX11_law_17 ?_
    refine V_iconst (v := (1 : Int32)) X (by decide) dX11_law_20 ?_
    exact V_iret X hr dX11_law_21 (Or.inl ⟨ls_w, z16_3, z17_4, z18_5, z19_6, b20_7, b21_8, b22_9, b23_10, b24_11, rfl, rfl, hhR_12, hhMW_13⟩)
  · refine V_to (pc' := 5) (ls' := [(0, .ref m)]) (st' := [.int r_14]) (ws' := [(m, .inr (10, mF R v0 v7 v8 v9 (0 : Int32) z16_16 z17_17 z18_18 z19_19 v27 v31 v32 v33 v34 v38 v42 v44)), ((R 14), .inl (Y 2, 120, .inl a14)), ((R 20), .inl (Y 2, 260, .inl b20_20)), ((R 21), .inl (Y 0, 260, .inl b21_21)), ((R 22), .inl (Y 0, 2, .inl b22_22)), ((R 23), .inl (Y 3, 122, .inl b23_23)), ((R 24), .inl (Y 3, 122, .inl b24_24))]) ?_ rfl rfl rfl rfl
    refine V_istore_n (ls' := [(1, .int r_14), (0, .ref m)]) X (by decide) rfl dX11_law_5 ?_
    refine V_iload_n X 0 rfl dX11_law_6 ?_
    refine V_if_lt X htr_25 15 dX11_law_7 (by decide) (fun c_7 => False.elim (by omega)) (fun c_7 => ?_)
    refine V_bipush (v := (-100 : Int32)) X (by decide) dX11_law_10 ?_
    refine V_iload_n X 0 rfl dX11_law_12 ?_
    refine V_isubZ X (show (-100 : Int32).toInt = (-100) from by decide) htr_25 (by omega) (by omega) dX11_law_13 (fun x_30 ex_30 tx_30 => ?_)
    exact V_iret X hr dX11_law_14 (Or.inr (⟨x_30, q_w, z16_16, z17_17, z18_18, z19_19, b20_20, b21_21, b22_22, b23_23, b24_24, rfl, rfl, (by omega), hhR_26, hhqL_27, hhLO2_28, hhLI2_29⟩))
