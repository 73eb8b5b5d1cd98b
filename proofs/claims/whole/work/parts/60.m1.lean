
/-! ===== both sides: the steps of a law give what its LINES say ===== -/
theorem pLp_len {c : Nat → Int} {sub : Nat → PRs} {lev : Nat} (hs : ∀ p q t, sub p = (q, some t) → p + t.length ≤ q) : ∀ (n q : Nat) (ts : List Tok) (q2 : Nat) (t2 : List Tok) (p0 : Nat), p0 + ts.length ≤ q → pLp c sub lev n q ts = (q2, some t2) → p0 + t2.length ≤ q2
  | 0, q, ts, q2, t2, p0, h, e => by cases e; exact h
  | n + 1, q, ts, q2, t2, p0, h, e => by
    rw [pLp] at e
    by_cases hc : lvC (c q) = (lev : Int)
    · rw [if_pos hc] at e
      obtain ⟨q1, t1, e1, e2⟩ := pBd_some e
      have e3 : (if lev = 2 then (q1, some (ts ++ t1 ++ [(c q, 0)])) else pLp c sub lev n q1 (ts ++ t1 ++ [(c q, 0)])) = (q2, some t2) := e2
      have h1 : p0 + (ts ++ t1 ++ [(c q, (0 : Int))]).length ≤ q1 := by
        have := hs _ _ _ e1
        rw [List.length_append, List.length_append, List.length_singleton]; omega
      by_cases h2 : lev = 2
      · rw [if_pos h2] at e3; cases e3; exact h1
      · rw [if_neg h2] at e3; exact pLp_len hs n q1 _ q2 t2 p0 h1 e3
    · rw [if_neg hc] at e; cases e; exact h
theorem pDg_ge (c : Nat → Int) : ∀ (n q : Nat) (v : Int), q ≤ (pDg c n q v).1
  | 0, q, v => Nat.le_refl _
  | n + 1, q, v => by
    rw [pDg]
    by_cases hd : 48 ≤ c q ∧ c q ≤ 57
    · rw [if_pos hd]; have := pDg_ge c n (q + 1) (v * 10 + c q - 48); omega
    · rw [if_neg hd]; exact Nat.le_refl _
theorem pFig_len {c : Nat → Int} {pos q : Nat} {ts : List Tok} (hd : 48 ≤ c pos ∧ c pos ≤ 57) (h : pFig c pos = (q, some ts)) : pos + ts.length ≤ q := by
  have h1 : pos + 1 ≤ (pDg c 4 pos 0).1 := by
    rw [pDg, if_pos hd]; exact pDg_ge c 3 (pos + 1) _
  unfold pFig at h
  by_cases he : 48 ≤ c (pDg c 4 pos 0).1 ∧ c (pDg c 4 pos 0).1 ≤ 57
  · rw [if_pos he] at h; cases h
  · rw [if_neg he] at h; cases h; exact h1
theorem pT_len (c : Nat → Int) (k : Nat) : (∀ pos q ts, pOp c k pos = (q, some ts) → pos + ts.length ≤ q) ∧ ∀ j pos q ts, pTm c (pOp c k) j pos = (q, some ts) → pos + ts.length ≤ q := by
  have hT : ∀ (po : Nat → PRs), (∀ pos q ts, po pos = (q, some ts) → pos + ts.length ≤ q) → ∀ j pos q ts, pTm c po j pos = (q, some ts) → pos + ts.length ≤ q := by
    intro po hpo j
    induction j with
    | zero => exact hpo
    | succ j ih =>
      intro pos q ts h
      obtain ⟨q1, t1, e1, e2⟩ := pBd_some (show pBd _ _ = _ from h)
      exact pLp_len ih _ _ _ _ _ _ (ih _ _ _ e1) e2
  have key : ∀ pos q ts, pOp c k pos = (q, some ts) → pos + ts.length ≤ q := by
    induction k with
    | zero =>
      intro pos q ts h
      have h' : (if 48 ≤ c pos ∧ c pos ≤ 57 then pFig c pos else if 0 ≤ nmC (c pos) then (pos + 1, some [(97, nmC (c pos))]) else (pos, none)) = (q, some ts) := h
      by_cases h1 : 48 ≤ c pos ∧ c pos ≤ 57
      · rw [if_pos h1] at h'; exact pFig_len h1 h'
      · rw [if_neg h1] at h'
        by_cases h2 : 0 ≤ nmC (c pos)
        · rw [if_pos h2] at h'; cases h'; exact Nat.le_refl _
        · rw [if_neg h2] at h'; cases h'
    | succ k ih =>
      intro pos q ts h
      by_cases h1 : 48 ≤ c pos ∧ c pos ≤ 57
      · rw [pOp_d h1] at h; exact pFig_len h1 h
      · by_cases h2 : 0 ≤ nmC (c pos)
        · rw [pOp_n h1 h2] at h; cases h; exact Nat.le_refl _
        · by_cases h3 : c pos = 40
          · rw [pOp_p h3] at h
            obtain ⟨q1, t1, e1, e2⟩ := pBd_some (show pBd _ _ = _ from h)
            have e3 : (if c q1 = 41 then (q1 + 1, some t1) else (q1, none)) = (q, some ts) := e2
            have e4 := hT _ ih _ _ _ _ e1
            by_cases h4 : c q1 = 41
            · rw [if_pos h4] at e3; cases e3; omega
            · rw [if_neg h4] at e3; cases e3
          · by_cases h4 : c pos = 33 ∨ c pos = 45
            · rw [pOp_u h4] at h
              obtain ⟨q1, t1, e1, e2⟩ := pBd_some (show pBd _ _ = _ from h)
              have e4 := ih _ _ _ e1
              cases e2
              rw [List.length_append, List.length_singleton]; omega
            · rw [pOp_x h1 (by omega) (Or.inr ⟨h3, by omega, by omega⟩)] at h; cases h
  exact ⟨key, fun j => hT _ key j⟩
theorem pLn_len {c : Nat → Int} {pos q n : Nat} {x : Lin} (h : pLn c pos = (q, some x)) : pos + (codeL n x).length ≤ q + 1 := by
  unfold pLn at h
  split at h
  · cases h
  · rename_i q1 ts e
    have e0 := (pT_len c 6).2 5 pos q1 ts e
    split at h
    · split at h
      · cases h
      · rename_i q2 t2 e2
        have e3 := (pT_len c 6).2 5 (q1 + 1) q2 t2 e2
        cases h
        show pos + (ts ++ ((63, _) :: (t2 ++ [(59, 0)]))).length ≤ _
        rw [List.length_append, List.length_cons, List.length_append, List.length_singleton]; omega
    · cases h
      show pos + (ts ++ [((59 : Int), (0 : Int))]).length ≤ _
      rw [List.length_append, List.length_singleton]; omega
theorem pTx_len {c : Nat → Int} : ∀ (n q : Nat) (ls : List Lin) (q2 : Nat) (l2 : List Lin), (codeT ls).length ≤ q + 1 → pTx c n q ls = (q2, some l2) → (codeT l2).length ≤ q2 + 1
  | 0, q, ls, q2, l2, h, e => by cases e; exact h
  | n + 1, q, ls, q2, l2, h, e => by
    rw [pTx] at e
    by_cases hc : c q = 59
    · rw [if_pos hc] at e
      split at e
      · cases e
      · rename_i q1 x e1
        refine pTx_len n q1 _ q2 l2 ?_ e
        have := pLn_len (n := (codeT ls).length) e1
        rw [codeT_s, List.length_append]; omega
    · rw [if_neg hc] at e; cases e; exact h
theorem pAll_len {c : Nat → Int} {q : Nat} {ls : List Lin} (h : pAll c = (q, some ls)) : (codeT ls).length ≤ q + 1 := by
  unfold pAll at h
  split at h
  · cases h
  · rename_i q1 x e1
    refine pTx_len 120 q1 [x] q ls ?_ h
    have := pLn_len (n := 0) e1
    show ([] ++ codeL ([] : List Tok).length x).length ≤ _
    rw [List.nil_append]
    show (codeL 0 x).length ≤ _
    omega
/-- what a step of TERMS is -/
def TK (t : Tok) : Prop := t.1 = 48 ∨ (t.1 = 97 ∧ 0 ≤ t.2 ∧ t.2 < 6) ∨ t.1 = 33 ∨ t.1 = 126 ∨ 0 ≤ lvC t.1
theorem TK_pT {c : Nat → Int} {pos q : Nat} {ts : List Tok} (h : pT0 c pos = (q, some ts)) : ∀ t ∈ ts, TK t := by
  refine (pT_ind (c := c) (P := fun ts => ∀ t ∈ ts, TK t) ?_ ?_ ?_ ?_ 6).2 5 pos q ts h
  · intro v _ _ t ht; rw [List.mem_singleton] at ht; subst ht; exact Or.inl rfl
  · intro j hj t ht; rw [List.mem_singleton] at ht; subst ht; exact Or.inr (Or.inl ⟨rfl, hj, (nmC_big hj).2.2⟩)
  · intro a v ha hv t ht
    rcases List.mem_append.mp ht with g | g
    · exact ha t g
    · rw [List.mem_singleton] at g; subst g
      rcases hv with rfl | rfl
      · exact Or.inr (Or.inr (Or.inr (Or.inl rfl)))
      · exact Or.inr (Or.inr (Or.inl rfl))
  · intro a b e ha hb he t ht
    rcases List.mem_append.mp ht with g | g
    · rcases List.mem_append.mp g with g | g
      · exact ha t g
      · exact hb t g
    · rw [List.mem_singleton] at g; subst g; exact Or.inr (Or.inr (Or.inr (Or.inr he)))
def TKL : Lin → Prop
  | (none, ts) => OKT ts ∧ ∀ t ∈ ts, TK t
  | (some u, ts) => (OKT u ∧ ∀ t ∈ u, TK t) ∧ (OKT ts ∧ ∀ t ∈ ts, TK t)
theorem TKL_pLn {c : Nat → Int} {pos q : Nat} {x : Lin} (h : pLn c pos = (q, some x)) : TKL x := by
  unfold pLn at h
  split at h
  · cases h
  · rename_i q1 ts e
    split at h
    · split at h
      · cases h
      · rename_i q2 t2 e2; cases h; exact ⟨⟨OKT_pT e, TK_pT e⟩, ⟨OKT_pT e2, TK_pT e2⟩⟩
    · cases h; exact ⟨OKT_pT e, TK_pT e⟩
theorem TKL_pTx {c : Nat → Int} : ∀ (n q : Nat) (ls : List Lin) (q2 : Nat) (l2 : List Lin), (∀ x ∈ ls, TKL x) → pTx c n q ls = (q2, some l2) → ∀ x ∈ l2, TKL x
  | 0, q, ls, q2, l2, h, e => by cases e; exact h
  | n + 1, q, ls, q2, l2, h, e => by
    rw [pTx] at e
    by_cases hc : c q = 59
    · rw [if_pos hc] at e
      split at e
      · cases e
      · rename_i q1 x e1
        refine TKL_pTx n q1 _ q2 l2 ?_ e
        intro y hy
        rcases List.mem_append.mp hy with g | g
        · exact h y g
        · rw [List.mem_singleton] at g; subst g; exact TKL_pLn e1
    · rw [if_neg hc] at e; cases e; exact h
theorem TKL_pAll {c : Nat → Int} {q : Nat} {ls : List Lin} (h : pAll c = (q, some ls)) : ∀ x ∈ ls, TKL x := by
  unfold pAll at h
  split at h
  · cases h
  · rename_i q1 x e1
    refine TKL_pTx 120 q1 [x] q ls ?_ h
    intro y hy
    rw [List.mem_singleton] at hy; subst hy; exact TKL_pLn e1
/-! a stack -/
def STK (k : Nat → Int32) (tp : Nat) (s : List Int32) : Prop := tp = 2 + s.length ∧ ∀ i x, s[i]? = some x → k (tp - 1 - i) = x
theorem STK_push {k : Nat → Int32} {tp : Nat} {s : List Int32} (h : STK k tp s) (x : Int32) : STK (upd k tp x) (tp + 1) (x :: s) := by
  refine ⟨by rw [h.1, List.length_cons]; omega, fun i y hy => ?_⟩
  cases i with
  | zero => rw [List.getElem?_cons_zero] at hy; injection hy with hy; unfold upd; rw [if_pos (by omega)]; exact hy
  | succ i =>
    rw [List.getElem?_cons_succ] at hy
    have hi : i < s.length := (List.getElem?_eq_some_iff.mp hy).1
    have h1 := h.1
    unfold upd; rw [if_neg (by omega), show tp + 1 - 1 - (i + 1) = tp - 1 - i by omega]; exact h.2 i y hy
theorem STK_pop {k : Nat → Int32} {tp : Nat} {y : Int32} {s : List Int32} (h : STK k tp (y :: s)) : STK k (tp - 1) s := by
  have h1 := h.1
  rw [List.length_cons] at h1
  refine ⟨by omega, fun i x hx => ?_⟩
  rw [show tp - 1 - 1 - i = tp - 1 - (i + 1) by omega]
  exact h.2 (i + 1) x (by rw [List.getElem?_cons_succ]; exact hx)
theorem STK_at {k : Nat → Int32} {tp : Nat} {y : Int32} {s : List Int32} (h : STK k tp (y :: s)) : k (tp - 1) = y := h.2 0 y rfl
theorem STK_top {k : Nat → Int32} {tp : Nat} {y : Int32} {s : List Int32} (h : STK k tp (y :: s)) (x : Int32) : STK (upd k (tp - 1) x) tp (x :: s) := by
  have h1 := h.1
  rw [List.length_cons] at h1
  have h2 := STK_push (STK_pop h) x
  rw [show tp - 1 + 1 = tp by omega] at h2
  exact h2
theorem STK_op {k : Nat → Int32} {tp : Nat} {a b : Int32} {s : List Int32} (h : STK k tp (b :: a :: s)) (x : Int32) : STK (upd k (tp - 1 - 1) x) (tp - 1) (x :: s) := STK_top (STK_pop h) x
def SEG (fs fw : Nat → Int32) (a : Nat) (ts : List Tok) : Prop := ∀ j, j < ts.length → (fs (a + j)).toInt = (ts.getD j (0, 0)).1 ∧ (fw (a + j)).toInt = (ts.getD j (0, 0)).2
theorem SEG_l {fs fw : Nat → Int32} {a : Nat} {u v : List Tok} (h : SEG fs fw a (u ++ v)) : SEG fs fw a u := fun j hj => by
  have := h j (by rw [List.length_append]; omega)
  rw [gD_l hj] at this; exact this
theorem SEG_r {fs fw : Nat → Int32} {a : Nat} {u v : List Tok} (h : SEG fs fw a (u ++ v)) : SEG fs fw (a + u.length) v := fun j hj => by
  have := h (u.length + j) (by rw [List.length_append]; omega)
  rw [gD_r (by omega), show u.length + j - u.length = j by omega, ← Nat.add_assoc] at this; exact this
theorem SEG_h {fs fw : Nat → Int32} {a : Nat} {t : Tok} {v : List Tok} (h : SEG fs fw a (t :: v)) : (fs a).toInt = t.1 ∧ (fw a).toInt = t.2 := h 0 (Nat.succ_pos _)
theorem SEG_t {fs fw : Nat → Int32} {a : Nat} {t : Tok} {v : List Tok} (h : SEG fs fw a (t :: v)) : SEG fs fw (a + 1) v := SEG_r (u := [t]) h
theorem lvC_not {e : Int} (h : 0 ≤ lvC e) : e ≠ 33 ∧ e ≠ 48 ∧ e ≠ 59 ∧ e ≠ 63 ∧ e ≠ 97 ∧ e ≠ 126 ∧ e ≠ 1 ∧ e ≠ 2 ∧ e ≠ 3 ∧ e ≠ 4 := by
  refine ⟨?_, ?_, ?_, ?_, ?_, ?_, ?_, ?_, ?_, ?_⟩ <;> (intro q; subst q; exact absurd h (by decide))
theorem wk_seg {fs fw nm : Nat → Int32} {sz : Nat} : ∀ (ts : List Tok) (a fu tp : Nat) (nx : Int) (k : Nat → Int32) (s w : List Int32) (v : Int32), (∀ t ∈ ts, TK t) → SEG fs fw a ts → nx ≤ (a : Int) → STK k tp s → fu + a = sz + 1 → a + ts.length ≤ sz → tp ≤ 2 + a → a + ts.length ≤ 122 → evM nm (ts.map mkT) s = some w → wk fs fw nm sz fu a nx tp k = v → ∃ k', STK k' (2 + w.length) w ∧ 2 + w.length ≤ 2 + (a + ts.length) ∧ wk fs fw nm sz (fu - ts.length) (a + ts.length) nx (2 + w.length) k' = v
  | [], a, fu, tp, nx, k, s, w, v, hT, hS, hn, hK, hf, hz, htp, hb, he, hv => by
    cases he
    have := hK.1
    exact ⟨k, this ▸ hK, by omega, this ▸ hv⟩
  | t :: ts, a, fu, tp, nx, k, s, w, v, hT, hS, hn, hK, hf, hz, htp, hb, he, hv => by
    have h1 := SEG_h hS
    have h2 := SEG_t hS
    have hl := List.length_cons (a := t) (as := ts)
    rw [hl] at hz hb
    have hT2 : ∀ t ∈ ts, TK t := fun t ht => hT t (List.mem_cons_of_mem _ ht)
    have hk2 : 2 ≤ tp := by have := hK.1; omega
    have go : ∀ (tp' : Nat) (k' : Nat → Int32) (s' : List Int32), STK k' tp' s' → tp' ≤ tp + 1 → evM nm (ts.map mkT) s' = some w → wk fs fw nm sz (fu - 1) (a + 1) nx tp' k' = v → ∃ k', STK k' (2 + w.length) w ∧ 2 + w.length ≤ 2 + (a + (t :: ts).length) ∧ wk fs fw nm sz (fu - (t :: ts).length) (a + (t :: ts).length) nx (2 + w.length) k' = v := by
      intro tp' k' s' hK' htp' he' hv'
      have := wk_seg ts (a + 1) (fu - 1) tp' nx k' s' w v hT2 h2 (by omega) hK' (by omega) (by omega) (by omega) (by omega) he' hv'
      rw [hl, show fu - (ts.length + 1) = fu - 1 - ts.length by omega, show a + (ts.length + 1) = a + 1 + ts.length by omega]
      exact this
    have he0 : evM nm (mkT t :: ts.map mkT) s = some w := he
    rcases hT t List.mem_cons_self with g | ⟨g, g0, g6⟩ | g | g | g
    · have em : mkT t = (1, t.2) := by unfold mkT; rw [if_pos g]
      rw [em] at he0
      have e1 := ev_1 he0 rfl
      refine go _ _ _ (STK_push hK _) (Nat.le_refl _) e1 ?_
      have e2 := wk_48 hv hf (by omega) hk2 (by omega) hn (h1.1.trans g)
      rw [← fb_asI (fw a), h1.2] at e2; exact e2
    · have em : mkT t = (2, t.2) := by unfold mkT; rw [if_neg (by omega), if_pos g]
      rw [em] at he0
      obtain ⟨jn, e1, e2, e3⟩ := ev_2 he0 rfl
      exact go _ _ _ (STK_push hK _) (Nat.le_refl _) e3 (wk_97 hv hf (by omega) hk2 (by omega) hn (h1.1.trans g) (h1.2.trans e1))
    · have em : mkT t = (3, 0) := by unfold mkT; rw [if_neg (by omega), if_neg (by omega), if_pos g]
      rw [em] at he0
      obtain ⟨x, s', rfl, e3⟩ := ev_3 he0 rfl
      have hx := STK_at hK
      refine go _ _ _ (STK_top hK _) (by omega) e3 ?_
      by_cases hx0 : x.toInt = 0
      · rw [if_pos hx0]; exact wk_33b hv hf (by omega) hk2 (by omega) hn (h1.1.trans g) (by rw [hx]; exact hx0)
      · rw [if_neg hx0]; exact wk_33a hv hf (by omega) hk2 (by omega) hn (h1.1.trans g) (by rw [hx]; exact hx0)
    · have em : mkT t = (4, 0) := by unfold mkT; rw [if_neg (by omega), if_neg (by omega), if_neg (by omega), if_pos g]
      rw [em] at he0
      obtain ⟨x, s', rfl, e3⟩ := ev_4 he0 rfl
      have hx := STK_at hK
      exact go _ _ _ (STK_top hK _) (by omega) e3 (wk_126 hv hf (by omega) hk2 (by omega) hn (h1.1.trans g) (by rw [hx]))
    · have gn := lvC_not g
      have em : mkT t = t := by unfold mkT; rw [if_neg gn.2.1, if_neg gn.2.2.2.2.1, if_neg gn.1, if_neg gn.2.2.2.2.2.1]
      rw [em] at he0
      obtain ⟨_, b, a', s', rfl, e3⟩ := ev_5 he0 gn.2.2.2.2.2.2.1 gn.2.2.2.2.2.2.2.1 gn.2.2.2.2.2.2.2.2.1 gn.2.2.2.2.2.2.2.2.2
      have hb1 := STK_at hK
      have ha1 := STK_at (STK_pop hK)
      refine go _ _ _ (STK_op hK _) (by omega) e3 (wk_op hv hf (by omega) hk2 (by omega) hn ?_ (by rw [hb1, ha1, h1.1]))
      rw [h1.1]; exact ⟨gn.1, gn.2.1, gn.2.2.1, gn.2.2.2.1, gn.2.2.2.2.1, gn.2.2.2.2.2.1⟩
/-- TERMS by themselves: one value on the floor -/
theorem wk_val {fs fw nm : Nat → Int32} {sz : Nat} {ts : List Tok} {a fu : Nat} {nx : Int} {k : Nat → Int32} {v : Int32} (hO : OKT ts) (hT : ∀ t ∈ ts, TK t) (hS : SEG fs fw a ts) (hn : nx ≤ (a : Int)) (hf : fu + a = sz + 1) (hz : a + ts.length ≤ sz) (hb : a + ts.length ≤ 122) (hv : wk fs fw nm sz fu a nx 2 k = v) : ∃ k', k' 2 = valM nm ts ∧ wk fs fw nm sz (fu - ts.length) (a + ts.length) nx 3 k' = v := by
  obtain ⟨k', h1, _, h3⟩ := wk_seg ts a fu 2 nx k [] [valM nm ts] v hT hS hn ⟨rfl, fun i x hx => by cases hx⟩ hf hz (by omega) hb (OKT_val hO nm []) hv
  exact ⟨k', STK_at h1, h3⟩
/-- steps that are passed over -/
theorem wk_pass {fs fw nm : Nat → Int32} {sz : Nat} : ∀ (d a fu tp : Nat) (k : Nat → Int32) (v : Int32), fu + a = sz + 1 → a + d ≤ sz → 2 ≤ tp → tp < 128 → wk fs fw nm sz fu a ((a + d : Nat) : Int) tp k = v → wk fs fw nm sz (fu - d) (a + d) ((a + d : Nat) : Int) tp k = v
  | 0, a, fu, tp, k, v, hf, hd, h1, h2, hv => hv
  | d + 1, a, fu, tp, k, v, hf, hd, h1, h2, hv => by
    have e1 := wk_skip hv hf (by omega) h1 h2 (by omega)
    have e2 := wk_pass (fs := fs) (fw := fw) (nm := nm) (sz := sz) d (a + 1) (fu - 1) tp k v (by omega) (by omega) h1 h2 (by rw [show a + 1 + d = a + (d + 1) by omega]; exact e1)
    rw [show a + 1 + d = a + (d + 1) by omega, show fu - 1 - d = fu - (d + 1) by omega] at e2; exact e2
def codeF : Nat → List Lin → List Tok
  | _, [] => []
  | n, x :: ls => codeL n x ++ codeF (n + (codeL n x).length) ls
theorem codeT_F (ls : List Lin) : codeT ls = codeF 0 ls := by
  have h : ∀ (ls : List Lin) (a : List Tok), ls.foldl (fun a x => a ++ codeL a.length x) a = a ++ codeF a.length ls := by
    intro ls
    induction ls with
    | nil => intro a; show a = a ++ []; rw [List.append_nil]
    | cons x ls ih =>
      intro a
      show ls.foldl _ (a ++ codeL a.length x) = a ++ (codeL a.length x ++ codeF (a.length + (codeL a.length x).length) ls)
      rw [ih, List.length_append, List.append_assoc]
  have := h ls []
  rw [List.nil_append] at this; exact this
theorem wk_lines {fs fw nm : Nat → Int32} {sz : Nat} : ∀ (ls : List Lin) (a fu : Nat) (nx : Int) (k : Nat → Int32) (v : Int32), (∀ x ∈ ls, TKL x) → SEG fs fw a (codeF a ls) → nx ≤ (a : Int) → fu + a = sz + 1 → a + (codeF a ls).length = sz → sz ≤ 122 → wk fs fw nm sz fu a nx 2 k = v → GVL nm ls = v
  | [], a, fu, nx, k, v, hT, hS, hn, hf, hz, hb, hv => wk_end hv hf hz
  | (none, ts) :: ls, a, fu, nx, k, v, hT, hS, hn, hf, hz, hb, hv => by
    obtain ⟨h1, h2⟩ := hT _ List.mem_cons_self
    have hc : codeF a ((none, ts) :: ls) = ts ++ ((59, 0) :: codeF (a + (codeL a (none, ts)).length) ls) := by
      show (ts ++ [((59 : Int), (0 : Int))]) ++ _ = _
      rw [List.append_assoc]; rfl
    rw [hc] at hS hz
    rw [List.length_append, List.length_cons] at hz
    obtain ⟨k', e1, e2⟩ := wk_val h1 h2 (SEG_l hS) hn hf (by omega) (by omega) hv
    have e3 := wk_59 e2 (by omega) (by omega) (by omega) (by omega) (by omega) (SEG_h (SEG_r hS)).1
    show valM nm ts = v
    rw [← e1]; exact e3
  | (some u, ts) :: ls, a, fu, nx, k, v, hT, hS, hn, hf, hz, hb, hv => by
    obtain ⟨⟨h1, h2⟩, ⟨h3, h4⟩⟩ := hT _ List.mem_cons_self
    have hL : (codeL a (some u, ts)).length = u.length + 1 + ts.length + 1 := by
      show (u ++ ((63, _) :: (ts ++ [(59, 0)]))).length = _
      rw [List.length_append, List.length_cons, List.length_append, List.length_singleton]; omega
    have hc : codeF a ((some u, ts) :: ls) = u ++ ((63, ((a + u.length + 1 + ts.length + 1 : Nat) : Int)) :: (ts ++ ((59, 0) :: codeF (a + (u.length + 1 + ts.length + 1)) ls))) := by
      show codeL a (some u, ts) ++ codeF (a + (codeL a (some u, ts)).length) ls = _
      rw [hL]
      show (u ++ ((63, _) :: (ts ++ [(59, 0)]))) ++ _ = _
      rw [List.append_assoc, List.cons_append, List.append_assoc]; rfl
    rw [hc] at hS hz
    rw [List.length_append, List.length_cons, List.length_append, List.length_cons] at hz
    obtain ⟨k', e1, e2⟩ := wk_val h1 h2 (SEG_l hS) hn hf (by omega) (by omega) hv
    have hS2 := SEG_r hS
    have hS3 := SEG_t hS2
    show (if (valM nm u).toInt = 0 then GVL nm ls else valM nm ts) = v
    by_cases hz0 : (valM nm u).toInt = 0
    · rw [if_pos hz0]
      have e3 := wk_63b e2 (by omega) (by omega) (by omega) (by omega) (by omega) (SEG_h hS2).1 (by rw [show (3 : Nat) - 1 = 2 from rfl, e1]; exact hz0)
      rw [(SEG_h hS2).2] at e3
      have e4 := wk_pass (fs := fs) (fw := fw) (nm := nm) (sz := sz) (ts.length + 1) (a + u.length + 1) (fu - u.length - 1) 2 k' v (by omega) (by omega) (by omega) (by omega) (by rw [show a + u.length + 1 + (ts.length + 1) = a + u.length + 1 + ts.length + 1 by omega]; exact e3)
      have hS4 := SEG_t (SEG_r hS3)
      refine wk_lines (fs := fs) (fw := fw) (sz := sz) ls (a + (u.length + 1 + ts.length + 1)) (fu - u.length - 1 - (ts.length + 1)) ((a + (u.length + 1 + ts.length + 1) : Nat) : Int) k' v (fun x hx => hT x (List.mem_cons_of_mem _ hx)) ?_ (Int.le_refl _) (by omega) (by omega) hb ?_
      · rw [show a + (u.length + 1 + ts.length + 1) = a + u.length + 1 + ts.length + 1 by omega] at hS4 ⊢; exact hS4
      · rw [show a + u.length + 1 + (ts.length + 1) = a + (u.length + 1 + ts.length + 1) by omega] at e4; exact e4
    · rw [if_neg hz0]
      have e3 := wk_63a e2 (by omega) (by omega) (by omega) (by omega) (by omega) (SEG_h hS2).1 (by rw [show (3 : Nat) - 1 = 2 from rfl, e1]; exact hz0)
      obtain ⟨k2, e5, e6⟩ := wk_val h3 h4 (SEG_l hS3) (by omega) (by omega) (by omega) (by omega) e3
      have e7 := wk_59 e6 (by omega) (by omega) (by omega) (by omega) (by omega) (SEG_h (SEG_r hS3)).1
      rw [← e5]; exact e7
theorem TKx_L {x : Lin} (h : TKL x) (n : Nat) : ∀ t ∈ codeL n x, t.1 = 97 → 0 ≤ t.2 ∧ t.2 < 6 := by
  have hb : ∀ t : Tok, TK t → t.1 = 97 → 0 ≤ t.2 ∧ t.2 < 6 := by
    intro t ht h97
    rcases ht with g | g | g | g | g
    · omega
    · exact g.2
    · omega
    · omega
    · exact absurd h97 (lvC_not g).2.2.2.2.1
  obtain ⟨o, ts⟩ := x
  intro t ht h97
  cases o with
  | none =>
    rcases List.mem_append.mp (show t ∈ ts ++ [((59 : Int), (0 : Int))] from ht) with g | g
    · exact hb t (h.2 t g) h97
    · rw [List.mem_singleton] at g; subst g; exact absurd h97 (by decide)
  | some u =>
    rcases List.mem_append.mp (show t ∈ u ++ ((63, _) :: (ts ++ [(59, 0)])) from ht) with g | g
    · exact hb t (h.1.2 t g) h97
    · rcases List.mem_cons.mp g with g | g
      · subst g; exact absurd h97 (by show ¬ (63 : Int) = 97; decide)
      · rcases List.mem_append.mp g with g | g
        · exact hb t (h.2.2 t g) h97
        · rw [List.mem_singleton] at g; subst g; exact absurd h97 (by decide)
theorem TKx_F : ∀ (ls : List Lin) (n : Nat), (∀ x ∈ ls, TKL x) → ∀ t ∈ codeF n ls, t.1 = 97 → 0 ≤ t.2 ∧ t.2 < 6
  | [], n, h, t, ht, _ => by cases ht
  | x :: ls, n, h, t, ht, h97 => by
    rcases List.mem_append.mp (show t ∈ codeL n x ++ codeF (n + (codeL n x).length) ls from ht) with g | g
    · exact TKx_L (h x List.mem_cons_self) n t g h97
    · exact TKx_F ls _ (fun y hy => h y (List.mem_cons_of_mem _ hy)) t g h97
theorem CODE_of {c : Nat → Int} {q : Nat} {ls : List Lin} {fs fw : Nat → Int32} {lz : Int32} (hR : pAll c = (q, some ls)) (hq : q ≤ 120) (hL : LC fs fw lz (codeT ls)) : CODE fs fw lz (FL ls) := by
  have hlen := pAll_len hR
  have hT := TKL_pAll hR
  refine ⟨(codeT ls).length, hL.1, hL.2.1, fun a ha h97 => ?_, fun lk su tm _ _ _ nm k hN => ?_⟩
  · have e := hL.2.2 a ha
    have hm : (codeT ls).getD a (0, 0) ∈ codeT ls := by
      rw [List.getD_eq_getElem?_getD, List.getElem?_eq_getElem ha]; exact List.getElem_mem ha
    rw [codeT_F] at hm e
    have := TKx_F ls 0 hT _ hm (e.1.symm.trans h97)
    exact ⟨((codeF 0 ls).getD a (0, 0)).2.toNat, by rw [e.2]; omega, by omega⟩
  · rw [← FL_nm hN ls]
    refine (wk_lines (fs := fs) (fw := fw) ls 0 ((codeT ls).length + 1) 0 k _ hT ?_ (Int.le_refl _) rfl (by rw [Nat.zero_add, codeT_F]) (by omega) rfl).symm
    intro j hj
    rw [← codeT_F] at hj ⊢
    rw [Nat.zero_add]; exact hL.2.2 j hj
theorem LWR_of {c : Nat → Int} {q : Nat} {ls : List Lin} {fs fw fg fi : Nat → Int32} {lz : Int32} (hR : pAll c = (q, some ls)) (hq : q ≤ 120) (hL : LC fs fw lz (codeT ls)) (hi : ∀ j, j < 640 → fi j = 0) : LWR fs fw lz fg fi (FL ls) :=
  ⟨CODE_of hR hq hL, fun i h9 hne => absurd (by rw [hi i h9]; decide) hne⟩
theorem LWR_first {fs fw fg fi : Nat → Int32} {lz : Int32} (hL : LC fs fw lz (codeT ls0)) (hi : ∀ j, j < 640 → fi j = 0) : LWR fs fw lz fg fi FA := LWR_of fr_all (by decide) hL hi
