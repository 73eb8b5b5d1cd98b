
/-! ===== both sides: FEWEST ===== -/
theorem scan_mono {ok ok' : Nat → Nat → Bool} {val : Nat → Nat → Int} (hm : ∀ l p, ok l p = true → ok' l p = true) : ∀ q, (scan ok val q).1 ≤ (scan ok' val q).1 ∧ ∀ x, (scan ok' val q).2 = some x → ok x.1 x.2 = true → scan ok val q = scan ok' val q
  | 0 => ⟨Int.le_refl _, fun x h => by cases h⟩
  | q + 1 => by
    obtain ⟨i1, i2⟩ := scan_mono (val := val) hm q
    by_cases c' : ok' (q / 4) (q % 4) = true ∧ (scan ok' val q).1 < val (q / 4) (q % 4)
    · rw [scan_y c'.1 c'.2]
      by_cases c : ok (q / 4) (q % 4) = true
      · rw [scan_y c (by omega)]; exact ⟨Int.le_refl _, fun _ _ _ => rfl⟩
      · rw [scan_n (Or.inl (by simpa using c))]
        refine ⟨by show (scan ok val q).1 ≤ val (q / 4) (q % 4); omega, fun x hx hk => ?_⟩
        cases hx; exact absurd hk c
    · have e' : scan ok' val (q + 1) = scan ok' val q := by
        refine scan_n ?_
        by_cases d : ok' (q / 4) (q % 4) = true
        · exact Or.inr (Int.not_lt.mp fun h => c' ⟨d, h⟩)
        · exact Or.inl (by simpa using d)
      rw [e']
      by_cases c : ok (q / 4) (q % 4) = true ∧ (scan ok val q).1 < val (q / 4) (q % 4)
      · have hv : val (q / 4) (q % 4) ≤ (scan ok' val q).1 := Int.not_lt.mp fun h => c' ⟨hm _ _ c.1, h⟩
        rw [scan_y c.1 c.2]
        refine ⟨hv, fun x hx hk => ?_⟩
        have := congrArg Prod.fst (i2 x hx hk)
        omega
      · have e : scan ok val (q + 1) = scan ok val q := by
          refine scan_n ?_
          by_cases d : ok (q / 4) (q % 4) = true
          · exact Or.inr (Int.not_lt.mp fun h => c ⟨d, h⟩)
          · exact Or.inl (by simpa using d)
        rw [e]; exact ⟨i1, i2⟩
theorem hR_up (H : Hist) (x : Nat × Int) : hR H ≤ hR (x :: H) := by
  show hR H ≤ (if hR H = H.length ∧ (H.length = 0 ∨ x.1 = hLast H + 1) then hR H + 1 else hR H)
  split <;> omega
theorem hCnt_all {b : Int} : ∀ {G : Hist}, hR (G ++ [(0, b)]) = (G ++ [(0, b)]).length → ∀ l, hCnt (G ++ [(0, b)]) l = if l ≤ G.length then 1 else 0
  | [], _, l => by
    show (if (0 : Nat) = l then 1 else 0) + 0 = if l ≤ 0 then 1 else 0
    by_cases h : l = 0
    · rw [if_pos h.symm, if_pos (by omega)]
    · rw [if_neg (fun q => h q.symm), if_neg (by omega)]
  | x :: G, h, l => by
    have h0 : hR (x :: (G ++ [(0, b)])) = (G ++ [(0, b)]).length + 1 := h
    have hl := hR_le (G ++ [(0, b)])
    by_cases c : hR (G ++ [(0, b)]) = (G ++ [(0, b)]).length ∧ ((G ++ [(0, b)]).length = 0 ∨ x.1 = hLast (G ++ [(0, b)]) + 1)
    · have h1 := hCnt_all c.1 l
      have h2 := hR_all c.1
      have h3 : (G ++ [((0 : Nat), b)]).length = G.length + 1 := by rw [List.length_append, List.length_singleton]
      have hx : x.1 = G.length + 1 := by
        rcases c.2 with q | q
        · omega
        · omega
      show (if x.1 = l then 1 else 0) + hCnt (G ++ [(0, b)]) l = if l ≤ G.length + 1 then 1 else 0
      rw [h1]
      rcases Nat.lt_trichotomy l (G.length + 1) with g | g | g
      · rw [if_neg (by omega), if_pos (by omega), if_pos (by omega)]
      · rw [if_pos (by omega), if_neg (by omega), if_pos (by omega)]
      · rw [if_neg (by omega), if_neg (by omega), if_neg (by omega)]
    · have : hR (x :: (G ++ [(0, b)])) = hR (G ++ [(0, b)]) := by
        show (if hR (G ++ [(0, b)]) = (G ++ [(0, b)]).length ∧ ((G ++ [(0, b)]).length = 0 ∨ x.1 = hLast (G ++ [(0, b)]) + 1) then _ else _) = _
        rw [if_neg c]
      omega
section FEW
variable {F : Nat → Nat → Nat → Int32} {S : Nat → Nat} {T : Nat → Nat} {B B' : Nat → Bool} {n : Nat}
theorem sg_mono (k : Nat) : ∀ d, hR (sgF F S T B n 0 k).1 ≤ hR (sgF F S T B n 0 (k + d)).1
  | 0 => Nat.le_refl _
  | d + 1 => by
    refine Nat.le_trans (sg_mono k d) ?_
    show hR (sgF F S T B n 0 (k + d)).1 ≤ hR (stepG (nxt F S T B n) (canS B) (sgF F S T B n 0 (k + d))).1
    rcases stepG_hist (nxt F S T B n) (canS B) (sgF F S T B n 0 (k + d)) with h | ⟨x, h, _⟩
    · rw [h]; exact Nat.le_refl _
    · rw [h]; exact hR_up _ _
/-- the first LINES that are RIGHT -/
theorem sg_pre (hn : n ≤ 12) : ∀ j, j + 1 ≤ rtF F S T B n 0 → (sgF F S T B n 0 j).2.1 = 3 ∧ hR (sgF F S T B n 0 j).1 = (sgF F S T B n 0 j).1.length ∧ (sgF F S T B n 0 j).1.length = j + 1
  | 0, h => by
    by_cases h3 : (sgF F S T B n 0 0).2.1 = 3
    · have e : (sgF F S T B n 0 0).1 = [(0, -2)] := initG_3 h3
      exact ⟨h3, by rw [e]; rfl, by rw [e]; rfl⟩
    · have e := sgF_60 (F := F) (S := S) (T := T) (B := B) (n := n) (l := 0) (k := 0) (by omega) h3
      have hi : (sgF F S T B n 0 0).1 = [] := by
        have h3' : (initG (canS B) 0).2.1 ≠ 3 := h3
        show (initG (canS B) 0).1 = []
        unfold initG at h3' ⊢
        by_cases c : canS B 0 = true
        · rw [if_pos c] at h3'; exact absurd rfl h3'
        · rw [if_neg c]
      unfold rtF at h
      rw [e, hi] at h
      exact absurd h (by decide)
  | j + 1, h => by
    obtain ⟨i1, i2, i3⟩ := sg_pre hn j (by omega)
    have h12 := rtF_12 F S T B n 0 hn (by omega)
    have es : sgF F S T B n 0 (j + 1) = stepG (nxt F S T B n) (canS B) (sgF F S T B n 0 j) := rfl
    have hlow : hR (sgF F S T B n 0 (j + 1)).1 < j + 2 → hR (sgF F S T B n 0 (j + 1)).1 ≠ (sgF F S T B n 0 (j + 1)).1.length ∨ (sgF F S T B n 0 (j + 1)).2.1 ≠ 3 → False := by
      intro g1 g2
      rcases g2 with g2 | g2
      · have := (itG_nr (nx := nxt F S T B n) (can := canS B) (s := initG (canS B) 0) (k := j + 1) g2 (60 - (j + 1))).1
        rw [show j + 1 + (60 - (j + 1)) = 60 by omega] at this
        have h' : hR (itG (nxt F S T B n) (canS B) (initG (canS B) 0) 60).1 ≥ j + 2 := h
        have g1' : hR (itG (nxt F S T B n) (canS B) (initG (canS B) 0) (j + 1)).1 < j + 2 := g1
        omega
      · have e := sgF_60 (F := F) (S := S) (T := T) (B := B) (n := n) (l := 0) (k := j + 1) (by omega) g2
        unfold rtF at h
        rw [e] at h; omega
    rcases stepG_c (nxt F S T B n) (canS B) (sgF F S T B n 0 j) with ⟨g, _⟩ | ⟨_, x, g⟩ | ⟨_, g, g2⟩
    · exact absurd i1 g
    · have g' := es.trans g
      have hl : (sgF F S T B n 0 (j + 1)).1.length = j + 1 + 1 := by rw [g']; show (sgF F S T B n 0 j).1.length + 1 = _; rw [i3]
      have h3 : (sgF F S T B n 0 (j + 1)).2.1 = 3 := by rw [g']
      by_cases c : hR (sgF F S T B n 0 (j + 1)).1 = (sgF F S T B n 0 (j + 1)).1.length
      · exact ⟨h3, c, hl⟩
      · have := hR_le (sgF F S T B n 0 (j + 1)).1
        exact (hlow (by omega) (Or.inl c)).elim
    · have g1 : (sgF F S T B n 0 (j + 1)).1 = (sgF F S T B n 0 j).1 := by rw [es]; exact g
      exact (hlow (by rw [g1, i2, i3]; omega) (Or.inr (by rw [es]; exact g2))).elim
theorem sg_conv {j : Nat} (hj : j < 60) (h : hR (sgF F S T B n 0 j).1 = j + 1) : j + 1 ≤ rtF F S T B n 0 := by
  have := sg_mono (F := F) (S := S) (T := T) (B := B) (n := n) j (60 - j)
  rw [show j + (60 - j) = 60 by omega] at this
  unfold rtF; omega
/-- the step by which line j + 1 comes up -/
theorem sg_next (hn : n ≤ 12) {j : Nat} (h : j + 2 ≤ rtF F S T B n 0) : ∃ p, nxt F S T B n (sgF F S T B n 0 j).1 = some (j + 1, p) ∧ canS B (j + 1) = true := by
  obtain ⟨i1, i2, i3⟩ := sg_pre (F := F) (S := S) (T := T) (B := B) hn j (by omega)
  obtain ⟨k1, k2, k3⟩ := sg_pre hn (j + 1) h
  have h12 := rtF_12 F S T B n 0 hn (by omega)
  obtain ⟨H, e1, e2⟩ := itG_len (nx := nxt F S T B n) (can := canS B) (l := 0) j i1
  have e1' : (sgF F S T B n 0 j).1 = H ++ [(0, -2)] := e1
  have hlast : hLast (sgF F S T B n 0 j).1 = j := by
    rw [e1'] at i2 ⊢
    have := hR_all i2
    omega
  have es : sgF F S T B n 0 (j + 1) = stepG (nxt F S T B n) (canS B) (sgF F S T B n 0 j) := rfl
  rw [stepG_O i1 (by omega)] at es
  cases hx : nxt F S T B n (sgF F S T B n 0 j).1 with
  | none =>
    rw [hx] at es
    have : (sgF F S T B n 0 (j + 1)).2.1 = 0 := by rw [es]; rfl
    omega
  | some x =>
    rw [hx, stepO_s] at es
    by_cases hc : canS B x.1 = true
    · rw [if_pos hc] at es
      have hxl : x.1 = j + 1 := by
        have k2' := k2
        rw [es] at k2'
        have k4 : hR ((x.1, (x.2 : Int)) :: (sgF F S T B n 0 j).1) = (sgF F S T B n 0 j).1.length + 1 := k2'
        by_cases c : x.1 = hLast (sgF F S T B n 0 j).1 + 1
        · omega
        · rw [hR_n (Or.inr ⟨by omega, c⟩)] at k4; omega
      exact ⟨x.2, by rw [← hxl], by rw [← hxl]; exact hc⟩
    · rw [if_neg hc] at es
      have : (sgF F S T B n 0 (j + 1)).2.1 = 1 := by rw [es]
      omega
theorem rtF_n (hn : n ≤ 12) (hz : n ≤ 0 → canS B 0 = false) : rtF F S T B n 0 ≤ n := by
  refine Classical.byContradiction fun q => ?_
  cases n with
  | zero =>
    have h := (sg_pre (F := F) (S := S) (T := T) (B := B) hn 0 (by omega)).1
    have h' : (initG (canS B) 0).2.1 = 3 := h
    unfold initG at h'
    rw [if_neg (by rw [hz (Nat.le_refl _)]; decide)] at h'
    exact absurd (show (1 : Int) = 3 from h') (by decide)
  | succ m =>
    obtain ⟨p, h1, _⟩ := sg_next (F := F) (S := S) (T := T) (B := B) (j := m) hn (by omega)
    have := (nxt_lt h1).1
    omega
/-- bits of other LINES never make more LINES RIGHT -/
theorem rt_other (hn : n ≤ 12) {r : Nat} (hr : rtF F S T B n 0 = r) (hm : ∀ b, B b = true → B' b = true) (hA : ∀ p w, p < 4 → w < 2 → B' (24 * p + 2 * r + w) = B (24 * p + 2 * r + w)) : rtF F S T B' n 0 ≤ r := by
  refine Classical.byContradiction fun q => ?_
  have hcan : canS B' r = canS B r := by
    unfold canS anyB
    have e0 := hA 0 0 (by omega) (by omega)
    have e1 := hA 0 1 (by omega) (by omega)
    have e2 := hA 1 0 (by omega) (by omega)
    have e3 := hA 1 1 (by omega) (by omega)
    have e4 := hA 2 0 (by omega) (by omega)
    have e5 := hA 2 1 (by omega) (by omega)
    have e6 := hA 3 0 (by omega) (by omega)
    have e7 := hA 3 1 (by omega) (by omega)
    rw [show 24 * 0 + 2 * r + 0 = 2 * r by omega] at e0
    rw [show 24 * 0 + 2 * r + 1 = 2 * r + 1 by omega] at e1
    rw [show 24 * 1 + 2 * r + 0 = 24 + 2 * r by omega] at e2
    rw [show 24 * 1 + 2 * r + 1 = 24 + (2 * r + 1) by omega] at e3
    rw [show 24 * 2 + 2 * r + 0 = 48 + 2 * r by omega] at e4
    rw [show 24 * 2 + 2 * r + 1 = 48 + (2 * r + 1) by omega] at e5
    rw [show 24 * 3 + 2 * r + 0 = 72 + 2 * r by omega] at e6
    rw [show 24 * 3 + 2 * r + 1 = 72 + (2 * r + 1) by omega] at e7
    rw [e0, e1, e2, e3, e4, e5, e6, e7]
  cases r with
  | zero =>
    have h := (sg_pre (F := F) (S := S) (T := T) (B := B') hn 0 (by omega)).1
    have h' : (initG (canS B') 0).2.1 = 3 := h
    have hc : canS B' 0 = true := by
      unfold initG at h'
      by_cases c : canS B' 0 = true
      · exact c
      · rw [if_neg c] at h'; exact absurd (show (1 : Int) = 3 from h') (by decide)
    rw [hcan] at hc
    have e : (sgF F S T B n 0 0).1 = [(0, -2)] := by
      show (initG (canS B) 0).1 = _
      unfold initG; rw [if_pos hc]
    have := sg_conv (F := F) (S := S) (T := T) (B := B) (n := n) (j := 0) (by omega) (by rw [e]; rfl)
    omega
  | succ m =>
    have h12 := rtF_12 F S T B n 0 hn (by omega)
    obtain ⟨i1, i2, i3⟩ := sg_pre (F := F) (S := S) (T := T) (B := B) hn m (by omega)
    obtain ⟨k1, k2, k3⟩ := sg_pre (F := F) (S := S) (T := T) (B := B') hn m (by omega)
    obtain ⟨p, h1, h2⟩ := sg_next (F := F) (S := S) (T := T) (B := B') (j := m) hn (by omega)
    obtain ⟨H, e1, e2⟩ := itG_len (nx := nxt F S T B n) (can := canS B) (l := 0) m i1
    obtain ⟨H', e1', e2'⟩ := itG_len (nx := nxt F S T B' n) (can := canS B') (l := 0) m k1
    have f1 : (sgF F S T B n 0 m).1 = H ++ [(0, -2)] := e1
    have f1' : (sgF F S T B' n 0 m).1 = H' ++ [(0, -2)] := e1'
    have hl : hLast (sgF F S T B n 0 m).1 = m := by
      rw [f1] at i2 ⊢; have := hR_all i2; omega
    have hl' : hLast (sgF F S T B' n 0 m).1 = m := by
      rw [f1'] at k2 ⊢; have := hR_all k2; omega
    have hcnt : ∀ l, hCnt (sgF F S T B n 0 m).1 l = hCnt (sgF F S T B' n 0 m).1 l := by
      intro l
      rw [f1] at i2 ⊢
      rw [f1'] at k2 ⊢
      rw [hCnt_all i2, hCnt_all k2, e2, e2']
    have hval : gvl F S T (sgF F S T B n 0 m).1 = gvl F S T (sgF F S T B' n 0 m).1 := by
      funext l p
      unfold gvl
      rw [hl, hl', hcnt]
    have hx : nxt F S T B n (sgF F S T B n 0 m).1 = some (m + 1, p) := by
      unfold nxt at h1 ⊢
      rw [hval, hl]
      rw [hl'] at h1
      have hok : okP B m (m + 1) p = true := by
        have h3 := (scan_lt _ _ h1).2.2
        have h4 := (scan_lt _ _ h1).2.1
        have a0 := hA p 0 h4 (by omega)
        have a1 := hA p 1 h4 (by omega)
        unfold okP at h3 ⊢
        rw [show 24 * p + 2 * (m + 1) + 0 = 24 * p + 2 * (m + 1) by omega] at a0
        rw [← a0, ← a1]; exact h3
      rw [(scan_mono (ok := okP B m) (ok' := okP B' m) (val := gvl F S T (sgF F S T B' n 0 m).1) (fun l p h => ?_) (4 * n)).2 _ h1 hok]
      · exact h1
      · unfold okP at h ⊢
        rw [Bool.and_eq_true, Bool.or_eq_true] at h ⊢
        exact ⟨h.1, h.2.imp (hm _) (hm _)⟩
    have es : sgF F S T B n 0 (m + 1) = stepG (nxt F S T B n) (canS B) (sgF F S T B n 0 m) := rfl
    rw [stepG_O i1 (by omega), hx, stepO_s, if_pos (by rw [← hcan]; exact h2)] at es
    have := sg_conv (F := F) (S := S) (T := T) (B := B) (n := n) (j := m + 1) (by omega) (by
      rw [es]
      show hR ((m + 1, (p : Int)) :: (sgF F S T B n 0 m).1) = _
      rw [hR_y i2 (Or.inr (by show m + 1 = _; omega)), i2, i3])
    omega
/-! sets of bits -/
def BN (n b : Nat) : Prop := ∃ p l w, p < 4 ∧ l < n ∧ w < 2 ∧ b = 24 * p + 2 * l + w
theorem BN_bet {b : Nat} : BN n b ↔ ∃ d, d < 8 * n ∧ b = bet n d := by
  constructor
  · rintro ⟨p, l, w, hp, hl, hw, rfl⟩
    refine ⟨p * (2 * n) + (2 * l + w), ?_, (bet_eq rfl hl hw hp).symm⟩
    rcases (by omega : p = 0 ∨ p = 1 ∨ p = 2 ∨ p = 3) with rfl | rfl | rfl | rfl <;> omega
  · rintro ⟨d, hd, rfl⟩
    have hn : 0 < n := by omega
    exact ⟨d / (2 * n), d / 2 % n, d % 2, by rw [Nat.div_lt_iff_lt_mul (by omega)]; omega, Nat.mod_lt _ hn, Nat.mod_lt _ (by omega), rfl⟩
theorem up_comm (B : Nat → Bool) (a b : Nat) : upB (upB B a true) b true = upB (upB B b true) a true := by
  funext j
  unfold upB
  by_cases h1 : j = b
  · rw [if_pos h1]
    by_cases h2 : j = a
    · rw [if_pos h2]
    · rw [if_neg h2, if_pos h1]
  · rw [if_neg h1]
    by_cases h2 : j = a
    · rw [if_pos h2, if_pos h2]
    · rw [if_neg h2, if_neg h2, if_neg h1]
def W0 (F : Nat → Nat → Nat → Int32) (S : Nat → Nat) (T : Nat → Nat) (n : Nat) (B : Nat → Bool) : Prop := rtF F S T B n 0 = n
def W1 (F : Nat → Nat → Nat → Int32) (S : Nat → Nat) (T : Nat → Nat) (n : Nat) (B : Nat → Bool) : Prop := ∃ b, BN n b ∧ B b = false ∧ W0 F S T n (upB B b true)
def W2 (F : Nat → Nat → Nat → Int32) (S : Nat → Nat) (T : Nat → Nat) (n : Nat) (B : Nat → Bool) : Prop := ∃ b, BN n b ∧ B b = false ∧ W1 F S T n (upB B b true)
theorem WB_1 : WB F S T n 1 0 B ↔ W1 F S T n B := by
  constructor
  · rintro ⟨d, _, hd, hb, h⟩; exact ⟨_, BN_bet.mpr ⟨d, hd, rfl⟩, hb, h⟩
  · rintro ⟨b, hb, hf, h⟩
    obtain ⟨d, hd, rfl⟩ := BN_bet.mp hb
    exact ⟨d, Nat.zero_le _, hd, hf, h⟩
theorem WB_2 : WB F S T n 2 0 B ↔ W2 F S T n B := by
  constructor
  · rintro ⟨d, _, hd, hb, d2, _, hd2, hb2, h⟩; exact ⟨_, BN_bet.mpr ⟨d, hd, rfl⟩, hb, _, BN_bet.mpr ⟨d2, hd2, rfl⟩, hb2, h⟩
  · rintro ⟨b, hb, hf, b2, hb2, hf2, h⟩
    obtain ⟨d, hd, rfl⟩ := BN_bet.mp hb
    obtain ⟨d2, hd2, rfl⟩ := BN_bet.mp hb2
    have hne : bet n d2 ≠ bet n d := by
      intro e; rw [e] at hf2; unfold upB at hf2; rw [if_pos rfl] at hf2; cases hf2
    rcases Nat.lt_trichotomy d d2 with g | g | g
    · exact ⟨d, Nat.zero_le _, hd, hf, d2, g, hd2, hf2, h⟩
    · exact absurd (by rw [g]) hne
    · refine ⟨d2, Nat.zero_le _, hd2, ?_, d, g, hd, ?_, ?_⟩
      · unfold upB at hf2; rw [if_neg hne] at hf2; exact hf2
      · unfold upB; rw [if_neg (fun q => hne q.symm)]; exact hf
      · rw [up_comm]; exact h
theorem up_le (b : Nat) : ∀ j, B j = true → upB B b true j = true := by
  intro j h; unfold upB; split
  · rfl
  · exact h
theorem W1_line (hn : n ≤ 12) {r : Nat} (hr : rtF F S T B n 0 = r) (hlt : r < n) (h : W1 F S T n B) : ∃ p w, p < 4 ∧ w < 2 ∧ B (24 * p + 2 * r + w) = false ∧ W0 F S T n (upB B (24 * p + 2 * r + w) true) := by
  obtain ⟨b, hb, hf, h0⟩ := h
  by_cases c : ∃ p w, p < 4 ∧ w < 2 ∧ b = 24 * p + 2 * r + w
  · obtain ⟨p, w, hp, hw, rfl⟩ := c; exact ⟨p, w, hp, hw, hf, h0⟩
  · have := rt_other (F := F) (S := S) (T := T) (B' := upB B b true) hn hr (up_le b) (fun p w hp hw => by unfold upB; rw [if_neg (fun q => c ⟨p, w, hp, hw, q.symm⟩)])
    unfold W0 at h0; omega
theorem W2_line (hn : n ≤ 12) {r : Nat} (hr : rtF F S T B n 0 = r) (hlt : r < n) (h : W2 F S T n B) : ∃ p w, p < 4 ∧ w < 2 ∧ B (24 * p + 2 * r + w) = false ∧ W1 F S T n (upB B (24 * p + 2 * r + w) true) := by
  obtain ⟨b, hb, hf, b2, hb2, hf2, h0⟩ := h
  by_cases c : ∃ p w, p < 4 ∧ w < 2 ∧ b = 24 * p + 2 * r + w
  · obtain ⟨p, w, hp, hw, rfl⟩ := c; exact ⟨p, w, hp, hw, hf, b2, hb2, hf2, h0⟩
  · have hne : b2 ≠ b := by
      intro e; rw [e] at hf2; unfold upB at hf2; rw [if_pos rfl] at hf2; cases hf2
    by_cases c2 : ∃ p w, p < 4 ∧ w < 2 ∧ b2 = 24 * p + 2 * r + w
    · obtain ⟨p, w, hp, hw, rfl⟩ := c2
      refine ⟨p, w, hp, hw, ?_, b, hb, ?_, ?_⟩
      · unfold upB at hf2; rw [if_neg hne] at hf2; exact hf2
      · unfold upB; rw [if_neg (fun q => hne q.symm)]; exact hf
      · rw [up_comm]; exact h0
    · have := rt_other (F := F) (S := S) (T := T) (B' := upB (upB B b true) b2 true) hn hr (fun j hj => up_le b2 j (up_le b j hj)) (fun p w hp hw => by
        unfold upB
        rw [if_neg (fun q => c2 ⟨p, w, hp, hw, q.symm⟩), if_neg (fun q => c ⟨p, w, hp, hw, q.symm⟩)])
      unfold W0 at h0; omega
/-- what the class' look over a LINE's bits finds -/
theorem fbL_min {rt : Nat} {rec : (Nat → Bool) → Int} : ∀ q, (fbL B n rt rec q = -2 ∧ ∀ k, k < q → B (24 * (k / 2) + 2 * rt + k % 2) = false → rec (upB B (24 * (k / 2) + 2 * rt + k % 2) true) < 0) ∨ (0 ≤ fbL B n rt rec q ∧ (∃ k, k < q ∧ B (24 * (k / 2) + 2 * rt + k % 2) = false ∧ rec (upB B (24 * (k / 2) + 2 * rt + k % 2) true) = fbL B n rt rec q) ∧ ∀ k, k < q → B (24 * (k / 2) + 2 * rt + k % 2) = false → 0 ≤ rec (upB B (24 * (k / 2) + 2 * rt + k % 2) true) → fbL B n rt rec q ≤ rec (upB B (24 * (k / 2) + 2 * rt + k % 2) true))
  | 0 => Or.inl ⟨rfl, fun k hk => absurd hk (Nat.not_lt_zero _)⟩
  | q + 1 => by
    have ih := fbL_min (rt := rt) (rec := rec) q
    by_cases c : B (24 * (q / 2) + 2 * rt + q % 2) = false ∧ 0 ≤ rec (upB B (24 * (q / 2) + 2 * rt + q % 2) true) ∧ (fbL B n rt rec q < 0 ∨ rec (upB B (24 * (q / 2) + 2 * rt + q % 2) true) < fbL B n rt rec q)
    · have e : fbL B n rt rec (q + 1) = rec (upB B (24 * (q / 2) + 2 * rt + q % 2) true) := by
        show (if _ then _ else _) = _
        rw [if_pos c]
      rw [e]
      refine Or.inr ⟨c.2.1, ⟨q, Nat.lt_succ_self q, c.1, rfl⟩, fun k hk hb h0 => ?_⟩
      rcases Nat.lt_succ_iff_lt_or_eq.mp hk with g | g
      · rcases ih with ⟨_, i2⟩ | ⟨_, _, i3⟩
        · have := i2 k g hb; omega
        · have := i3 k g hb h0; omega
      · subst g; exact Int.le_refl _
    · have e : fbL B n rt rec (q + 1) = fbL B n rt rec q := by
        show (if _ then _ else _) = _
        rw [if_neg c]
      rw [e]
      rcases ih with ⟨i1, i2⟩ | ⟨i1, ⟨k0, i2, i3, i4⟩, i5⟩
      · refine Or.inl ⟨i1, fun k hk hb => ?_⟩
        rcases Nat.lt_succ_iff_lt_or_eq.mp hk with g | g
        · exact i2 k g hb
        · subst g
          refine Classical.byContradiction fun h9 => c ⟨hb, by omega, Or.inl (by omega)⟩
      · refine Or.inr ⟨i1, ⟨k0, by omega, i3, i4⟩, fun k hk hb h0 => ?_⟩
        rcases Nat.lt_succ_iff_lt_or_eq.mp hk with g | g
        · exact i5 k g hb h0
        · subst g
          refine Classical.byContradiction fun h9 => c ⟨hb, h0, Or.inr (by omega)⟩
/-- what it finds, where a LINE's free bits give a (one bit more is enough) or b (not) -/
theorem fb_0 (hle : rtF F S T B n 0 ≤ n) (g : Nat) : (W0 F S T n B → fbF F S T n 0 g B = (g : Int)) ∧ (¬ W0 F S T n B → fbF F S T n 0 g B = -2) := by
  refine ⟨fun h => fbF_w (by unfold W0 at h; omega), fun h => fbF_0 (by unfold W0 at h; omega)⟩
theorem bit8 {rt : Nat} {p w : Nat} (hw : w < 2) : 24 * ((2 * p + w) / 2) + 2 * rt + (2 * p + w) % 2 = 24 * p + 2 * rt + w := by omega
theorem hz_up {b : Nat} (hz : n ≤ 0 → canS B 0 = false) (hlt : ∃ r, r < n ∧ rtF F S T B n 0 = r) : n ≤ 0 → canS (upB B b true) 0 = false := by
  obtain ⟨r, h, _⟩ := hlt
  omega
theorem fb_1 (hn : n ≤ 12) (hz : n ≤ 0 → canS B 0 = false) (g : Nat) : (W0 F S T n B → fbF F S T n 1 g B = (g : Int)) ∧ (¬ W0 F S T n B → W1 F S T n B → fbF F S T n 1 g B = (g : Int) + 1) ∧ (¬ W0 F S T n B → ¬ W1 F S T n B → fbF F S T n 1 g B = -2) := by
  have hle := rtF_n (F := F) (S := S) (T := T) hn hz
  refine ⟨fun h => fbF_w (by unfold W0 at h; omega), fun h0 h1 => ?_, fun h0 h1 => ?_⟩
  · have hlt : rtF F S T B n 0 < n := by unfold W0 at h0; omega
    rw [fbF_s hlt]
    obtain ⟨p, w, hp, hw, hb, h⟩ := W1_line hn rfl hlt h1
    have hz' : ∀ b, rtF F S T (upB B b true) n 0 ≤ n := fun b => rtF_n hn (by omega)
    have e := (fb_0 (hz' _) (g + 1)).1 h
    rcases fbL_min (B := B) (n := n) (rt := rtF F S T B n 0) (rec := fbF F S T n 0 (g + 1)) 8 with ⟨_, i2⟩ | ⟨i1, ⟨k0, _, _, i4⟩, _⟩
    · have := i2 (2 * p + w) (by omega) (by rw [bit8 hw]; exact hb)
      rw [bit8 hw, e] at this; omega
    · rw [← i4] at i1 ⊢
      by_cases c : W0 F S T n (upB B (24 * (k0 / 2) + 2 * rtF F S T B n 0 + k0 % 2) true)
      · rw [(fb_0 (hz' _) (g + 1)).1 c]; omega
      · rw [(fb_0 (hz' _) (g + 1)).2 c] at i1; omega
  · have hlt : rtF F S T B n 0 < n := by unfold W0 at h0; omega
    rw [fbF_s hlt]
    have hz' : ∀ b, rtF F S T (upB B b true) n 0 ≤ n := fun b => rtF_n hn (by omega)
    rcases fbL_min (B := B) (n := n) (rt := rtF F S T B n 0) (rec := fbF F S T n 0 (g + 1)) 8 with ⟨i1, _⟩ | ⟨i1, ⟨k0, hk, hb, i4⟩, _⟩
    · exact i1
    · rw [← i4] at i1
      by_cases c : W0 F S T n (upB B (24 * (k0 / 2) + 2 * rtF F S T B n 0 + k0 % 2) true)
      · exact absurd ⟨_, ⟨k0 / 2, _, k0 % 2, by omega, hlt, by omega, rfl⟩, hb, c⟩ h1
      · rw [(fb_0 (hz' _) (g + 1)).2 c] at i1; omega
theorem fb_2 (hn : n ≤ 12) (hz : n ≤ 0 → canS B 0 = false) : (W0 F S T n B → fbF F S T n 2 0 B = 0) ∧ (¬ W0 F S T n B → W1 F S T n B → fbF F S T n 2 0 B = 1) ∧ (¬ W0 F S T n B → ¬ W1 F S T n B → W2 F S T n B → fbF F S T n 2 0 B = 2) ∧ (¬ W0 F S T n B → ¬ W1 F S T n B → ¬ W2 F S T n B → fbF F S T n 2 0 B = -2) := by
  have hle := rtF_n (F := F) (S := S) (T := T) hn hz
  by_cases h0 : W0 F S T n B
  · refine ⟨fun _ => (fbF_w (by unfold W0 at h0; omega)), fun q => absurd h0 q, fun q => absurd h0 q, fun q => absurd h0 q⟩
  · have hlt : rtF F S T B n 0 < n := by unfold W0 at h0; omega
    have hz' : ∀ b, n ≤ 0 → canS (upB B b true) 0 = false := fun b => by omega
    have h1 := fun b => fb_1 (F := F) (S := S) (T := T) (B := upB B b true) hn (hz' b) 1
    rw [fbF_s hlt]
    have hmin := fbL_min (B := B) (n := n) (rt := rtF F S T B n 0) (rec := fbF F S T n 1 (0 + 1)) 8
    generalize fbL B n (rtF F S T B n 0) (fbF F S T n 1 (0 + 1)) 8 = u at hmin ⊢
    have hv : ∀ k, k < 8 → B (24 * (k / 2) + 2 * rtF F S T B n 0 + k % 2) = false → 0 ≤ fbF F S T n 1 (0 + 1) (upB B (24 * (k / 2) + 2 * rtF F S T B n 0 + k % 2) true) → (fbF F S T n 1 (0 + 1) (upB B (24 * (k / 2) + 2 * rtF F S T B n 0 + k % 2) true) = 1 ∧ W1 F S T n B) ∨ (fbF F S T n 1 (0 + 1) (upB B (24 * (k / 2) + 2 * rtF F S T B n 0 + k % 2) true) = 2 ∧ W2 F S T n B) := by
      intro k hk hb hp
      have hB : BN n (24 * (k / 2) + 2 * rtF F S T B n 0 + k % 2) := ⟨k / 2, _, k % 2, by omega, hlt, by omega, rfl⟩
      by_cases c0 : W0 F S T n (upB B (24 * (k / 2) + 2 * rtF F S T B n 0 + k % 2) true)
      · exact Or.inl ⟨(h1 _).1 c0, _, hB, hb, c0⟩
      · by_cases c1 : W1 F S T n (upB B (24 * (k / 2) + 2 * rtF F S T B n 0 + k % 2) true)
        · exact Or.inr ⟨(h1 _).2.1 c0 c1, _, hB, hb, c1⟩
        · have := (h1 _).2.2 c0 c1
          rw [this] at hp; omega
    have hy1 : W1 F S T n B → u = 1 := by
      intro w1
      obtain ⟨p, w, hp, hw, hb, h⟩ := W1_line hn rfl hlt w1
      have e := (h1 _).1 h
      rcases hmin with ⟨_, i2⟩ | ⟨i1, ⟨k0, hk, hb0, i4⟩, i5⟩
      · have := i2 (2 * p + w) (by omega) (by rw [bit8 hw]; exact hb)
        rw [bit8 hw] at this
        rw [show (0 + 1 : Nat) = 1 from rfl, e] at this; omega
      · have := i5 (2 * p + w) (by omega) (by rw [bit8 hw]; exact hb) (by rw [bit8 hw, show (0 + 1 : Nat) = 1 from rfl, e]; omega)
        rw [bit8 hw, show (0 + 1 : Nat) = 1 from rfl, e] at this
        rcases hv k0 hk hb0 (by rw [i4]; exact i1) with ⟨a, _⟩ | ⟨a, _⟩ <;> omega
    have hy2 : ¬ W1 F S T n B → W2 F S T n B → u = 2 := by
      intro w1 w2
      obtain ⟨p, w, hp, hw, hb, h⟩ := W2_line hn rfl hlt w2
      have c0 : ¬ W0 F S T n (upB B (24 * p + 2 * rtF F S T B n 0 + w) true) := fun q => w1 ⟨_, ⟨p, _, w, hp, hlt, hw, rfl⟩, hb, q⟩
      have e := (h1 _).2.1 c0 h
      rcases hmin with ⟨_, i2⟩ | ⟨i1, ⟨k0, hk, hb0, i4⟩, i5⟩
      · have := i2 (2 * p + w) (by omega) (by rw [bit8 hw]; exact hb)
        rw [bit8 hw, show (0 + 1 : Nat) = 1 from rfl, e] at this; omega
      · rcases hv k0 hk hb0 (by rw [i4]; exact i1) with ⟨_, b⟩ | ⟨a, _⟩
        · exact absurd b w1
        · omega
    have hy3 : ¬ W1 F S T n B → ¬ W2 F S T n B → u = -2 := by
      intro w1 w2
      rcases hmin with ⟨i1, _⟩ | ⟨i1, ⟨k0, hk, hb0, i4⟩, i5⟩
      · exact i1
      · rcases hv k0 hk hb0 (by rw [i4]; exact i1) with ⟨_, b⟩ | ⟨_, b⟩
        · exact absurd b w1
        · exact absurd b w2
    exact ⟨fun q => absurd q h0, fun _ => hy1, fun _ => hy2, fun _ => hy3⟩
end FEW
