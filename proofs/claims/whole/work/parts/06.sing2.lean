/-! ===== a singing's object, and how it goes on ===== -/
def stepO (can : Nat → Bool) (o : Option (Nat × Nat)) (s : Sst) : Sst :=
  match o with
  | none => (s.1, 0, hLast s.1)
  | some x => if can x.1 = true then ((x.1, (x.2 : Int)) :: s.1, 3, s.2.2) else (s.1, 1, x.1)
theorem stepG_O {nx : Hist → Option (Nat × Nat)} {can : Nat → Bool} {s : Sst} (h : s.2.1 = 3) (h60 : s.1.length < 60) : stepG nx can s = stepO can (nx s.1) s := by
  unfold stepG stepO
  rw [if_neg (fun q => q h), if_neg (by omega)]
  cases nx s.1 <;> rfl
theorem stepG_R {nx : Hist → Option (Nat × Nat)} {can : Nat → Bool} {s : Sst} (h : s.2.1 = 3) (h60 : 60 ≤ s.1.length) : stepG nx can s = (s.1, 2, ((hLast s.1 : Nat) : Int)) := by
  unfold stepG
  rw [if_neg (fun q => q h), if_pos h60]
theorem oL_neg {o : Option (Nat × Nat)} (h : oL o < 0) : o = none := by
  cases o with
  | none => rfl
  | some x => exact absurd h (by show ¬ ((x.1 : Nat) : Int) < 0; omega)
theorem oL_some {o : Option (Nat × Nat)} {x : Int32} (h : 0 ≤ oL o) (hx : x.toInt = oL o) : ∃ (xl xp : Nat), o = some (xl, xp) ∧ x.toInt = ((xl : Nat) : Int) := by
  cases o with
  | none => exact absurd h (by decide)
  | some y => exact ⟨y.1, y.2, rfl, hx⟩
def SGS (fl fb ft : Nat → Int32) (s_ r_ oc wh : Int32) (st : Sst) : Prop := SG fl fb ft st.1 ∧ s_.toInt = ((st.1.length : Nat) : Int) ∧ r_.toInt = ((hR st.1 : Nat) : Int) ∧ oc.toInt = st.2.1 ∧ wh.toInt = st.2.2 ∧ st.1.length ≤ 60 ∧ (st.2.1 = 3 → 0 < st.1.length)
theorem SGS_out {fl fb ft : Nat → Int32} {s_ r_ oc wh : Int32} {st : Sst} (h : SGS fl fb ft s_ r_ oc wh st) {oc2 wh2 : Int32} {a b : Int} (ha : oc2.toInt = a) (hb : wh2.toInt = b) (h3 : a ≠ 3) : SGS fl fb ft s_ r_ oc2 wh2 (st.1, a, b) :=
  ⟨h.1, h.2.1, h.2.2.1, ha, hb, h.2.2.2.2.2.1, fun q => absurd q h3⟩
theorem SGS_fix {nx : Hist → Option (Nat × Nat)} {can : Nat → Bool} {fl fb ft : Nat → Int32} {s_ r_ oc wh : Int32} {st : Sst} (h : SGS fl fb ft s_ r_ oc wh st) (h3 : oc.toInt ≠ 3) : SGS fl fb ft s_ r_ oc wh (stepG nx can st) := by
  rw [stepG_fix (fun q => h3 (h.2.2.2.1.trans q))]; exact h
theorem SGS_round {nx : Hist → Option (Nat × Nat)} {can : Nat → Bool} {fl fb ft : Nat → Int32} {s_ r_ oc wh : Int32} {st : Sst} (h : SGS fl fb ft s_ r_ oc wh st) (h3 : oc.toInt = 3) (h60 : 60 ≤ st.1.length) {wh2 : Int32} (hb : wh2.toInt = ((hLast st.1 : Nat) : Int)) : SGS fl fb ft s_ r_ (2 : Int32) wh2 (stepG nx can st) := by
  rw [stepG_R (h.2.2.2.1.symm.trans h3) h60]; exact SGS_out h (by decide) hb (by decide)
theorem SGS_o {nx : Hist → Option (Nat × Nat)} {can : Nat → Bool} {fl fb ft fl2 fb2 ft2 : Nat → Int32} {s_ r_ oc wh s2 r2 oc2 wh2 : Int32} {st : Sst} (h : SGS fl fb ft s_ r_ oc wh st) (h3 : oc.toInt = 3) (h60 : st.1.length < 60) (h2 : SGS fl2 fb2 ft2 s2 r2 oc2 wh2 (stepO can (nx st.1) st)) : SGS fl2 fb2 ft2 s2 r2 oc2 wh2 (stepG nx can st) := by
  rw [stepG_O (h.2.2.2.1.symm.trans h3) h60]; exact h2
theorem SGS_ends {can : Nat → Bool} {fl fb ft : Nat → Int32} {s_ r_ oc wh : Int32} {st : Sst} (h : SGS fl fb ft s_ r_ oc wh st) {o : Option (Nat × Nat)} (ho : o = none) {wh2 : Int32} (hb : wh2.toInt = ((hLast st.1 : Nat) : Int)) : SGS fl fb ft s_ r_ (0 : Int32) wh2 (stepO can o st) := by
  subst ho; exact SGS_out h (by decide) hb (by decide)
theorem SGS_sticks {can : Nat → Bool} {fl fb ft : Nat → Int32} {s_ r_ oc wh : Int32} {st : Sst} (h : SGS fl fb ft s_ r_ oc wh st) {o : Option (Nat × Nat)} {xl xp : Nat} (ho : o = some (xl, xp)) (hc : can xl = false) {wh2 : Int32} (hb : wh2.toInt = ((xl : Nat) : Int)) : SGS fl fb ft s_ r_ (1 : Int32) wh2 (stepO can o st) := by
  subst ho
  show SGS fl fb ft s_ r_ (1 : Int32) wh2 (if can xl = true then ((xl, (xp : Int)) :: st.1, 3, st.2.2) else (st.1, 1, xl))
  rw [if_neg (by rw [hc]; decide)]
  exact SGS_out h (by decide) hb (by decide)
theorem SGS_add {can : Nat → Bool} {fl fb ft fl2 fb2 ft2 : Nat → Int32} {s_ r_ oc wh s2 r2 : Int32} {st : Sst} (h : SGS fl fb ft s_ r_ oc wh st) (h3 : oc.toInt = 3) (h60 : st.1.length < 60) {o : Option (Nat × Nat)} {xl xp : Nat} (ho : o = some (xl, xp)) (hc : can xl = true) (h1 : SG fl2 fb2 ft2 ((xl, (xp : Int)) :: st.1)) (hs : s2.toInt = ((st.1.length + 1 : Nat) : Int)) (hr : r2.toInt = ((hR ((xl, (xp : Int)) :: st.1) : Nat) : Int)) : SGS fl2 fb2 ft2 s2 r2 oc wh (stepO can o st) := by
  subst ho
  show SGS fl2 fb2 ft2 s2 r2 oc wh (if can xl = true then ((xl, (xp : Int)) :: st.1, 3, st.2.2) else (st.1, 1, xl))
  rw [if_pos hc]
  exact ⟨h1, hs, hr, h3, h.2.2.2.2.1, h60, fun _ => Nat.succ_pos _⟩
theorem SGS_i1 {can : Nat → Bool} {l : Nat} {fl fb ft : Nat → Int32} {s_ r_ : Int32} (hc : can l = true) (h1 : SG fl fb ft [(l, -2)]) (hs : s_.toInt = ((0 + 1 : Nat) : Int)) (hr : r_.toInt = ((hR [(l, -2)] : Nat) : Int)) : SGS fl fb ft s_ r_ (3 : Int32) (0 : Int32) (initG can l) := by
  unfold initG; rw [if_pos hc]
  exact ⟨h1, hs, hr, (show (3 : Int32).toInt = 3 by decide), (show (0 : Int32).toInt = 0 by decide), (show 1 ≤ 60 by omega), fun _ => Nat.succ_pos _⟩
theorem SGS_i0 {can : Nat → Bool} {l : Nat} {fl fb ft : Nat → Int32} {x : Int32} (hc : can l = false) (h1 : SG fl fb ft []) (hx : x.toInt = ((l : Nat) : Int)) : SGS fl fb ft (0 : Int32) (0 : Int32) (1 : Int32) x (initG can l) := by
  unfold initG; rw [if_neg (by rw [hc]; decide)]
  exact ⟨h1, (show (0 : Int32).toInt = ((0 : Nat) : Int) by decide), (show (0 : Int32).toInt = ((0 : Nat) : Int) by decide), (show (1 : Int32).toInt = 1 by decide), hx, Nat.zero_le _, fun q => absurd (show (1 : Int) = 3 from q) (by decide)⟩
/-- a whole singing -/
def sgF (F : Nat → Nat → Nat → Int32) (S : Nat → Nat) (T : Nat → Nat) (B : Nat → Bool) (n l k : Nat) : Sst := itG (nxt F S T B n) (canS B) (initG (canS B) l) k
theorem sgF_60 {F : Nat → Nat → Nat → Int32} {S : Nat → Nat} {T : Nat → Nat} {B : Nat → Bool} {n l k : Nat} (hk : k ≤ 60) (h : (sgF F S T B n l k).2.1 ≠ 3) : sgF F S T B n l 60 = sgF F S T B n l k := by
  have := itG_fix h (60 - k)
  unfold sgF
  rw [show 60 = k + (60 - k) by omega]
  exact this
theorem SGS_60 {fl fb ft : Nat → Int32} {s_ r_ oc wh : Int32} {F : Nat → Nat → Nat → Int32} {S : Nat → Nat} {T : Nat → Nat} {B : Nat → Bool} {n l k : Nat} (hk : k ≤ 60) (h : SGS fl fb ft s_ r_ oc wh (sgF F S T B n l k)) (h3 : oc.toInt ≠ 3) : SGS fl fb ft s_ r_ oc wh (sgF F S T B n l 60) := by
  rw [sgF_60 hk (fun q => h3 (h.2.2.2.1.trans q))]; exact h
theorem SGS_61 {fl fb ft : Nat → Int32} {s_ r_ oc wh : Int32} {F : Nat → Nat → Nat → Int32} {S : Nat → Nat} {T : Nat → Nat} {B : Nat → Bool} {n l k : Nat} (hk : k = 60) (h : SGS fl fb ft s_ r_ oc wh (sgF F S T B n l k)) : SGS fl fb ft s_ r_ oc wh (sgF F S T B n l 60) := hk ▸ h
/-! ===== RIGHT ===== -/
def rtF (F : Nat → Nat → Nat → Int32) (S : Nat → Nat) (T : Nat → Nat) (B : Nat → Bool) (n l : Nat) : Nat := hR (sgF F S T B n l 60).1
theorem stepO_s {can : Nat → Bool} {x : Nat × Nat} {s : Sst} : stepO can (some x) s = if can x.1 = true then ((x.1, (x.2 : Int)) :: s.1, 3, s.2.2) else (s.1, 1, (x.1 : Int)) := rfl
theorem stepG_c (nx : Hist → Option (Nat × Nat)) (can : Nat → Bool) (s : Sst) : (s.2.1 ≠ 3 ∧ stepG nx can s = s) ∨ (s.2.1 = 3 ∧ ∃ x : Nat × Int, stepG nx can s = (x :: s.1, 3, s.2.2)) ∨ (s.2.1 = 3 ∧ (stepG nx can s).1 = s.1 ∧ (stepG nx can s).2.1 ≠ 3) := by
  by_cases h : s.2.1 = 3
  · by_cases h2 : s.1.length < 60
    · rw [stepG_O h h2]
      cases nx s.1 with
      | none => exact Or.inr (Or.inr ⟨h, rfl, fun q => absurd (show (0 : Int) = 3 from q) (by decide)⟩)
      | some x =>
        rw [stepO_s]
        by_cases h3 : can x.1 = true
        · rw [if_pos h3]; exact Or.inr (Or.inl ⟨h, _, rfl⟩)
        · rw [if_neg h3]; exact Or.inr (Or.inr ⟨h, rfl, fun q => absurd (show (1 : Int) = 3 from q) (by decide)⟩)
    · rw [stepG_R h (by omega)]
      exact Or.inr (Or.inr ⟨h, rfl, fun q => absurd (show (2 : Int) = 3 from q) (by decide)⟩)
  · exact Or.inl ⟨h, stepG_fix h⟩
theorem stepG_hist (nx : Hist → Option (Nat × Nat)) (can : Nat → Bool) (s : Sst) : (stepG nx can s).1 = s.1 ∨ (∃ x, (stepG nx can s).1 = x :: s.1 ∧ (stepG nx can s).2.1 = 3 ∧ s.2.1 = 3) := by
  rcases stepG_c nx can s with ⟨-, e⟩ | ⟨h, x, e⟩ | ⟨-, e, -⟩
  · exact Or.inl (by rw [e])
  · exact Or.inr ⟨x, by rw [e], by rw [e], h⟩
  · exact Or.inl e
theorem itG_nr {nx : Hist → Option (Nat × Nat)} {can : Nat → Bool} {s : Sst} {k : Nat} (h : hR (itG nx can s k).1 ≠ (itG nx can s k).1.length) : ∀ d, hR (itG nx can s (k + d)).1 = hR (itG nx can s k).1 ∧ hR (itG nx can s (k + d)).1 ≠ (itG nx can s (k + d)).1.length
  | 0 => ⟨rfl, h⟩
  | d + 1 => by
    obtain ⟨h1, h2⟩ := itG_nr h d
    show hR (stepG nx can (itG nx can s (k + d))).1 = _ ∧ hR (stepG nx can (itG nx can s (k + d))).1 ≠ (stepG nx can (itG nx can s (k + d))).1.length
    rcases stepG_hist nx can (itG nx can s (k + d)) with e | ⟨x, e, -, -⟩
    · rw [e]; exact ⟨h1, h2⟩
    · rw [e, hR_n (Or.inl h2)]
      refine ⟨h1, ?_⟩
      have := hR_le (itG nx can s (k + d)).1
      rw [List.length_cons]; omega
/-- RIGHT as far as it goes: each the next LINE -/
theorem hR_all {l : Nat} {b : Int} : ∀ {H : Hist}, hR (H ++ [(l, b)]) = (H ++ [(l, b)]).length → hLast (H ++ [(l, b)]) = l + H.length
  | [], _ => rfl
  | x :: H, h => by
    rw [List.cons_append] at h ⊢
    have hle := hR_le (H ++ [(l, b)])
    by_cases c : hR (H ++ [(l, b)]) = (H ++ [(l, b)]).length ∧ ((H ++ [(l, b)]).length = 0 ∨ x.1 = hLast (H ++ [(l, b)]) + 1)
    · have ih := hR_all c.1
      rcases c.2 with q | q
      · simp at q
      · show x.1 = l + (H.length + 1)
        rw [q, ih]; omega
    · exfalso
      have h2 : hR (x :: (H ++ [(l, b)])) = hR (H ++ [(l, b)]) := hR_n (by omega)
      rw [h2, List.length_cons] at h
      omega
theorem initG_3 {can : Nat → Bool} {l : Nat} (h : (initG can l).2.1 = 3) : (initG can l).1 = [(l, -2)] := by
  unfold initG at h ⊢
  by_cases c : can l = true
  · rw [if_pos c]
  · rw [if_neg c] at h; exact absurd (show (1 : Int) = 3 from h) (by decide)
theorem itG_len {nx : Hist → Option (Nat × Nat)} {can : Nat → Bool} {l : Nat} : ∀ (k : Nat), (itG nx can (initG can l) k).2.1 = 3 → ∃ H : Hist, (itG nx can (initG can l) k).1 = H ++ [(l, -2)] ∧ H.length = k
  | 0, h => ⟨[], initG_3 h, rfl⟩
  | k + 1, h => by
    have h' : (stepG nx can (itG nx can (initG can l) k)).2.1 = 3 := h
    show ∃ H : Hist, (stepG nx can (itG nx can (initG can l) k)).1 = _ ∧ _
    rcases stepG_c nx can (itG nx can (initG can l) k) with ⟨h1, e⟩ | ⟨h1, x, e⟩ | ⟨-, -, e⟩
    · rw [e] at h'; exact absurd h' h1
    · obtain ⟨H, hH, hl⟩ := itG_len k h1
      exact ⟨x :: H, by rw [e, hH]; rfl, by rw [List.length_cons, hl]⟩
    · exact absurd h' e
theorem rt_out {F : Nat → Nat → Nat → Int32} {S : Nat → Nat} {T : Nat → Nat} {B : Nat → Bool} {n l k : Nat} {fl fb ft : Nat → Int32} {s_ r_ oc wh : Int32} (hk : k ≤ 12) (h : SGS fl fb ft s_ r_ oc wh (sgF F S T B n l k)) (hc : oc.toInt ≠ 3 ∨ r_.toInt ≠ s_.toInt ∨ 12 ≤ k) : r_.toInt = ((rtF F S T B n l : Nat) : Int) := by
  rw [h.2.2.1]
  unfold rtF
  by_cases c1 : (sgF F S T B n l k).2.1 = 3
  · by_cases c2 : hR (sgF F S T B n l k).1 = (sgF F S T B n l k).1.length
    · have hk12 : k = 12 := by
        rcases hc with q | q | q
        · exact absurd (h.2.2.2.1.trans c1) q
        · rw [h.2.2.1, h.2.1, c2] at q; exact absurd rfl q
        · omega
      obtain ⟨H, hH, hl⟩ := itG_len (nx := nxt F S T B n) (can := canS B) (l := l) k c1
      have hH' : (sgF F S T B n l k).1 = H ++ [(l, -2)] := hH
      have h1 := SG_lt h.1
      rw [hH'] at c2 h1
      rw [hR_all c2] at h1
      omega
    · have := (itG_nr (nx := nxt F S T B n) (can := canS B) (s := initG (canS B) l) (k := k) c2 (60 - k)).1
      unfold sgF at this ⊢
      rw [show 60 = k + (60 - k) by omega, this]
  · rw [sgF_60 (by omega) c1]
theorem hR_le12 : ∀ {H : Hist}, (∀ x ∈ H, x.1 < 12) → hR H ≤ 12
  | [], _ => Nat.zero_le _
  | x :: H, h => by
    by_cases c : hR H = H.length ∧ (H.length = 0 ∨ x.1 = hLast H + 1)
    · have e : hR (x :: H) = (x :: H).length := by rw [hR_y c.1 c.2, c.1]; rfl
      rcases List.eq_nil_or_concat (x :: H) with q | ⟨G, y, q⟩
      · cases q
      · rw [List.concat_eq_append] at q
        have h1 := hR_all (H := G) (l := y.1) (b := y.2) (by have := e; rw [q] at this; exact this)
        have h2 : hLast (x :: H) = y.1 + G.length := by rw [q]; exact h1
        have h3 : x.1 < 12 := h x List.mem_cons_self
        have h4 : hLast (x :: H) = x.1 := rfl
        rw [e, q, List.length_append]
        show G.length + 1 ≤ 12
        omega
    · rw [hR_n (by omega)]
      exact hR_le12 (fun y hy => h y (List.mem_cons_of_mem _ hy))
theorem rt_12 {F : Nat → Nat → Nat → Int32} {S : Nat → Nat} {T : Nat → Nat} {B : Nat → Bool} {n l k : Nat} {fl fb ft : Nat → Int32} {s_ r_ oc wh : Int32} (hk : k ≤ 12) (h : SGS fl fb ft s_ r_ oc wh (sgF F S T B n l k)) (hc : oc.toInt ≠ 3 ∨ r_.toInt ≠ s_.toInt ∨ 12 ≤ k) : rtF F S T B n l ≤ 12 := by
  have h1 := rt_out hk h hc
  have h2 := h.2.2.1
  have h3 := hR_le12 h.1.2.2
  omega
