
/-! ===== both sides: what is alike where the rows are alike as far as they go ===== -/
theorem mtc_c {T : Nat → Nat} {v v' : Nat → Int} {m l : Nat} (hv : ∀ q, q < m → v q = v' q) (h : mtc T v m l) : mtc T v' m l := fun j hj => by rw [← hv j hj]; exact h j hj
theorem PLc_c {T : Nat → Nat} {v v' : Nat → Int} {m n : Nat} {r : Int} (hv : ∀ q, q < m → v q = v' q) (h : PLc T v m n r) : PLc T v' m n r := by
  have hv' : ∀ q, q < m → v' q = v q := fun q hq => (hv q hq).symm
  rcases h with ⟨l, h1, h2, h3, h4⟩ | ⟨h1, h2⟩
  · exact Or.inl ⟨l, h1, mtc_c hv h2, fun l' hl q => h3 l' hl (mtc_c hv' q), h4⟩
  · exact Or.inr ⟨h1, fun l hl q => h2 l hl (mtc_c hv' q)⟩
theorem jdO_c {v v' : Nat → Int} {H : Hist} {j : Nat} (hv : v j = v' j) (h : jdO v H j) : jdO v' H j := ⟨h.1, by rw [← hv]; exact h.2⟩
theorem FNc_c {F : Nat → Nat → Nat → Int32} {S : Nat → Nat} {T : Nat → Nat} {B : Nat → Bool} {n : Nat} {v v' : Nat → Int} {m : Nat} {r : Int} (hv : ∀ q, q < m → v q = v' q) (h : FNc F S T B n v m r) : FNc F S T B n v' m r := by
  rcases h with ⟨a1, a2⟩ | ⟨a1, a2, a3⟩ | ⟨a1, a2, a3, a4⟩
  · exact Or.inl ⟨a1, a2⟩
  · rw [hv 0 a1] at a2; exact Or.inr (Or.inl ⟨a1, a2, a3⟩)
  · rw [hv 0 a1] at a2 a3 a4
    refine Or.inr (Or.inr ⟨a1, a2, a3, ?_⟩)
    rcases a4 with ⟨i, c1, c2, c3, c4⟩ | ⟨c1, c2⟩
    · exact Or.inl ⟨i, c1, fun j hj => jdO_c (hv j (by omega)) (c2 j hj), fun q => c3 (jdO_c (hv i c1).symm q), c4⟩
    · exact Or.inr ⟨fun j hj => jdO_c (hv j hj) (c1 j hj), c2⟩
theorem LKs_c {F : Nat → Nat → Nat → Int32} {S : Nat → Nat} {T : Nat → Nat} {B : Nat → Bool} {n : Nat} {v v' : Nat → Int} {m : Nat} {x : Int64} {k : Nat} (hv : ∀ q, q < m → v q = v' q) (h : LKs F S T B n v m x k) : LKs F S T B n v' m x k := fun i hi => (h i hi).trans ⟨fun q => ⟨q.1, FNc_c hv q.2⟩, fun q => ⟨q.1, FNc_c (fun j hj => (hv j hj).symm) q.2⟩⟩
theorem lnO_c {v v' : Nat → Int} {m i n k : Nat} (hv : ∀ q, q < m → v q = v' q) (h : lnO v m i n k) : lnO v' m i n k := by
  obtain ⟨h1, h2, h3, h4, h5⟩ := h
  rw [hv _ (by omega)] at h3
  rw [hv _ (by omega)] at h4
  rw [hv _ (by omega)] at h5
  exact ⟨h1, h2, h3, h4, h5⟩
theorem LNc_c {v v' : Nat → Int} {m i n N c : Nat} (hv : ∀ q, q < m → v q = v' q) (h : LNc v m i n N c) : LNc v' m i n N c :=
  ⟨h.1, fun k hk => lnO_c hv (h.2.1 k hk), h.2.2.imp id (fun q w => q (lnO_c (fun j hj => (hv j hj).symm) w))⟩
theorem LNc_12 {v : Nat → Int} {m i n N c : Nat} (hn : n ≤ 12) (h : LNc v m i n N c) : n + c ≤ 12 := by
  cases c with
  | zero => exact hn
  | succ c => have := (h.2.1 c (Nat.lt_succ_self c)).1; omega
theorem lnT_c {T : Nat → Nat} {v v' : Nat → Int} {m i n : Nat} (hv : ∀ q, q < m → v q = v' q) : ∀ {c : Nat}, (∀ k, k < c → lnO v m i n k) → lnT T v i n c = lnT T v' i n c
  | 0, _ => rfl
  | c + 1, h => by
    have h1 := (h c (Nat.lt_succ_self c)).2.1
    show up3 (lnT T v i n c) (n + c) (v (i + 3 * c)).toNat (v (i + 3 * c + 1)).toNat (v (i + 3 * c + 2)).toNat = up3 (lnT T v' i n c) (n + c) (v' (i + 3 * c)).toNat (v' (i + 3 * c + 1)).toNat (v' (i + 3 * c + 2)).toNat
    rw [lnT_c hv (fun k hk => h k (Nat.lt_succ_of_lt hk)), hv _ (by omega), hv _ (by omega), hv _ (by omega)]
theorem LN_1 {f : Nat → Int32} {n : Nat → Nat} {s : Nat} {z : Int32} (h : LNR f n) (hc : n s < 12) (hz : z.toInt = ((n s + 1 : Nat) : Int)) : LNR (upd f s z) (upS n s (n s + 1)) := LN_add (c := n s) (by rw [upS_id]; exact h) hc (by rw [upS_eq]; exact hz)
theorem MT_1 {g2 g3 g4 : Nat → Int32} {T : Nat → Nat → Nat} {s c : Nat} {x y z : Int32} {a b d : Int} (h : MTR g2 g3 g4 T) (hc : c < 12) (hx : x.toInt = a) (hy : y.toInt = b) (hz : z.toInt = d) (h1 : 0 ≤ a ∧ a < 8) (h2 : 0 ≤ b ∧ b < 8) (h3 : 0 ≤ d ∧ d < 8) : MTR (upd g2 (12 * s + c) x) (upd g3 (12 * s + c) y) (upd g4 (12 * s + c) z) (upS T s (up3 (T s) c a.toNat b.toNat d.toNat)) := MT_add (c := c) (by rw [upS_id]; exact h) hc rfl hx hy hz h1 h2 h3
theorem bz_u {a b : Bool} (h : bz a = bz b) : a = b := by revert h; cases a <;> cases b <;> decide
theorem upB_z {B : Nat → Bool} {n bn : Nat} {v : Bool} (h : ∀ j, n ≤ j / 2 % 12 → B j = false) (hb : bn / 2 % 12 < n) : ∀ j, n ≤ j / 2 % 12 → upB B bn v j = false := fun j hj => by
  unfold upB; rw [if_neg (fun q => by rw [q] at hj; omega)]; exact h j hj
theorem canS_z {B : Nat → Bool} {n : Nat} (h : ∀ j, n ≤ j / 2 % 12 → B j = false) : n ≤ 0 → canS B 0 = false := by
  intro h0
  unfold canS anyB
  rw [h (2 * 0) (by omega), h (24 + 2 * 0) (by omega), h (48 + 2 * 0) (by omega), h (72 + 2 * 0) (by omega)]; rfl
theorem WHO_u {fh : Nat → Int32} {B : Nat → Bool} {l w : Nat} {x : Int32} (h : HV fh B) (hw : WHO B l w 4 x) (hl : l < 12) (h2 : w < 2) : fh (2 * l + w) = x := b_ext fun i hi => by
  rw [h _ (by omega) i hi, hw i hi, show 24 * i + (2 * l + w) = 24 * i + 2 * l + w by omega]
theorem LED_c {d1 d2 d3 d4 : Int32} {a b : Nat → Int32} (h : LED d1 d2 d3 d4 a) (e : ∀ j, j < 7 → b j = a j) : LED d1 d2 d3 d4 b := ⟨by rw [e 0 (by decide)]; exact h.1, by rw [e 1 (by decide)]; exact h.2.1, by rw [e 2 (by decide)]; exact h.2.2.1, by rw [e 3 (by decide)]; exact h.2.2.2⟩
theorem SG_c {fl fb ft gl gb gt : Nat → Int32} {H : Hist} (h : SG fl fb ft H) (hH : H.length ≤ 60) (e1 : ∀ j, j < 60 → gl j = fl j) (e2 : ∀ j, j < 60 → gb j = fb j) (e3 : ∀ j, j < 12 → gt j = ft j) : SG gl gb gt H := ⟨fun k hk => by rw [e1 k (by omega), e2 k (by omega)]; exact h.1 k hk, fun l hl => by rw [e3 l hl]; exact h.2.1 l hl, h.2.2⟩
theorem DD_c {c0 c1 c2 s1 : Nat} {fl fb ft gl gb gt : Nat → Int32} {s_ r_ oc wh : Int32} {m36 m37 k36 k37 : Nat → Int32} (h : DD c0 c1 c2 s1 fl fb ft s_ r_ oc wh m36 m37) (e1 : ∀ j, j < 60 → gl j = fl j) (e2 : ∀ j, j < 60 → gb j = fb j) (e3 : ∀ j, j < 12 → gt j = ft j) (e4 : ∀ j, j < 7 → k36 j = m36 j) (e5 : ∀ j, j < 12 → k37 j = m37 j) : DD c0 c1 c2 s1 gl gb gt s_ r_ oc wh k36 k37 := by
  rcases h with ⟨h1, h2⟩ | ⟨s, st, h1, h2, h3, h4, h5, h6, h7, h8⟩
  · exact Or.inl ⟨h1, by rw [e4 4 (by decide)]; exact h2⟩
  · exact Or.inr ⟨s, st, h1, h2, ⟨SG_c h3.1 h3.2.2.2.2.2.1 e1 e2 e3, h3.2⟩, h4, by rw [e4 4 (by decide)]; exact h5, by rw [e4 5 (by decide)]; exact h6, by rw [e4 6 (by decide)]; exact h7, fun l hl => by rw [e5 l hl]; exact h8 l hl⟩
theorem DD_iff {c0 c1 c2 s1 : Nat} {fl fb ft : Nat → Int32} {s_ r_ oc wh : Int32} {m36 m37 : Nat → Int32} (h : DD c0 c1 c2 s1 fl fb ft s_ r_ oc wh m36 m37) : oc.toInt = 3 ↔ 0 ≤ (m36 4).toInt := by
  rcases h with ⟨h1, h2⟩ | ⟨s, st, h1, h2, h3, h4, h5, h6, h7, h8⟩ <;> omega
theorem HV_c {f g : Nat → Int32} {B : Nat → Bool} (h : HV f B) (e : ∀ j, j < 24 → g j = f j) : HV g B := fun j hj q hq => by rw [e j hj]; exact h j hj q hq
theorem initG_y {can : Nat → Bool} {l : Nat} (h : can l = true) : initG can l = ([(l, -2)], 3, 0) := by unfold initG; rw [if_pos h]
theorem initG_n {can : Nat → Bool} {l : Nat} (h : can l = false) : initG can l = ([], 1, (l : Int)) := by unfold initG; rw [if_neg (by rw [h]; decide)]
theorem stepG_e {nx : Hist → Option (Nat × Nat)} {can : Nat → Bool} {s : Sst} (h : s.2.1 = 3) (h60 : s.1.length < 60) (hn : nx s.1 = none) : stepG nx can s = (s.1, 0, ((hLast s.1 : Nat) : Int)) := by
  rw [stepG_O h h60, hn]; rfl
theorem stepG_s {nx : Hist → Option (Nat × Nat)} {can : Nat → Bool} {s : Sst} {xl xp : Nat} (h : s.2.1 = 3) (h60 : s.1.length < 60) (hn : nx s.1 = some (xl, xp)) (hc : can xl = false) : stepG nx can s = (s.1, 1, ((xl : Nat) : Int)) := by
  rw [stepG_O h h60, hn, stepO_s, if_neg (by rw [hc]; decide)]
theorem stepG_y {nx : Hist → Option (Nat × Nat)} {can : Nat → Bool} {s : Sst} {xl xp : Nat} (h : s.2.1 = 3) (h60 : s.1.length < 60) (hn : nx s.1 = some (xl, xp)) (hc : can xl = true) : stepG nx can s = ((xl, (xp : Int)) :: s.1, 3, s.2.2) := by
  rw [stepG_O h h60, hn, stepO_s, if_pos hc]
theorem i32e {x y : Int32} {a : Int} (hx : x.toInt = a) (hy : y.toInt = a) : x = y := cI_eq.mpr (hx.trans hy.symm)
def RB (r : Room) : Prop := (r.cells = 0 ∧ r.slots = 0) ∧ r.frames ≤ 100 ∧ r.locals ≤ 4000
/-- a call of each side: both answer alike, and the next worlds have it in common too -/
def PRS (AN : Option Value → Option Value → Prop) (l : Launch) (D : va_G) (Y : Nat → ClassId) (CC : Nat → Nat) (m : Nat) (R : Nat → Nat) (W W' : va_W) (yX : MethodName) (wsX : List Cond) (yM : MethodName) (wsM : List Cond) (av : List Value) : Prop := ∃ (rX rM : Room) (pX pM : Option Value → va_W → Prop), RB rX ∧ RB rM ∧ Mg l yX wsX rX D Y W (.ref (CC 0) :: av) 0 0 pX ∧ Mg l yM wsM rM D Y W' (.ref m :: av) 0 0 pM ∧ ∀ v w v' w', pX v w → pM v' w' → AN v v' ∧ NXI Y CC m R w w'
theorem RB_of {a b : Nat} (h1 : a ≤ 100) (h2 : b ≤ 4000) : RB { frames := a, cells := 0, slots := 0, locals := b } := ⟨⟨rfl, rfl⟩, h1, h2⟩
theorem bz_bd (b : Bool) : 0 ≤ bz b ∧ bz b < 2 := by cases b <;> decide
theorem ixR (a : Int32) (q : Int) (hq : 0 < q) : ∃ s0 : Nat, s0 < 3 ∧ (0 ≤ a.toInt → a.toInt % q < 3 → a.toInt % q = ((s0 : Nat) : Int)) := by
  by_cases h : 0 ≤ a.toInt ∧ a.toInt % q < 3
  · have h0 : 0 ≤ a.toInt % q := Int.emod_nonneg _ (by omega)
    exact ⟨(a.toInt % q).toNat, by omega, fun _ _ => by omega⟩
  · exact ⟨0, by omega, fun h1 h2 => absurd ⟨h1, h2⟩ h⟩
theorem CC_ne {CC : Nat → Nat} (h : CC 18 ≠ CC 23 ∧ CC 18 ≠ CC 28 ∧ CC 23 ≠ CC 28) {s t : Nat} (hs : s < 3) (ht : t < 3) (hn : s ≠ t) : CC (18 + 5 * s) ≠ CC (18 + 5 * t) := by
  rcases (by omega : s = 0 ∨ s = 1 ∨ s = 2) with rfl | rfl | rfl <;> rcases (by omega : t = 0 ∨ t = 1 ∨ t = 2) with rfl | rfl | rfl
  · exact absurd rfl hn
  · exact h.1
  · exact h.2.1
  · exact h.1.symm
  · exact absurd rfl hn
  · exact h.2.2
  · exact h.2.1.symm
  · exact h.2.2.symm
  · exact absurd rfl hn
theorem LAWR_lo {v27 : Int32} {a20 a21 a22 a23 a24 b20 b21 b22 b23 b24 : Nat → Int32} {F : Nat → Nat → Nat → Int32} (h : LAWR v27 a20 a21 a22 a23 a24 F) (h1 : LO a20 a21 b20 b21) (h2 : LIO (a22 0) a23 a24 b22 b23 b24) : LAWR v27 b20 b21 b22 b23 b24 F := by
  rcases h with h | ⟨q1, ls, q2, q3, q4⟩
  · exact Or.inl h
  · exact Or.inr ⟨q1, ls, MLW_lo q2 h1 h2, q3, q4⟩
theorem DON_sg {c0 c1 c2 s1 : Nat} {fl fb ft : Nat → Int32} {s_ r_ oc wh : Int32} {m36 m37 : Nat → Int32} {s : Nat} {st : Sst} (h : DON c0 c1 c2 s1 fl fb ft s_ r_ oc wh m36 m37 s st) : hLast st.1 < 12 ∧ st.1.length ≤ 60 ∧ st.2.1 = 3 := ⟨SG_lt h.2.2.1.1, h.2.2.1.2.2.2.2.2.1, h.2.2.1.2.2.2.1.symm.trans h.2.2.2.1⟩
theorem tr_0 (f g : Nat → Int32) : ∀ j : Nat, ((j : Nat) : Int) < (0 : Int32).toInt → j < 24 → f j = g j := fun j h => by
  have e : (0 : Int32).toInt = 0 := by decide
  omega
theorem hq_i {hd bd so v72 a : Int32} (q : (hd.toInt = 0 ∧ a.toInt = -1) ∨ (hd.toInt = 1 ∧ bd = a ∧ 0 ≤ bd.toInt ∧ bd.toInt < v72.toInt) ∨ (hd.toInt = 2 ∧ 0 ≤ so.toInt ∧ so.toInt < 5 ∧ a.toInt = -2 - so.toInt)) : (hd.toInt = 0 ∧ a.toInt = -1) ∨ (hd.toInt = 1 ∧ bd.toInt = a.toInt ∧ 0 ≤ bd.toInt ∧ bd.toInt < v72.toInt) ∨ (hd.toInt = 2 ∧ 0 ≤ so.toInt ∧ so.toInt < 5 ∧ a.toInt = -2 - so.toInt) := by
  rcases q with q | q | q
  · exact Or.inl q
  · exact Or.inr (Or.inl ⟨q.1, by rw [q.2.1], q.2.2⟩)
  · exact Or.inr (Or.inr q)
