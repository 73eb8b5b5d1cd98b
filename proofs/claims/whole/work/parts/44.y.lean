
/-! ===== the reference's singings ===== -/
theorem canS_w1 {B : Nat → Bool} {l : Nat} {x y : Int32} (h0 : WHO B l 0 4 x) (h1 : WHO B l 1 4 y) (hx : x.toInt ≠ 0) (hy : y.toInt ≠ 0) : canS B l = true := by
  unfold canS
  rw [Bool.and_eq_true]
  exact ⟨Classical.byContradiction fun q => hx ((WHO_any h0).mpr (by simpa using q)), Classical.byContradiction fun q => hy ((WHO_any h1).mpr (by simpa using q))⟩
theorem canS_wa {B : Nat → Bool} {l : Nat} {x : Int32} (h0 : WHO B l 0 4 x) (hx : x.toInt = 0) : canS B l = false := by
  have h := (WHO_any h0).mp hx
  unfold canS; rw [show 2 * l = 2 * l + 0 from rfl, h]; rfl
theorem canS_wb {B : Nat → Bool} {l : Nat} {x : Int32} (h0 : WHO B l 1 4 x) (hx : x.toInt = 0) : canS B l = false := by
  have h := (WHO_any h0).mp hx
  unfold canS; rw [h]; simp
def nmF (lk su tm : Nat) : Nat → Int32
  | 0 => nI (lk / 2 ^ 0 % 2)
  | 1 => nI (lk / 2 ^ 1 % 2)
  | 2 => nI (lk / 2 ^ 2 % 2)
  | 3 => nI (lk / 2 ^ 3 % 2)
  | 4 => nI su
  | _ => nI tm
def FL (ls : List Lin) (lk su tm : Nat) : Int32 := GVL (nmF lk su tm) ls
theorem stM_c {nm nm' : Nat → Int32} (h : ∀ j, j < 6 → nm j = nm' j) (t : Tok) (s : List Int32) : stM nm t s = stM nm' t s := by
  unfold stM
  by_cases c : t.1 = 2 ∧ 0 ≤ t.2 ∧ t.2 < 6
  · have e := h t.2.toNat (by omega)
    rw [e]
  · by_cases d : t.1 = 2
    · rw [if_neg (by omega), if_pos d, if_neg (fun q => c ⟨d, q⟩), if_neg (by omega), if_pos d, if_neg (fun q => c ⟨d, q⟩)]
    · by_cases d1 : t.1 = 1
      · rw [if_pos d1, if_pos d1]
      · rw [if_neg d1, if_neg d, if_neg d1, if_neg d]
theorem evM_c {nm nm' : Nat → Int32} (h : ∀ j, j < 6 → nm j = nm' j) : ∀ (ts : List Tok) (s : List Int32), evM nm ts s = evM nm' ts s
  | [], _ => rfl
  | t :: ts, s => by
    show (stM nm t s).bind (evM nm ts) = (stM nm' t s).bind (evM nm' ts)
    rw [stM_c h t s]
    congr 1; funext s2; exact evM_c h ts s2
theorem valM_c {nm nm' : Nat → Int32} (h : ∀ j, j < 6 → nm j = nm' j) (ts : List Tok) : valM nm ts = valM nm' ts := by unfold valM; rw [evM_c h]
theorem GVL_c {nm nm' : Nat → Int32} (h : ∀ j, j < 6 → nm j = nm' j) : ∀ ls : List Lin, GVL nm ls = GVL nm' ls
  | [] => rfl
  | (none, ts) :: _ => valM_c h ts
  | (some t, ts) :: ls => by
    show (if (valM nm t).toInt = 0 then GVL nm ls else valM nm ts) = (if (valM nm' t).toInt = 0 then GVL nm' ls else valM nm' ts)
    rw [valM_c h t, valM_c h ts, GVL_c h ls]
theorem NMR_j {nm : Nat → Int32} {lk su tm : Nat} (h : NMR nm lk su tm) : ∀ j, j < 6 → nm j = nmF lk su tm j := by
  intro j hj
  obtain ⟨h0, h1, h2, h3, h4, h5⟩ := h
  have b : ∀ {x : Int32} {n : Nat}, x.toInt = ((n : Nat) : Int) → x = nI n := fun {x n} q => i_of q (by have := (tI_bd x).2; omega)
  rcases (by omega : j = 0 ∨ j = 1 ∨ j = 2 ∨ j = 3 ∨ j = 4 ∨ j = 5) with rfl | rfl | rfl | rfl | rfl | rfl
  · exact b h0
  · exact b h1
  · exact b h2
  · exact b h3
  · exact b h4
  · exact b h5
theorem FL_nm {nm : Nat → Int32} {lk su tm : Nat} (h : NMR nm lk su tm) (ls : List Lin) : GVL nm ls = FL ls lk su tm := GVL_c (NMR_j h) ls
/-- the first law -/
def ls0 : List Lin := [(none, [(97, 0), (48, 8), (42, 0), (97, 1), (43, 0), (97, 2), (48, 2), (42, 0), (43, 0), (97, 3), (43, 0), (97, 5), (48, 3), (42, 0), (45, 0)])]
def FA : Nat → Nat → Nat → Int32 := FL ls0
theorem GV0 (nm : Nat → Int32) : GVL nm ls0 = nm 0 * 8 + nm 1 + nm 2 * 2 + nm 3 - nm 5 * 3 := rfl
theorem lk_b0 (T : Nat → Nat) (a b : Nat) : ((lkT T a b / 2 ^ 0 % 2 : Nat) : Int) = bz (decide (b = a + 1)) := by
  unfold lkT bz; simp only [decide_eq_true_eq]
  split <;> split <;> split <;> split <;> rfl
theorem lk_b1 (T : Nat → Nat) (a b : Nat) : ((lkT T a b / 2 ^ 1 % 2 : Nat) : Int) = bz (decide (T (3 * b + 0) = T (3 * a + 0))) := by
  unfold lkT bz; simp only [decide_eq_true_eq]
  split <;> split <;> split <;> split <;> rfl
theorem lk_b2 (T : Nat → Nat) (a b : Nat) : ((lkT T a b / 2 ^ 2 % 2 : Nat) : Int) = bz (decide (T (3 * b + 1) = T (3 * a + 1))) := by
  unfold lkT bz; simp only [decide_eq_true_eq]
  split <;> split <;> split <;> split <;> rfl
theorem lk_b3 (T : Nat → Nat) (a b : Nat) : ((lkT T a b / 2 ^ 3 % 2 : Nat) : Int) = bz (decide (T (3 * b + 2) = T (3 * a + 2))) := by
  unfold lkT bz; simp only [decide_eq_true_eq]
  split <;> split <;> split <;> split <;> rfl
def up6 (f : Nat → Int32) (x0 x1 x2 x3 x4 x5 : Int32) : Nat → Int32 := upd (upd (upd (upd (upd (upd f 0 x0) 1 x1) 2 x2) 3 x3) 4 x4) 5 x5
theorem NMR_up (f : Nat → Int32) {x0 x1 x2 x3 x4 x5 : Int32} {T : Nat → Nat} {a b su tm : Nat} (h0 : x0.toInt = bz (decide (b = a + 1))) (h1 : x1.toInt = bz (decide (T (3 * b + 0) = T (3 * a + 0)))) (h2 : x2.toInt = bz (decide (T (3 * b + 1) = T (3 * a + 1)))) (h3 : x3.toInt = bz (decide (T (3 * b + 2) = T (3 * a + 2)))) (h4 : x4.toInt = ((su : Nat) : Int)) (h5 : x5.toInt = ((tm : Nat) : Int)) : NMR (up6 f x0 x1 x2 x3 x4 x5) (lkT T a b) su tm :=
  ⟨h0.trans (lk_b0 T a b).symm, h1.trans (lk_b1 T a b).symm, h2.trans (lk_b2 T a b).symm, h3.trans (lk_b3 T a b).symm, h4, h5⟩
theorem FA_val {x0 x1 x2 x3 x5 : Int32} {T : Nat → Nat} {a b tm : Nat} (su : Nat) (h0 : x0.toInt = bz (decide (b = a + 1))) (h1 : x1.toInt = bz (decide (T (3 * b + 0) = T (3 * a + 0)))) (h2 : x2.toInt = bz (decide (T (3 * b + 1) = T (3 * a + 1)))) (h3 : x3.toInt = bz (decide (T (3 * b + 2) = T (3 * a + 2)))) (h5 : x5.toInt = ((tm : Nat) : Int)) : x0 * 8 + x1 + x2 * 2 + x3 - x5 * 3 = FA (lkT T a b) su tm := by
  have e : ∀ {x : Int32} {n : Nat}, x.toInt = ((n : Nat) : Int) → x = nI n := fun {x n} q => i_of q (by have := (tI_bd x).2; omega)
  have g := GV0 (nmF (lkT T a b) su tm)
  show _ = GVL (nmF (lkT T a b) su tm) ls0
  rw [g, e (h0.trans (lk_b0 T a b).symm), e (h1.trans (lk_b1 T a b).symm), e (h2.trans (lk_b2 T a b).symm), e (h3.trans (lk_b3 T a b).symm), e h5]
  rfl
/-- the reference's law gives F -/
def LAWR (v27 : Int32) (f20 f21 f22 f23 f24 : Nat → Int32) (F : Nat → Nat → Nat → Int32) : Prop := (v27.toInt = 0 ∧ F = FA) ∨ (v27.toInt ≠ 0 ∧ ∃ ls, MLW f20 f21 f22 f23 f24 ls ∧ OKS ls ∧ F = FL ls)
theorem LAWR_1 {v27 : Int32} {f20 f21 f22 f23 f24 : Nat → Int32} {F : Nat → Nat → Nat → Int32} (h : LAWR v27 f20 f21 f22 f23 f24 F) (h0 : v27.toInt = 0) : F = FA := h.elim (fun q => q.2) (fun q => absurd h0 q.1)
theorem LAWR_2 {v27 : Int32} {f20 f21 f22 f23 f24 : Nat → Int32} {F : Nat → Nat → Nat → Int32} (h : LAWR v27 f20 f21 f22 f23 f24 F) (h0 : v27.toInt ≠ 0) : ∃ ls, MLW f20 f21 f22 f23 f24 ls ∧ OKS ls ∧ F = FL ls := h.elim (fun q => absurd q.1 h0) (fun q => q.2)
def oM (o : Option (Nat × Nat)) : Int := match o with | none => -1 | some x => x.1
def SCJ (ok : Nat → Nat → Bool) (val : Nat → Nat → Int) (q : Nat) (m f b : Int) : Prop := m = (scan ok val q).1 ∧ f = oM (scan ok val q).2 ∧ ∀ x, (scan ok val q).2 = some x → b = ((x.2 : Nat) : Int)
theorem SCJ_0 (ok : Nat → Nat → Bool) (val : Nat → Nat → Int) (b : Int) : SCJ ok val (4 * 0) 0 (-1) b := ⟨rfl, rfl, fun x h => by cases h⟩
theorem SCJ_n {ok : Nat → Nat → Bool} {val : Nat → Nat → Int} {l p : Nat} {m f b : Int} (hp : p < 4) (h : SCJ ok val (4 * l + p) m f b) (h0 : ok l p = false ∨ val l p ≤ m) : SCJ ok val (4 * l + (p + 1)) m f b := by
  unfold SCJ at h ⊢
  rw [show 4 * l + (p + 1) = 4 * l + p + 1 by omega, scan_n (by rw [(q4 hp).1, (q4 hp).2, ← h.1]; exact h0)]
  exact h
theorem SCJ_y {ok : Nat → Nat → Bool} {val : Nat → Nat → Int} {l p : Nat} {m f b v f2 b2 : Int} (hp : p < 4) (h : SCJ ok val (4 * l + p) m f b) (h0 : ok l p = true) (hv : v = val l p) (h1 : m < v) (hf : f2 = ((l : Nat) : Int)) (hb : b2 = ((p : Nat) : Int)) : SCJ ok val (4 * l + (p + 1)) v f2 b2 := by
  subst hf; subst hb; subst hv
  unfold SCJ at h ⊢
  rw [show 4 * l + (p + 1) = 4 * l + p + 1 by omega, scan_y (by rw [(q4 hp).1, (q4 hp).2]; exact h0) (by rw [(q4 hp).1, (q4 hp).2, ← h.1]; exact h1), (q4 hp).1, (q4 hp).2]
  exact ⟨rfl, rfl, fun x hx => by cases hx; rfl⟩
theorem SCJ_e {ok : Nat → Nat → Bool} {val : Nat → Nat → Int} {l q : Nat} {m f b : Int} (h : SCJ ok val (4 * l + q) m f b) (hq : q = 4) : SCJ ok val (4 * (l + 1)) m f b := by
  subst hq; rw [show 4 * (l + 1) = 4 * l + 4 by omega]; exact h
theorem SCJ_4 {ok : Nat → Nat → Bool} {val : Nat → Nat → Int} {l : Nat} {m f b : Int} (h : SCJ ok val (4 * l) m f b) (h0 : ∀ p, p < 4 → ok l p = false) : SCJ ok val (4 * (l + 1)) m f b := by
  have h1 := SCJ_n (p := 0) (by omega) (by simpa using h) (Or.inl (h0 0 (by omega)))
  have h2 := SCJ_n (p := 1) (by omega) h1 (Or.inl (h0 1 (by omega)))
  have h3 := SCJ_n (p := 2) (by omega) h2 (Or.inl (h0 2 (by omega)))
  have h4 := SCJ_n (p := 3) (by omega) h3 (Or.inl (h0 3 (by omega)))
  exact SCJ_e (q := 4) h4 rfl
theorem okP_f {B : Nat → Bool} {last l p : Nat} (h0 : bz (B (24 * p + 2 * l + 0)) = 0) (h1 : bz (B (24 * p + 2 * l + 1)) = 0) : okP B last l p = false := by
  have a := bz_f0 h0
  have b := bz_f0 h1
  unfold okP; rw [show 24 * p + 2 * l = 24 * p + 2 * l + 0 from rfl, a, b]; simp
theorem okP_t {B : Nat → Bool} {last l p : Nat} (hn : l ≠ last) (h : bz (B (24 * p + 2 * l + 0)) ≠ 0 ∨ bz (B (24 * p + 2 * l + 1)) ≠ 0) : okP B last l p = true := by
  unfold okP
  rcases h with h | h
  · have a := bz_t0 h
    rw [show 24 * p + 2 * l = 24 * p + 2 * l + 0 from rfl, a]; simp [hn]
  · have a := bz_t0 h
    rw [a]; simp [hn]
/-- what is to be sung as the i-th LINE -/
def CND (F : Nat → Nat → Nat → Int32) (S : Nat → Nat) (T : Nat → Nat) (B : Nat → Bool) (n l i : Nat) (H : Hist) (c : Nat) (b : Int) : Prop := (i = 0 ∧ H = [] ∧ c = l ∧ b = -2) ∨ (∃ j p : Nat, i = j + 1 ∧ b = (p : Int) ∧ sgF F S T B n l j = (H, 3, 0) ∧ H.length = i ∧ nxt F S T B n H = some (c, p))
section CNDs
variable {F : Nat → Nat → Nat → Int32} {S : Nat → Nat} {T : Nat → Nat} {B : Nat → Bool} {n l i c : Nat} {H : Hist} {b : Int}
theorem CND_0 (F : Nat → Nat → Nat → Int32) (S : Nat → Nat) (T : Nat → Nat) (B : Nat → Bool) (n l : Nat) : CND F S T B n l 0 [] l (-2) := Or.inl ⟨rfl, rfl, rfl, rfl⟩
theorem CND_len (h : CND F S T B n l i H c b) : H.length = i := by
  rcases h with ⟨h1, h2, -, -⟩ | ⟨j, p, -, -, -, h, -⟩
  · rw [h1, h2]; rfl
  · exact h
theorem sgF_s (F : Nat → Nat → Nat → Int32) (S : Nat → Nat) (T : Nat → Nat) (B : Nat → Bool) (n l j : Nat) : sgF F S T B n l (j + 1) = stepG (nxt F S T B n) (canS B) (sgF F S T B n l j) := rfl
theorem CND_no (h : CND F S T B n l i H c b) (hi : i < 60) (hc : canS B c = false) : sgF F S T B n l i = (H, 1, (c : Int)) := by
  rcases h with ⟨rfl, rfl, rfl, rfl⟩ | ⟨j, p, rfl, rfl, hs, hl, hx⟩
  · show initG (canS B) c = _
    unfold initG; rw [if_neg (by rw [hc]; decide)]
  · rw [sgF_s, hs, stepG_O (s := (H, 3, 0)) rfl (by show H.length < 60; omega), show ((H, (3 : Int), (0 : Int)) : Sst).1 = H from rfl, hx, stepO_s]
    rw [if_neg (by rw [hc]; decide)]
theorem CND_yes (h : CND F S T B n l i H c b) (hi : i < 60) (hc : canS B c = true) : sgF F S T B n l i = ((c, b) :: H, 3, 0) := by
  rcases h with ⟨rfl, rfl, rfl, rfl⟩ | ⟨j, p, rfl, rfl, hs, hl, hx⟩
  · show initG (canS B) c = _
    unfold initG; rw [if_pos hc]
  · rw [sgF_s, hs, stepG_O (s := (H, 3, 0)) rfl (by show H.length < 60; omega), show ((H, (3 : Int), (0 : Int)) : Sst).1 = H from rfl, hx, stepO_s]
    rw [if_pos hc]
theorem CND_end {j : Nat} (hs : sgF F S T B n l j = (H, 3, 0)) (hl : H.length < 60) (hx : nxt F S T B n H = none) : sgF F S T B n l (j + 1) = (H, 0, ((hLast H : Nat) : Int)) := by
  rw [sgF_s, hs, stepG_O (s := (H, 3, 0)) rfl hl, show ((H, (3 : Int), (0 : Int)) : Sst).1 = H from rfl, hx]; rfl
theorem CND_round {j : Nat} (hs : sgF F S T B n l j = (H, 3, 0)) (hl : 60 ≤ H.length) : sgF F S T B n l (j + 1) = (H, 2, ((hLast H : Nat) : Int)) := by
  rw [sgF_s, hs, stepG_R (s := (H, 3, 0)) rfl hl]
theorem CND_next {j p c' : Nat} (hs : sgF F S T B n l j = (H, 3, 0)) (hl : H.length = j + 1) (hx : nxt F S T B n H = some (c', p)) : CND F S T B n l (j + 1) H c' (p : Int) := Or.inr ⟨j, p, rfl, rfl, hs, hl, hx⟩
theorem oM_some {o : Option (Nat × Nat)} {x : Int} (h : 0 ≤ x) (hx : x = oM o) : ∃ (xl xp : Nat), o = some (xl, xp) ∧ x = ((xl : Nat) : Int) := by
  cases o with
  | none => rw [hx] at h; exact absurd h (by decide)
  | some y => exact ⟨y.1, y.2, rfl, hx⟩
theorem oM_none {o : Option (Nat × Nat)} {x : Int} (h : x < 0) (hx : x = oM o) : o = none := by
  cases o with
  | none => rfl
  | some y => have : x = ((y.1 : Nat) : Int) := hx
              omega
end CNDs
def OFT (ft : Nat → Int32) (H : Hist) : Prop := ∀ l, l < 12 → (ft l).toInt = ((hCnt H l : Nat) : Int)
theorem OFT_add {ft : Nat → Int32} {H : Hist} (h : OFT ft H) {l : Nat} (b : Int) {t : Int32} (ht : t.toInt = ((hCnt H l + 1 : Nat) : Int)) : OFT (upd ft l t) ((l, b) :: H) := by
  intro j hj
  show (upd ft l t j).toInt = (((if l = j then 1 else 0) + hCnt H j : Nat) : Int)
  unfold upd
  by_cases e : j = l
  · rw [if_pos e, if_pos e.symm, ht, e]; omega
  · rw [if_neg e, if_neg (fun q => e q.symm), h j hj]; omega
/-- a singing's rows and numbers, in the reference -/
def MGS (fl fb ft : Nat → Int32) (s_ oc wh : Int32) (st : Sst) : Prop := SG fl fb ft st.1 ∧ s_.toInt = ((st.1.length : Nat) : Int) ∧ oc.toInt = st.2.1 ∧ wh.toInt = st.2.2
theorem MGS_c {fl fb ft : Nat → Int32} {s_ oc wh : Int32} {F : Nat → Nat → Nat → Int32} {S : Nat → Nat} {T : Nat → Nat} {B : Nat → Bool} {n l k : Nat} {st : Sst} (hk : k ≤ 60) (he : sgF F S T B n l k = st) (h3 : st.2.1 ≠ 3 ∨ k = 60) (h : MGS fl fb ft s_ oc wh st) : MGS fl fb ft s_ oc wh (sgF F S T B n l 60) := by
  rcases h3 with h3 | h3
  · rw [sgF_60 hk (by rw [he]; exact h3), he]; exact h
  · subst h3; rw [he]; exact h
theorem rt_at {F : Nat → Nat → Nat → Int32} {S : Nat → Nat} {T : Nat → Nat} {B : Nat → Bool} {n l k : Nat} {st : Sst} (hk : k ≤ 60) (he : sgF F S T B n l k = st) (h3 : st.2.1 ≠ 3 ∨ hR st.1 ≠ st.1.length) : rtF F S T B n l = hR st.1 := by
  unfold rtF
  rcases h3 with h3 | h3
  · rw [sgF_60 hk (by rw [he]; exact h3), he]
  · have := (itG_nr (nx := nxt F S T B n) (can := canS B) (s := initG (canS B) l) (k := k) (by show hR (sgF F S T B n l k).1 ≠ (sgF F S T B n l k).1.length; rw [he]; exact h3) (60 - k)).1
    rw [show k + (60 - k) = 60 by omega] at this
    show hR (sgF F S T B n l 60).1 = _
    have h2 : hR (sgF F S T B n l 60).1 = hR (sgF F S T B n l k).1 := this
    rw [h2, he]
/-- a run that goes wrong behind H tells how many were right -/
theorem rt_end {F : Nat → Nat → Nat → Int32} {S : Nat → Nat} {T : Nat → Nat} {B : Nat → Bool} {n l j : Nat} {H : Hist} (hj : j < 59) (hs : sgF F S T B n l j = (H, 3, 0)) (hl : H.length = j + 1) (hR_ : hR H = H.length) (hx : oM (nxt F S T B n H) ≠ ((hLast H + 1 : Nat) : Int)) : rtF F S T B n l = hR H := by
  cases o : nxt F S T B n H with
  | none =>
    have := CND_end hs (by omega) o
    exact rt_at (st := (H, 0, _)) (by omega) this (Or.inl (by show (0 : Int) ≠ 3; decide))
  | some x =>
    rw [o] at hx
    have hne : x.1 ≠ hLast H + 1 := fun e => hx (by show ((x.1 : Nat) : Int) = _; rw [e])
    have hc := CND_next (p := x.2) (c' := x.1) hs hl o
    by_cases cs : canS B x.1 = true
    · have := CND_yes hc (by omega) cs
      have hr : hR ((x.1, (x.2 : Int)) :: H) = hR H := hR_n (Or.inr ⟨by omega, hne⟩)
      rw [← hr]
      refine rt_at (st := ((x.1, (x.2 : Int)) :: H, 3, 0)) (by omega) this (Or.inr ?_)
      show hR ((x.1, (x.2 : Int)) :: H) ≠ H.length + 1
      rw [hr]; omega
    · have := CND_no hc (by omega) (by simpa using cs)
      exact rt_at (st := (H, 1, _)) (by omega) this (Or.inl (by show (1 : Int) ≠ 3; decide))
theorem hR_next {H : Hist} {c : Nat} {b : Int} (h : hR H = H.length) (h2 : H.length = 0 ∨ c = hLast H + 1) : hR ((c, b) :: H) = H.length + 1 := by rw [hR_y h h2, h]

theorem sgF_len (F : Nat → Nat → Nat → Int32) (S : Nat → Nat) (T : Nat → Nat) (B : Nat → Bool) (n l : Nat) : (sgF F S T B n l 60).1.length ≤ 60 := by
  have key : ∀ k, (sgF F S T B n l k).1.length ≤ 60 := by
    intro k
    induction k with
    | zero => show (initG (canS B) l).1.length ≤ 60; unfold initG; split <;> (show _ ≤ 60; simp)
    | succ k ih =>
      rw [sgF_s]
      unfold stepG
      split
      · exact ih
      · split
        · exact ih
        · rename_i h
          split
          · exact ih
          · split
            · show (sgF F S T B n l k).1.length + 1 ≤ 60; omega
            · exact ih
  exact key 60
set_option maxHeartbeats 4000000 in
set_option maxRecDepth 100000 in
theorem c_X11_canSing (l : Launch) (D : va_G) (Y : Nat → ClassId) (m : Nat) (R : Nat → Nat) (v0 : Int32) (v7 : Int32) (v8 : Int32) (v9 : Int32) (v15 : Int32) (v16 : Int32) (v17 : Int32) (v18 : Int32) (v19 : Int32) (v27 : Int32) (v31 : Int32) (v32 : Int32) (v33 : Int32) (v34 : Int32) (v38 : Int32) (v42 : Int32) (v44 : Int32) (a5 : Nat → Int32) (B : Nat → Nat → Bool) (s0 : Nat) (x : Int32) (c_ : Int32) (ln : Nat) (hMH : MHV a5 B) (hs0 : s0 < 3) (tx : x.toInt = ((s0 : Nat) : Int)) (tc_ : c_.toInt = ((ln : Nat) : Int)) (hl : ln < 12) : Mg l yX11_canSing wsX11_canSing ({ frames := 3, cells := 0, slots := 0, locals := 71 }) D Y [(m, .inr (10, mF R v0 v7 v8 v9 v15 v16 v17 v18 v19 v27 v31 v32 v33 v34 v38 v42 v44)), ((R 5), .inl (Y 0, 24, .inl a5))] [.ref m, .int x, .int c_] 0 0 (fun vv__ ww__ => (vv__ = some (.int (1 : Int32)) ∧ ww__ = [(m, .inr (10, mF R v0 v7 v8 v9 v15 v16 v17 v18 v19 v27 v31 v32 v33 v34 v38 v42 v44)), ((R 5), .inl (Y 0, 24, .inl a5))] ∧ (canS (B s0) ln = true)) ∨ (vv__ = some (.int (0 : Int32)) ∧ ww__ = [(m, .inr (10, mF R v0 v7 v8 v9 v15 v16 v17 v18 v19 v27 v31 v32 v33 v34 v38 v42 v44)), ((R 5), .inl (Y 0, 24, .inl a5))] ∧ (canS (B s0) ln = false))) := by
  refine Mg_of (cc := cX11_canSing) (maxL := 3) (ret := (some .boolean)) (ls0 := [(0, .ref m), (1, .int x), (2, .int c_)]) RX11 (by decide) rfl rfl rfl (Nat.le_of_ble_eq_true rfl) (fun p__ e__ s__ m__ b__ t__ c__ X hr hn => ?_)
  refine V_aload_n X 0 rfl dX11_canSing_0 ?_
  refine V_iload_n X 1 rfl dX11_canSing_1 ?_
  refine V_iload_n X 2 rfl dX11_canSing_2 ?_
  refine V_iconst (v := (0 : Int32)) X (by decide) dX11_canSing_3 ?_
  refine V_callV (C := RX11) (wr := []) (st := []) X (c_X11_whoHas l D Y m R v0 v7 v8 v9 v15 v16 v17 v18 v19 v27 v31 v32 v33 v34 v38 v42 v44 a5 B s0 x c_ ln (0 : Int32) 0 hMH hs0 tx tc_ hl (by have h9 : (0 : Int32).toInt = 0 := (show (0 : Int32).toInt = 0 from by decide); omega) (by omega)) 3 gX11_canSing_X11_whoHas rfl (by decide +kernel) ⟨rfl, rfl⟩ ⟨Nat.le_of_ble_eq_true rfl, Nat.le_of_ble_eq_true rfl⟩ [0, 1] [] rfl rfl rfl rfl (by decide) (ci := 10) rfl rfl 0 rfl rfl rfl (Nat.le_of_ble_eq_true rfl) ⟨Nat.le_of_ble_eq_true rfl, Nat.le_of_ble_eq_true rfl⟩ dX11_canSing_4 (fun v_4 w_4 h_4 => ?_)
  obtain ⟨r_2, rfl, rfl, hhW_3⟩ := h_4
  refine V_to (pc' := 7) (ls' := [(0, .ref m), (1, .int x), (2, .int c_)]) (st' := [.int r_2]) (ws' := [(m, .inr (10, mF R v0 v7 v8 v9 v15 v16 v17 v18 v19 v27 v31 v32 v33 v34 v38 v42 v44)), ((R 5), .inl (Y 0, 24, .inl a5))]) ?_ rfl rfl rfl rfl
  refine V_if_eq X rfl 24 dX11_canSing_7 (by decide) (fun c_7 => ?_) (fun c_7 => ?_)
  · refine V_iconst (v := (0 : Int32)) X (by decide) dX11_canSing_24 ?_
    exact V_zret X hr rfl dX11_canSing_25 (Or.inr (⟨rfl, rfl, (canS_wa hhW_3 c_7)⟩))
  · refine V_aload_n X 0 rfl dX11_canSing_10 ?_
    refine V_iload_n X 1 rfl dX11_canSing_11 ?_
    refine V_iload_n X 2 rfl dX11_canSing_12 ?_
    refine V_iconst (v := (1 : Int32)) X (by decide) dX11_canSing_13 ?_
    refine V_callV (C := RX11) (wr := []) (st := []) X (c_X11_whoHas l D Y m R v0 v7 v8 v9 v15 v16 v17 v18 v19 v27 v31 v32 v33 v34 v38 v42 v44 a5 B s0 x c_ ln (1 : Int32) 1 hMH hs0 tx tc_ hl (by have h9 : (1 : Int32).toInt = 1 := (show (1 : Int32).toInt = 1 from by decide); omega) (by omega)) 3 gX11_canSing_X11_whoHas rfl (by decide +kernel) ⟨rfl, rfl⟩ ⟨Nat.le_of_ble_eq_true rfl, Nat.le_of_ble_eq_true rfl⟩ [0, 1] [] rfl rfl rfl rfl (by decide) (ci := 10) rfl rfl 0 rfl rfl rfl (Nat.le_of_ble_eq_true rfl) ⟨Nat.le_of_ble_eq_true rfl, Nat.le_of_ble_eq_true rfl⟩ dX11_canSing_14 (fun v_14 w_14 h_14 => ?_)
    obtain ⟨r_5, rfl, rfl, hhW_6⟩ := h_14
    refine V_to (pc' := 17) (ls' := [(0, .ref m), (1, .int x), (2, .int c_)]) (st' := [.int r_5]) (ws' := [(m, .inr (10, mF R v0 v7 v8 v9 v15 v16 v17 v18 v19 v27 v31 v32 v33 v34 v38 v42 v44)), ((R 5), .inl (Y 0, 24, .inl a5))]) ?_ rfl rfl rfl rfl
    refine V_if_eq X rfl 24 dX11_canSing_17 (by decide) (fun c_17 => ?_) (fun c_17 => ?_)
    · refine V_iconst (v := (0 : Int32)) X (by decide) dX11_canSing_24 ?_
      exact V_zret X hr rfl dX11_canSing_25 (Or.inr (⟨rfl, rfl, (canS_wb hhW_6 c_17)⟩))
    · refine V_iconst (v := (1 : Int32)) X (by decide) dX11_canSing_20 ?_
      refine V_goto X 25 (by decide) dX11_canSing_21 ?_
      exact V_zret X hr rfl dX11_canSing_25 (Or.inl ⟨rfl, rfl, (canS_w1 hhW_3 hhW_6 c_7 c_17)⟩)

theorem in_X11_comesTo_X11 : ∀ w ∈ wsX110, w ∈ wsX11_comesTo := fun w h => List.mem_cons_of_mem _ (List.mem_append_right _ h)
set_option maxHeartbeats 4000000 in
set_option maxRecDepth 100000 in
theorem c_X11_comesTo (l : Launch) (D : va_G) (Y : Nat → ClassId) (m : Nat) (R : Nat → Nat) (v0 : Int32) (v7 : Int32) (v8 : Int32) (v9 : Int32) (v15 : Int32) (v16 : Int32) (v17 : Int32) (v18 : Int32) (v19 : Int32) (v27 : Int32) (v31 : Int32) (v32 : Int32) (v33 : Int32) (v34 : Int32) (v38 : Int32) (v42 : Int32) (v44 : Int32) (a2 : Nat → Int32) (a3 : Nat → Int32) (a4 : Nat → Int32) (a6 : Nat → Int32) (a20 : Nat → Int32) (a21 : Nat → Int32) (a22 : Nat → Int32) (a23 : Nat → Int32) (a24 : Nat → Int32) (a25 : Nat → Int32) (a26 : Nat → Int32) (a28 : Nat → Int32) (T : Nat → Nat → Nat) (S : Nat → Nat) (F : Nat → Nat → Nat → Int32) (s0 : Nat) (x : Int32) (c_ : Int32) (cn : Nat) (y : Int32) (xn : Nat) (p_ : Int32) (pn : Nat) (of : Nat) (hMT : MTR a2 a3 a4 T) (hSU : SUR a6 S) (hLW : LAWR v27 a20 a21 a22 a23 a24 F) (hs0 : s0 < 3) (tx : x.toInt = ((s0 : Nat) : Int)) (tc_ : c_.toInt = ((cn : Nat) : Int)) (ty : y.toInt = ((xn : Nat) : Int)) (tp_ : p_.toInt = ((pn : Nat) : Int)) (hc : cn < 12) (hx : xn < 12) (hp : pn < 4) (hof : (a28 xn).toInt = ((of : Nat) : Int)) : Mg l yX11_comesTo wsX11_comesTo ({ frames := 3, cells := 0, slots := 0, locals := 71 }) D Y [(m, .inr (10, mF R v0 v7 v8 v9 v15 v16 v17 v18 v19 v27 v31 v32 v33 v34 v38 v42 v44)), ((R 2), .inl (Y 0, 36, .inl a2)), ((R 3), .inl (Y 0, 36, .inl a3)), ((R 4), .inl (Y 0, 36, .inl a4)), ((R 6), .inl (Y 0, 4, .inl a6)), ((R 20), .inl (Y 2, 260, .inl a20)), ((R 21), .inl (Y 0, 260, .inl a21)), ((R 22), .inl (Y 0, 2, .inl a22)), ((R 23), .inl (Y 3, 122, .inl a23)), ((R 24), .inl (Y 3, 122, .inl a24)), ((R 25), .inl (Y 0, 6, .inl a25)), ((R 26), .inl (Y 0, 130, .inl a26)), ((R 28), .inl (Y 0, 12, .inl a28))] [.ref m, .int x, .int c_, .int y, .int p_] 0 0 (fun vv__ ww__ => (∃ (r : Int32), ∃ (b25 : Nat → Int32), ∃ (b26 : Nat → Int32), vv__ = some (.int r) ∧ ww__ = [(m, .inr (10, mF R v0 v7 v8 v9 v15 v16 v17 v18 v19 v27 v31 v32 v33 v34 v38 v42 v44)), ((R 2), .inl (Y 0, 36, .inl a2)), ((R 3), .inl (Y 0, 36, .inl a3)), ((R 4), .inl (Y 0, 36, .inl a4)), ((R 6), .inl (Y 0, 4, .inl a6)), ((R 20), .inl (Y 2, 260, .inl a20)), ((R 21), .inl (Y 0, 260, .inl a21)), ((R 22), .inl (Y 0, 2, .inl a22)), ((R 23), .inl (Y 3, 122, .inl a23)), ((R 24), .inl (Y 3, 122, .inl a24)), ((R 25), .inl (Y 0, 6, .inl b25)), ((R 26), .inl (Y 0, 130, .inl b26)), ((R 28), .inl (Y 0, 12, .inl a28))] ∧ (r = F (lkT (T s0) cn xn) (S pn) of))) := by
  refine Mg_of (cc := cX11_comesTo) (maxL := 9) (ret := (some .int)) (ls0 := [(0, .ref m), (1, .int x), (2, .int c_), (3, .int y), (4, .int p_)]) RX11 (by decide) rfl rfl rfl (Nat.le_of_ble_eq_true rfl) (fun p__ e__ s__ m__ b__ t__ c__ X hr hn => ?_)
  refine V_cut1 (fun (q5 : Int32) => (q5.toInt = bz (decide (xn = cn + 1)))) 12 (fun (q5 : Int32) => [(0, .ref m), (1, .int x), (2, .int c_), (3, .int y), (4, .int p_)]) (fun (q5 : Int32) => [.int q5]) (fun (q5 : Int32) => [(m, .inr (10, mF R v0 v7 v8 v9 v15 v16 v17 v18 v19 v27 v31 v32 v33 v34 v38 v42 v44)), ((R 2), .inl (Y 0, 36, .inl a2)), ((R 3), .inl (Y 0, 36, .inl a3)), ((R 4), .inl (Y 0, 36, .inl a4)), ((R 6), .inl (Y 0, 4, .inl a6)), ((R 20), .inl (Y 2, 260, .inl a20)), ((R 21), .inl (Y 0, 260, .inl a21)), ((R 22), .inl (Y 0, 2, .inl a22)), ((R 23), .inl (Y 3, 122, .inl a23)), ((R 24), .inl (Y 3, 122, .inl a24)), ((R 25), .inl (Y 0, 6, .inl a25)), ((R 26), .inl (Y 0, 130, .inl a26)), ((R 28), .inl (Y 0, 12, .inl a28))]) (fun q5 hI_12 => ?_) (fun K_12 => ?_)
  · have tq5 := hI_12
    refine V_to (ls' := [(0, .ref m), (1, .int x), (2, .int c_), (3, .int y), (4, .int p_)]) (st' := [.int q5]) (ws' := [(m, .inr (10, mF R v0 v7 v8 v9 v15 v16 v17 v18 v19 v27 v31 v32 v33 v34 v38 v42 v44)), ((R 2), .inl (Y 0, 36, .inl a2)), ((R 3), .inl (Y 0, 36, .inl a3)), ((R 4), .inl (Y 0, 36, .inl a4)), ((R 6), .inl (Y 0, 4, .inl a6)), ((R 20), .inl (Y 2, 260, .inl a20)), ((R 21), .inl (Y 0, 260, .inl a21)), ((R 22), .inl (Y 0, 2, .inl a22)), ((R 23), .inl (Y 3, 122, .inl a23)), ((R 24), .inl (Y 3, 122, .inl a24)), ((R 25), .inl (Y 0, 6, .inl a25)), ((R 26), .inl (Y 0, 130, .inl a26)), ((R 28), .inl (Y 0, 12, .inl a28))]) ?_ rfl rfl rfl rfl
    refine V_istore (ls' := [(5, .int q5), (0, .ref m), (1, .int x), (2, .int c_), (3, .int y), (4, .int p_)]) X (by decide) rfl dX11_comesTo_12 ?_
    refine V_cut1 (fun (q6 : Int32) => (q6.toInt = bz (decide (T s0 (3 * xn + 0) = T s0 (3 * cn + 0))))) 44 (fun (q6 : Int32) => [(0, .ref m), (1, .int x), (2, .int c_), (3, .int y), (4, .int p_), (5, .int q5)]) (fun (q6 : Int32) => [.int q6]) (fun (q6 : Int32) => [(m, .inr (10, mF R v0 v7 v8 v9 v15 v16 v17 v18 v19 v27 v31 v32 v33 v34 v38 v42 v44)), ((R 2), .inl (Y 0, 36, .inl a2)), ((R 3), .inl (Y 0, 36, .inl a3)), ((R 4), .inl (Y 0, 36, .inl a4)), ((R 6), .inl (Y 0, 4, .inl a6)), ((R 20), .inl (Y 2, 260, .inl a20)), ((R 21), .inl (Y 0, 260, .inl a21)), ((R 22), .inl (Y 0, 2, .inl a22)), ((R 23), .inl (Y 3, 122, .inl a23)), ((R 24), .inl (Y 3, 122, .inl a24)), ((R 25), .inl (Y 0, 6, .inl a25)), ((R 26), .inl (Y 0, 130, .inl a26)), ((R 28), .inl (Y 0, 12, .inl a28))]) (fun q6 hI_44 => ?_) (fun K_44 => ?_)
    · have tq6 := hI_44
      refine V_to (ls' := [(0, .ref m), (1, .int x), (2, .int c_), (3, .int y), (4, .int p_), (5, .int q5)]) (st' := [.int q6]) (ws' := [(m, .inr (10, mF R v0 v7 v8 v9 v15 v16 v17 v18 v19 v27 v31 v32 v33 v34 v38 v42 v44)), ((R 2), .inl (Y 0, 36, .inl a2)), ((R 3), .inl (Y 0, 36, .inl a3)), ((R 4), .inl (Y 0, 36, .inl a4)), ((R 6), .inl (Y 0, 4, .inl a6)), ((R 20), .inl (Y 2, 260, .inl a20)), ((R 21), .inl (Y 0, 260, .inl a21)), ((R 22), .inl (Y 0, 2, .inl a22)), ((R 23), .inl (Y 3, 122, .inl a23)), ((R 24), .inl (Y 3, 122, .inl a24)), ((R 25), .inl (Y 0, 6, .inl a25)), ((R 26), .inl (Y 0, 130, .inl a26)), ((R 28), .inl (Y 0, 12, .inl a28))]) ?_ rfl rfl rfl rfl
      refine V_istore (ls' := [(6, .int q6), (0, .ref m), (1, .int x), (2, .int c_), (3, .int y), (4, .int p_), (5, .int q5)]) X (by decide) rfl dX11_comesTo_44 ?_
      refine V_cut1 (fun (q7 : Int32) => (q7.toInt = bz (decide (T s0 (3 * xn + 1) = T s0 (3 * cn + 1))))) 76 (fun (q7 : Int32) => [(0, .ref m), (1, .int x), (2, .int c_), (3, .int y), (4, .int p_), (5, .int q5), (6, .int q6)]) (fun (q7 : Int32) => [.int q7]) (fun (q7 : Int32) => [(m, .inr (10, mF R v0 v7 v8 v9 v15 v16 v17 v18 v19 v27 v31 v32 v33 v34 v38 v42 v44)), ((R 2), .inl (Y 0, 36, .inl a2)), ((R 3), .inl (Y 0, 36, .inl a3)), ((R 4), .inl (Y 0, 36, .inl a4)), ((R 6), .inl (Y 0, 4, .inl a6)), ((R 20), .inl (Y 2, 260, .inl a20)), ((R 21), .inl (Y 0, 260, .inl a21)), ((R 22), .inl (Y 0, 2, .inl a22)), ((R 23), .inl (Y 3, 122, .inl a23)), ((R 24), .inl (Y 3, 122, .inl a24)), ((R 25), .inl (Y 0, 6, .inl a25)), ((R 26), .inl (Y 0, 130, .inl a26)), ((R 28), .inl (Y 0, 12, .inl a28))]) (fun q7 hI_76 => ?_) (fun K_76 => ?_)
      · have tq7 := hI_76
        refine V_to (ls' := [(0, .ref m), (1, .int x), (2, .int c_), (3, .int y), (4, .int p_), (5, .int q5), (6, .int q6)]) (st' := [.int q7]) (ws' := [(m, .inr (10, mF R v0 v7 v8 v9 v15 v16 v17 v18 v19 v27 v31 v32 v33 v34 v38 v42 v44)), ((R 2), .inl (Y 0, 36, .inl a2)), ((R 3), .inl (Y 0, 36, .inl a3)), ((R 4), .inl (Y 0, 36, .inl a4)), ((R 6), .inl (Y 0, 4, .inl a6)), ((R 20), .inl (Y 2, 260, .inl a20)), ((R 21), .inl (Y 0, 260, .inl a21)), ((R 22), .inl (Y 0, 2, .inl a22)), ((R 23), .inl (Y 3, 122, .inl a23)), ((R 24), .inl (Y 3, 122, .inl a24)), ((R 25), .inl (Y 0, 6, .inl a25)), ((R 26), .inl (Y 0, 130, .inl a26)), ((R 28), .inl (Y 0, 12, .inl a28))]) ?_ rfl rfl rfl rfl
        refine V_istore (ls' := [(7, .int q7), (0, .ref m), (1, .int x), (2, .int c_), (3, .int y), (4, .int p_), (5, .int q5), (6, .int q6)]) X (by decide) rfl dX11_comesTo_76 ?_
        refine V_cut1 (fun (q8 : Int32) => (q8.toInt = bz (decide (T s0 (3 * xn + 2) = T s0 (3 * cn + 2))))) 108 (fun (q8 : Int32) => [(0, .ref m), (1, .int x), (2, .int c_), (3, .int y), (4, .int p_), (5, .int q5), (6, .int q6), (7, .int q7)]) (fun (q8 : Int32) => [.int q8]) (fun (q8 : Int32) => [(m, .inr (10, mF R v0 v7 v8 v9 v15 v16 v17 v18 v19 v27 v31 v32 v33 v34 v38 v42 v44)), ((R 2), .inl (Y 0, 36, .inl a2)), ((R 3), .inl (Y 0, 36, .inl a3)), ((R 4), .inl (Y 0, 36, .inl a4)), ((R 6), .inl (Y 0, 4, .inl a6)), ((R 20), .inl (Y 2, 260, .inl a20)), ((R 21), .inl (Y 0, 260, .inl a21)), ((R 22), .inl (Y 0, 2, .inl a22)), ((R 23), .inl (Y 3, 122, .inl a23)), ((R 24), .inl (Y 3, 122, .inl a24)), ((R 25), .inl (Y 0, 6, .inl a25)), ((R 26), .inl (Y 0, 130, .inl a26)), ((R 28), .inl (Y 0, 12, .inl a28))]) (fun q8 hI_108 => ?_) (fun K_108 => ?_)
        · have tq8 := hI_108
          refine V_to (ls' := [(0, .ref m), (1, .int x), (2, .int c_), (3, .int y), (4, .int p_), (5, .int q5), (6, .int q6), (7, .int q7)]) (st' := [.int q8]) (ws' := [(m, .inr (10, mF R v0 v7 v8 v9 v15 v16 v17 v18 v19 v27 v31 v32 v33 v34 v38 v42 v44)), ((R 2), .inl (Y 0, 36, .inl a2)), ((R 3), .inl (Y 0, 36, .inl a3)), ((R 4), .inl (Y 0, 36, .inl a4)), ((R 6), .inl (Y 0, 4, .inl a6)), ((R 20), .inl (Y 2, 260, .inl a20)), ((R 21), .inl (Y 0, 260, .inl a21)), ((R 22), .inl (Y 0, 2, .inl a22)), ((R 23), .inl (Y 3, 122, .inl a23)), ((R 24), .inl (Y 3, 122, .inl a24)), ((R 25), .inl (Y 0, 6, .inl a25)), ((R 26), .inl (Y 0, 130, .inl a26)), ((R 28), .inl (Y 0, 12, .inl a28))]) ?_ rfl rfl rfl rfl
          refine V_istore (ls' := [(8, .int q8), (0, .ref m), (1, .int x), (2, .int c_), (3, .int y), (4, .int p_), (5, .int q5), (6, .int q6), (7, .int q7)]) X (by decide) rfl dX11_comesTo_108 ?_
          refine V_aload_n X 1 rfl dX11_comesTo_110 ?_
          refine V_get (C := RX11) (T := TX11) (N := 50) (ci := 10) (v := .int v27) X in_X11_comesTo_X11 0 rfl rfl 27 (by decide) (List.mem_of_getElem? (i := 4) rfl) rfl rfl dX11_comesTo_111 ?_
          refine V_if_ne X rfl 143 dX11_comesTo_114 (by decide) (fun c_114 => ?_) (fun c_114 => ?_)
          · obtain ⟨ls, hMW, hOK, hFe⟩ := LAWR_2 hLW c_114
            have hnm := NMR_up a25 (T := T s0) tq5 tq6 tq7 tq8 (hSU pn hp).1 hof
            refine V_aload_n X 1 rfl dX11_comesTo_143 ?_
            refine V_get (C := RX11) (T := TX11) (N := 50) (ci := 10) (v := .ref (R 25)) X in_X11_comesTo_X11 0 rfl rfl 25 (by decide) (List.mem_of_getElem? (i := 6) rfl) rfl rfl dX11_comesTo_144 ?_
            refine V_iconst (v := (0 : Int32)) X (by decide) dX11_comesTo_147 ?_
            refine V_iload X 6 rfl dX11_comesTo_148 ?_
            refine V_iast (ws' := [(m, .inr (10, mF R v0 v7 v8 v9 v15 v16 v17 v18 v19 v27 v31 v32 v33 v34 v38 v42 v44)), ((R 2), .inl (Y 0, 36, .inl a2)), ((R 3), .inl (Y 0, 36, .inl a3)), ((R 4), .inl (Y 0, 36, .inl a4)), ((R 6), .inl (Y 0, 4, .inl a6)), ((R 20), .inl (Y 2, 260, .inl a20)), ((R 21), .inl (Y 0, 260, .inl a21)), ((R 22), .inl (Y 0, 2, .inl a22)), ((R 23), .inl (Y 3, 122, .inl a23)), ((R 24), .inl (Y 3, 122, .inl a24)), ((R 25), .inl (Y 0, 6, .inl (upd a25 0 q5))), ((R 26), .inl (Y 0, 130, .inl a26)), ((R 28), .inl (Y 0, 12, .inl a28))]) X 10 0 rfl (show (0 : Int32).toInt = ((0 : Nat) : Int) from (show (0 : Int32).toInt = 0 from by decide)) (by omega) rfl dX11_comesTo_150 ?_
            refine V_aload_n X 1 rfl dX11_comesTo_151 ?_
            refine V_get (C := RX11) (T := TX11) (N := 50) (ci := 10) (v := .ref (R 25)) X in_X11_comesTo_X11 0 rfl rfl 25 (by decide) (List.mem_of_getElem? (i := 6) rfl) rfl rfl dX11_comesTo_152 ?_
            refine V_iconst (v := (1 : Int32)) X (by decide) dX11_comesTo_155 ?_
            refine V_iload X 7 rfl dX11_comesTo_156 ?_
            refine V_iast (ws' := [(m, .inr (10, mF R v0 v7 v8 v9 v15 v16 v17 v18 v19 v27 v31 v32 v33 v34 v38 v42 v44)), ((R 2), .inl (Y 0, 36, .inl a2)), ((R 3), .inl (Y 0, 36, .inl a3)), ((R 4), .inl (Y 0, 36, .inl a4)), ((R 6), .inl (Y 0, 4, .inl a6)), ((R 20), .inl (Y 2, 260, .inl a20)), ((R 21), .inl (Y 0, 260, .inl a21)), ((R 22), .inl (Y 0, 2, .inl a22)), ((R 23), .inl (Y 3, 122, .inl a23)), ((R 24), .inl (Y 3, 122, .inl a24)), ((R 25), .inl (Y 0, 6, .inl (upd (upd a25 0 q5) 1 q6))), ((R 26), .inl (Y 0, 130, .inl a26)), ((R 28), .inl (Y 0, 12, .inl a28))]) X 10 1 rfl (show (1 : Int32).toInt = ((1 : Nat) : Int) from (show (1 : Int32).toInt = 1 from by decide)) (by omega) rfl dX11_comesTo_158 ?_
            refine V_aload_n X 1 rfl dX11_comesTo_159 ?_
            refine V_get (C := RX11) (T := TX11) (N := 50) (ci := 10) (v := .ref (R 25)) X in_X11_comesTo_X11 0 rfl rfl 25 (by decide) (List.mem_of_getElem? (i := 6) rfl) rfl rfl dX11_comesTo_160 ?_
            refine V_iconst (v := (2 : Int32)) X (by decide) dX11_comesTo_163 ?_
            refine V_iload X 8 rfl dX11_comesTo_164 ?_
            refine V_iast (ws' := [(m, .inr (10, mF R v0 v7 v8 v9 v15 v16 v17 v18 v19 v27 v31 v32 v33 v34 v38 v42 v44)), ((R 2), .inl (Y 0, 36, .inl a2)), ((R 3), .inl (Y 0, 36, .inl a3)), ((R 4), .inl (Y 0, 36, .inl a4)), ((R 6), .inl (Y 0, 4, .inl a6)), ((R 20), .inl (Y 2, 260, .inl a20)), ((R 21), .inl (Y 0, 260, .inl a21)), ((R 22), .inl (Y 0, 2, .inl a22)), ((R 23), .inl (Y 3, 122, .inl a23)), ((R 24), .inl (Y 3, 122, .inl a24)), ((R 25), .inl (Y 0, 6, .inl (upd (upd (upd a25 0 q5) 1 q6) 2 q7))), ((R 26), .inl (Y 0, 130, .inl a26)), ((R 28), .inl (Y 0, 12, .inl a28))]) X 10 2 rfl (show (2 : Int32).toInt = ((2 : Nat) : Int) from (show (2 : Int32).toInt = 2 from by decide)) (by omega) rfl dX11_comesTo_166 ?_
            refine V_aload_n X 1 rfl dX11_comesTo_167 ?_
            refine V_get (C := RX11) (T := TX11) (N := 50) (ci := 10) (v := .ref (R 25)) X in_X11_comesTo_X11 0 rfl rfl 25 (by decide) (List.mem_of_getElem? (i := 6) rfl) rfl rfl dX11_comesTo_168 ?_
            refine V_iconst (v := (3 : Int32)) X (by decide) dX11_comesTo_171 ?_
            refine V_iload X 0 rfl dX11_comesTo_172 ?_
            refine V_iast (ws' := [(m, .inr (10, mF R v0 v7 v8 v9 v15 v16 v17 v18 v19 v27 v31 v32 v33 v34 v38 v42 v44)), ((R 2), .inl (Y 0, 36, .inl a2)), ((R 3), .inl (Y 0, 36, .inl a3)), ((R 4), .inl (Y 0, 36, .inl a4)), ((R 6), .inl (Y 0, 4, .inl a6)), ((R 20), .inl (Y 2, 260, .inl a20)), ((R 21), .inl (Y 0, 260, .inl a21)), ((R 22), .inl (Y 0, 2, .inl a22)), ((R 23), .inl (Y 3, 122, .inl a23)), ((R 24), .inl (Y 3, 122, .inl a24)), ((R 25), .inl (Y 0, 6, .inl (upd (upd (upd (upd a25 0 q5) 1 q6) 2 q7) 3 q8))), ((R 26), .inl (Y 0, 130, .inl a26)), ((R 28), .inl (Y 0, 12, .inl a28))]) X 10 3 rfl (show (3 : Int32).toInt = ((3 : Nat) : Int) from (show (3 : Int32).toInt = 3 from by decide)) (by omega) rfl dX11_comesTo_174 ?_
            refine V_aload_n X 1 rfl dX11_comesTo_175 ?_
            refine V_get (C := RX11) (T := TX11) (N := 50) (ci := 10) (v := .ref (R 25)) X in_X11_comesTo_X11 0 rfl rfl 25 (by decide) (List.mem_of_getElem? (i := 6) rfl) rfl rfl dX11_comesTo_176 ?_
            refine V_iconst (v := (4 : Int32)) X (by decide) dX11_comesTo_179 ?_
            refine V_aload_n X 1 rfl dX11_comesTo_180 ?_
            refine V_get (C := RX11) (T := TX11) (N := 50) (ci := 10) (v := .ref (R 6)) X in_X11_comesTo_X11 0 rfl rfl 6 (by decide) (List.mem_of_getElem? (i := 7) rfl) rfl rfl dX11_comesTo_181 ?_
            refine V_iload X 5 rfl dX11_comesTo_184 ?_
            refine V_iald X 4 pn rfl tp_ (by omega) dX11_comesTo_186 ?_
            refine V_iast (ws' := [(m, .inr (10, mF R v0 v7 v8 v9 v15 v16 v17 v18 v19 v27 v31 v32 v33 v34 v38 v42 v44)), ((R 2), .inl (Y 0, 36, .inl a2)), ((R 3), .inl (Y 0, 36, .inl a3)), ((R 4), .inl (Y 0, 36, .inl a4)), ((R 6), .inl (Y 0, 4, .inl a6)), ((R 20), .inl (Y 2, 260, .inl a20)), ((R 21), .inl (Y 0, 260, .inl a21)), ((R 22), .inl (Y 0, 2, .inl a22)), ((R 23), .inl (Y 3, 122, .inl a23)), ((R 24), .inl (Y 3, 122, .inl a24)), ((R 25), .inl (Y 0, 6, .inl (upd (upd (upd (upd (upd a25 0 q5) 1 q6) 2 q7) 3 q8) 4 (a6 pn)))), ((R 26), .inl (Y 0, 130, .inl a26)), ((R 28), .inl (Y 0, 12, .inl a28))]) X 10 4 rfl (show (4 : Int32).toInt = ((4 : Nat) : Int) from (show (4 : Int32).toInt = 4 from by decide)) (by omega) rfl dX11_comesTo_187 ?_
            refine V_aload_n X 1 rfl dX11_comesTo_188 ?_
            refine V_get (C := RX11) (T := TX11) (N := 50) (ci := 10) (v := .ref (R 25)) X in_X11_comesTo_X11 0 rfl rfl 25 (by decide) (List.mem_of_getElem? (i := 6) rfl) rfl rfl dX11_comesTo_189 ?_
            refine V_iconst (v := (5 : Int32)) X (by decide) dX11_comesTo_192 ?_
            refine V_aload_n X 1 rfl dX11_comesTo_193 ?_
            refine V_get (C := RX11) (T := TX11) (N := 50) (ci := 10) (v := .ref (R 28)) X in_X11_comesTo_X11 0 rfl rfl 28 (by decide) (List.mem_of_getElem? (i := 5) rfl) rfl rfl dX11_comesTo_194 ?_
            refine V_iload_n X 4 rfl dX11_comesTo_197 ?_
            refine V_iald X 12 xn rfl ty (by omega) dX11_comesTo_198 ?_
            refine V_iast (ws' := [(m, .inr (10, mF R v0 v7 v8 v9 v15 v16 v17 v18 v19 v27 v31 v32 v33 v34 v38 v42 v44)), ((R 2), .inl (Y 0, 36, .inl a2)), ((R 3), .inl (Y 0, 36, .inl a3)), ((R 4), .inl (Y 0, 36, .inl a4)), ((R 6), .inl (Y 0, 4, .inl a6)), ((R 20), .inl (Y 2, 260, .inl a20)), ((R 21), .inl (Y 0, 260, .inl a21)), ((R 22), .inl (Y 0, 2, .inl a22)), ((R 23), .inl (Y 3, 122, .inl a23)), ((R 24), .inl (Y 3, 122, .inl a24)), ((R 25), .inl (Y 0, 6, .inl (upd (upd (upd (upd (upd (upd a25 0 q5) 1 q6) 2 q7) 3 q8) 4 (a6 pn)) 5 (a28 xn)))), ((R 26), .inl (Y 0, 130, .inl a26)), ((R 28), .inl (Y 0, 12, .inl a28))]) X 10 5 rfl (show (5 : Int32).toInt = ((5 : Nat) : Int) from (show (5 : Int32).toInt = 5 from by decide)) (by omega) rfl dX11_comesTo_199 ?_
            refine V_aload_n X 1 rfl dX11_comesTo_200 ?_
            refine V_iconst (v := (0 : Int32)) X (by decide) dX11_comesTo_201 ?_
            refine V_callV (C := RX11) (wr := [((R 2), .inl (Y 0, 36, .inl a2)), ((R 3), .inl (Y 0, 36, .inl a3)), ((R 4), .inl (Y 0, 36, .inl a4)), ((R 6), .inl (Y 0, 4, .inl a6)), ((R 28), .inl (Y 0, 12, .inl a28))]) (st := []) X (c_X11_gives l D Y m R v0 v7 v8 v9 v15 v16 v17 v18 v19 v27 v31 v32 v33 v34 v38 v42 v44 a20 a21 a22 a23 a24 (upd (upd (upd (upd (upd (upd a25 0 q5) 1 q6) 2 q7) 3 q8) 4 (a6 pn)) 5 (a28 xn)) a26 ls (by omega) (by omega)) 1 gX11_comesTo_X11_gives rfl (by decide +kernel) ⟨rfl, rfl⟩ ⟨Nat.le_of_ble_eq_true rfl, Nat.le_of_ble_eq_true rfl⟩ [0, 5, 6, 7, 8, 9, 10, 11] [1, 2, 3, 4, 12] rfl rfl rfl rfl (by decide) (ci := 10) rfl rfl 0 rfl rfl rfl (Nat.le_of_ble_eq_true rfl) ⟨Nat.le_of_ble_eq_true rfl, Nat.le_of_ble_eq_true rfl⟩ dX11_comesTo_202 (fun v_202 w_202 h_202 => ?_)
            obtain ⟨r_2, b26_3, rfl, rfl, hhr_4⟩ := h_202
            refine V_to (pc' := 205) (ls' := [(8, .int q8), (0, .ref m), (1, .int x), (2, .int c_), (3, .int y), (4, .int p_), (5, .int q5), (6, .int q6), (7, .int q7)]) (st' := [.int r_2]) (ws' := [((R 2), .inl (Y 0, 36, .inl a2)), ((R 3), .inl (Y 0, 36, .inl a3)), ((R 4), .inl (Y 0, 36, .inl a4)), ((R 6), .inl (Y 0, 4, .inl a6)), ((R 28), .inl (Y 0, 12, .inl a28)), (m, .inr (10, mF R v0 v7 v8 v9 v15 v16 v17 v18 v19 v27 v31 v32 v33 v34 v38 v42 v44)), ((R 20), .inl (Y 2, 260, .inl a20)), ((R 21), .inl (Y 0, 260, .inl a21)), ((R 22), .inl (Y 0, 2, .inl a22)), ((R 23), .inl (Y 3, 122, .inl a23)), ((R 24), .inl (Y 3, 122, .inl a24)), ((R 25), .inl (Y 0, 6, .inl (upd (upd (upd (upd (upd (upd a25 0 q5) 1 q6) 2 q7) 3 q8) 4 (a6 pn)) 5 (a28 xn)))), ((R 26), .inl (Y 0, 130, .inl b26_3))]) ?_ rfl rfl rfl rfl
            refine V_ws (ws' := [(m, .inr (10, mF R v0 v7 v8 v9 v15 v16 v17 v18 v19 v27 v31 v32 v33 v34 v38 v42 v44)), ((R 2), .inl (Y 0, 36, .inl a2)), ((R 3), .inl (Y 0, 36, .inl a3)), ((R 4), .inl (Y 0, 36, .inl a4)), ((R 6), .inl (Y 0, 4, .inl a6)), ((R 20), .inl (Y 2, 260, .inl a20)), ((R 21), .inl (Y 0, 260, .inl a21)), ((R 22), .inl (Y 0, 2, .inl a22)), ((R 23), .inl (Y 3, 122, .inl a23)), ((R 24), .inl (Y 3, 122, .inl a24)), ((R 25), .inl (Y 0, 6, .inl (upd (upd (upd (upd (upd (upd a25 0 q5) 1 q6) 2 q7) 3 q8) 4 (a6 pn)) 5 (a28 xn)))), ((R 26), .inl (Y 0, 130, .inl b26_3)), ((R 28), .inl (Y 0, 12, .inl a28))]) [5, 0, 1, 2, 3, 6, 7, 8, 9, 10, 11, 12, 4] rfl rfl rfl ?_
            exact V_iret X hr dX11_comesTo_205 (⟨r_2, (upd (upd (upd (upd (upd (upd a25 0 q5) 1 q6) 2 q7) 3 q8) 4 (a6 pn)) 5 (a28 xn)), b26_3, rfl, rfl, (by rw [hFe, ← FL_nm hnm ls]; exact hhr_4)⟩)
          · refine V_iload X 6 rfl dX11_comesTo_117 ?_
            refine V_bipush (v := (8 : Int32)) X (by decide) dX11_comesTo_119 ?_
            refine V_imul X dX11_comesTo_121 (fun x_5 ex_5 => ?_)
            refine V_iload X 7 rfl dX11_comesTo_122 ?_
            refine V_iadd X dX11_comesTo_124 (fun x_6 ex_6 => ?_)
            refine V_iload X 8 rfl dX11_comesTo_125 ?_
            refine V_iconst (v := (2 : Int32)) X (by decide) dX11_comesTo_127 ?_
            refine V_imul X dX11_comesTo_128 (fun x_7 ex_7 => ?_)
            refine V_iadd X dX11_comesTo_129 (fun x_8 ex_8 => ?_)
            refine V_iload X 0 rfl dX11_comesTo_130 ?_
            refine V_iadd X dX11_comesTo_132 (fun x_9 ex_9 => ?_)
            refine V_aload_n X 1 rfl dX11_comesTo_133 ?_
            refine V_get (C := RX11) (T := TX11) (N := 50) (ci := 10) (v := .ref (R 28)) X in_X11_comesTo_X11 0 rfl rfl 28 (by decide) (List.mem_of_getElem? (i := 5) rfl) rfl rfl dX11_comesTo_134 ?_
            refine V_iload_n X 4 rfl dX11_comesTo_137 ?_
            refine V_iald X 12 xn rfl ty (by omega) dX11_comesTo_138 ?_
            refine V_iconst (v := (3 : Int32)) X (by decide) dX11_comesTo_139 ?_
            refine V_imul X dX11_comesTo_140 (fun x_10 ex_10 => ?_)
            refine V_isub X dX11_comesTo_141 (fun x_11 ex_11 => ?_)
            exact V_iret X hr dX11_comesTo_142 (⟨x_11, a25, a26, rfl, rfl, (by rw [LAWR_1 hLW c_114, ex_11, ex_10, ex_9, ex_8, ex_7, ex_6, ex_5]; exact FA_val (S pn) tq5 tq6 tq7 tq8 hof)⟩)
        · refine V_aload_n X 1 rfl dX11_comesTo_78 ?_
          refine V_get (C := RX11) (T := TX11) (N := 50) (ci := 10) (v := .ref (R 4)) X in_X11_comesTo_X11 0 rfl rfl 4 (by decide) (List.mem_of_getElem? (i := 3) rfl) rfl rfl dX11_comesTo_79 ?_
          refine V_bipush (v := (12 : Int32)) X (by decide) dX11_comesTo_82 ?_
          refine V_iload_n X 2 rfl dX11_comesTo_84 ?_
          refine V_imulZ X (show (12 : Int32).toInt = 12 from by decide) tx (by omega) (by omega) dX11_comesTo_85 (fun x_12 ex_12 tx_12 => ?_)
          have tx_12 : x_12.toInt = (((12 * s0) : Nat) : Int) := by omega
          refine V_iload_n X 4 rfl dX11_comesTo_86 ?_
          refine V_iaddZ X tx_12 ty (by omega) (by omega) dX11_comesTo_87 (fun x_13 ex_13 tx_13 => ?_)
          have tx_13 : x_13.toInt = ((((12 * s0) + xn) : Nat) : Int) := by omega
          refine V_iald X 3 ((12 * s0) + xn) rfl tx_13 (by omega) dX11_comesTo_88 ?_
          refine V_nm (fun x_14 ex_14 => ?_)
          have tx_14 : x_14.toInt = ((T s0 (3 * xn + 2) : Nat) : Int) := by rw [ex_14]; exact (hMT s0 hs0 xn (by omega)).2.2.1
          refine V_aload_n X 1 rfl dX11_comesTo_89 ?_
          refine V_get (C := RX11) (T := TX11) (N := 50) (ci := 10) (v := .ref (R 4)) X in_X11_comesTo_X11 0 rfl rfl 4 (by decide) (List.mem_of_getElem? (i := 3) rfl) rfl rfl dX11_comesTo_90 ?_
          refine V_bipush (v := (12 : Int32)) X (by decide) dX11_comesTo_93 ?_
          refine V_iload_n X 2 rfl dX11_comesTo_95 ?_
          refine V_imulZ X (show (12 : Int32).toInt = 12 from by decide) tx (by omega) (by omega) dX11_comesTo_96 (fun x_15 ex_15 tx_15 => ?_)
          have tx_15 : x_15.toInt = (((12 * s0) : Nat) : Int) := by omega
          refine V_iload_n X 3 rfl dX11_comesTo_97 ?_
          refine V_iaddZ X tx_15 tc_ (by omega) (by omega) dX11_comesTo_98 (fun x_16 ex_16 tx_16 => ?_)
          have tx_16 : x_16.toInt = ((((12 * s0) + cn) : Nat) : Int) := by omega
          refine V_iald X 3 ((12 * s0) + cn) rfl tx_16 (by omega) dX11_comesTo_99 ?_
          refine V_nm (fun x_17 ex_17 => ?_)
          have tx_17 : x_17.toInt = ((T s0 (3 * cn + 2) : Nat) : Int) := by rw [ex_17]; exact (hMT s0 hs0 cn (by omega)).2.2.1
          refine V_icmp_ne X tx_14 tx_17 107 dX11_comesTo_100 (by decide) (fun c_100 => ?_) (fun c_100 => ?_)
          · refine V_iconst (v := (0 : Int32)) X (by decide) dX11_comesTo_107 ?_
            refine V_ls (ls' := [(0, .ref m), (1, .int x), (2, .int c_), (3, .int y), (4, .int p_), (5, .int q5), (6, .int q6), (7, .int q7)]) [1, 2, 3, 4, 5, 6, 7, 0] rfl ?_
            exact V_to (K_108 (0 : Int32) (by rw [decide_eq_false (show ¬ (T s0 (3 * xn + 2) = T s0 (3 * cn + 2)) by omega)]; decide)) rfl rfl rfl rfl
          · refine V_iconst (v := (1 : Int32)) X (by decide) dX11_comesTo_103 ?_
            refine V_goto X 108 (by decide) dX11_comesTo_104 ?_
            refine V_ls (ls' := [(0, .ref m), (1, .int x), (2, .int c_), (3, .int y), (4, .int p_), (5, .int q5), (6, .int q6), (7, .int q7)]) [1, 2, 3, 4, 5, 6, 7, 0] rfl ?_
            exact V_to (K_108 (1 : Int32) (by rw [decide_eq_true (show T s0 (3 * xn + 2) = T s0 (3 * cn + 2) by omega)]; decide)) rfl rfl rfl rfl
      · refine V_aload_n X 1 rfl dX11_comesTo_46 ?_
        refine V_get (C := RX11) (T := TX11) (N := 50) (ci := 10) (v := .ref (R 3)) X in_X11_comesTo_X11 0 rfl rfl 3 (by decide) (List.mem_of_getElem? (i := 2) rfl) rfl rfl dX11_comesTo_47 ?_
        refine V_bipush (v := (12 : Int32)) X (by decide) dX11_comesTo_50 ?_
        refine V_iload_n X 2 rfl dX11_comesTo_52 ?_
        refine V_imulZ X (show (12 : Int32).toInt = 12 from by decide) tx (by omega) (by omega) dX11_comesTo_53 (fun x_18 ex_18 tx_18 => ?_)
        have tx_18 : x_18.toInt = (((12 * s0) : Nat) : Int) := by omega
        refine V_iload_n X 4 rfl dX11_comesTo_54 ?_
        refine V_iaddZ X tx_18 ty (by omega) (by omega) dX11_comesTo_55 (fun x_19 ex_19 tx_19 => ?_)
        have tx_19 : x_19.toInt = ((((12 * s0) + xn) : Nat) : Int) := by omega
        refine V_iald X 2 ((12 * s0) + xn) rfl tx_19 (by omega) dX11_comesTo_56 ?_
        refine V_nm (fun x_20 ex_20 => ?_)
        have tx_20 : x_20.toInt = ((T s0 (3 * xn + 1) : Nat) : Int) := by rw [ex_20]; exact (hMT s0 hs0 xn (by omega)).2.1.1
        refine V_aload_n X 1 rfl dX11_comesTo_57 ?_
        refine V_get (C := RX11) (T := TX11) (N := 50) (ci := 10) (v := .ref (R 3)) X in_X11_comesTo_X11 0 rfl rfl 3 (by decide) (List.mem_of_getElem? (i := 2) rfl) rfl rfl dX11_comesTo_58 ?_
        refine V_bipush (v := (12 : Int32)) X (by decide) dX11_comesTo_61 ?_
        refine V_iload_n X 2 rfl dX11_comesTo_63 ?_
        refine V_imulZ X (show (12 : Int32).toInt = 12 from by decide) tx (by omega) (by omega) dX11_comesTo_64 (fun x_21 ex_21 tx_21 => ?_)
        have tx_21 : x_21.toInt = (((12 * s0) : Nat) : Int) := by omega
        refine V_iload_n X 3 rfl dX11_comesTo_65 ?_
        refine V_iaddZ X tx_21 tc_ (by omega) (by omega) dX11_comesTo_66 (fun x_22 ex_22 tx_22 => ?_)
        have tx_22 : x_22.toInt = ((((12 * s0) + cn) : Nat) : Int) := by omega
        refine V_iald X 2 ((12 * s0) + cn) rfl tx_22 (by omega) dX11_comesTo_67 ?_
        refine V_nm (fun x_23 ex_23 => ?_)
        have tx_23 : x_23.toInt = ((T s0 (3 * cn + 1) : Nat) : Int) := by rw [ex_23]; exact (hMT s0 hs0 cn (by omega)).2.1.1
        refine V_icmp_ne X tx_20 tx_23 75 dX11_comesTo_68 (by decide) (fun c_68 => ?_) (fun c_68 => ?_)
        · refine V_iconst (v := (0 : Int32)) X (by decide) dX11_comesTo_75 ?_
          refine V_ls (ls' := [(0, .ref m), (1, .int x), (2, .int c_), (3, .int y), (4, .int p_), (5, .int q5), (6, .int q6)]) [1, 2, 3, 4, 5, 6, 0] rfl ?_
          exact V_to (K_76 (0 : Int32) (by rw [decide_eq_false (show ¬ (T s0 (3 * xn + 1) = T s0 (3 * cn + 1)) by omega)]; decide)) rfl rfl rfl rfl
        · refine V_iconst (v := (1 : Int32)) X (by decide) dX11_comesTo_71 ?_
          refine V_goto X 76 (by decide) dX11_comesTo_72 ?_
          refine V_ls (ls' := [(0, .ref m), (1, .int x), (2, .int c_), (3, .int y), (4, .int p_), (5, .int q5), (6, .int q6)]) [1, 2, 3, 4, 5, 6, 0] rfl ?_
          exact V_to (K_76 (1 : Int32) (by rw [decide_eq_true (show T s0 (3 * xn + 1) = T s0 (3 * cn + 1) by omega)]; decide)) rfl rfl rfl rfl
    · refine V_aload_n X 1 rfl dX11_comesTo_14 ?_
      refine V_get (C := RX11) (T := TX11) (N := 50) (ci := 10) (v := .ref (R 2)) X in_X11_comesTo_X11 0 rfl rfl 2 (by decide) (List.mem_of_getElem? (i := 1) rfl) rfl rfl dX11_comesTo_15 ?_
      refine V_bipush (v := (12 : Int32)) X (by decide) dX11_comesTo_18 ?_
      refine V_iload_n X 2 rfl dX11_comesTo_20 ?_
      refine V_imulZ X (show (12 : Int32).toInt = 12 from by decide) tx (by omega) (by omega) dX11_comesTo_21 (fun x_24 ex_24 tx_24 => ?_)
      have tx_24 : x_24.toInt = (((12 * s0) : Nat) : Int) := by omega
      refine V_iload_n X 4 rfl dX11_comesTo_22 ?_
      refine V_iaddZ X tx_24 ty (by omega) (by omega) dX11_comesTo_23 (fun x_25 ex_25 tx_25 => ?_)
      have tx_25 : x_25.toInt = ((((12 * s0) + xn) : Nat) : Int) := by omega
      refine V_iald X 1 ((12 * s0) + xn) rfl tx_25 (by omega) dX11_comesTo_24 ?_
      refine V_nm (fun x_26 ex_26 => ?_)
      have tx_26 : x_26.toInt = ((T s0 (3 * xn + 0) : Nat) : Int) := by rw [ex_26]; exact (hMT s0 hs0 xn (by omega)).1.1
      refine V_aload_n X 1 rfl dX11_comesTo_25 ?_
      refine V_get (C := RX11) (T := TX11) (N := 50) (ci := 10) (v := .ref (R 2)) X in_X11_comesTo_X11 0 rfl rfl 2 (by decide) (List.mem_of_getElem? (i := 1) rfl) rfl rfl dX11_comesTo_26 ?_
      refine V_bipush (v := (12 : Int32)) X (by decide) dX11_comesTo_29 ?_
      refine V_iload_n X 2 rfl dX11_comesTo_31 ?_
      refine V_imulZ X (show (12 : Int32).toInt = 12 from by decide) tx (by omega) (by omega) dX11_comesTo_32 (fun x_27 ex_27 tx_27 => ?_)
      have tx_27 : x_27.toInt = (((12 * s0) : Nat) : Int) := by omega
      refine V_iload_n X 3 rfl dX11_comesTo_33 ?_
      refine V_iaddZ X tx_27 tc_ (by omega) (by omega) dX11_comesTo_34 (fun x_28 ex_28 tx_28 => ?_)
      have tx_28 : x_28.toInt = ((((12 * s0) + cn) : Nat) : Int) := by omega
      refine V_iald X 1 ((12 * s0) + cn) rfl tx_28 (by omega) dX11_comesTo_35 ?_
      refine V_nm (fun x_29 ex_29 => ?_)
      have tx_29 : x_29.toInt = ((T s0 (3 * cn + 0) : Nat) : Int) := by rw [ex_29]; exact (hMT s0 hs0 cn (by omega)).1.1
      refine V_icmp_ne X tx_26 tx_29 43 dX11_comesTo_36 (by decide) (fun c_36 => ?_) (fun c_36 => ?_)
      · refine V_iconst (v := (0 : Int32)) X (by decide) dX11_comesTo_43 ?_
        refine V_ls (ls' := [(0, .ref m), (1, .int x), (2, .int c_), (3, .int y), (4, .int p_), (5, .int q5)]) [1, 2, 3, 4, 5, 0] rfl ?_
        exact V_to (K_44 (0 : Int32) (by rw [decide_eq_false (show ¬ (T s0 (3 * xn + 0) = T s0 (3 * cn + 0)) by omega)]; decide)) rfl rfl rfl rfl
      · refine V_iconst (v := (1 : Int32)) X (by decide) dX11_comesTo_39 ?_
        refine V_goto X 44 (by decide) dX11_comesTo_40 ?_
        refine V_ls (ls' := [(0, .ref m), (1, .int x), (2, .int c_), (3, .int y), (4, .int p_), (5, .int q5)]) [1, 2, 3, 4, 5, 0] rfl ?_
        exact V_to (K_44 (1 : Int32) (by rw [decide_eq_true (show T s0 (3 * xn + 0) = T s0 (3 * cn + 0) by omega)]; decide)) rfl rfl rfl rfl
  · refine V_iload_n X 3 rfl dX11_comesTo_0 ?_
    refine V_iload_n X 2 rfl dX11_comesTo_1 ?_
    refine V_iconst (v := (1 : Int32)) X (by decide) dX11_comesTo_2 ?_
    refine V_iaddZ X tc_ (show (1 : Int32).toInt = 1 from by decide) (by omega) (by omega) dX11_comesTo_3 (fun x_30 ex_30 tx_30 => ?_)
    have tx_30 : x_30.toInt = (((cn + 1) : Nat) : Int) := by omega
    refine V_icmp_ne X ty tx_30 11 dX11_comesTo_4 (by decide) (fun c_4 => ?_) (fun c_4 => ?_)
    · refine V_iconst (v := (0 : Int32)) X (by decide) dX11_comesTo_11 ?_
      exact V_to (K_12 (0 : Int32) (by rw [decide_eq_false (show ¬ (xn = cn + 1) by omega)]; decide)) rfl rfl rfl rfl
    · refine V_iconst (v := (1 : Int32)) X (by decide) dX11_comesTo_7 ?_
      refine V_goto X 12 (by decide) dX11_comesTo_8 ?_
      exact V_to (K_12 (1 : Int32) (by rw [decide_eq_true (show xn = cn + 1 by omega)]; decide)) rfl rfl rfl rfl

theorem in_X11_nextOf_X11 : ∀ w ∈ wsX110, w ∈ wsX11_nextOf := fun w h => List.mem_cons_of_mem _ (List.mem_append_right _ h)
set_option maxHeartbeats 4000000 in
set_option maxRecDepth 100000 in
theorem c_X11_nextOf (l : Launch) (D : va_G) (Y : Nat → ClassId) (m : Nat) (R : Nat → Nat) (v0 : Int32) (v7 : Int32) (v8 : Int32) (v9 : Int32) (v15 : Int32) (v16 : Int32) (v17 : Int32) (v18 : Int32) (v19 : Int32) (v27 : Int32) (v31 : Int32) (v32 : Int32) (v33 : Int32) (v34 : Int32) (v38 : Int32) (v42 : Int32) (v44 : Int32) (a1 : Nat → Int32) (a2 : Nat → Int32) (a3 : Nat → Int32) (a4 : Nat → Int32) (a5 : Nat → Int32) (a6 : Nat → Int32) (a20 : Nat → Int32) (a21 : Nat → Int32) (a22 : Nat → Int32) (a23 : Nat → Int32) (a24 : Nat → Int32) (a25 : Nat → Int32) (a26 : Nat → Int32) (a28 : Nat → Int32) (n : Nat → Nat) (T : Nat → Nat → Nat) (B : Nat → Nat → Bool) (S : Nat → Nat) (F : Nat → Nat → Nat → Int32) (s0 : Nat) (x : Int32) (c_ : Int32) (cn : Nat) (H : Hist) (hLN : LNR a1 n) (hMT : MTR a2 a3 a4 T) (hMH : MHV a5 B) (hSU : SUR a6 S) (hLW : LAWR v27 a20 a21 a22 a23 a24 F) (hs0 : s0 < 3) (tx : x.toInt = ((s0 : Nat) : Int)) (tc_ : c_.toInt = ((cn : Nat) : Int)) (hc : cn < 12) (hlast : hLast H = cn) (hOf : OFT a28 H) : Mg l yX11_nextOf wsX11_nextOf ({ frames := 4, cells := 0, slots := 0, locals := 99 }) D Y [(m, .inr (10, mF R v0 v7 v8 v9 v15 v16 v17 v18 v19 v27 v31 v32 v33 v34 v38 v42 v44)), ((R 1), .inl (Y 0, 3, .inl a1)), ((R 2), .inl (Y 0, 36, .inl a2)), ((R 3), .inl (Y 0, 36, .inl a3)), ((R 4), .inl (Y 0, 36, .inl a4)), ((R 5), .inl (Y 0, 24, .inl a5)), ((R 6), .inl (Y 0, 4, .inl a6)), ((R 20), .inl (Y 2, 260, .inl a20)), ((R 21), .inl (Y 0, 260, .inl a21)), ((R 22), .inl (Y 0, 2, .inl a22)), ((R 23), .inl (Y 3, 122, .inl a23)), ((R 24), .inl (Y 3, 122, .inl a24)), ((R 25), .inl (Y 0, 6, .inl a25)), ((R 26), .inl (Y 0, 130, .inl a26)), ((R 28), .inl (Y 0, 12, .inl a28))] [.ref m, .int x, .int c_] 0 0 (fun vv__ ww__ => (∃ (r : Int32), ∃ (z34 : Int32), ∃ (b25 : Nat → Int32), ∃ (b26 : Nat → Int32), vv__ = some (.int r) ∧ ww__ = [(m, .inr (10, mF R v0 v7 v8 v9 v15 v16 v17 v18 v19 v27 v31 v32 v33 z34 v38 v42 v44)), ((R 1), .inl (Y 0, 3, .inl a1)), ((R 2), .inl (Y 0, 36, .inl a2)), ((R 3), .inl (Y 0, 36, .inl a3)), ((R 4), .inl (Y 0, 36, .inl a4)), ((R 5), .inl (Y 0, 24, .inl a5)), ((R 6), .inl (Y 0, 4, .inl a6)), ((R 20), .inl (Y 2, 260, .inl a20)), ((R 21), .inl (Y 0, 260, .inl a21)), ((R 22), .inl (Y 0, 2, .inl a22)), ((R 23), .inl (Y 3, 122, .inl a23)), ((R 24), .inl (Y 3, 122, .inl a24)), ((R 25), .inl (Y 0, 6, .inl b25)), ((R 26), .inl (Y 0, 130, .inl b26)), ((R 28), .inl (Y 0, 12, .inl a28))] ∧ (r.toInt = oM (nxt F S (T s0) (B s0) (n s0) H)) ∧ (∀ x, nxt F S (T s0) (B s0) (n s0) H = some x → z34.toInt = ((x.2 : Nat) : Int)))) := by
  refine Mg_of (cc := cX11_nextOf) (maxL := 8) (ret := (some .int)) (ls0 := [(0, .ref m), (1, .int x), (2, .int c_)]) RX11 (by decide) rfl rfl rfl (Nat.le_of_ble_eq_true rfl) (fun p__ e__ s__ m__ b__ t__ c__ X hr hn => ?_)
  have hln0 : (a1 s0).toInt = ((n s0 : Nat) : Int) ∧ n s0 ≤ 12 := hLN s0 hs0
  refine V_iconst (v := (-1 : Int32)) X (by decide) dX11_nextOf_0 ?_
  refine V_istore_n (ls' := [(3, .int (-1 : Int32)), (0, .ref m), (1, .int x), (2, .int c_)]) X (by decide) rfl dX11_nextOf_1 ?_
  refine V_iconst (v := (0 : Int32)) X (by decide) dX11_nextOf_2 ?_
  refine V_istore (ls' := [(4, .int (0 : Int32)), (3, .int (-1 : Int32)), (0, .ref m), (1, .int x), (2, .int c_)]) X (by decide) rfl dX11_nextOf_3 ?_
  refine V_iconst (v := (0 : Int32)) X (by decide) dX11_nextOf_5 ?_
  refine V_istore (ls' := [(5, .int (0 : Int32)), (4, .int (0 : Int32)), (3, .int (-1 : Int32)), (0, .ref m), (1, .int x), (2, .int c_)]) X (by decide) rfl dX11_nextOf_6 ?_
  refine V_ls (ls' := [(0, .ref m), (1, .int x), (2, .int c_), (3, .int (-1 : Int32)), (4, .int (0 : Int32)), (5, .int (0 : Int32))]) [3, 4, 5, 2, 1, 0] rfl ?_
  refine V_to (V_ind9 (fun (i5 : Int32) (k : Nat) (f3 : Int32) (fz : Int) (m4 : Int32) (mz : Int) (z34 : Int32) (g25 : Nat → Int32) (g26 : Nat → Int32) => (i5.toInt = ((k : Nat) : Int)) ∧ (f3.toInt = fz) ∧ (m4.toInt = mz) ∧ (k ≤ n s0) ∧ (SCJ (okP (B s0) (hLast H)) (gvl F S (T s0) H) (4 * k) mz fz z34.toInt)) (fun (i5 : Int32) (k : Nat) (f3 : Int32) (fz : Int) (m4 : Int32) (mz : Int) (z34 : Int32) (g25 : Nat → Int32) (g26 : Nat → Int32) => n s0 - k) (fun (i5 : Int32) (k : Nat) (f3 : Int32) (fz : Int) (m4 : Int32) (mz : Int) (z34 : Int32) (g25 : Nat → Int32) (g26 : Nat → Int32) => [(0, .ref m), (1, .int x), (2, .int c_), (3, .int f3), (4, .int m4), (5, .int i5)]) (fun (i5 : Int32) (k : Nat) (f3 : Int32) (fz : Int) (m4 : Int32) (mz : Int) (z34 : Int32) (g25 : Nat → Int32) (g26 : Nat → Int32) => [(m, .inr (10, mF R v0 v7 v8 v9 v15 v16 v17 v18 v19 v27 v31 v32 v33 z34 v38 v42 v44)), ((R 1), .inl (Y 0, 3, .inl a1)), ((R 2), .inl (Y 0, 36, .inl a2)), ((R 3), .inl (Y 0, 36, .inl a3)), ((R 4), .inl (Y 0, 36, .inl a4)), ((R 5), .inl (Y 0, 24, .inl a5)), ((R 6), .inl (Y 0, 4, .inl a6)), ((R 20), .inl (Y 2, 260, .inl a20)), ((R 21), .inl (Y 0, 260, .inl a21)), ((R 22), .inl (Y 0, 2, .inl a22)), ((R 23), .inl (Y 3, 122, .inl a23)), ((R 24), .inl (Y 3, 122, .inl a24)), ((R 25), .inl (Y 0, 6, .inl g25)), ((R 26), .inl (Y 0, 130, .inl g26)), ((R 28), .inl (Y 0, 12, .inl a28))]) (fun i5 k f3 fz m4 mz z34 g25 g26 hI_8 ih_8 => ?_) (0 : Int32) 0 (-1 : Int32) (-1) (0 : Int32) 0 v34 a25 a26 ?_) rfl rfl rfl rfl
  · obtain ⟨ti5, tf3, tm4, hk, hSC⟩ := hI_8
    refine V_to (ls' := [(0, .ref m), (1, .int x), (2, .int c_), (3, .int f3), (4, .int m4), (5, .int i5)]) (ws' := [(m, .inr (10, mF R v0 v7 v8 v9 v15 v16 v17 v18 v19 v27 v31 v32 v33 z34 v38 v42 v44)), ((R 1), .inl (Y 0, 3, .inl a1)), ((R 2), .inl (Y 0, 36, .inl a2)), ((R 3), .inl (Y 0, 36, .inl a3)), ((R 4), .inl (Y 0, 36, .inl a4)), ((R 5), .inl (Y 0, 24, .inl a5)), ((R 6), .inl (Y 0, 4, .inl a6)), ((R 20), .inl (Y 2, 260, .inl a20)), ((R 21), .inl (Y 0, 260, .inl a21)), ((R 22), .inl (Y 0, 2, .inl a22)), ((R 23), .inl (Y 3, 122, .inl a23)), ((R 24), .inl (Y 3, 122, .inl a24)), ((R 25), .inl (Y 0, 6, .inl g25)), ((R 26), .inl (Y 0, 130, .inl g26)), ((R 28), .inl (Y 0, 12, .inl a28))]) ?_ rfl rfl rfl rfl
    refine V_iload X 5 rfl dX11_nextOf_8 ?_
    refine V_aload_n X 0 rfl dX11_nextOf_10 ?_
    refine V_get (C := RX11) (T := TX11) (N := 50) (ci := 10) (v := .ref (R 1)) X in_X11_nextOf_X11 0 rfl rfl 1 (by decide) (List.mem_of_getElem? (i := 1) rfl) rfl rfl dX11_nextOf_11 ?_
    refine V_iload_n X 1 rfl dX11_nextOf_14 ?_
    refine V_iald X 1 s0 rfl tx (by omega) dX11_nextOf_15 ?_
    refine V_nm (fun x_1 ex_1 => ?_)
    have tx_1 : x_1.toInt = ((n s0 : Nat) : Int) := by rw [ex_1]; exact hln0.1
    refine V_icmp_ge X ti5 tx_1 113 dX11_nextOf_16 (by decide) (fun c_16 => ?_) (fun c_16 => ?_)
    · refine V_iload_n X 3 rfl dX11_nextOf_113 ?_
      exact V_iret X hr dX11_nextOf_114 (⟨f3, z34, g25, g26, rfl, rfl, (by rw [tf3]; have h9 := hSC.2.1; rw [show k = n s0 by omega] at h9; exact h9), (by have h9 := hSC.2.2; rw [show k = n s0 by omega] at h9; exact h9)⟩)
    · refine V_iload X 5 rfl dX11_nextOf_19 ?_
      refine V_iload_n X 2 rfl dX11_nextOf_21 ?_
      refine V_icmp_ne X ti5 tc_ 28 dX11_nextOf_22 (by decide) (fun c_22 => ?_) (fun c_22 => ?_)
      · refine V_iconst (v := (0 : Int32)) X (by decide) dX11_nextOf_28 ?_
        refine V_istore (ls' := [(6, .int (0 : Int32)), (0, .ref m), (1, .int x), (2, .int c_), (3, .int f3), (4, .int m4), (5, .int i5)]) X (by decide) rfl dX11_nextOf_29 ?_
        refine V_ls (ls' := [(0, .ref m), (1, .int x), (2, .int c_), (3, .int f3), (4, .int m4), (5, .int i5), (6, .int (0 : Int32))]) [1, 2, 3, 4, 5, 6, 0] rfl ?_
        refine V_to (V_ind9 (fun (i6 : Int32) (q : Nat) (f3 : Int32) (fz : Int) (m4 : Int32) (mz : Int) (z34 : Int32) (g25 : Nat → Int32) (g26 : Nat → Int32) => (i6.toInt = ((q : Nat) : Int)) ∧ (f3.toInt = fz) ∧ (m4.toInt = mz) ∧ (q ≤ 4) ∧ (SCJ (okP (B s0) (hLast H)) (gvl F S (T s0) H) (4 * k + q) mz fz z34.toInt)) (fun (i6 : Int32) (q : Nat) (f3 : Int32) (fz : Int) (m4 : Int32) (mz : Int) (z34 : Int32) (g25 : Nat → Int32) (g26 : Nat → Int32) => 4 - q) (fun (i6 : Int32) (q : Nat) (f3 : Int32) (fz : Int) (m4 : Int32) (mz : Int) (z34 : Int32) (g25 : Nat → Int32) (g26 : Nat → Int32) => [(0, .ref m), (1, .int x), (2, .int c_), (3, .int f3), (4, .int m4), (5, .int i5), (6, .int i6)]) (fun (i6 : Int32) (q : Nat) (f3 : Int32) (fz : Int) (m4 : Int32) (mz : Int) (z34 : Int32) (g25 : Nat → Int32) (g26 : Nat → Int32) => [(m, .inr (10, mF R v0 v7 v8 v9 v15 v16 v17 v18 v19 v27 v31 v32 v33 z34 v38 v42 v44)), ((R 1), .inl (Y 0, 3, .inl a1)), ((R 2), .inl (Y 0, 36, .inl a2)), ((R 3), .inl (Y 0, 36, .inl a3)), ((R 4), .inl (Y 0, 36, .inl a4)), ((R 5), .inl (Y 0, 24, .inl a5)), ((R 6), .inl (Y 0, 4, .inl a6)), ((R 20), .inl (Y 2, 260, .inl a20)), ((R 21), .inl (Y 0, 260, .inl a21)), ((R 22), .inl (Y 0, 2, .inl a22)), ((R 23), .inl (Y 3, 122, .inl a23)), ((R 24), .inl (Y 3, 122, .inl a24)), ((R 25), .inl (Y 0, 6, .inl g25)), ((R 26), .inl (Y 0, 130, .inl g26)), ((R 28), .inl (Y 0, 12, .inl a28))]) (fun i6 q f3 fz m4 mz z34 g25 g26 hI_31 ih_31 => ?_) (0 : Int32) 0 f3 fz m4 mz z34 g25 g26 ?_) rfl rfl rfl rfl
        · obtain ⟨ti6, tf3, tm4, hq4, hSCp⟩ := hI_31
          refine V_to (ls' := [(0, .ref m), (1, .int x), (2, .int c_), (3, .int f3), (4, .int m4), (5, .int i5), (6, .int i6)]) (ws' := [(m, .inr (10, mF R v0 v7 v8 v9 v15 v16 v17 v18 v19 v27 v31 v32 v33 z34 v38 v42 v44)), ((R 1), .inl (Y 0, 3, .inl a1)), ((R 2), .inl (Y 0, 36, .inl a2)), ((R 3), .inl (Y 0, 36, .inl a3)), ((R 4), .inl (Y 0, 36, .inl a4)), ((R 5), .inl (Y 0, 24, .inl a5)), ((R 6), .inl (Y 0, 4, .inl a6)), ((R 20), .inl (Y 2, 260, .inl a20)), ((R 21), .inl (Y 0, 260, .inl a21)), ((R 22), .inl (Y 0, 2, .inl a22)), ((R 23), .inl (Y 3, 122, .inl a23)), ((R 24), .inl (Y 3, 122, .inl a24)), ((R 25), .inl (Y 0, 6, .inl g25)), ((R 26), .inl (Y 0, 130, .inl g26)), ((R 28), .inl (Y 0, 12, .inl a28))]) ?_ rfl rfl rfl rfl
          refine V_iload X 6 rfl dX11_nextOf_31 ?_
          refine V_iconst (v := (4 : Int32)) X (by decide) dX11_nextOf_33 ?_
          refine V_icmp_ge X ti6 (show (4 : Int32).toInt = 4 from by decide) 107 dX11_nextOf_34 (by decide) (fun c_34 => ?_) (fun c_34 => ?_)
          · refine V_iincZ X (fun vv_ => [(5, .int vv_), (0, .ref m), (1, .int x), (2, .int c_), (3, .int f3), (4, .int m4), (6, .int i6)]) ti5 (by omega) (by omega) (by decide) 5 rfl (by decide) (fun _ => rfl) dX11_nextOf_107 (fun x_2 ex_2 tx_2 => ?_)
            have tx_2 : x_2.toInt = (((k + 1) : Nat) : Int) := by omega
            refine V_goto X 8 (by decide) dX11_nextOf_110 ?_
            refine V_ls (ls' := [(0, .ref m), (1, .int x), (2, .int c_), (3, .int f3), (4, .int m4), (5, .int x_2)]) [1, 2, 3, 4, 5, 0] rfl ?_
            exact V_to (ih_8 x_2 (k + 1) f3 fz m4 mz z34 g25 g26 ⟨(by omega), (by omega), (by omega), (by omega), (SCJ_e hSCp (by omega))⟩ (by omega)) rfl rfl rfl rfl
          · have hp4 : q < 4 := by omega
            refine V_aload_n X 0 rfl dX11_nextOf_37 ?_
            refine V_iload_n X 1 rfl dX11_nextOf_38 ?_
            refine V_iload X 6 rfl dX11_nextOf_39 ?_
            refine V_iload X 5 rfl dX11_nextOf_41 ?_
            refine V_iconst (v := (0 : Int32)) X (by decide) dX11_nextOf_43 ?_
            refine V_callV (C := RX11) (wr := [((R 1), .inl (Y 0, 3, .inl a1)), ((R 2), .inl (Y 0, 36, .inl a2)), ((R 3), .inl (Y 0, 36, .inl a3)), ((R 4), .inl (Y 0, 36, .inl a4)), ((R 6), .inl (Y 0, 4, .inl a6)), ((R 20), .inl (Y 2, 260, .inl a20)), ((R 21), .inl (Y 0, 260, .inl a21)), ((R 22), .inl (Y 0, 2, .inl a22)), ((R 23), .inl (Y 3, 122, .inl a23)), ((R 24), .inl (Y 3, 122, .inl a24)), ((R 25), .inl (Y 0, 6, .inl g25)), ((R 26), .inl (Y 0, 130, .inl g26)), ((R 28), .inl (Y 0, 12, .inl a28))]) (st := []) X (c_X11_bitAt l D Y m R v0 v7 v8 v9 v15 v16 v17 v18 v19 v27 v31 v32 v33 z34 v38 v42 v44 a5 B s0 x i6 q (0 : Int32) 0 i5 k hMH hs0 tx ti6 (by omega) (by have h9 : (0 : Int32).toInt = 0 := (show (0 : Int32).toInt = 0 from by decide); omega) (by omega) ti5 (by omega)) 4 gX11_nextOf_X11_bitAt rfl (by decide +kernel) ⟨rfl, rfl⟩ ⟨Nat.le_of_ble_eq_true rfl, Nat.le_of_ble_eq_true rfl⟩ [0, 5] [1, 2, 3, 4, 6, 7, 8, 9, 10, 11, 12, 13, 14] rfl rfl rfl rfl (by decide) (ci := 10) rfl rfl 0 rfl rfl rfl (Nat.le_of_ble_eq_true rfl) ⟨Nat.le_of_ble_eq_true rfl, Nat.le_of_ble_eq_true rfl⟩ dX11_nextOf_44 (fun v_44 w_44 h_44 => ?_)
            obtain ⟨r_4, rfl, rfl, htr_5⟩ := h_44
            refine V_to (pc' := 47) (ls' := [(0, .ref m), (1, .int x), (2, .int c_), (3, .int f3), (4, .int m4), (5, .int i5), (6, .int i6)]) (st' := [.int r_4]) (ws' := [((R 1), .inl (Y 0, 3, .inl a1)), ((R 2), .inl (Y 0, 36, .inl a2)), ((R 3), .inl (Y 0, 36, .inl a3)), ((R 4), .inl (Y 0, 36, .inl a4)), ((R 6), .inl (Y 0, 4, .inl a6)), ((R 20), .inl (Y 2, 260, .inl a20)), ((R 21), .inl (Y 0, 260, .inl a21)), ((R 22), .inl (Y 0, 2, .inl a22)), ((R 23), .inl (Y 3, 122, .inl a23)), ((R 24), .inl (Y 3, 122, .inl a24)), ((R 25), .inl (Y 0, 6, .inl g25)), ((R 26), .inl (Y 0, 130, .inl g26)), ((R 28), .inl (Y 0, 12, .inl a28)), (m, .inr (10, mF R v0 v7 v8 v9 v15 v16 v17 v18 v19 v27 v31 v32 v33 z34 v38 v42 v44)), ((R 5), .inl (Y 0, 24, .inl a5))]) ?_ rfl rfl rfl rfl
            refine V_if_ne X htr_5 66 dX11_nextOf_47 (by decide) (fun c_47 => ?_) (fun c_47 => ?_)
            · refine V_aload_n X 0 rfl dX11_nextOf_66 ?_
              refine V_iload_n X 1 rfl dX11_nextOf_67 ?_
              refine V_iload_n X 2 rfl dX11_nextOf_68 ?_
              refine V_iload X 5 rfl dX11_nextOf_69 ?_
              refine V_iload X 6 rfl dX11_nextOf_71 ?_
              refine V_callV (C := RX11) (wr := [((R 1), .inl (Y 0, 3, .inl a1)), ((R 5), .inl (Y 0, 24, .inl a5))]) (st := []) X (c_X11_comesTo l D Y m R v0 v7 v8 v9 v15 v16 v17 v18 v19 v27 v31 v32 v33 z34 v38 v42 v44 a2 a3 a4 a6 a20 a21 a22 a23 a24 g25 g26 a28 T S F s0 x c_ cn i5 k i6 q (hCnt H k) hMT hSU hLW hs0 tx tc_ ti5 ti6 hc (by omega) (by omega) (hOf k (by omega))) 4 gX11_nextOf_X11_comesTo rfl (by decide +kernel) ⟨rfl, rfl⟩ ⟨Nat.le_of_ble_eq_true rfl, Nat.le_of_ble_eq_true rfl⟩ [13, 1, 2, 3, 4, 5, 6, 7, 8, 9, 10, 11, 12] [0, 14] rfl rfl rfl rfl (by decide) (ci := 10) rfl rfl 0 rfl rfl rfl (Nat.le_of_ble_eq_true rfl) ⟨Nat.le_of_ble_eq_true rfl, Nat.le_of_ble_eq_true rfl⟩ dX11_nextOf_73 (fun v_73 w_73 h_73 => ?_)
              obtain ⟨r_7, b25_8, b26_9, rfl, rfl, hhr_10⟩ := h_73
              refine V_to (pc' := 76) (ls' := [(0, .ref m), (1, .int x), (2, .int c_), (3, .int f3), (4, .int m4), (5, .int i5), (6, .int i6)]) (st' := [.int r_7]) (ws' := [((R 1), .inl (Y 0, 3, .inl a1)), ((R 5), .inl (Y 0, 24, .inl a5)), (m, .inr (10, mF R v0 v7 v8 v9 v15 v16 v17 v18 v19 v27 v31 v32 v33 z34 v38 v42 v44)), ((R 2), .inl (Y 0, 36, .inl a2)), ((R 3), .inl (Y 0, 36, .inl a3)), ((R 4), .inl (Y 0, 36, .inl a4)), ((R 6), .inl (Y 0, 4, .inl a6)), ((R 20), .inl (Y 2, 260, .inl a20)), ((R 21), .inl (Y 0, 260, .inl a21)), ((R 22), .inl (Y 0, 2, .inl a22)), ((R 23), .inl (Y 3, 122, .inl a23)), ((R 24), .inl (Y 3, 122, .inl a24)), ((R 25), .inl (Y 0, 6, .inl b25_8)), ((R 26), .inl (Y 0, 130, .inl b26_9)), ((R 28), .inl (Y 0, 12, .inl a28))]) ?_ rfl rfl rfl rfl
              refine V_istore (ls' := [(7, .int r_7), (0, .ref m), (1, .int x), (2, .int c_), (3, .int f3), (4, .int m4), (5, .int i5), (6, .int i6)]) X (by decide) rfl dX11_nextOf_76 ?_
              refine V_iload X 0 rfl dX11_nextOf_78 ?_
              refine V_iload X 5 rfl dX11_nextOf_80 ?_
              refine V_icmp_gt X rfl tm4 88 dX11_nextOf_82 (by decide) (fun c_82 => ?_) (fun c_82 => ?_)
              · refine V_iload X 0 rfl dX11_nextOf_88 ?_
                refine V_istore (ls' := [(4, .int r_7), (7, .int r_7), (0, .ref m), (1, .int x), (2, .int c_), (3, .int f3), (5, .int i5), (6, .int i6)]) X (by decide) rfl dX11_nextOf_90 ?_
                refine V_iload X 6 rfl dX11_nextOf_92 ?_
                refine V_istore_n (ls' := [(3, .int i5), (4, .int r_7), (7, .int r_7), (0, .ref m), (1, .int x), (2, .int c_), (5, .int i5), (6, .int i6)]) X (by decide) rfl dX11_nextOf_94 ?_
                refine V_aload_n X 3 rfl dX11_nextOf_95 ?_
                refine V_iload X 7 rfl dX11_nextOf_96 ?_
                refine V_put (C := RX11) (T := TX11) (N := 50) (ci := 10) (v := .int i6) (ty := tyX11 34) (ws' := [((R 1), .inl (Y 0, 3, .inl a1)), ((R 5), .inl (Y 0, 24, .inl a5)), (m, .inr (10, mF R v0 v7 v8 v9 v15 v16 v17 v18 v19 v27 v31 v32 v33 i6 v38 v42 v44)), ((R 2), .inl (Y 0, 36, .inl a2)), ((R 3), .inl (Y 0, 36, .inl a3)), ((R 4), .inl (Y 0, 36, .inl a4)), ((R 6), .inl (Y 0, 4, .inl a6)), ((R 20), .inl (Y 2, 260, .inl a20)), ((R 21), .inl (Y 0, 260, .inl a21)), ((R 22), .inl (Y 0, 2, .inl a22)), ((R 23), .inl (Y 3, 122, .inl a23)), ((R 24), .inl (Y 3, 122, .inl a24)), ((R 25), .inl (Y 0, 6, .inl b25_8)), ((R 26), .inl (Y 0, 130, .inl b26_9)), ((R 28), .inl (Y 0, 12, .inl a28))]) X in_X11_nextOf_X11 2 rfl rfl 34 (by decide) (List.mem_of_getElem? (i := 2) rfl) rfl tyX11 tyX11_ok nmX11 rfl (tyX11_ok 34 (by decide)) rfl rfl (Nat.le_of_ble_eq_true rfl) rfl dX11_nextOf_98 ?_
                refine V_iincZ X (fun vv_ => [(6, .int vv_), (3, .int i5), (4, .int r_7), (7, .int r_7), (0, .ref m), (1, .int x), (2, .int c_), (5, .int i5)]) ti6 (by omega) (by omega) (by decide) 7 rfl (by decide) (fun _ => rfl) dX11_nextOf_101 (fun x_11 ex_11 tx_11 => ?_)
                have tx_11 : x_11.toInt = (((q + 1) : Nat) : Int) := by omega
                refine V_goto X 31 (by decide) dX11_nextOf_104 ?_
                refine V_ls (ls' := [(0, .ref m), (1, .int x), (2, .int c_), (3, .int i5), (4, .int r_7), (5, .int i5), (6, .int x_11)]) [4, 5, 6, 1, 2, 7, 0] rfl ?_
                refine V_ws (ws' := [(m, .inr (10, mF R v0 v7 v8 v9 v15 v16 v17 v18 v19 v27 v31 v32 v33 i6 v38 v42 v44)), ((R 1), .inl (Y 0, 3, .inl a1)), ((R 2), .inl (Y 0, 36, .inl a2)), ((R 3), .inl (Y 0, 36, .inl a3)), ((R 4), .inl (Y 0, 36, .inl a4)), ((R 5), .inl (Y 0, 24, .inl a5)), ((R 6), .inl (Y 0, 4, .inl a6)), ((R 20), .inl (Y 2, 260, .inl a20)), ((R 21), .inl (Y 0, 260, .inl a21)), ((R 22), .inl (Y 0, 2, .inl a22)), ((R 23), .inl (Y 3, 122, .inl a23)), ((R 24), .inl (Y 3, 122, .inl a24)), ((R 25), .inl (Y 0, 6, .inl b25_8)), ((R 26), .inl (Y 0, 130, .inl b26_9)), ((R 28), .inl (Y 0, 12, .inl a28))]) [2, 0, 3, 4, 5, 1, 6, 7, 8, 9, 10, 11, 12, 13, 14] rfl rfl rfl ?_
                exact V_to (ih_31 x_11 (q + 1) i5 ((k : Nat) : Int) r_7 (r_7.toInt) i6 b25_8 b26_9 ⟨(by omega), (by omega), (by omega), (by omega), (SCJ_y hp4 hSCp (okP_t (by omega) (Or.inl c_47)) (by rw [hhr_10]; unfold gvl; rw [hlast]) (by omega) (by omega) (by omega))⟩ (by omega)) rfl rfl rfl rfl
              · refine V_goto X 101 (by decide) dX11_nextOf_85 ?_
                refine V_iincZ X (fun vv_ => [(6, .int vv_), (7, .int r_7), (0, .ref m), (1, .int x), (2, .int c_), (3, .int f3), (4, .int m4), (5, .int i5)]) ti6 (by omega) (by omega) (by decide) 7 rfl (by decide) (fun _ => rfl) dX11_nextOf_101 (fun x_12 ex_12 tx_12 => ?_)
                have tx_12 : x_12.toInt = (((q + 1) : Nat) : Int) := by omega
                refine V_goto X 31 (by decide) dX11_nextOf_104 ?_
                refine V_ls (ls' := [(0, .ref m), (1, .int x), (2, .int c_), (3, .int f3), (4, .int m4), (5, .int i5), (6, .int x_12)]) [2, 3, 4, 5, 6, 7, 0] rfl ?_
                refine V_ws (ws' := [(m, .inr (10, mF R v0 v7 v8 v9 v15 v16 v17 v18 v19 v27 v31 v32 v33 z34 v38 v42 v44)), ((R 1), .inl (Y 0, 3, .inl a1)), ((R 2), .inl (Y 0, 36, .inl a2)), ((R 3), .inl (Y 0, 36, .inl a3)), ((R 4), .inl (Y 0, 36, .inl a4)), ((R 5), .inl (Y 0, 24, .inl a5)), ((R 6), .inl (Y 0, 4, .inl a6)), ((R 20), .inl (Y 2, 260, .inl a20)), ((R 21), .inl (Y 0, 260, .inl a21)), ((R 22), .inl (Y 0, 2, .inl a22)), ((R 23), .inl (Y 3, 122, .inl a23)), ((R 24), .inl (Y 3, 122, .inl a24)), ((R 25), .inl (Y 0, 6, .inl b25_8)), ((R 26), .inl (Y 0, 130, .inl b26_9)), ((R 28), .inl (Y 0, 12, .inl a28))]) [2, 0, 3, 4, 5, 1, 6, 7, 8, 9, 10, 11, 12, 13, 14] rfl rfl rfl ?_
                exact V_to (ih_31 x_12 (q + 1) f3 fz m4 mz z34 b25_8 b26_9 ⟨(by omega), (by omega), (by omega), (by omega), (SCJ_n hp4 hSCp (Or.inr (by unfold gvl; rw [hlast, ← hhr_10]; omega)))⟩ (by omega)) rfl rfl rfl rfl
            · refine V_aload_n X 0 rfl dX11_nextOf_50 ?_
              refine V_iload_n X 1 rfl dX11_nextOf_51 ?_
              refine V_iload X 6 rfl dX11_nextOf_52 ?_
              refine V_iload X 5 rfl dX11_nextOf_54 ?_
              refine V_iconst (v := (1 : Int32)) X (by decide) dX11_nextOf_56 ?_
              refine V_callV (C := RX11) (wr := [((R 1), .inl (Y 0, 3, .inl a1)), ((R 2), .inl (Y 0, 36, .inl a2)), ((R 3), .inl (Y 0, 36, .inl a3)), ((R 4), .inl (Y 0, 36, .inl a4)), ((R 6), .inl (Y 0, 4, .inl a6)), ((R 20), .inl (Y 2, 260, .inl a20)), ((R 21), .inl (Y 0, 260, .inl a21)), ((R 22), .inl (Y 0, 2, .inl a22)), ((R 23), .inl (Y 3, 122, .inl a23)), ((R 24), .inl (Y 3, 122, .inl a24)), ((R 25), .inl (Y 0, 6, .inl g25)), ((R 26), .inl (Y 0, 130, .inl g26)), ((R 28), .inl (Y 0, 12, .inl a28))]) (st := []) X (c_X11_bitAt l D Y m R v0 v7 v8 v9 v15 v16 v17 v18 v19 v27 v31 v32 v33 z34 v38 v42 v44 a5 B s0 x i6 q (1 : Int32) 1 i5 k hMH hs0 tx ti6 (by omega) (by have h9 : (1 : Int32).toInt = 1 := (show (1 : Int32).toInt = 1 from by decide); omega) (by omega) ti5 (by omega)) 4 gX11_nextOf_X11_bitAt rfl (by decide +kernel) ⟨rfl, rfl⟩ ⟨Nat.le_of_ble_eq_true rfl, Nat.le_of_ble_eq_true rfl⟩ [13, 14] [0, 1, 2, 3, 4, 5, 6, 7, 8, 9, 10, 11, 12] rfl rfl rfl rfl (by decide) (ci := 10) rfl rfl 0 rfl rfl rfl (Nat.le_of_ble_eq_true rfl) ⟨Nat.le_of_ble_eq_true rfl, Nat.le_of_ble_eq_true rfl⟩ dX11_nextOf_57 (fun v_57 w_57 h_57 => ?_)
              obtain ⟨r_14, rfl, rfl, htr_15⟩ := h_57
              refine V_to (pc' := 60) (ls' := [(0, .ref m), (1, .int x), (2, .int c_), (3, .int f3), (4, .int m4), (5, .int i5), (6, .int i6)]) (st' := [.int r_14]) (ws' := [((R 1), .inl (Y 0, 3, .inl a1)), ((R 2), .inl (Y 0, 36, .inl a2)), ((R 3), .inl (Y 0, 36, .inl a3)), ((R 4), .inl (Y 0, 36, .inl a4)), ((R 6), .inl (Y 0, 4, .inl a6)), ((R 20), .inl (Y 2, 260, .inl a20)), ((R 21), .inl (Y 0, 260, .inl a21)), ((R 22), .inl (Y 0, 2, .inl a22)), ((R 23), .inl (Y 3, 122, .inl a23)), ((R 24), .inl (Y 3, 122, .inl a24)), ((R 25), .inl (Y 0, 6, .inl g25)), ((R 26), .inl (Y 0, 130, .inl g26)), ((R 28), .inl (Y 0, 12, .inl a28)), (m, .inr (10, mF R v0 v7 v8 v9 v15 v16 v17 v18 v19 v27 v31 v32 v33 z34 v38 v42 v44)), ((R 5), .inl (Y 0, 24, .inl a5))]) ?_ rfl rfl rfl rfl
              refine V_if_ne X htr_15 66 dX11_nextOf_60 (by decide) (fun c_60 => ?_) (fun c_60 => ?_)
              · refine V_aload_n X 0 rfl dX11_nextOf_66 ?_
                refine V_iload_n X 1 rfl dX11_nextOf_67 ?_
                refine V_iload_n X 2 rfl dX11_nextOf_68 ?_
                refine V_iload X 5 rfl dX11_nextOf_69 ?_
                refine V_iload X 6 rfl dX11_nextOf_71 ?_
                refine V_callV (C := RX11) (wr := [((R 1), .inl (Y 0, 3, .inl a1)), ((R 5), .inl (Y 0, 24, .inl a5))]) (st := []) X (c_X11_comesTo l D Y m R v0 v7 v8 v9 v15 v16 v17 v18 v19 v27 v31 v32 v33 z34 v38 v42 v44 a2 a3 a4 a6 a20 a21 a22 a23 a24 g25 g26 a28 T S F s0 x c_ cn i5 k i6 q (hCnt H k) hMT hSU hLW hs0 tx tc_ ti5 ti6 hc (by omega) (by omega) (hOf k (by omega))) 4 gX11_nextOf_X11_comesTo rfl (by decide +kernel) ⟨rfl, rfl⟩ ⟨Nat.le_of_ble_eq_true rfl, Nat.le_of_ble_eq_true rfl⟩ [13, 1, 2, 3, 4, 5, 6, 7, 8, 9, 10, 11, 12] [0, 14] rfl rfl rfl rfl (by decide) (ci := 10) rfl rfl 0 rfl rfl rfl (Nat.le_of_ble_eq_true rfl) ⟨Nat.le_of_ble_eq_true rfl, Nat.le_of_ble_eq_true rfl⟩ dX11_nextOf_73 (fun v_73 w_73 h_73 => ?_)
                obtain ⟨r_17, b25_18, b26_19, rfl, rfl, hhr_20⟩ := h_73
                refine V_to (pc' := 76) (ls' := [(0, .ref m), (1, .int x), (2, .int c_), (3, .int f3), (4, .int m4), (5, .int i5), (6, .int i6)]) (st' := [.int r_17]) (ws' := [((R 1), .inl (Y 0, 3, .inl a1)), ((R 5), .inl (Y 0, 24, .inl a5)), (m, .inr (10, mF R v0 v7 v8 v9 v15 v16 v17 v18 v19 v27 v31 v32 v33 z34 v38 v42 v44)), ((R 2), .inl (Y 0, 36, .inl a2)), ((R 3), .inl (Y 0, 36, .inl a3)), ((R 4), .inl (Y 0, 36, .inl a4)), ((R 6), .inl (Y 0, 4, .inl a6)), ((R 20), .inl (Y 2, 260, .inl a20)), ((R 21), .inl (Y 0, 260, .inl a21)), ((R 22), .inl (Y 0, 2, .inl a22)), ((R 23), .inl (Y 3, 122, .inl a23)), ((R 24), .inl (Y 3, 122, .inl a24)), ((R 25), .inl (Y 0, 6, .inl b25_18)), ((R 26), .inl (Y 0, 130, .inl b26_19)), ((R 28), .inl (Y 0, 12, .inl a28))]) ?_ rfl rfl rfl rfl
                refine V_istore (ls' := [(7, .int r_17), (0, .ref m), (1, .int x), (2, .int c_), (3, .int f3), (4, .int m4), (5, .int i5), (6, .int i6)]) X (by decide) rfl dX11_nextOf_76 ?_
                refine V_iload X 0 rfl dX11_nextOf_78 ?_
                refine V_iload X 5 rfl dX11_nextOf_80 ?_
                refine V_icmp_gt X rfl tm4 88 dX11_nextOf_82 (by decide) (fun c_82 => ?_) (fun c_82 => ?_)
                · refine V_iload X 0 rfl dX11_nextOf_88 ?_
                  refine V_istore (ls' := [(4, .int r_17), (7, .int r_17), (0, .ref m), (1, .int x), (2, .int c_), (3, .int f3), (5, .int i5), (6, .int i6)]) X (by decide) rfl dX11_nextOf_90 ?_
                  refine V_iload X 6 rfl dX11_nextOf_92 ?_
                  refine V_istore_n (ls' := [(3, .int i5), (4, .int r_17), (7, .int r_17), (0, .ref m), (1, .int x), (2, .int c_), (5, .int i5), (6, .int i6)]) X (by decide) rfl dX11_nextOf_94 ?_
                  refine V_aload_n X 3 rfl dX11_nextOf_95 ?_
                  refine V_iload X 7 rfl dX11_nextOf_96 ?_
                  refine V_put (C := RX11) (T := TX11) (N := 50) (ci := 10) (v := .int i6) (ty := tyX11 34) (ws' := [((R 1), .inl (Y 0, 3, .inl a1)), ((R 5), .inl (Y 0, 24, .inl a5)), (m, .inr (10, mF R v0 v7 v8 v9 v15 v16 v17 v18 v19 v27 v31 v32 v33 i6 v38 v42 v44)), ((R 2), .inl (Y 0, 36, .inl a2)), ((R 3), .inl (Y 0, 36, .inl a3)), ((R 4), .inl (Y 0, 36, .inl a4)), ((R 6), .inl (Y 0, 4, .inl a6)), ((R 20), .inl (Y 2, 260, .inl a20)), ((R 21), .inl (Y 0, 260, .inl a21)), ((R 22), .inl (Y 0, 2, .inl a22)), ((R 23), .inl (Y 3, 122, .inl a23)), ((R 24), .inl (Y 3, 122, .inl a24)), ((R 25), .inl (Y 0, 6, .inl b25_18)), ((R 26), .inl (Y 0, 130, .inl b26_19)), ((R 28), .inl (Y 0, 12, .inl a28))]) X in_X11_nextOf_X11 2 rfl rfl 34 (by decide) (List.mem_of_getElem? (i := 2) rfl) rfl tyX11 tyX11_ok nmX11 rfl (tyX11_ok 34 (by decide)) rfl rfl (Nat.le_of_ble_eq_true rfl) rfl dX11_nextOf_98 ?_
                  refine V_iincZ X (fun vv_ => [(6, .int vv_), (3, .int i5), (4, .int r_17), (7, .int r_17), (0, .ref m), (1, .int x), (2, .int c_), (5, .int i5)]) ti6 (by omega) (by omega) (by decide) 7 rfl (by decide) (fun _ => rfl) dX11_nextOf_101 (fun x_21 ex_21 tx_21 => ?_)
                  have tx_21 : x_21.toInt = (((q + 1) : Nat) : Int) := by omega
                  refine V_goto X 31 (by decide) dX11_nextOf_104 ?_
                  refine V_ls (ls' := [(0, .ref m), (1, .int x), (2, .int c_), (3, .int i5), (4, .int r_17), (5, .int i5), (6, .int x_21)]) [4, 5, 6, 1, 2, 7, 0] rfl ?_
                  refine V_ws (ws' := [(m, .inr (10, mF R v0 v7 v8 v9 v15 v16 v17 v18 v19 v27 v31 v32 v33 i6 v38 v42 v44)), ((R 1), .inl (Y 0, 3, .inl a1)), ((R 2), .inl (Y 0, 36, .inl a2)), ((R 3), .inl (Y 0, 36, .inl a3)), ((R 4), .inl (Y 0, 36, .inl a4)), ((R 5), .inl (Y 0, 24, .inl a5)), ((R 6), .inl (Y 0, 4, .inl a6)), ((R 20), .inl (Y 2, 260, .inl a20)), ((R 21), .inl (Y 0, 260, .inl a21)), ((R 22), .inl (Y 0, 2, .inl a22)), ((R 23), .inl (Y 3, 122, .inl a23)), ((R 24), .inl (Y 3, 122, .inl a24)), ((R 25), .inl (Y 0, 6, .inl b25_18)), ((R 26), .inl (Y 0, 130, .inl b26_19)), ((R 28), .inl (Y 0, 12, .inl a28))]) [2, 0, 3, 4, 5, 1, 6, 7, 8, 9, 10, 11, 12, 13, 14] rfl rfl rfl ?_
                  exact V_to (ih_31 x_21 (q + 1) i5 ((k : Nat) : Int) r_17 (r_17.toInt) i6 b25_18 b26_19 ⟨(by omega), (by omega), (by omega), (by omega), (SCJ_y hp4 hSCp (okP_t (by omega) (Or.inr c_60)) (by rw [hhr_20]; unfold gvl; rw [hlast]) (by omega) (by omega) (by omega))⟩ (by omega)) rfl rfl rfl rfl
                · refine V_goto X 101 (by decide) dX11_nextOf_85 ?_
                  refine V_iincZ X (fun vv_ => [(6, .int vv_), (7, .int r_17), (0, .ref m), (1, .int x), (2, .int c_), (3, .int f3), (4, .int m4), (5, .int i5)]) ti6 (by omega) (by omega) (by decide) 7 rfl (by decide) (fun _ => rfl) dX11_nextOf_101 (fun x_22 ex_22 tx_22 => ?_)
                  have tx_22 : x_22.toInt = (((q + 1) : Nat) : Int) := by omega
                  refine V_goto X 31 (by decide) dX11_nextOf_104 ?_
                  refine V_ls (ls' := [(0, .ref m), (1, .int x), (2, .int c_), (3, .int f3), (4, .int m4), (5, .int i5), (6, .int x_22)]) [2, 3, 4, 5, 6, 7, 0] rfl ?_
                  refine V_ws (ws' := [(m, .inr (10, mF R v0 v7 v8 v9 v15 v16 v17 v18 v19 v27 v31 v32 v33 z34 v38 v42 v44)), ((R 1), .inl (Y 0, 3, .inl a1)), ((R 2), .inl (Y 0, 36, .inl a2)), ((R 3), .inl (Y 0, 36, .inl a3)), ((R 4), .inl (Y 0, 36, .inl a4)), ((R 5), .inl (Y 0, 24, .inl a5)), ((R 6), .inl (Y 0, 4, .inl a6)), ((R 20), .inl (Y 2, 260, .inl a20)), ((R 21), .inl (Y 0, 260, .inl a21)), ((R 22), .inl (Y 0, 2, .inl a22)), ((R 23), .inl (Y 3, 122, .inl a23)), ((R 24), .inl (Y 3, 122, .inl a24)), ((R 25), .inl (Y 0, 6, .inl b25_18)), ((R 26), .inl (Y 0, 130, .inl b26_19)), ((R 28), .inl (Y 0, 12, .inl a28))]) [2, 0, 3, 4, 5, 1, 6, 7, 8, 9, 10, 11, 12, 13, 14] rfl rfl rfl ?_
                  exact V_to (ih_31 x_22 (q + 1) f3 fz m4 mz z34 b25_18 b26_19 ⟨(by omega), (by omega), (by omega), (by omega), (SCJ_n hp4 hSCp (Or.inr (by unfold gvl; rw [hlast, ← hhr_20]; omega)))⟩ (by omega)) rfl rfl rfl rfl
              · refine V_goto X 101 (by decide) dX11_nextOf_63 ?_
                refine V_iincZ X (fun vv_ => [(6, .int vv_), (0, .ref m), (1, .int x), (2, .int c_), (3, .int f3), (4, .int m4), (5, .int i5)]) ti6 (by omega) (by omega) (by decide) 6 rfl (by decide) (fun _ => rfl) dX11_nextOf_101 (fun x_23 ex_23 tx_23 => ?_)
                have tx_23 : x_23.toInt = (((q + 1) : Nat) : Int) := by omega
                refine V_goto X 31 (by decide) dX11_nextOf_104 ?_
                refine V_ls (ls' := [(0, .ref m), (1, .int x), (2, .int c_), (3, .int f3), (4, .int m4), (5, .int i5), (6, .int x_23)]) [1, 2, 3, 4, 5, 6, 0] rfl ?_
                refine V_ws (ws' := [(m, .inr (10, mF R v0 v7 v8 v9 v15 v16 v17 v18 v19 v27 v31 v32 v33 z34 v38 v42 v44)), ((R 1), .inl (Y 0, 3, .inl a1)), ((R 2), .inl (Y 0, 36, .inl a2)), ((R 3), .inl (Y 0, 36, .inl a3)), ((R 4), .inl (Y 0, 36, .inl a4)), ((R 5), .inl (Y 0, 24, .inl a5)), ((R 6), .inl (Y 0, 4, .inl a6)), ((R 20), .inl (Y 2, 260, .inl a20)), ((R 21), .inl (Y 0, 260, .inl a21)), ((R 22), .inl (Y 0, 2, .inl a22)), ((R 23), .inl (Y 3, 122, .inl a23)), ((R 24), .inl (Y 3, 122, .inl a24)), ((R 25), .inl (Y 0, 6, .inl g25)), ((R 26), .inl (Y 0, 130, .inl g26)), ((R 28), .inl (Y 0, 12, .inl a28))]) [13, 0, 1, 2, 3, 14, 4, 5, 6, 7, 8, 9, 10, 11, 12] rfl rfl rfl ?_
                exact V_to (ih_31 x_23 (q + 1) f3 fz m4 mz z34 g25 g26 ⟨(by omega), (by omega), (by omega), (by omega), (SCJ_n hp4 hSCp (Or.inl (okP_f c_47 c_60)))⟩ (by omega)) rfl rfl rfl rfl
        · exact ⟨(by have h9 : (0 : Int32).toInt = 0 := (show (0 : Int32).toInt = 0 from by decide); omega), (by omega), (by omega), (by omega), hSC⟩
      · refine V_goto X 107 (by decide) dX11_nextOf_25 ?_
        refine V_iincZ X (fun vv_ => [(5, .int vv_), (0, .ref m), (1, .int x), (2, .int c_), (3, .int f3), (4, .int m4)]) ti5 (by omega) (by omega) (by decide) 5 rfl (by decide) (fun _ => rfl) dX11_nextOf_107 (fun x_24 ex_24 tx_24 => ?_)
        have tx_24 : x_24.toInt = (((k + 1) : Nat) : Int) := by omega
        refine V_goto X 8 (by decide) dX11_nextOf_110 ?_
        refine V_ls (ls' := [(0, .ref m), (1, .int x), (2, .int c_), (3, .int f3), (4, .int m4), (5, .int x_24)]) [1, 2, 3, 4, 5, 0] rfl ?_
        exact V_to (ih_8 x_24 (k + 1) f3 fz m4 mz z34 g25 g26 ⟨(by omega), (by omega), (by omega), (by omega), (SCJ_4 hSC (ok_last (by omega)))⟩ (by omega)) rfl rfl rfl rfl
  · exact ⟨(by have h9 : (0 : Int32).toInt = 0 := (show (0 : Int32).toInt = 0 from by decide); omega), (by decide), (by decide), (by omega), (SCJ_0 _ _ _)⟩

theorem in_X11_beginSinging_X11 : ∀ w ∈ wsX110, w ∈ wsX11_beginSinging := fun w h => List.mem_cons_of_mem _ (List.mem_append_right _ h)
set_option maxHeartbeats 4000000 in
set_option maxRecDepth 100000 in
theorem c_X11_beginSinging (l : Launch) (D : va_G) (Y : Nat → ClassId) (m : Nat) (R : Nat → Nat) (v0 : Int32) (v7 : Int32) (v8 : Int32) (v9 : Int32) (v15 : Int32) (v16 : Int32) (v17 : Int32) (v18 : Int32) (v19 : Int32) (v27 : Int32) (v31 : Int32) (v32 : Int32) (v33 : Int32) (v34 : Int32) (v38 : Int32) (v42 : Int32) (v44 : Int32) (a28 : Nat → Int32) : Mg l yX11_beginSinging wsX11_beginSinging ({ frames := 0, cells := 0, slots := 0, locals := 0 }) D Y [(m, .inr (10, mF R v0 v7 v8 v9 v15 v16 v17 v18 v19 v27 v31 v32 v33 v34 v38 v42 v44)), ((R 28), .inl (Y 0, 12, .inl a28))] [.ref m] 0 0 (fun vv__ ww__ => (∃ (b28 : Nat → Int32), vv__ = none ∧ ww__ = [(m, .inr (10, mF R v0 v7 v8 v9 v15 v16 v17 v18 v19 v27 v31 v32 v33 v34 v38 v42 v44)), ((R 28), .inl (Y 0, 12, .inl b28))] ∧ (∀ j, j < 12 → b28 j = 0))) := by
  refine Mg_of (cc := cX11_beginSinging) (maxL := 2) (ret := none) (ls0 := [(0, .ref m)]) RX11 (by decide) rfl rfl rfl (Nat.le_of_ble_eq_true rfl) (fun p__ e__ s__ m__ b__ t__ c__ X hr hn => ?_)
  refine V_iconst (v := (0 : Int32)) X (by decide) dX11_beginSinging_0 ?_
  refine V_istore_n (ls' := [(1, .int (0 : Int32)), (0, .ref m)]) X (by decide) rfl dX11_beginSinging_1 ?_
  refine V_ls (ls' := [(0, .ref m), (1, .int (0 : Int32))]) [1, 0] rfl ?_
  refine V_to (V_ind3 (fun (i1 : Int32) (k : Nat) (g28 : Nat → Int32) => (i1.toInt = ((k : Nat) : Int)) ∧ (k ≤ 12) ∧ (∀ j, j < k → g28 j = 0)) (fun (i1 : Int32) (k : Nat) (g28 : Nat → Int32) => 12 - k) (fun (i1 : Int32) (k : Nat) (g28 : Nat → Int32) => [(0, .ref m), (1, .int i1)]) (fun (i1 : Int32) (k : Nat) (g28 : Nat → Int32) => [(m, .inr (10, mF R v0 v7 v8 v9 v15 v16 v17 v18 v19 v27 v31 v32 v33 v34 v38 v42 v44)), ((R 28), .inl (Y 0, 12, .inl g28))]) (fun i1 k g28 hI_2 ih_2 => ?_) (0 : Int32) 0 a28 ?_) rfl rfl rfl rfl
  · obtain ⟨ti1, hk, hg⟩ := hI_2
    refine V_to (ls' := [(0, .ref m), (1, .int i1)]) (ws' := [(m, .inr (10, mF R v0 v7 v8 v9 v15 v16 v17 v18 v19 v27 v31 v32 v33 v34 v38 v42 v44)), ((R 28), .inl (Y 0, 12, .inl g28))]) ?_ rfl rfl rfl rfl
    refine V_iload_n X 1 rfl dX11_beginSinging_2 ?_
    refine V_bipush (v := (12 : Int32)) X (by decide) dX11_beginSinging_3 ?_
    refine V_icmp_ge X ti1 (show (12 : Int32).toInt = 12 from by decide) 21 dX11_beginSinging_5 (by decide) (fun c_5 => ?_) (fun c_5 => ?_)
    · exact V_vret X hr dX11_beginSinging_21 (⟨g28, rfl, rfl, (fun j hj => hg j (by omega))⟩)
    · refine V_aload_n X 0 rfl dX11_beginSinging_8 ?_
      refine V_get (C := RX11) (T := TX11) (N := 50) (ci := 10) (v := .ref (R 28)) X in_X11_beginSinging_X11 0 rfl rfl 28 (by decide) (List.mem_of_getElem? (i := 1) rfl) rfl rfl dX11_beginSinging_9 ?_
      refine V_iload_n X 1 rfl dX11_beginSinging_12 ?_
      refine V_iconst (v := (0 : Int32)) X (by decide) dX11_beginSinging_13 ?_
      refine V_iast (ws' := [(m, .inr (10, mF R v0 v7 v8 v9 v15 v16 v17 v18 v19 v27 v31 v32 v33 v34 v38 v42 v44)), ((R 28), .inl (Y 0, 12, .inl (upd g28 k (0 : Int32))))]) X 1 k rfl ti1 (by omega) rfl dX11_beginSinging_14 ?_
      refine V_iincZ X (fun vv_ => [(1, .int vv_), (0, .ref m)]) ti1 (by omega) (by omega) (by decide) 1 rfl (by decide) (fun _ => rfl) dX11_beginSinging_15 (fun x_1 ex_1 tx_1 => ?_)
      have tx_1 : x_1.toInt = (((k + 1) : Nat) : Int) := by omega
      refine V_goto X 2 (by decide) dX11_beginSinging_18 ?_
      refine V_ls (ls' := [(0, .ref m), (1, .int x_1)]) [1, 0] rfl ?_
      exact V_to (ih_2 x_1 (k + 1) (upd g28 k (0 : Int32)) ⟨(by omega), (by omega), (fill_s hg)⟩ (by omega)) rfl rfl rfl rfl
  · exact ⟨(by have h9 : (0 : Int32).toInt = 0 := (show (0 : Int32).toInt = 0 from by decide); omega), (by omega), (fun j hj => absurd hj (Nat.not_lt_zero j))⟩

theorem in_X11_goSinging_X11 : ∀ w ∈ wsX110, w ∈ wsX11_goSinging := fun w h => List.mem_cons_of_mem _ (List.mem_append_right _ h)
set_option maxHeartbeats 4000000 in
set_option maxRecDepth 100000 in
theorem c_X11_goSinging (l : Launch) (D : va_G) (Y : Nat → ClassId) (m : Nat) (R : Nat → Nat) (v0 : Int32) (v7 : Int32) (v8 : Int32) (v9 : Int32) (v15 : Int32) (v16 : Int32) (v17 : Int32) (v18 : Int32) (v19 : Int32) (v27 : Int32) (v31 : Int32) (v32 : Int32) (v33 : Int32) (v34 : Int32) (v38 : Int32) (v42 : Int32) (v44 : Int32) (a1 : Nat → Int32) (a2 : Nat → Int32) (a3 : Nat → Int32) (a4 : Nat → Int32) (a5 : Nat → Int32) (a6 : Nat → Int32) (a20 : Nat → Int32) (a21 : Nat → Int32) (a22 : Nat → Int32) (a23 : Nat → Int32) (a24 : Nat → Int32) (a25 : Nat → Int32) (a26 : Nat → Int32) (a28 : Nat → Int32) (n : Nat → Nat) (T : Nat → Nat → Nat) (B : Nat → Nat → Bool) (S : Nat → Nat) (F : Nat → Nat → Nat → Int32) (a29 : Nat → Int32) (a30 : Nat → Int32) (s0 : Nat) (x : Int32) (l_ : Int32) (l0 : Nat) (hLN : LNR a1 n) (hMT : MTR a2 a3 a4 T) (hMH : MHV a5 B) (hSU : SUR a6 S) (hLW : LAWR v27 a20 a21 a22 a23 a24 F) (hs0 : s0 < 3) (tx : x.toInt = ((s0 : Nat) : Int)) (tl_ : l_.toInt = ((l0 : Nat) : Int)) (hl0 : l0 < 12) : Mg l yX11_goSinging wsX11_goSinging ({ frames := 5, cells := 0, slots := 0, locals := 126 }) D Y [(m, .inr (10, mF R v0 v7 v8 v9 v15 v16 v17 v18 v19 v27 v31 v32 v33 v34 v38 v42 v44)), ((R 1), .inl (Y 0, 3, .inl a1)), ((R 2), .inl (Y 0, 36, .inl a2)), ((R 3), .inl (Y 0, 36, .inl a3)), ((R 4), .inl (Y 0, 36, .inl a4)), ((R 5), .inl (Y 0, 24, .inl a5)), ((R 6), .inl (Y 0, 4, .inl a6)), ((R 20), .inl (Y 2, 260, .inl a20)), ((R 21), .inl (Y 0, 260, .inl a21)), ((R 22), .inl (Y 0, 2, .inl a22)), ((R 23), .inl (Y 3, 122, .inl a23)), ((R 24), .inl (Y 3, 122, .inl a24)), ((R 25), .inl (Y 0, 6, .inl a25)), ((R 26), .inl (Y 0, 130, .inl a26)), ((R 28), .inl (Y 0, 12, .inl a28)), ((R 29), .inl (Y 0, 60, .inl a29)), ((R 30), .inl (Y 0, 60, .inl a30))] [.ref m, .int x, .int l_] 0 0 (fun vv__ ww__ => (∃ (z31 : Int32), ∃ (z32 : Int32), ∃ (z33 : Int32), ∃ (z34 : Int32), ∃ (b25 : Nat → Int32), ∃ (b26 : Nat → Int32), ∃ (b28 : Nat → Int32), ∃ (b29 : Nat → Int32), ∃ (b30 : Nat → Int32), vv__ = none ∧ ww__ = [(m, .inr (10, mF R v0 v7 v8 v9 v15 v16 v17 v18 v19 v27 z31 z32 z33 z34 v38 v42 v44)), ((R 1), .inl (Y 0, 3, .inl a1)), ((R 2), .inl (Y 0, 36, .inl a2)), ((R 3), .inl (Y 0, 36, .inl a3)), ((R 4), .inl (Y 0, 36, .inl a4)), ((R 5), .inl (Y 0, 24, .inl a5)), ((R 6), .inl (Y 0, 4, .inl a6)), ((R 20), .inl (Y 2, 260, .inl a20)), ((R 21), .inl (Y 0, 260, .inl a21)), ((R 22), .inl (Y 0, 2, .inl a22)), ((R 23), .inl (Y 3, 122, .inl a23)), ((R 24), .inl (Y 3, 122, .inl a24)), ((R 25), .inl (Y 0, 6, .inl b25)), ((R 26), .inl (Y 0, 130, .inl b26)), ((R 28), .inl (Y 0, 12, .inl b28)), ((R 29), .inl (Y 0, 60, .inl b29)), ((R 30), .inl (Y 0, 60, .inl b30))] ∧ (MGS b29 b30 b28 z31 z32 z33 (sgF F S (T s0) (B s0) (n s0) l0 60)))) := by
  refine Mg_of (cc := cX11_goSinging) (maxL := 5) (ret := none) (ls0 := [(0, .ref m), (1, .int x), (2, .int l_)]) RX11 (by decide) rfl rfl rfl (Nat.le_of_ble_eq_true rfl) (fun p__ e__ s__ m__ b__ t__ c__ X hr hn => ?_)
  have hln0 : (a1 s0).toInt = ((n s0 : Nat) : Int) ∧ n s0 ≤ 12 := hLN s0 hs0
  refine V_aload_n X 0 rfl dX11_goSinging_0 ?_
  refine V_callV (C := RX11) (wr := [((R 1), .inl (Y 0, 3, .inl a1)), ((R 2), .inl (Y 0, 36, .inl a2)), ((R 3), .inl (Y 0, 36, .inl a3)), ((R 4), .inl (Y 0, 36, .inl a4)), ((R 5), .inl (Y 0, 24, .inl a5)), ((R 6), .inl (Y 0, 4, .inl a6)), ((R 20), .inl (Y 2, 260, .inl a20)), ((R 21), .inl (Y 0, 260, .inl a21)), ((R 22), .inl (Y 0, 2, .inl a22)), ((R 23), .inl (Y 3, 122, .inl a23)), ((R 24), .inl (Y 3, 122, .inl a24)), ((R 25), .inl (Y 0, 6, .inl a25)), ((R 26), .inl (Y 0, 130, .inl a26)), ((R 29), .inl (Y 0, 60, .inl a29)), ((R 30), .inl (Y 0, 60, .inl a30))]) (st := []) X (c_X11_beginSinging l D Y m R v0 v7 v8 v9 v15 v16 v17 v18 v19 v27 v31 v32 v33 v34 v38 v42 v44 a28) 0 gX11_goSinging_X11_beginSinging rfl (by decide +kernel) ⟨rfl, rfl⟩ ⟨Nat.le_of_ble_eq_true rfl, Nat.le_of_ble_eq_true rfl⟩ [0, 14] [1, 2, 3, 4, 5, 6, 7, 8, 9, 10, 11, 12, 13, 15, 16] rfl rfl rfl rfl (by decide) (ci := 10) rfl rfl 0 rfl rfl rfl (Nat.le_of_ble_eq_true rfl) ⟨Nat.le_of_ble_eq_true rfl, Nat.le_of_ble_eq_true rfl⟩ dX11_goSinging_1 (fun v_1 w_1 h_1 => ?_)
  obtain ⟨b28_2, rfl, rfl, hhf_3⟩ := h_1
  refine V_to (pc' := 4) (ls' := [(0, .ref m), (1, .int x), (2, .int l_)]) (st' := []) (ws' := [((R 1), .inl (Y 0, 3, .inl a1)), ((R 2), .inl (Y 0, 36, .inl a2)), ((R 3), .inl (Y 0, 36, .inl a3)), ((R 4), .inl (Y 0, 36, .inl a4)), ((R 5), .inl (Y 0, 24, .inl a5)), ((R 6), .inl (Y 0, 4, .inl a6)), ((R 20), .inl (Y 2, 260, .inl a20)), ((R 21), .inl (Y 0, 260, .inl a21)), ((R 22), .inl (Y 0, 2, .inl a22)), ((R 23), .inl (Y 3, 122, .inl a23)), ((R 24), .inl (Y 3, 122, .inl a24)), ((R 25), .inl (Y 0, 6, .inl a25)), ((R 26), .inl (Y 0, 130, .inl a26)), ((R 29), .inl (Y 0, 60, .inl a29)), ((R 30), .inl (Y 0, 60, .inl a30)), (m, .inr (10, mF R v0 v7 v8 v9 v15 v16 v17 v18 v19 v27 v31 v32 v33 v34 v38 v42 v44)), ((R 28), .inl (Y 0, 12, .inl b28_2))]) ?_ rfl rfl rfl rfl
  refine V_aload_n X 0 rfl dX11_goSinging_4 ?_
  refine V_iconst (v := (0 : Int32)) X (by decide) dX11_goSinging_5 ?_
  refine V_put (C := RX11) (T := TX11) (N := 50) (ci := 10) (v := .int (0 : Int32)) (ty := tyX11 31) (ws' := [((R 1), .inl (Y 0, 3, .inl a1)), ((R 2), .inl (Y 0, 36, .inl a2)), ((R 3), .inl (Y 0, 36, .inl a3)), ((R 4), .inl (Y 0, 36, .inl a4)), ((R 5), .inl (Y 0, 24, .inl a5)), ((R 6), .inl (Y 0, 4, .inl a6)), ((R 20), .inl (Y 2, 260, .inl a20)), ((R 21), .inl (Y 0, 260, .inl a21)), ((R 22), .inl (Y 0, 2, .inl a22)), ((R 23), .inl (Y 3, 122, .inl a23)), ((R 24), .inl (Y 3, 122, .inl a24)), ((R 25), .inl (Y 0, 6, .inl a25)), ((R 26), .inl (Y 0, 130, .inl a26)), ((R 29), .inl (Y 0, 60, .inl a29)), ((R 30), .inl (Y 0, 60, .inl a30)), (m, .inr (10, mF R v0 v7 v8 v9 v15 v16 v17 v18 v19 v27 (0 : Int32) v32 v33 v34 v38 v42 v44)), ((R 28), .inl (Y 0, 12, .inl b28_2))]) X in_X11_goSinging_X11 15 rfl rfl 31 (by decide) (List.mem_of_getElem? (i := 1) rfl) rfl tyX11 tyX11_ok nmX11 rfl (tyX11_ok 31 (by decide)) rfl rfl (Nat.le_of_ble_eq_true rfl) rfl dX11_goSinging_6 ?_
  refine V_iload_n X 2 rfl dX11_goSinging_9 ?_
  refine V_istore_n (ls' := [(3, .int l_), (0, .ref m), (1, .int x), (2, .int l_)]) X (by decide) rfl dX11_goSinging_10 ?_
  refine V_aload_n X 1 rfl dX11_goSinging_11 ?_
  refine V_bipush (v := (-2 : Int32)) X (by decide) dX11_goSinging_12 ?_
  refine V_put (C := RX11) (T := TX11) (N := 50) (ci := 10) (v := .int (-2 : Int32)) (ty := tyX11 34) (ws' := [((R 1), .inl (Y 0, 3, .inl a1)), ((R 2), .inl (Y 0, 36, .inl a2)), ((R 3), .inl (Y 0, 36, .inl a3)), ((R 4), .inl (Y 0, 36, .inl a4)), ((R 5), .inl (Y 0, 24, .inl a5)), ((R 6), .inl (Y 0, 4, .inl a6)), ((R 20), .inl (Y 2, 260, .inl a20)), ((R 21), .inl (Y 0, 260, .inl a21)), ((R 22), .inl (Y 0, 2, .inl a22)), ((R 23), .inl (Y 3, 122, .inl a23)), ((R 24), .inl (Y 3, 122, .inl a24)), ((R 25), .inl (Y 0, 6, .inl a25)), ((R 26), .inl (Y 0, 130, .inl a26)), ((R 29), .inl (Y 0, 60, .inl a29)), ((R 30), .inl (Y 0, 60, .inl a30)), (m, .inr (10, mF R v0 v7 v8 v9 v15 v16 v17 v18 v19 v27 (0 : Int32) v32 v33 (-2 : Int32) v38 v42 v44)), ((R 28), .inl (Y 0, 12, .inl b28_2))]) X in_X11_goSinging_X11 15 rfl rfl 34 (by decide) (List.mem_of_getElem? (i := 2) rfl) rfl tyX11 tyX11_ok nmX11 rfl (tyX11_ok 34 (by decide)) rfl rfl (Nat.le_of_ble_eq_true rfl) rfl dX11_goSinging_14 ?_
  refine V_ls (ls' := [(0, .ref m), (1, .int x), (2, .int l_), (3, .int l_)]) [1, 2, 3, 0] rfl ?_
  refine V_ws (ws' := [(m, .inr (10, mF R v0 v7 v8 v9 v15 v16 v17 v18 v19 v27 (0 : Int32) v32 v33 (-2 : Int32) v38 v42 v44)), ((R 1), .inl (Y 0, 3, .inl a1)), ((R 2), .inl (Y 0, 36, .inl a2)), ((R 3), .inl (Y 0, 36, .inl a3)), ((R 4), .inl (Y 0, 36, .inl a4)), ((R 5), .inl (Y 0, 24, .inl a5)), ((R 6), .inl (Y 0, 4, .inl a6)), ((R 20), .inl (Y 2, 260, .inl a20)), ((R 21), .inl (Y 0, 260, .inl a21)), ((R 22), .inl (Y 0, 2, .inl a22)), ((R 23), .inl (Y 3, 122, .inl a23)), ((R 24), .inl (Y 3, 122, .inl a24)), ((R 25), .inl (Y 0, 6, .inl a25)), ((R 26), .inl (Y 0, 130, .inl a26)), ((R 28), .inl (Y 0, 12, .inl b28_2)), ((R 29), .inl (Y 0, 60, .inl a29)), ((R 30), .inl (Y 0, 60, .inl a30))]) [15, 0, 1, 2, 3, 4, 5, 6, 7, 8, 9, 10, 11, 12, 16, 13, 14] rfl rfl rfl ?_
  refine V_to (V_ind14 (fun (i3 : Int32) (cn : Nat) (i : Nat) (z31 : Int32) (z32 : Int32) (z33 : Int32) (z34 : Int32) (bz_ : Int) (g25 : Nat → Int32) (g26 : Nat → Int32) (g28 : Nat → Int32) (g29 : Nat → Int32) (g30 : Nat → Int32) (H : Hist) => (i3.toInt = ((cn : Nat) : Int)) ∧ (z31.toInt = ((i : Nat) : Int)) ∧ (i < 60 ∧ cn < 12) ∧ (z34.toInt = bz_) ∧ (CND F S (T s0) (B s0) (n s0) l0 i H cn bz_) ∧ (SG g29 g30 g28 H)) (fun (i3 : Int32) (cn : Nat) (i : Nat) (z31 : Int32) (z32 : Int32) (z33 : Int32) (z34 : Int32) (bz_ : Int) (g25 : Nat → Int32) (g26 : Nat → Int32) (g28 : Nat → Int32) (g29 : Nat → Int32) (g30 : Nat → Int32) (H : Hist) => 60 - i) (fun (i3 : Int32) (cn : Nat) (i : Nat) (z31 : Int32) (z32 : Int32) (z33 : Int32) (z34 : Int32) (bz_ : Int) (g25 : Nat → Int32) (g26 : Nat → Int32) (g28 : Nat → Int32) (g29 : Nat → Int32) (g30 : Nat → Int32) (H : Hist) => [(0, .ref m), (1, .int x), (2, .int l_), (3, .int i3)]) (fun (i3 : Int32) (cn : Nat) (i : Nat) (z31 : Int32) (z32 : Int32) (z33 : Int32) (z34 : Int32) (bz_ : Int) (g25 : Nat → Int32) (g26 : Nat → Int32) (g28 : Nat → Int32) (g29 : Nat → Int32) (g30 : Nat → Int32) (H : Hist) => [(m, .inr (10, mF R v0 v7 v8 v9 v15 v16 v17 v18 v19 v27 z31 z32 z33 z34 v38 v42 v44)), ((R 1), .inl (Y 0, 3, .inl a1)), ((R 2), .inl (Y 0, 36, .inl a2)), ((R 3), .inl (Y 0, 36, .inl a3)), ((R 4), .inl (Y 0, 36, .inl a4)), ((R 5), .inl (Y 0, 24, .inl a5)), ((R 6), .inl (Y 0, 4, .inl a6)), ((R 20), .inl (Y 2, 260, .inl a20)), ((R 21), .inl (Y 0, 260, .inl a21)), ((R 22), .inl (Y 0, 2, .inl a22)), ((R 23), .inl (Y 3, 122, .inl a23)), ((R 24), .inl (Y 3, 122, .inl a24)), ((R 25), .inl (Y 0, 6, .inl g25)), ((R 26), .inl (Y 0, 130, .inl g26)), ((R 28), .inl (Y 0, 12, .inl g28)), ((R 29), .inl (Y 0, 60, .inl g29)), ((R 30), .inl (Y 0, 60, .inl g30))]) (fun i3 cn i z31 z32 z33 z34 bz_ g25 g26 g28 g29 g30 H hI_17 ih_17 => ?_) l_ l0 0 (0 : Int32) v32 v33 (-2 : Int32) (-2) a25 a26 b28_2 a29 a30 ([] : Hist) ?_) rfl rfl rfl rfl
  · obtain ⟨ti3, tz31, hi, hby, hC, hSG⟩ := hI_17
    refine V_to (ls' := [(0, .ref m), (1, .int x), (2, .int l_), (3, .int i3)]) (ws' := [(m, .inr (10, mF R v0 v7 v8 v9 v15 v16 v17 v18 v19 v27 z31 z32 z33 z34 v38 v42 v44)), ((R 1), .inl (Y 0, 3, .inl a1)), ((R 2), .inl (Y 0, 36, .inl a2)), ((R 3), .inl (Y 0, 36, .inl a3)), ((R 4), .inl (Y 0, 36, .inl a4)), ((R 5), .inl (Y 0, 24, .inl a5)), ((R 6), .inl (Y 0, 4, .inl a6)), ((R 20), .inl (Y 2, 260, .inl a20)), ((R 21), .inl (Y 0, 260, .inl a21)), ((R 22), .inl (Y 0, 2, .inl a22)), ((R 23), .inl (Y 3, 122, .inl a23)), ((R 24), .inl (Y 3, 122, .inl a24)), ((R 25), .inl (Y 0, 6, .inl g25)), ((R 26), .inl (Y 0, 130, .inl g26)), ((R 28), .inl (Y 0, 12, .inl g28)), ((R 29), .inl (Y 0, 60, .inl g29)), ((R 30), .inl (Y 0, 60, .inl g30))]) ?_ rfl rfl rfl rfl
    refine V_aload_n X 0 rfl dX11_goSinging_17 ?_
    refine V_iload_n X 3 rfl dX11_goSinging_18 ?_
    refine V_put (C := RX11) (T := TX11) (N := 50) (ci := 10) (v := .int i3) (ty := tyX11 33) (ws' := [(m, .inr (10, mF R v0 v7 v8 v9 v15 v16 v17 v18 v19 v27 z31 z32 i3 z34 v38 v42 v44)), ((R 1), .inl (Y 0, 3, .inl a1)), ((R 2), .inl (Y 0, 36, .inl a2)), ((R 3), .inl (Y 0, 36, .inl a3)), ((R 4), .inl (Y 0, 36, .inl a4)), ((R 5), .inl (Y 0, 24, .inl a5)), ((R 6), .inl (Y 0, 4, .inl a6)), ((R 20), .inl (Y 2, 260, .inl a20)), ((R 21), .inl (Y 0, 260, .inl a21)), ((R 22), .inl (Y 0, 2, .inl a22)), ((R 23), .inl (Y 3, 122, .inl a23)), ((R 24), .inl (Y 3, 122, .inl a24)), ((R 25), .inl (Y 0, 6, .inl g25)), ((R 26), .inl (Y 0, 130, .inl g26)), ((R 28), .inl (Y 0, 12, .inl g28)), ((R 29), .inl (Y 0, 60, .inl g29)), ((R 30), .inl (Y 0, 60, .inl g30))]) X in_X11_goSinging_X11 0 rfl rfl 33 (by decide) (List.mem_of_getElem? (i := 3) rfl) rfl tyX11 tyX11_ok nmX11 rfl (tyX11_ok 33 (by decide)) rfl rfl (Nat.le_of_ble_eq_true rfl) rfl dX11_goSinging_19 ?_
    have hlen := CND_len hC
    refine V_aload_n X 0 rfl dX11_goSinging_22 ?_
    refine V_iload_n X 1 rfl dX11_goSinging_23 ?_
    refine V_iload_n X 3 rfl dX11_goSinging_24 ?_
    refine V_callV (C := RX11) (wr := [((R 1), .inl (Y 0, 3, .inl a1)), ((R 2), .inl (Y 0, 36, .inl a2)), ((R 3), .inl (Y 0, 36, .inl a3)), ((R 4), .inl (Y 0, 36, .inl a4)), ((R 6), .inl (Y 0, 4, .inl a6)), ((R 20), .inl (Y 2, 260, .inl a20)), ((R 21), .inl (Y 0, 260, .inl a21)), ((R 22), .inl (Y 0, 2, .inl a22)), ((R 23), .inl (Y 3, 122, .inl a23)), ((R 24), .inl (Y 3, 122, .inl a24)), ((R 25), .inl (Y 0, 6, .inl g25)), ((R 26), .inl (Y 0, 130, .inl g26)), ((R 28), .inl (Y 0, 12, .inl g28)), ((R 29), .inl (Y 0, 60, .inl g29)), ((R 30), .inl (Y 0, 60, .inl g30))]) (st := []) X (c_X11_canSing l D Y m R v0 v7 v8 v9 v15 v16 v17 v18 v19 v27 z31 z32 i3 z34 v38 v42 v44 a5 B s0 x i3 cn hMH hs0 tx ti3 (by omega)) 2 gX11_goSinging_X11_canSing rfl (by decide +kernel) ⟨rfl, rfl⟩ ⟨Nat.le_of_ble_eq_true rfl, Nat.le_of_ble_eq_true rfl⟩ [0, 5] [1, 2, 3, 4, 6, 7, 8, 9, 10, 11, 12, 13, 14, 15, 16] rfl rfl rfl rfl (by decide) (ci := 10) rfl rfl 0 rfl rfl rfl (Nat.le_of_ble_eq_true rfl) ⟨Nat.le_of_ble_eq_true rfl, Nat.le_of_ble_eq_true rfl⟩ dX11_goSinging_25 (fun v_25 w_25 h_25 => ?_)
    rcases h_25 with ⟨rfl, rfl, hhy_5⟩ | ⟨rfl, rfl, hhn_6⟩
    · refine V_to (pc' := 28) (ls' := [(0, .ref m), (1, .int x), (2, .int l_), (3, .int i3)]) (st' := [.int (1 : Int32)]) (ws' := [((R 1), .inl (Y 0, 3, .inl a1)), ((R 2), .inl (Y 0, 36, .inl a2)), ((R 3), .inl (Y 0, 36, .inl a3)), ((R 4), .inl (Y 0, 36, .inl a4)), ((R 6), .inl (Y 0, 4, .inl a6)), ((R 20), .inl (Y 2, 260, .inl a20)), ((R 21), .inl (Y 0, 260, .inl a21)), ((R 22), .inl (Y 0, 2, .inl a22)), ((R 23), .inl (Y 3, 122, .inl a23)), ((R 24), .inl (Y 3, 122, .inl a24)), ((R 25), .inl (Y 0, 6, .inl g25)), ((R 26), .inl (Y 0, 130, .inl g26)), ((R 28), .inl (Y 0, 12, .inl g28)), ((R 29), .inl (Y 0, 60, .inl g29)), ((R 30), .inl (Y 0, 60, .inl g30)), (m, .inr (10, mF R v0 v7 v8 v9 v15 v16 v17 v18 v19 v27 z31 z32 i3 z34 v38 v42 v44)), ((R 5), .inl (Y 0, 24, .inl a5))]) ?_ rfl rfl rfl rfl
      refine V_if_ne X (show (1 : Int32).toInt = 1 from by decide) 37 dX11_goSinging_28 (by decide) (fun _ => ?_) (fun c_28 => absurd c_28 (by decide))
      have hCy := CND_yes hC hi.1 hhy_5
      have hcl := hCnt_le H cn
      refine V_aload_n X 0 rfl dX11_goSinging_37 ?_
      refine V_get (C := RX11) (T := TX11) (N := 50) (ci := 10) (v := .ref (R 29)) X in_X11_goSinging_X11 15 rfl rfl 29 (by decide) (List.mem_of_getElem? (i := 5) rfl) rfl rfl dX11_goSinging_38 ?_
      refine V_aload_n X 0 rfl dX11_goSinging_41 ?_
      refine V_get (C := RX11) (T := TX11) (N := 50) (ci := 10) (v := .int z31) X in_X11_goSinging_X11 15 rfl rfl 31 (by decide) (List.mem_of_getElem? (i := 1) rfl) rfl rfl dX11_goSinging_42 ?_
      refine V_iload_n X 3 rfl dX11_goSinging_45 ?_
      refine V_iast (ws' := [((R 1), .inl (Y 0, 3, .inl a1)), ((R 2), .inl (Y 0, 36, .inl a2)), ((R 3), .inl (Y 0, 36, .inl a3)), ((R 4), .inl (Y 0, 36, .inl a4)), ((R 6), .inl (Y 0, 4, .inl a6)), ((R 20), .inl (Y 2, 260, .inl a20)), ((R 21), .inl (Y 0, 260, .inl a21)), ((R 22), .inl (Y 0, 2, .inl a22)), ((R 23), .inl (Y 3, 122, .inl a23)), ((R 24), .inl (Y 3, 122, .inl a24)), ((R 25), .inl (Y 0, 6, .inl g25)), ((R 26), .inl (Y 0, 130, .inl g26)), ((R 28), .inl (Y 0, 12, .inl g28)), ((R 29), .inl (Y 0, 60, .inl (upd g29 i i3))), ((R 30), .inl (Y 0, 60, .inl g30)), (m, .inr (10, mF R v0 v7 v8 v9 v15 v16 v17 v18 v19 v27 z31 z32 i3 z34 v38 v42 v44)), ((R 5), .inl (Y 0, 24, .inl a5))]) X 13 i rfl tz31 (by omega) rfl dX11_goSinging_46 ?_
      refine V_aload_n X 0 rfl dX11_goSinging_47 ?_
      refine V_get (C := RX11) (T := TX11) (N := 50) (ci := 10) (v := .ref (R 30)) X in_X11_goSinging_X11 15 rfl rfl 30 (by decide) (List.mem_of_getElem? (i := 6) rfl) rfl rfl dX11_goSinging_48 ?_
      refine V_aload_n X 0 rfl dX11_goSinging_51 ?_
      refine V_get (C := RX11) (T := TX11) (N := 50) (ci := 10) (v := .int z31) X in_X11_goSinging_X11 15 rfl rfl 31 (by decide) (List.mem_of_getElem? (i := 1) rfl) rfl rfl dX11_goSinging_52 ?_
      refine V_aload_n X 0 rfl dX11_goSinging_55 ?_
      refine V_get (C := RX11) (T := TX11) (N := 50) (ci := 10) (v := .int z34) X in_X11_goSinging_X11 15 rfl rfl 34 (by decide) (List.mem_of_getElem? (i := 2) rfl) rfl rfl dX11_goSinging_56 ?_
      refine V_iast (ws' := [((R 1), .inl (Y 0, 3, .inl a1)), ((R 2), .inl (Y 0, 36, .inl a2)), ((R 3), .inl (Y 0, 36, .inl a3)), ((R 4), .inl (Y 0, 36, .inl a4)), ((R 6), .inl (Y 0, 4, .inl a6)), ((R 20), .inl (Y 2, 260, .inl a20)), ((R 21), .inl (Y 0, 260, .inl a21)), ((R 22), .inl (Y 0, 2, .inl a22)), ((R 23), .inl (Y 3, 122, .inl a23)), ((R 24), .inl (Y 3, 122, .inl a24)), ((R 25), .inl (Y 0, 6, .inl g25)), ((R 26), .inl (Y 0, 130, .inl g26)), ((R 28), .inl (Y 0, 12, .inl g28)), ((R 29), .inl (Y 0, 60, .inl (upd g29 i i3))), ((R 30), .inl (Y 0, 60, .inl (upd g30 i z34))), (m, .inr (10, mF R v0 v7 v8 v9 v15 v16 v17 v18 v19 v27 z31 z32 i3 z34 v38 v42 v44)), ((R 5), .inl (Y 0, 24, .inl a5))]) X 14 i rfl tz31 (by omega) rfl dX11_goSinging_59 ?_
      refine V_aload_n X 0 rfl dX11_goSinging_60 ?_
      refine V_dup X rfl dX11_goSinging_61 ?_
      refine V_get (C := RX11) (T := TX11) (N := 50) (ci := 10) (v := .int z31) X in_X11_goSinging_X11 15 rfl rfl 31 (by decide) (List.mem_of_getElem? (i := 1) rfl) rfl rfl dX11_goSinging_62 ?_
      refine V_iconst (v := (1 : Int32)) X (by decide) dX11_goSinging_65 ?_
      refine V_iaddZ X tz31 (show (1 : Int32).toInt = 1 from by decide) (by omega) (by omega) dX11_goSinging_66 (fun x_7 ex_7 tx_7 => ?_)
      have tx_7 : x_7.toInt = (((i + 1) : Nat) : Int) := by omega
      refine V_put (C := RX11) (T := TX11) (N := 50) (ci := 10) (v := .int x_7) (ty := tyX11 31) (ws' := [((R 1), .inl (Y 0, 3, .inl a1)), ((R 2), .inl (Y 0, 36, .inl a2)), ((R 3), .inl (Y 0, 36, .inl a3)), ((R 4), .inl (Y 0, 36, .inl a4)), ((R 6), .inl (Y 0, 4, .inl a6)), ((R 20), .inl (Y 2, 260, .inl a20)), ((R 21), .inl (Y 0, 260, .inl a21)), ((R 22), .inl (Y 0, 2, .inl a22)), ((R 23), .inl (Y 3, 122, .inl a23)), ((R 24), .inl (Y 3, 122, .inl a24)), ((R 25), .inl (Y 0, 6, .inl g25)), ((R 26), .inl (Y 0, 130, .inl g26)), ((R 28), .inl (Y 0, 12, .inl g28)), ((R 29), .inl (Y 0, 60, .inl (upd g29 i i3))), ((R 30), .inl (Y 0, 60, .inl (upd g30 i z34))), (m, .inr (10, mF R v0 v7 v8 v9 v15 v16 v17 v18 v19 v27 x_7 z32 i3 z34 v38 v42 v44)), ((R 5), .inl (Y 0, 24, .inl a5))]) X in_X11_goSinging_X11 15 rfl rfl 31 (by decide) (List.mem_of_getElem? (i := 1) rfl) rfl tyX11 tyX11_ok nmX11 rfl (tyX11_ok 31 (by decide)) rfl rfl (Nat.le_of_ble_eq_true rfl) rfl dX11_goSinging_67 ?_
      refine V_aload_n X 0 rfl dX11_goSinging_70 ?_
      refine V_get (C := RX11) (T := TX11) (N := 50) (ci := 10) (v := .ref (R 28)) X in_X11_goSinging_X11 15 rfl rfl 28 (by decide) (List.mem_of_getElem? (i := 7) rfl) rfl rfl dX11_goSinging_71 ?_
      refine V_iload_n X 3 rfl dX11_goSinging_74 ?_
      refine V_dup2 X rfl rfl dX11_goSinging_75 ?_
      refine V_iald X 12 cn rfl ti3 (by omega) dX11_goSinging_76 ?_
      refine V_nm (fun x_8 ex_8 => ?_)
      have tx_8 : x_8.toInt = (((hCnt H cn) : Nat) : Int) := by rw [ex_8]; exact (hSG.2.1 cn hi.2)
      refine V_iconst (v := (1 : Int32)) X (by decide) dX11_goSinging_77 ?_
      refine V_iaddZ X tx_8 (show (1 : Int32).toInt = 1 from by decide) (by omega) (by omega) dX11_goSinging_78 (fun x_9 ex_9 tx_9 => ?_)
      have tx_9 : x_9.toInt = ((((hCnt H cn) + 1) : Nat) : Int) := by omega
      refine V_iast (ws' := [((R 1), .inl (Y 0, 3, .inl a1)), ((R 2), .inl (Y 0, 36, .inl a2)), ((R 3), .inl (Y 0, 36, .inl a3)), ((R 4), .inl (Y 0, 36, .inl a4)), ((R 6), .inl (Y 0, 4, .inl a6)), ((R 20), .inl (Y 2, 260, .inl a20)), ((R 21), .inl (Y 0, 260, .inl a21)), ((R 22), .inl (Y 0, 2, .inl a22)), ((R 23), .inl (Y 3, 122, .inl a23)), ((R 24), .inl (Y 3, 122, .inl a24)), ((R 25), .inl (Y 0, 6, .inl g25)), ((R 26), .inl (Y 0, 130, .inl g26)), ((R 28), .inl (Y 0, 12, .inl (upd g28 cn x_9))), ((R 29), .inl (Y 0, 60, .inl (upd g29 i i3))), ((R 30), .inl (Y 0, 60, .inl (upd g30 i z34))), (m, .inr (10, mF R v0 v7 v8 v9 v15 v16 v17 v18 v19 v27 x_7 z32 i3 z34 v38 v42 v44)), ((R 5), .inl (Y 0, 24, .inl a5))]) X 12 cn rfl ti3 (by omega) rfl dX11_goSinging_79 ?_
      have hSG2 : SG (upd g29 i i3) (upd g30 i z34) (upd g28 cn x_9) ((cn, bz_) :: H) := by have h9 := SG_add hSG hi.2 ti3 hby (t := x_9) (by omega); rw [hlen] at h9; exact h9
      refine V_aload_n X 0 rfl dX11_goSinging_80 ?_
      refine V_get (C := RX11) (T := TX11) (N := 50) (ci := 10) (v := .int x_7) X in_X11_goSinging_X11 15 rfl rfl 31 (by decide) (List.mem_of_getElem? (i := 1) rfl) rfl rfl dX11_goSinging_81 ?_
      refine V_bipush (v := (60 : Int32)) X (by decide) dX11_goSinging_84 ?_
      refine V_icmp_ne X tx_7 (show (60 : Int32).toInt = 60 from by decide) 95 dX11_goSinging_86 (by decide) (fun c_86 => ?_) (fun c_86 => ?_)
      · refine V_aload_n X 0 rfl dX11_goSinging_95 ?_
        refine V_iload_n X 1 rfl dX11_goSinging_96 ?_
        refine V_iload_n X 3 rfl dX11_goSinging_97 ?_
        refine V_callV (C := RX11) (wr := [((R 29), .inl (Y 0, 60, .inl (upd g29 i i3))), ((R 30), .inl (Y 0, 60, .inl (upd g30 i z34)))]) (st := []) X (c_X11_nextOf l D Y m R v0 v7 v8 v9 v15 v16 v17 v18 v19 v27 x_7 z32 i3 z34 v38 v42 v44 a1 a2 a3 a4 a5 a6 a20 a21 a22 a23 a24 g25 g26 (upd g28 cn x_9) n T B S F s0 x i3 cn ((cn, bz_) :: H) hLN hMT hMH hSU hLW hs0 tx ti3 (by omega) rfl hSG2.2.1) 2 gX11_goSinging_X11_nextOf rfl (by decide +kernel) ⟨rfl, rfl⟩ ⟨Nat.le_of_ble_eq_true rfl, Nat.le_of_ble_eq_true rfl⟩ [15, 0, 1, 2, 3, 16, 4, 5, 6, 7, 8, 9, 10, 11, 12] [13, 14] rfl rfl rfl rfl (by decide) (ci := 10) rfl rfl 0 rfl rfl rfl (Nat.le_of_ble_eq_true rfl) ⟨Nat.le_of_ble_eq_true rfl, Nat.le_of_ble_eq_true rfl⟩ dX11_goSinging_98 (fun v_98 w_98 h_98 => ?_)
        obtain ⟨r_11, z34_12, b25_13, b26_14, rfl, rfl, htr_15, hhby_16⟩ := h_98
        refine V_to (pc' := 101) (ls' := [(0, .ref m), (1, .int x), (2, .int l_), (3, .int i3)]) (st' := [.int r_11]) (ws' := [((R 29), .inl (Y 0, 60, .inl (upd g29 i i3))), ((R 30), .inl (Y 0, 60, .inl (upd g30 i z34))), (m, .inr (10, mF R v0 v7 v8 v9 v15 v16 v17 v18 v19 v27 x_7 z32 i3 z34_12 v38 v42 v44)), ((R 1), .inl (Y 0, 3, .inl a1)), ((R 2), .inl (Y 0, 36, .inl a2)), ((R 3), .inl (Y 0, 36, .inl a3)), ((R 4), .inl (Y 0, 36, .inl a4)), ((R 5), .inl (Y 0, 24, .inl a5)), ((R 6), .inl (Y 0, 4, .inl a6)), ((R 20), .inl (Y 2, 260, .inl a20)), ((R 21), .inl (Y 0, 260, .inl a21)), ((R 22), .inl (Y 0, 2, .inl a22)), ((R 23), .inl (Y 3, 122, .inl a23)), ((R 24), .inl (Y 3, 122, .inl a24)), ((R 25), .inl (Y 0, 6, .inl b25_13)), ((R 26), .inl (Y 0, 130, .inl b26_14)), ((R 28), .inl (Y 0, 12, .inl (upd g28 cn x_9)))]) ?_ rfl rfl rfl rfl
        refine V_istore (ls' := [(4, .int r_11), (0, .ref m), (1, .int x), (2, .int l_), (3, .int i3)]) X (by decide) rfl dX11_goSinging_101 ?_
        refine V_iload X 0 rfl dX11_goSinging_103 ?_
        refine V_if_ge X htr_15 114 dX11_goSinging_105 (by decide) (fun c_105 => ?_) (fun c_105 => ?_)
        · obtain ⟨xl, xp, hxo, hxl⟩ := oM_some c_105 rfl
          have t4 : r_11.toInt = ((xl : Nat) : Int) := by omega
          refine V_iload X 0 rfl dX11_goSinging_114 ?_
          refine V_istore_n (ls' := [(3, .int r_11), (4, .int r_11), (0, .ref m), (1, .int x), (2, .int l_)]) X (by decide) rfl dX11_goSinging_116 ?_
          refine V_goto X 17 (by decide) dX11_goSinging_117 ?_
          refine V_ls (ls' := [(0, .ref m), (1, .int x), (2, .int l_), (3, .int r_11)]) [2, 3, 4, 0] rfl ?_
          refine V_ws (ws' := [(m, .inr (10, mF R v0 v7 v8 v9 v15 v16 v17 v18 v19 v27 x_7 z32 i3 z34_12 v38 v42 v44)), ((R 1), .inl (Y 0, 3, .inl a1)), ((R 2), .inl (Y 0, 36, .inl a2)), ((R 3), .inl (Y 0, 36, .inl a3)), ((R 4), .inl (Y 0, 36, .inl a4)), ((R 5), .inl (Y 0, 24, .inl a5)), ((R 6), .inl (Y 0, 4, .inl a6)), ((R 20), .inl (Y 2, 260, .inl a20)), ((R 21), .inl (Y 0, 260, .inl a21)), ((R 22), .inl (Y 0, 2, .inl a22)), ((R 23), .inl (Y 3, 122, .inl a23)), ((R 24), .inl (Y 3, 122, .inl a24)), ((R 25), .inl (Y 0, 6, .inl b25_13)), ((R 26), .inl (Y 0, 130, .inl b26_14)), ((R 28), .inl (Y 0, 12, .inl (upd g28 cn x_9))), ((R 29), .inl (Y 0, 60, .inl (upd g29 i i3))), ((R 30), .inl (Y 0, 60, .inl (upd g30 i z34)))]) [2, 3, 4, 5, 6, 7, 8, 9, 10, 11, 12, 13, 14, 15, 16, 0, 1] rfl rfl rfl ?_
          exact V_to (ih_17 r_11 xl (i + 1) x_7 z32 i3 z34_12 ((xp : Nat) : Int) b25_13 b26_14 (upd g28 cn x_9) (upd g29 i i3) (upd g30 i z34) ((cn, bz_) :: H) ⟨(by omega), (by omega), ⟨by omega, by have h9 := (nxt_lt hxo).1; omega⟩, (hhby_16 _ hxo), (CND_next hCy (by rw [List.length_cons, hlen]) hxo), hSG2⟩ (by omega)) rfl rfl rfl rfl
        · refine V_aload_n X 1 rfl dX11_goSinging_108 ?_
          refine V_iconst (v := (0 : Int32)) X (by decide) dX11_goSinging_109 ?_
          refine V_put (C := RX11) (T := TX11) (N := 50) (ci := 10) (v := .int (0 : Int32)) (ty := tyX11 32) (ws' := [((R 29), .inl (Y 0, 60, .inl (upd g29 i i3))), ((R 30), .inl (Y 0, 60, .inl (upd g30 i z34))), (m, .inr (10, mF R v0 v7 v8 v9 v15 v16 v17 v18 v19 v27 x_7 (0 : Int32) i3 z34_12 v38 v42 v44)), ((R 1), .inl (Y 0, 3, .inl a1)), ((R 2), .inl (Y 0, 36, .inl a2)), ((R 3), .inl (Y 0, 36, .inl a3)), ((R 4), .inl (Y 0, 36, .inl a4)), ((R 5), .inl (Y 0, 24, .inl a5)), ((R 6), .inl (Y 0, 4, .inl a6)), ((R 20), .inl (Y 2, 260, .inl a20)), ((R 21), .inl (Y 0, 260, .inl a21)), ((R 22), .inl (Y 0, 2, .inl a22)), ((R 23), .inl (Y 3, 122, .inl a23)), ((R 24), .inl (Y 3, 122, .inl a24)), ((R 25), .inl (Y 0, 6, .inl b25_13)), ((R 26), .inl (Y 0, 130, .inl b26_14)), ((R 28), .inl (Y 0, 12, .inl (upd g28 cn x_9)))]) X in_X11_goSinging_X11 2 rfl rfl 32 (by decide) (List.mem_of_getElem? (i := 4) rfl) rfl tyX11 tyX11_ok nmX11 rfl (tyX11_ok 32 (by decide)) rfl rfl (Nat.le_of_ble_eq_true rfl) rfl dX11_goSinging_110 ?_
          refine V_ws (ws' := [(m, .inr (10, mF R v0 v7 v8 v9 v15 v16 v17 v18 v19 v27 x_7 (0 : Int32) i3 z34_12 v38 v42 v44)), ((R 1), .inl (Y 0, 3, .inl a1)), ((R 2), .inl (Y 0, 36, .inl a2)), ((R 3), .inl (Y 0, 36, .inl a3)), ((R 4), .inl (Y 0, 36, .inl a4)), ((R 5), .inl (Y 0, 24, .inl a5)), ((R 6), .inl (Y 0, 4, .inl a6)), ((R 20), .inl (Y 2, 260, .inl a20)), ((R 21), .inl (Y 0, 260, .inl a21)), ((R 22), .inl (Y 0, 2, .inl a22)), ((R 23), .inl (Y 3, 122, .inl a23)), ((R 24), .inl (Y 3, 122, .inl a24)), ((R 25), .inl (Y 0, 6, .inl b25_13)), ((R 26), .inl (Y 0, 130, .inl b26_14)), ((R 28), .inl (Y 0, 12, .inl (upd g28 cn x_9))), ((R 29), .inl (Y 0, 60, .inl (upd g29 i i3))), ((R 30), .inl (Y 0, 60, .inl (upd g30 i z34)))]) [2, 3, 4, 5, 6, 7, 8, 9, 10, 11, 12, 13, 14, 15, 16, 0, 1] rfl rfl rfl ?_
          exact V_vret X hr dX11_goSinging_113 (⟨x_7, (0 : Int32), i3, z34_12, b25_13, b26_14, (upd g28 cn x_9), (upd g29 i i3), (upd g30 i z34), rfl, rfl, (MGS_c (k := i + 1) (by omega) (CND_end hCy (by rw [List.length_cons]; omega) (oM_none c_105 rfl)) (Or.inl (by show (0 : Int) ≠ 3; decide)) ⟨hSG2, by rw [List.length_cons]; omega, (show (0 : Int32).toInt = 0 by decide), by show i3.toInt = _; exact ti3⟩)⟩)
      · refine V_aload_n X 0 rfl dX11_goSinging_89 ?_
        refine V_iconst (v := (2 : Int32)) X (by decide) dX11_goSinging_90 ?_
        refine V_put (C := RX11) (T := TX11) (N := 50) (ci := 10) (v := .int (2 : Int32)) (ty := tyX11 32) (ws' := [((R 1), .inl (Y 0, 3, .inl a1)), ((R 2), .inl (Y 0, 36, .inl a2)), ((R 3), .inl (Y 0, 36, .inl a3)), ((R 4), .inl (Y 0, 36, .inl a4)), ((R 6), .inl (Y 0, 4, .inl a6)), ((R 20), .inl (Y 2, 260, .inl a20)), ((R 21), .inl (Y 0, 260, .inl a21)), ((R 22), .inl (Y 0, 2, .inl a22)), ((R 23), .inl (Y 3, 122, .inl a23)), ((R 24), .inl (Y 3, 122, .inl a24)), ((R 25), .inl (Y 0, 6, .inl g25)), ((R 26), .inl (Y 0, 130, .inl g26)), ((R 28), .inl (Y 0, 12, .inl (upd g28 cn x_9))), ((R 29), .inl (Y 0, 60, .inl (upd g29 i i3))), ((R 30), .inl (Y 0, 60, .inl (upd g30 i z34))), (m, .inr (10, mF R v0 v7 v8 v9 v15 v16 v17 v18 v19 v27 x_7 (2 : Int32) i3 z34 v38 v42 v44)), ((R 5), .inl (Y 0, 24, .inl a5))]) X in_X11_goSinging_X11 15 rfl rfl 32 (by decide) (List.mem_of_getElem? (i := 4) rfl) rfl tyX11 tyX11_ok nmX11 rfl (tyX11_ok 32 (by decide)) rfl rfl (Nat.le_of_ble_eq_true rfl) rfl dX11_goSinging_91 ?_
        refine V_ws (ws' := [(m, .inr (10, mF R v0 v7 v8 v9 v15 v16 v17 v18 v19 v27 x_7 (2 : Int32) i3 z34 v38 v42 v44)), ((R 1), .inl (Y 0, 3, .inl a1)), ((R 2), .inl (Y 0, 36, .inl a2)), ((R 3), .inl (Y 0, 36, .inl a3)), ((R 4), .inl (Y 0, 36, .inl a4)), ((R 5), .inl (Y 0, 24, .inl a5)), ((R 6), .inl (Y 0, 4, .inl a6)), ((R 20), .inl (Y 2, 260, .inl a20)), ((R 21), .inl (Y 0, 260, .inl a21)), ((R 22), .inl (Y 0, 2, .inl a22)), ((R 23), .inl (Y 3, 122, .inl a23)), ((R 24), .inl (Y 3, 122, .inl a24)), ((R 25), .inl (Y 0, 6, .inl g25)), ((R 26), .inl (Y 0, 130, .inl g26)), ((R 28), .inl (Y 0, 12, .inl (upd g28 cn x_9))), ((R 29), .inl (Y 0, 60, .inl (upd g29 i i3))), ((R 30), .inl (Y 0, 60, .inl (upd g30 i z34)))]) [15, 0, 1, 2, 3, 16, 4, 5, 6, 7, 8, 9, 10, 11, 12, 13, 14] rfl rfl rfl ?_
        exact V_vret X hr dX11_goSinging_94 (⟨x_7, (2 : Int32), i3, z34, g25, g26, (upd g28 cn x_9), (upd g29 i i3), (upd g30 i z34), rfl, rfl, (MGS_c (k := i + 1) (by omega) (CND_round hCy (by rw [List.length_cons]; omega)) (Or.inr (by omega)) ⟨hSG2, by rw [List.length_cons]; omega, (show (2 : Int32).toInt = 2 by decide), by show i3.toInt = _; exact ti3⟩)⟩)
    · refine V_to (pc' := 28) (ls' := [(0, .ref m), (1, .int x), (2, .int l_), (3, .int i3)]) (st' := [.int (0 : Int32)]) (ws' := [((R 1), .inl (Y 0, 3, .inl a1)), ((R 2), .inl (Y 0, 36, .inl a2)), ((R 3), .inl (Y 0, 36, .inl a3)), ((R 4), .inl (Y 0, 36, .inl a4)), ((R 6), .inl (Y 0, 4, .inl a6)), ((R 20), .inl (Y 2, 260, .inl a20)), ((R 21), .inl (Y 0, 260, .inl a21)), ((R 22), .inl (Y 0, 2, .inl a22)), ((R 23), .inl (Y 3, 122, .inl a23)), ((R 24), .inl (Y 3, 122, .inl a24)), ((R 25), .inl (Y 0, 6, .inl g25)), ((R 26), .inl (Y 0, 130, .inl g26)), ((R 28), .inl (Y 0, 12, .inl g28)), ((R 29), .inl (Y 0, 60, .inl g29)), ((R 30), .inl (Y 0, 60, .inl g30)), (m, .inr (10, mF R v0 v7 v8 v9 v15 v16 v17 v18 v19 v27 z31 z32 i3 z34 v38 v42 v44)), ((R 5), .inl (Y 0, 24, .inl a5))]) ?_ rfl rfl rfl rfl
      refine V_if_ne X (show (0 : Int32).toInt = 0 from by decide) 37 dX11_goSinging_28 (by decide) (fun c_28 => absurd c_28 (by decide)) (fun _ => ?_)
      have hCn := CND_no hC hi.1 hhn_6
      refine V_aload_n X 0 rfl dX11_goSinging_31 ?_
      refine V_iconst (v := (1 : Int32)) X (by decide) dX11_goSinging_32 ?_
      refine V_put (C := RX11) (T := TX11) (N := 50) (ci := 10) (v := .int (1 : Int32)) (ty := tyX11 32) (ws' := [((R 1), .inl (Y 0, 3, .inl a1)), ((R 2), .inl (Y 0, 36, .inl a2)), ((R 3), .inl (Y 0, 36, .inl a3)), ((R 4), .inl (Y 0, 36, .inl a4)), ((R 6), .inl (Y 0, 4, .inl a6)), ((R 20), .inl (Y 2, 260, .inl a20)), ((R 21), .inl (Y 0, 260, .inl a21)), ((R 22), .inl (Y 0, 2, .inl a22)), ((R 23), .inl (Y 3, 122, .inl a23)), ((R 24), .inl (Y 3, 122, .inl a24)), ((R 25), .inl (Y 0, 6, .inl g25)), ((R 26), .inl (Y 0, 130, .inl g26)), ((R 28), .inl (Y 0, 12, .inl g28)), ((R 29), .inl (Y 0, 60, .inl g29)), ((R 30), .inl (Y 0, 60, .inl g30)), (m, .inr (10, mF R v0 v7 v8 v9 v15 v16 v17 v18 v19 v27 z31 (1 : Int32) i3 z34 v38 v42 v44)), ((R 5), .inl (Y 0, 24, .inl a5))]) X in_X11_goSinging_X11 15 rfl rfl 32 (by decide) (List.mem_of_getElem? (i := 4) rfl) rfl tyX11 tyX11_ok nmX11 rfl (tyX11_ok 32 (by decide)) rfl rfl (Nat.le_of_ble_eq_true rfl) rfl dX11_goSinging_33 ?_
      refine V_ws (ws' := [(m, .inr (10, mF R v0 v7 v8 v9 v15 v16 v17 v18 v19 v27 z31 (1 : Int32) i3 z34 v38 v42 v44)), ((R 1), .inl (Y 0, 3, .inl a1)), ((R 2), .inl (Y 0, 36, .inl a2)), ((R 3), .inl (Y 0, 36, .inl a3)), ((R 4), .inl (Y 0, 36, .inl a4)), ((R 5), .inl (Y 0, 24, .inl a5)), ((R 6), .inl (Y 0, 4, .inl a6)), ((R 20), .inl (Y 2, 260, .inl a20)), ((R 21), .inl (Y 0, 260, .inl a21)), ((R 22), .inl (Y 0, 2, .inl a22)), ((R 23), .inl (Y 3, 122, .inl a23)), ((R 24), .inl (Y 3, 122, .inl a24)), ((R 25), .inl (Y 0, 6, .inl g25)), ((R 26), .inl (Y 0, 130, .inl g26)), ((R 28), .inl (Y 0, 12, .inl g28)), ((R 29), .inl (Y 0, 60, .inl g29)), ((R 30), .inl (Y 0, 60, .inl g30))]) [15, 0, 1, 2, 3, 16, 4, 5, 6, 7, 8, 9, 10, 11, 12, 13, 14] rfl rfl rfl ?_
      exact V_vret X hr dX11_goSinging_36 (⟨z31, (1 : Int32), i3, z34, g25, g26, g28, g29, g30, rfl, rfl, (MGS_c (by omega) hCn (Or.inl (by show (1 : Int) ≠ 3; decide)) ⟨hSG, by rw [hlen]; exact tz31, (show (1 : Int32).toInt = 1 by decide), by show i3.toInt = _; exact ti3⟩)⟩)
  · exact ⟨(by omega), (by decide), (by omega), (by decide), (CND_0 _ _ _ _ _ _), (SG_nil hhf_3)⟩

theorem in_X11_rightFrom_X11 : ∀ w ∈ wsX110, w ∈ wsX11_rightFrom := fun w h => List.mem_cons_of_mem _ (List.mem_append_right _ h)
set_option maxHeartbeats 4000000 in
set_option maxRecDepth 100000 in
theorem c_X11_rightFrom (l : Launch) (D : va_G) (Y : Nat → ClassId) (m : Nat) (R : Nat → Nat) (v0 : Int32) (v7 : Int32) (v8 : Int32) (v9 : Int32) (v15 : Int32) (v16 : Int32) (v17 : Int32) (v18 : Int32) (v19 : Int32) (v27 : Int32) (v31 : Int32) (v32 : Int32) (v33 : Int32) (v34 : Int32) (v38 : Int32) (v42 : Int32) (v44 : Int32) (a1 : Nat → Int32) (a2 : Nat → Int32) (a3 : Nat → Int32) (a4 : Nat → Int32) (a5 : Nat → Int32) (a6 : Nat → Int32) (a20 : Nat → Int32) (a21 : Nat → Int32) (a22 : Nat → Int32) (a23 : Nat → Int32) (a24 : Nat → Int32) (a25 : Nat → Int32) (a26 : Nat → Int32) (a28 : Nat → Int32) (n : Nat → Nat) (T : Nat → Nat → Nat) (B : Nat → Nat → Bool) (S : Nat → Nat) (F : Nat → Nat → Nat → Int32) (s0 : Nat) (x : Int32) (l_ : Int32) (l0 : Nat) (hLN : LNR a1 n) (hMT : MTR a2 a3 a4 T) (hMH : MHV a5 B) (hSU : SUR a6 S) (hLW : LAWR v27 a20 a21 a22 a23 a24 F) (hs0 : s0 < 3) (tx : x.toInt = ((s0 : Nat) : Int)) (tl_ : l_.toInt = ((l0 : Nat) : Int)) (hl0 : l0 < 12) (hz : n s0 ≤ l0 → canS (B s0) l0 = false) : Mg l yX11_rightFrom wsX11_rightFrom ({ frames := 5, cells := 0, slots := 0, locals := 126 }) D Y [(m, .inr (10, mF R v0 v7 v8 v9 v15 v16 v17 v18 v19 v27 v31 v32 v33 v34 v38 v42 v44)), ((R 1), .inl (Y 0, 3, .inl a1)), ((R 2), .inl (Y 0, 36, .inl a2)), ((R 3), .inl (Y 0, 36, .inl a3)), ((R 4), .inl (Y 0, 36, .inl a4)), ((R 5), .inl (Y 0, 24, .inl a5)), ((R 6), .inl (Y 0, 4, .inl a6)), ((R 20), .inl (Y 2, 260, .inl a20)), ((R 21), .inl (Y 0, 260, .inl a21)), ((R 22), .inl (Y 0, 2, .inl a22)), ((R 23), .inl (Y 3, 122, .inl a23)), ((R 24), .inl (Y 3, 122, .inl a24)), ((R 25), .inl (Y 0, 6, .inl a25)), ((R 26), .inl (Y 0, 130, .inl a26)), ((R 28), .inl (Y 0, 12, .inl a28))] [.ref m, .int x, .int l_] 0 0 (fun vv__ ww__ => (∃ (r : Int32), ∃ (z34 : Int32), ∃ (b25 : Nat → Int32), ∃ (b26 : Nat → Int32), ∃ (b28 : Nat → Int32), vv__ = some (.int r) ∧ ww__ = [(m, .inr (10, mF R v0 v7 v8 v9 v15 v16 v17 v18 v19 v27 v31 v32 v33 z34 v38 v42 v44)), ((R 1), .inl (Y 0, 3, .inl a1)), ((R 2), .inl (Y 0, 36, .inl a2)), ((R 3), .inl (Y 0, 36, .inl a3)), ((R 4), .inl (Y 0, 36, .inl a4)), ((R 5), .inl (Y 0, 24, .inl a5)), ((R 6), .inl (Y 0, 4, .inl a6)), ((R 20), .inl (Y 2, 260, .inl a20)), ((R 21), .inl (Y 0, 260, .inl a21)), ((R 22), .inl (Y 0, 2, .inl a22)), ((R 23), .inl (Y 3, 122, .inl a23)), ((R 24), .inl (Y 3, 122, .inl a24)), ((R 25), .inl (Y 0, 6, .inl b25)), ((R 26), .inl (Y 0, 130, .inl b26)), ((R 28), .inl (Y 0, 12, .inl b28))] ∧ (r.toInt = ((rtF F S (T s0) (B s0) (n s0) l0 : Nat) : Int)))) := by
  refine Mg_of (cc := cX11_rightFrom) (maxL := 5) (ret := (some .int)) (ls0 := [(0, .ref m), (1, .int x), (2, .int l_)]) RX11 (by decide) rfl rfl rfl (Nat.le_of_ble_eq_true rfl) (fun p__ e__ s__ m__ b__ t__ c__ X hr hn => ?_)
  have hln0 : (a1 s0).toInt = ((n s0 : Nat) : Int) ∧ n s0 ≤ 12 := hLN s0 hs0
  refine V_aload_n X 0 rfl dX11_rightFrom_0 ?_
  refine V_callV (C := RX11) (wr := [((R 1), .inl (Y 0, 3, .inl a1)), ((R 2), .inl (Y 0, 36, .inl a2)), ((R 3), .inl (Y 0, 36, .inl a3)), ((R 4), .inl (Y 0, 36, .inl a4)), ((R 5), .inl (Y 0, 24, .inl a5)), ((R 6), .inl (Y 0, 4, .inl a6)), ((R 20), .inl (Y 2, 260, .inl a20)), ((R 21), .inl (Y 0, 260, .inl a21)), ((R 22), .inl (Y 0, 2, .inl a22)), ((R 23), .inl (Y 3, 122, .inl a23)), ((R 24), .inl (Y 3, 122, .inl a24)), ((R 25), .inl (Y 0, 6, .inl a25)), ((R 26), .inl (Y 0, 130, .inl a26))]) (st := []) X (c_X11_beginSinging l D Y m R v0 v7 v8 v9 v15 v16 v17 v18 v19 v27 v31 v32 v33 v34 v38 v42 v44 a28) 0 gX11_rightFrom_X11_beginSinging rfl (by decide +kernel) ⟨rfl, rfl⟩ ⟨Nat.le_of_ble_eq_true rfl, Nat.le_of_ble_eq_true rfl⟩ [0, 14] [1, 2, 3, 4, 5, 6, 7, 8, 9, 10, 11, 12, 13] rfl rfl rfl rfl (by decide) (ci := 10) rfl rfl 0 rfl rfl rfl (Nat.le_of_ble_eq_true rfl) ⟨Nat.le_of_ble_eq_true rfl, Nat.le_of_ble_eq_true rfl⟩ dX11_rightFrom_1 (fun v_1 w_1 h_1 => ?_)
  obtain ⟨b28_2, rfl, rfl, hhf_3⟩ := h_1
  refine V_to (pc' := 4) (ls' := [(0, .ref m), (1, .int x), (2, .int l_)]) (st' := []) (ws' := [((R 1), .inl (Y 0, 3, .inl a1)), ((R 2), .inl (Y 0, 36, .inl a2)), ((R 3), .inl (Y 0, 36, .inl a3)), ((R 4), .inl (Y 0, 36, .inl a4)), ((R 5), .inl (Y 0, 24, .inl a5)), ((R 6), .inl (Y 0, 4, .inl a6)), ((R 20), .inl (Y 2, 260, .inl a20)), ((R 21), .inl (Y 0, 260, .inl a21)), ((R 22), .inl (Y 0, 2, .inl a22)), ((R 23), .inl (Y 3, 122, .inl a23)), ((R 24), .inl (Y 3, 122, .inl a24)), ((R 25), .inl (Y 0, 6, .inl a25)), ((R 26), .inl (Y 0, 130, .inl a26)), (m, .inr (10, mF R v0 v7 v8 v9 v15 v16 v17 v18 v19 v27 v31 v32 v33 v34 v38 v42 v44)), ((R 28), .inl (Y 0, 12, .inl b28_2))]) ?_ rfl rfl rfl rfl
  refine V_iconst (v := (0 : Int32)) X (by decide) dX11_rightFrom_4 ?_
  refine V_istore_n (ls' := [(3, .int (0 : Int32)), (0, .ref m), (1, .int x), (2, .int l_)]) X (by decide) rfl dX11_rightFrom_5 ?_
  refine V_iload_n X 3 rfl dX11_rightFrom_6 ?_
  refine V_istore (ls' := [(4, .int l_), (3, .int (0 : Int32)), (0, .ref m), (1, .int x), (2, .int l_)]) X (by decide) rfl dX11_rightFrom_7 ?_
  refine V_ls (ls' := [(0, .ref m), (1, .int x), (2, .int l_), (3, .int (0 : Int32)), (4, .int l_)]) [2, 3, 4, 1, 0] rfl ?_
  refine V_ws (ws' := [(m, .inr (10, mF R v0 v7 v8 v9 v15 v16 v17 v18 v19 v27 v31 v32 v33 v34 v38 v42 v44)), ((R 1), .inl (Y 0, 3, .inl a1)), ((R 2), .inl (Y 0, 36, .inl a2)), ((R 3), .inl (Y 0, 36, .inl a3)), ((R 4), .inl (Y 0, 36, .inl a4)), ((R 5), .inl (Y 0, 24, .inl a5)), ((R 6), .inl (Y 0, 4, .inl a6)), ((R 20), .inl (Y 2, 260, .inl a20)), ((R 21), .inl (Y 0, 260, .inl a21)), ((R 22), .inl (Y 0, 2, .inl a22)), ((R 23), .inl (Y 3, 122, .inl a23)), ((R 24), .inl (Y 3, 122, .inl a24)), ((R 25), .inl (Y 0, 6, .inl a25)), ((R 26), .inl (Y 0, 130, .inl a26)), ((R 28), .inl (Y 0, 12, .inl b28_2))]) [13, 0, 1, 2, 3, 4, 5, 6, 7, 8, 9, 10, 11, 12, 14] rfl rfl rfl ?_
  refine V_to (V_ind10 (fun (i4 : Int32) (cn : Nat) (i3 : Int32) (i : Nat) (z34 : Int32) (bz_ : Int) (g25 : Nat → Int32) (g26 : Nat → Int32) (g28 : Nat → Int32) (H : Hist) => (i4.toInt = ((cn : Nat) : Int)) ∧ (i3.toInt = ((i : Nat) : Int)) ∧ (cn = l0 + i ∧ cn < 12) ∧ (CND F S (T s0) (B s0) (n s0) l0 i H cn bz_) ∧ (hR H = H.length) ∧ (i = 0 ∨ cn = hLast H + 1) ∧ (n s0 ≤ cn → i = 0) ∧ (OFT g28 H)) (fun (i4 : Int32) (cn : Nat) (i3 : Int32) (i : Nat) (z34 : Int32) (bz_ : Int) (g25 : Nat → Int32) (g26 : Nat → Int32) (g28 : Nat → Int32) (H : Hist) => 12 - cn) (fun (i4 : Int32) (cn : Nat) (i3 : Int32) (i : Nat) (z34 : Int32) (bz_ : Int) (g25 : Nat → Int32) (g26 : Nat → Int32) (g28 : Nat → Int32) (H : Hist) => [(0, .ref m), (1, .int x), (2, .int l_), (3, .int i3), (4, .int i4)]) (fun (i4 : Int32) (cn : Nat) (i3 : Int32) (i : Nat) (z34 : Int32) (bz_ : Int) (g25 : Nat → Int32) (g26 : Nat → Int32) (g28 : Nat → Int32) (H : Hist) => [(m, .inr (10, mF R v0 v7 v8 v9 v15 v16 v17 v18 v19 v27 v31 v32 v33 z34 v38 v42 v44)), ((R 1), .inl (Y 0, 3, .inl a1)), ((R 2), .inl (Y 0, 36, .inl a2)), ((R 3), .inl (Y 0, 36, .inl a3)), ((R 4), .inl (Y 0, 36, .inl a4)), ((R 5), .inl (Y 0, 24, .inl a5)), ((R 6), .inl (Y 0, 4, .inl a6)), ((R 20), .inl (Y 2, 260, .inl a20)), ((R 21), .inl (Y 0, 260, .inl a21)), ((R 22), .inl (Y 0, 2, .inl a22)), ((R 23), .inl (Y 3, 122, .inl a23)), ((R 24), .inl (Y 3, 122, .inl a24)), ((R 25), .inl (Y 0, 6, .inl g25)), ((R 26), .inl (Y 0, 130, .inl g26)), ((R 28), .inl (Y 0, 12, .inl g28))]) (fun i4 cn i3 i z34 bz_ g25 g26 g28 H hI_9 ih_9 => ?_) l_ l0 (0 : Int32) 0 v34 (-2) a25 a26 b28_2 ([] : Hist) ?_) rfl rfl rfl rfl
  · obtain ⟨ti4, ti3, hci, hC, hRH, hla, hcn, hOF⟩ := hI_9
    refine V_to (ls' := [(0, .ref m), (1, .int x), (2, .int l_), (3, .int i3), (4, .int i4)]) (ws' := [(m, .inr (10, mF R v0 v7 v8 v9 v15 v16 v17 v18 v19 v27 v31 v32 v33 z34 v38 v42 v44)), ((R 1), .inl (Y 0, 3, .inl a1)), ((R 2), .inl (Y 0, 36, .inl a2)), ((R 3), .inl (Y 0, 36, .inl a3)), ((R 4), .inl (Y 0, 36, .inl a4)), ((R 5), .inl (Y 0, 24, .inl a5)), ((R 6), .inl (Y 0, 4, .inl a6)), ((R 20), .inl (Y 2, 260, .inl a20)), ((R 21), .inl (Y 0, 260, .inl a21)), ((R 22), .inl (Y 0, 2, .inl a22)), ((R 23), .inl (Y 3, 122, .inl a23)), ((R 24), .inl (Y 3, 122, .inl a24)), ((R 25), .inl (Y 0, 6, .inl g25)), ((R 26), .inl (Y 0, 130, .inl g26)), ((R 28), .inl (Y 0, 12, .inl g28))]) ?_ rfl rfl rfl rfl
    refine V_iload X 4 rfl dX11_rightFrom_9 ?_
    have hlen := CND_len hC
    refine V_aload_n X 0 rfl dX11_rightFrom_11 ?_
    refine V_get (C := RX11) (T := TX11) (N := 50) (ci := 10) (v := .ref (R 1)) X in_X11_rightFrom_X11 0 rfl rfl 1 (by decide) (List.mem_of_getElem? (i := 1) rfl) rfl rfl dX11_rightFrom_12 ?_
    refine V_iload_n X 1 rfl dX11_rightFrom_15 ?_
    refine V_iald X 1 s0 rfl tx (by omega) dX11_rightFrom_16 ?_
    refine V_nm (fun x_4 ex_4 => ?_)
    have tx_4 : x_4.toInt = ((n s0 : Nat) : Int) := by rw [ex_4]; exact hln0.1
    refine V_icmp_ge X ti4 tx_4 66 dX11_rightFrom_17 (by decide) (fun c_17 => ?_) (fun c_17 => ?_)
    · refine V_iload_n X 3 rfl dX11_rightFrom_66 ?_
      exact V_iret X hr dX11_rightFrom_67 (⟨i3, z34, g25, g26, g28, rfl, rfl, (by have hcs : canS (B s0) cn = false := (by rw [show cn = l0 by omega]; exact hz (by omega)); rw [rt_at (by omega) (CND_no hC (by omega) hcs) (Or.inl (by show (1 : Int) ≠ 3; decide))]; show _ = ((hR H : Nat) : Int); rw [hRH, hlen]; exact ti3)⟩)
    · refine V_aload_n X 0 rfl dX11_rightFrom_20 ?_
      refine V_iload_n X 1 rfl dX11_rightFrom_21 ?_
      refine V_iload X 4 rfl dX11_rightFrom_22 ?_
      refine V_callV (C := RX11) (wr := [((R 1), .inl (Y 0, 3, .inl a1)), ((R 2), .inl (Y 0, 36, .inl a2)), ((R 3), .inl (Y 0, 36, .inl a3)), ((R 4), .inl (Y 0, 36, .inl a4)), ((R 6), .inl (Y 0, 4, .inl a6)), ((R 20), .inl (Y 2, 260, .inl a20)), ((R 21), .inl (Y 0, 260, .inl a21)), ((R 22), .inl (Y 0, 2, .inl a22)), ((R 23), .inl (Y 3, 122, .inl a23)), ((R 24), .inl (Y 3, 122, .inl a24)), ((R 25), .inl (Y 0, 6, .inl g25)), ((R 26), .inl (Y 0, 130, .inl g26)), ((R 28), .inl (Y 0, 12, .inl g28))]) (st := []) X (c_X11_canSing l D Y m R v0 v7 v8 v9 v15 v16 v17 v18 v19 v27 v31 v32 v33 z34 v38 v42 v44 a5 B s0 x i4 cn hMH hs0 tx ti4 (by omega)) 2 gX11_rightFrom_X11_canSing rfl (by decide +kernel) ⟨rfl, rfl⟩ ⟨Nat.le_of_ble_eq_true rfl, Nat.le_of_ble_eq_true rfl⟩ [0, 5] [1, 2, 3, 4, 6, 7, 8, 9, 10, 11, 12, 13, 14] rfl rfl rfl rfl (by decide) (ci := 10) rfl rfl 0 rfl rfl rfl (Nat.le_of_ble_eq_true rfl) ⟨Nat.le_of_ble_eq_true rfl, Nat.le_of_ble_eq_true rfl⟩ dX11_rightFrom_24 (fun v_24 w_24 h_24 => ?_)
      rcases h_24 with ⟨rfl, rfl, hhy_6⟩ | ⟨rfl, rfl, hhn_7⟩
      · refine V_to (pc' := 27) (ls' := [(0, .ref m), (1, .int x), (2, .int l_), (3, .int i3), (4, .int i4)]) (st' := [.int (1 : Int32)]) (ws' := [((R 1), .inl (Y 0, 3, .inl a1)), ((R 2), .inl (Y 0, 36, .inl a2)), ((R 3), .inl (Y 0, 36, .inl a3)), ((R 4), .inl (Y 0, 36, .inl a4)), ((R 6), .inl (Y 0, 4, .inl a6)), ((R 20), .inl (Y 2, 260, .inl a20)), ((R 21), .inl (Y 0, 260, .inl a21)), ((R 22), .inl (Y 0, 2, .inl a22)), ((R 23), .inl (Y 3, 122, .inl a23)), ((R 24), .inl (Y 3, 122, .inl a24)), ((R 25), .inl (Y 0, 6, .inl g25)), ((R 26), .inl (Y 0, 130, .inl g26)), ((R 28), .inl (Y 0, 12, .inl g28)), (m, .inr (10, mF R v0 v7 v8 v9 v15 v16 v17 v18 v19 v27 v31 v32 v33 z34 v38 v42 v44)), ((R 5), .inl (Y 0, 24, .inl a5))]) ?_ rfl rfl rfl rfl
        refine V_if_eq X (show (1 : Int32).toInt = 1 from by decide) 66 dX11_rightFrom_27 (by decide) (fun c_27 => absurd c_27 (by decide)) (fun _ => ?_)
        have hCy := CND_yes hC (by omega) hhy_6
        have hcl := hCnt_le H cn
        have hRy := hR_next (b := bz_) (c := cn) hRH (by rw [hlen]; exact hla)
        refine V_iincZ X (fun vv_ => [(3, .int vv_), (0, .ref m), (1, .int x), (2, .int l_), (4, .int i4)]) ti3 (by omega) (by omega) (by decide) 3 rfl (by decide) (fun _ => rfl) dX11_rightFrom_30 (fun x_8 ex_8 tx_8 => ?_)
        have tx_8 : x_8.toInt = (((i + 1) : Nat) : Int) := by omega
        refine V_aload_n X 1 rfl dX11_rightFrom_33 ?_
        refine V_get (C := RX11) (T := TX11) (N := 50) (ci := 10) (v := .ref (R 28)) X in_X11_rightFrom_X11 13 rfl rfl 28 (by decide) (List.mem_of_getElem? (i := 2) rfl) rfl rfl dX11_rightFrom_34 ?_
        refine V_iload X 4 rfl dX11_rightFrom_37 ?_
        refine V_dup2 X rfl rfl dX11_rightFrom_39 ?_
        refine V_iald X 12 cn rfl ti4 (by omega) dX11_rightFrom_40 ?_
        refine V_nm (fun x_9 ex_9 => ?_)
        have tx_9 : x_9.toInt = (((hCnt H cn) : Nat) : Int) := by rw [ex_9]; exact (hOF cn (by omega))
        refine V_iconst (v := (1 : Int32)) X (by decide) dX11_rightFrom_41 ?_
        refine V_iaddZ X tx_9 (show (1 : Int32).toInt = 1 from by decide) (by omega) (by omega) dX11_rightFrom_42 (fun x_10 ex_10 tx_10 => ?_)
        have tx_10 : x_10.toInt = ((((hCnt H cn) + 1) : Nat) : Int) := by omega
        refine V_iast (ws' := [((R 1), .inl (Y 0, 3, .inl a1)), ((R 2), .inl (Y 0, 36, .inl a2)), ((R 3), .inl (Y 0, 36, .inl a3)), ((R 4), .inl (Y 0, 36, .inl a4)), ((R 6), .inl (Y 0, 4, .inl a6)), ((R 20), .inl (Y 2, 260, .inl a20)), ((R 21), .inl (Y 0, 260, .inl a21)), ((R 22), .inl (Y 0, 2, .inl a22)), ((R 23), .inl (Y 3, 122, .inl a23)), ((R 24), .inl (Y 3, 122, .inl a24)), ((R 25), .inl (Y 0, 6, .inl g25)), ((R 26), .inl (Y 0, 130, .inl g26)), ((R 28), .inl (Y 0, 12, .inl (upd g28 cn x_10))), (m, .inr (10, mF R v0 v7 v8 v9 v15 v16 v17 v18 v19 v27 v31 v32 v33 z34 v38 v42 v44)), ((R 5), .inl (Y 0, 24, .inl a5))]) X 12 cn rfl ti4 (by omega) rfl dX11_rightFrom_43 ?_
        have hOF2 : OFT (upd g28 cn x_10) ((cn, bz_) :: H) := OFT_add hOF bz_ (by omega)
        refine V_aload_n X 1 rfl dX11_rightFrom_44 ?_
        refine V_iload_n X 2 rfl dX11_rightFrom_45 ?_
        refine V_iload X 4 rfl dX11_rightFrom_46 ?_
        refine V_callV (C := RX11) (wr := []) (st := []) X (c_X11_nextOf l D Y m R v0 v7 v8 v9 v15 v16 v17 v18 v19 v27 v31 v32 v33 z34 v38 v42 v44 a1 a2 a3 a4 a5 a6 a20 a21 a22 a23 a24 g25 g26 (upd g28 cn x_10) n T B S F s0 x i4 cn ((cn, bz_) :: H) hLN hMT hMH hSU hLW hs0 tx ti4 (by omega) rfl hOF2) 2 gX11_rightFrom_X11_nextOf rfl (by decide +kernel) ⟨rfl, rfl⟩ ⟨Nat.le_of_ble_eq_true rfl, Nat.le_of_ble_eq_true rfl⟩ [13, 0, 1, 2, 3, 14, 4, 5, 6, 7, 8, 9, 10, 11, 12] [] rfl rfl rfl rfl (by decide) (ci := 10) rfl rfl 0 rfl rfl rfl (Nat.le_of_ble_eq_true rfl) ⟨Nat.le_of_ble_eq_true rfl, Nat.le_of_ble_eq_true rfl⟩ dX11_rightFrom_48 (fun v_48 w_48 h_48 => ?_)
        obtain ⟨r_12, z34_13, b25_14, b26_15, rfl, rfl, htr_16, hhby_17⟩ := h_48
        refine V_to (pc' := 51) (ls' := [(3, .int x_8), (0, .ref m), (1, .int x), (2, .int l_), (4, .int i4)]) (st' := [.int r_12]) (ws' := [(m, .inr (10, mF R v0 v7 v8 v9 v15 v16 v17 v18 v19 v27 v31 v32 v33 z34_13 v38 v42 v44)), ((R 1), .inl (Y 0, 3, .inl a1)), ((R 2), .inl (Y 0, 36, .inl a2)), ((R 3), .inl (Y 0, 36, .inl a3)), ((R 4), .inl (Y 0, 36, .inl a4)), ((R 5), .inl (Y 0, 24, .inl a5)), ((R 6), .inl (Y 0, 4, .inl a6)), ((R 20), .inl (Y 2, 260, .inl a20)), ((R 21), .inl (Y 0, 260, .inl a21)), ((R 22), .inl (Y 0, 2, .inl a22)), ((R 23), .inl (Y 3, 122, .inl a23)), ((R 24), .inl (Y 3, 122, .inl a24)), ((R 25), .inl (Y 0, 6, .inl b25_14)), ((R 26), .inl (Y 0, 130, .inl b26_15)), ((R 28), .inl (Y 0, 12, .inl (upd g28 cn x_10)))]) ?_ rfl rfl rfl rfl
        refine V_iload X 4 rfl dX11_rightFrom_51 ?_
        refine V_iconst (v := (1 : Int32)) X (by decide) dX11_rightFrom_53 ?_
        refine V_iaddZ X ti4 (show (1 : Int32).toInt = 1 from by decide) (by omega) (by omega) dX11_rightFrom_54 (fun x_18 ex_18 tx_18 => ?_)
        have tx_18 : x_18.toInt = (((cn + 1) : Nat) : Int) := by omega
        refine V_icmp_eq X htr_16 tx_18 60 dX11_rightFrom_55 (by decide) (fun c_55 => ?_) (fun c_55 => ?_)
        · obtain ⟨xl, xp, hxo, hxl⟩ := oM_some (x := ((cn + 1 : Nat) : Int)) (by omega) c_55.symm
          obtain rfl : xl = cn + 1 := by omega
          refine V_iincZ X (fun vv_ => [(4, .int vv_), (3, .int x_8), (0, .ref m), (1, .int x), (2, .int l_)]) ti4 (by omega) (by omega) (by decide) 4 rfl (by decide) (fun _ => rfl) dX11_rightFrom_60 (fun x_19 ex_19 tx_19 => ?_)
          have tx_19 : x_19.toInt = (((cn + 1) : Nat) : Int) := by omega
          refine V_goto X 9 (by decide) dX11_rightFrom_63 ?_
          refine V_ls (ls' := [(0, .ref m), (1, .int x), (2, .int l_), (3, .int x_8), (4, .int x_19)]) [2, 3, 4, 1, 0] rfl ?_
          exact V_to (ih_9 x_19 (cn + 1) x_8 (i + 1) z34_13 ((xp : Nat) : Int) b25_14 b26_15 (upd g28 cn x_10) ((cn, bz_) :: H) ⟨(by omega), (by omega), ⟨by omega, by have h9 := (nxt_lt hxo).1; have h8 := hln0.2; omega⟩, (CND_next hCy (by rw [List.length_cons, hlen]) hxo), (by rw [hRy, List.length_cons]), (Or.inr rfl), (fun h => by have h9 := (nxt_lt hxo).1; omega), hOF2⟩ (by omega)) rfl rfl rfl rfl
        · refine V_iload_n X 0 rfl dX11_rightFrom_58 ?_
          exact V_iret X hr dX11_rightFrom_59 (⟨x_8, z34_13, b25_14, b26_15, (upd g28 cn x_10), rfl, rfl, (by rw [rt_end (by omega) hCy (by rw [List.length_cons, hlen]) hRy (by show _ ≠ ((cn + 1 : Nat) : Int); omega), hRy, hlen]; omega)⟩)
      · refine V_to (pc' := 27) (ls' := [(0, .ref m), (1, .int x), (2, .int l_), (3, .int i3), (4, .int i4)]) (st' := [.int (0 : Int32)]) (ws' := [((R 1), .inl (Y 0, 3, .inl a1)), ((R 2), .inl (Y 0, 36, .inl a2)), ((R 3), .inl (Y 0, 36, .inl a3)), ((R 4), .inl (Y 0, 36, .inl a4)), ((R 6), .inl (Y 0, 4, .inl a6)), ((R 20), .inl (Y 2, 260, .inl a20)), ((R 21), .inl (Y 0, 260, .inl a21)), ((R 22), .inl (Y 0, 2, .inl a22)), ((R 23), .inl (Y 3, 122, .inl a23)), ((R 24), .inl (Y 3, 122, .inl a24)), ((R 25), .inl (Y 0, 6, .inl g25)), ((R 26), .inl (Y 0, 130, .inl g26)), ((R 28), .inl (Y 0, 12, .inl g28)), (m, .inr (10, mF R v0 v7 v8 v9 v15 v16 v17 v18 v19 v27 v31 v32 v33 z34 v38 v42 v44)), ((R 5), .inl (Y 0, 24, .inl a5))]) ?_ rfl rfl rfl rfl
        refine V_if_eq X (show (0 : Int32).toInt = 0 from by decide) 66 dX11_rightFrom_27 (by decide) (fun _ => ?_) (fun c_27 => absurd c_27 (by decide))
        refine V_iload_n X 3 rfl dX11_rightFrom_66 ?_
        refine V_ws (ws' := [(m, .inr (10, mF R v0 v7 v8 v9 v15 v16 v17 v18 v19 v27 v31 v32 v33 z34 v38 v42 v44)), ((R 1), .inl (Y 0, 3, .inl a1)), ((R 2), .inl (Y 0, 36, .inl a2)), ((R 3), .inl (Y 0, 36, .inl a3)), ((R 4), .inl (Y 0, 36, .inl a4)), ((R 5), .inl (Y 0, 24, .inl a5)), ((R 6), .inl (Y 0, 4, .inl a6)), ((R 20), .inl (Y 2, 260, .inl a20)), ((R 21), .inl (Y 0, 260, .inl a21)), ((R 22), .inl (Y 0, 2, .inl a22)), ((R 23), .inl (Y 3, 122, .inl a23)), ((R 24), .inl (Y 3, 122, .inl a24)), ((R 25), .inl (Y 0, 6, .inl g25)), ((R 26), .inl (Y 0, 130, .inl g26)), ((R 28), .inl (Y 0, 12, .inl g28))]) [13, 0, 1, 2, 3, 14, 4, 5, 6, 7, 8, 9, 10, 11, 12] rfl rfl rfl ?_
        exact V_iret X hr dX11_rightFrom_67 (⟨i3, z34, g25, g26, g28, rfl, rfl, (by rw [rt_at (by omega) (CND_no hC (by omega) hhn_7) (Or.inl (by show (1 : Int) ≠ 3; decide))]; show _ = ((hR H : Nat) : Int); rw [hRH, hlen]; exact ti3)⟩)
  · exact ⟨(by omega), (by have h9 : (0 : Int32).toInt = 0 := (show (0 : Int32).toInt = 0 from by decide); omega), (by omega), (CND_0 _ _ _ _ _ _), rfl, (Or.inl rfl), (fun _ => rfl), (fun l hl => by rw [hhf_3 l hl]; rfl)⟩

theorem in_X11_sing_X11 : ∀ w ∈ wsX110, w ∈ wsX11_sing := fun w h => List.mem_cons_of_mem _ (List.mem_append_right _ h)
set_option maxHeartbeats 4000000 in
set_option maxRecDepth 100000 in
theorem c_X11_sing (l : Launch) (D : va_G) (Y : Nat → ClassId) (m : Nat) (R : Nat → Nat) (v0 : Int32) (v7 : Int32) (v8 : Int32) (v9 : Int32) (v15 : Int32) (v16 : Int32) (v17 : Int32) (v18 : Int32) (v19 : Int32) (v27 : Int32) (v31 : Int32) (v32 : Int32) (v33 : Int32) (v34 : Int32) (v38 : Int32) (v42 : Int32) (v44 : Int32) (a1 : Nat → Int32) (a2 : Nat → Int32) (a3 : Nat → Int32) (a4 : Nat → Int32) (a5 : Nat → Int32) (a6 : Nat → Int32) (a20 : Nat → Int32) (a21 : Nat → Int32) (a22 : Nat → Int32) (a23 : Nat → Int32) (a24 : Nat → Int32) (a25 : Nat → Int32) (a26 : Nat → Int32) (a28 : Nat → Int32) (n : Nat → Nat) (T : Nat → Nat → Nat) (B : Nat → Nat → Bool) (S : Nat → Nat) (F : Nat → Nat → Nat → Int32) (a29 : Nat → Int32) (a30 : Nat → Int32) (s0 : Nat) (y : Int32) (ln : Nat) (w_ : Int32) (hLN : LNR a1 n) (hMT : MTR a2 a3 a4 T) (hMH : MHV a5 B) (hSU : SUR a6 S) (hLW : LAWR v27 a20 a21 a22 a23 a24 F) (hs0 : s0 < 3) (hsl : 0 ≤ y.toInt → y.toInt / 100 < 3 → y.toInt / 100 = ((s0 : Nat) : Int)) (hln : 0 ≤ y.toInt → y.toInt % 100 = ((ln : Nat) : Int)) : Mg l yX11_sing wsX11_sing ({ frames := 6, cells := 0, slots := 0, locals := 150 }) D Y [(m, .inr (10, mF R v0 v7 v8 v9 v15 v16 v17 v18 v19 v27 v31 v32 v33 v34 v38 v42 v44)), ((R 1), .inl (Y 0, 3, .inl a1)), ((R 2), .inl (Y 0, 36, .inl a2)), ((R 3), .inl (Y 0, 36, .inl a3)), ((R 4), .inl (Y 0, 36, .inl a4)), ((R 5), .inl (Y 0, 24, .inl a5)), ((R 6), .inl (Y 0, 4, .inl a6)), ((R 20), .inl (Y 2, 260, .inl a20)), ((R 21), .inl (Y 0, 260, .inl a21)), ((R 22), .inl (Y 0, 2, .inl a22)), ((R 23), .inl (Y 3, 122, .inl a23)), ((R 24), .inl (Y 3, 122, .inl a24)), ((R 25), .inl (Y 0, 6, .inl a25)), ((R 26), .inl (Y 0, 130, .inl a26)), ((R 28), .inl (Y 0, 12, .inl a28)), ((R 29), .inl (Y 0, 60, .inl a29)), ((R 30), .inl (Y 0, 60, .inl a30))] [.ref m, .int y, .int w_] 0 0 (fun vv__ ww__ => (vv__ = some (.int (-1 : Int32)) ∧ ww__ = [(m, .inr (10, mF R v0 v7 v8 v9 v15 v16 v17 v18 v19 v27 v31 v32 v33 v34 v38 v42 v44)), ((R 1), .inl (Y 0, 3, .inl a1)), ((R 2), .inl (Y 0, 36, .inl a2)), ((R 3), .inl (Y 0, 36, .inl a3)), ((R 4), .inl (Y 0, 36, .inl a4)), ((R 5), .inl (Y 0, 24, .inl a5)), ((R 6), .inl (Y 0, 4, .inl a6)), ((R 20), .inl (Y 2, 260, .inl a20)), ((R 21), .inl (Y 0, 260, .inl a21)), ((R 22), .inl (Y 0, 2, .inl a22)), ((R 23), .inl (Y 3, 122, .inl a23)), ((R 24), .inl (Y 3, 122, .inl a24)), ((R 25), .inl (Y 0, 6, .inl a25)), ((R 26), .inl (Y 0, 130, .inl a26)), ((R 28), .inl (Y 0, 12, .inl a28)), ((R 29), .inl (Y 0, 60, .inl a29)), ((R 30), .inl (Y 0, 60, .inl a30))] ∧ (¬ ((0 ≤ y.toInt ∧ y.toInt / 100 < 3 ∧ ln < n s0) ∧ 0 ≤ w_.toInt ∧ w_.toInt < 4))) ∨ (∃ (r : Int32), ∃ (z31 : Int32), ∃ (z32 : Int32), ∃ (z33 : Int32), ∃ (z34 : Int32), ∃ (b25 : Nat → Int32), ∃ (b26 : Nat → Int32), ∃ (b28 : Nat → Int32), ∃ (b29 : Nat → Int32), ∃ (b30 : Nat → Int32), vv__ = some (.int r) ∧ ww__ = [(m, .inr (10, mF R v0 v7 v8 v9 v15 v16 v17 v18 v19 v27 z31 z32 z33 z34 v38 v42 v44)), ((R 1), .inl (Y 0, 3, .inl a1)), ((R 2), .inl (Y 0, 36, .inl a2)), ((R 3), .inl (Y 0, 36, .inl a3)), ((R 4), .inl (Y 0, 36, .inl a4)), ((R 5), .inl (Y 0, 24, .inl a5)), ((R 6), .inl (Y 0, 4, .inl a6)), ((R 20), .inl (Y 2, 260, .inl a20)), ((R 21), .inl (Y 0, 260, .inl a21)), ((R 22), .inl (Y 0, 2, .inl a22)), ((R 23), .inl (Y 3, 122, .inl a23)), ((R 24), .inl (Y 3, 122, .inl a24)), ((R 25), .inl (Y 0, 6, .inl b25)), ((R 26), .inl (Y 0, 130, .inl b26)), ((R 28), .inl (Y 0, 12, .inl b28)), ((R 29), .inl (Y 0, 60, .inl b29)), ((R 30), .inl (Y 0, 60, .inl b30))] ∧ (0 ≤ y.toInt ∧ y.toInt / 100 = ((s0 : Nat) : Int) ∧ ln < n s0 ∧ 0 ≤ w_.toInt ∧ w_.toInt < 4) ∧ (r.toInt = singA w_.toInt (sgF F S (T s0) (B s0) (n s0) ln 60)))) := by
  refine Mg_of (cc := cX11_sing) (maxL := 3) (ret := (some .int)) (ls0 := [(0, .ref m), (1, .int y), (2, .int w_)]) RX11 (by decide) rfl rfl rfl (Nat.le_of_ble_eq_true rfl) (fun p__ e__ s__ m__ b__ t__ c__ X hr hn => ?_)
  have hln0 : (a1 s0).toInt = ((n s0 : Nat) : Int) ∧ n s0 ≤ 12 := hLN s0 hs0
  have hln1 := hln0.2
  refine V_aload_n X 0 rfl dX11_sing_0 ?_
  refine V_iload_n X 1 rfl dX11_sing_1 ?_
  refine V_callV (C := RX11) (wr := [((R 2), .inl (Y 0, 36, .inl a2)), ((R 3), .inl (Y 0, 36, .inl a3)), ((R 4), .inl (Y 0, 36, .inl a4)), ((R 5), .inl (Y 0, 24, .inl a5)), ((R 6), .inl (Y 0, 4, .inl a6)), ((R 20), .inl (Y 2, 260, .inl a20)), ((R 21), .inl (Y 0, 260, .inl a21)), ((R 22), .inl (Y 0, 2, .inl a22)), ((R 23), .inl (Y 3, 122, .inl a23)), ((R 24), .inl (Y 3, 122, .inl a24)), ((R 25), .inl (Y 0, 6, .inl a25)), ((R 26), .inl (Y 0, 130, .inl a26)), ((R 28), .inl (Y 0, 12, .inl a28)), ((R 29), .inl (Y 0, 60, .inl a29)), ((R 30), .inl (Y 0, 60, .inl a30))]) (st := []) X (c_X11_isLine l D Y m R v0 v7 v8 v9 v15 v16 v17 v18 v19 v27 v31 v32 v33 v34 v38 v42 v44 a1 n s0 y ln hLN hs0 hsl hln) 1 gX11_sing_X11_isLine rfl (by decide +kernel) ⟨rfl, rfl⟩ ⟨Nat.le_of_ble_eq_true rfl, Nat.le_of_ble_eq_true rfl⟩ [0, 1] [2, 3, 4, 5, 6, 7, 8, 9, 10, 11, 12, 13, 14, 15, 16] rfl rfl rfl rfl (by decide) (ci := 10) rfl rfl 0 rfl rfl rfl (Nat.le_of_ble_eq_true rfl) ⟨Nat.le_of_ble_eq_true rfl, Nat.le_of_ble_eq_true rfl⟩ dX11_sing_2 (fun v_2 w_2 h_2 => ?_)
  rcases h_2 with ⟨rfl, rfl, hhy_2⟩ | ⟨rfl, rfl, hhn_3⟩
  · refine V_to (pc' := 5) (ls' := [(0, .ref m), (1, .int y), (2, .int w_)]) (st' := [.int (1 : Int32)]) (ws' := [((R 2), .inl (Y 0, 36, .inl a2)), ((R 3), .inl (Y 0, 36, .inl a3)), ((R 4), .inl (Y 0, 36, .inl a4)), ((R 5), .inl (Y 0, 24, .inl a5)), ((R 6), .inl (Y 0, 4, .inl a6)), ((R 20), .inl (Y 2, 260, .inl a20)), ((R 21), .inl (Y 0, 260, .inl a21)), ((R 22), .inl (Y 0, 2, .inl a22)), ((R 23), .inl (Y 3, 122, .inl a23)), ((R 24), .inl (Y 3, 122, .inl a24)), ((R 25), .inl (Y 0, 6, .inl a25)), ((R 26), .inl (Y 0, 130, .inl a26)), ((R 28), .inl (Y 0, 12, .inl a28)), ((R 29), .inl (Y 0, 60, .inl a29)), ((R 30), .inl (Y 0, 60, .inl a30)), (m, .inr (10, mF R v0 v7 v8 v9 v15 v16 v17 v18 v19 v27 v31 v32 v33 v34 v38 v42 v44)), ((R 1), .inl (Y 0, 3, .inl a1))]) ?_ rfl rfl rfl rfl
    refine V_if_eq X (show (1 : Int32).toInt = 1 from by decide) 17 dX11_sing_5 (by decide) (fun c_5 => absurd c_5 (by decide)) (fun _ => ?_)
    refine V_iload_n X 2 rfl dX11_sing_8 ?_
    refine V_iconst (v := (0 : Int32)) X (by decide) dX11_sing_9 ?_
    refine V_iconst (v := (3 : Int32)) X (by decide) dX11_sing_10 ?_
    refine V_callS (wr := [((R 2), .inl (Y 0, 36, .inl a2)), ((R 3), .inl (Y 0, 36, .inl a3)), ((R 4), .inl (Y 0, 36, .inl a4)), ((R 5), .inl (Y 0, 24, .inl a5)), ((R 6), .inl (Y 0, 4, .inl a6)), ((R 20), .inl (Y 2, 260, .inl a20)), ((R 21), .inl (Y 0, 260, .inl a21)), ((R 22), .inl (Y 0, 2, .inl a22)), ((R 23), .inl (Y 3, 122, .inl a23)), ((R 24), .inl (Y 3, 122, .inl a24)), ((R 25), .inl (Y 0, 6, .inl a25)), ((R 26), .inl (Y 0, 130, .inl a26)), ((R 28), .inl (Y 0, 12, .inl a28)), ((R 29), .inl (Y 0, 60, .inl a29)), ((R 30), .inl (Y 0, 60, .inl a30)), (m, .inr (10, mF R v0 v7 v8 v9 v15 v16 v17 v18 v19 v27 v31 v32 v33 v34 v38 v42 v44)), ((R 1), .inl (Y 0, 3, .inl a1))]) (st := []) X (c_X11_in l D Y w_ (0 : Int32) (3 : Int32)) 3 gX11_sing_X11_in rfl (by decide +kernel) ⟨rfl, rfl⟩ ⟨Nat.le_of_ble_eq_true rfl, Nat.le_of_ble_eq_true rfl⟩ [] [0, 1, 2, 3, 4, 5, 6, 7, 8, 9, 10, 11, 12, 13, 14, 15, 16] rfl rfl rfl rfl (by decide) rfl rfl (Nat.le_of_ble_eq_true rfl) ⟨Nat.le_of_ble_eq_true rfl, Nat.le_of_ble_eq_true rfl⟩ dX11_sing_11 (fun v_11 w_11 h_11 => ?_)
    rcases h_11 with ⟨rfl, rfl, hhy_5⟩ | ⟨rfl, rfl, hhn_6⟩
    · refine V_to (pc' := 14) (ls' := [(0, .ref m), (1, .int y), (2, .int w_)]) (st' := [.int (1 : Int32)]) (ws' := [((R 2), .inl (Y 0, 36, .inl a2)), ((R 3), .inl (Y 0, 36, .inl a3)), ((R 4), .inl (Y 0, 36, .inl a4)), ((R 5), .inl (Y 0, 24, .inl a5)), ((R 6), .inl (Y 0, 4, .inl a6)), ((R 20), .inl (Y 2, 260, .inl a20)), ((R 21), .inl (Y 0, 260, .inl a21)), ((R 22), .inl (Y 0, 2, .inl a22)), ((R 23), .inl (Y 3, 122, .inl a23)), ((R 24), .inl (Y 3, 122, .inl a24)), ((R 25), .inl (Y 0, 6, .inl a25)), ((R 26), .inl (Y 0, 130, .inl a26)), ((R 28), .inl (Y 0, 12, .inl a28)), ((R 29), .inl (Y 0, 60, .inl a29)), ((R 30), .inl (Y 0, 60, .inl a30)), (m, .inr (10, mF R v0 v7 v8 v9 v15 v16 v17 v18 v19 v27 v31 v32 v33 v34 v38 v42 v44)), ((R 1), .inl (Y 0, 3, .inl a1))]) ?_ rfl rfl rfl rfl
      have hc_0 : (0 : Int32).toInt = 0 := by decide
      have hc_3 : (3 : Int32).toInt = 3 := by decide
      refine V_if_ne X (show (1 : Int32).toInt = 1 from by decide) 19 dX11_sing_14 (by decide) (fun _ => ?_) (fun c_14 => absurd c_14 (by decide))
      refine V_iload_n X 2 rfl dX11_sing_19 ?_
      refine V_iconst (v := (3 : Int32)) X (by decide) dX11_sing_20 ?_
      refine V_icmp_ne X rfl (show (3 : Int32).toInt = 3 from by decide) 37 dX11_sing_21 (by decide) (fun c_21 => ?_) (fun c_21 => ?_)
      · refine V_aload_n X 0 rfl dX11_sing_37 ?_
        refine V_iload_n X 1 rfl dX11_sing_38 ?_
        refine V_bipush (v := (100 : Int32)) X (by decide) dX11_sing_39 ?_
        refine V_idivZ X rfl (show (100 : Int32).toInt = 100 from by decide) (by omega) (by omega) dX11_sing_41 (fun x_7 ex_7 tx_7 => ?_)
        have tx_7 : x_7.toInt = ((s0 : Nat) : Int) := by omega
        refine V_iload_n X 1 rfl dX11_sing_42 ?_
        refine V_bipush (v := (100 : Int32)) X (by decide) dX11_sing_43 ?_
        refine V_iremZ X rfl (show (100 : Int32).toInt = 100 from by decide) (by omega) (by omega) dX11_sing_45 (fun x_8 ex_8 tx_8 => ?_)
        have tx_8 : x_8.toInt = ((ln : Nat) : Int) := by omega
        refine V_callV (C := RX11) (wr := []) (st := []) X (c_X11_goSinging l D Y m R v0 v7 v8 v9 v15 v16 v17 v18 v19 v27 v31 v32 v33 v34 v38 v42 v44 a1 a2 a3 a4 a5 a6 a20 a21 a22 a23 a24 a25 a26 a28 n T B S F a29 a30 s0 x_7 x_8 ln hLN hMT hMH hSU hLW hs0 tx_7 tx_8 (by omega)) 2 gX11_sing_X11_goSinging rfl (by decide +kernel) ⟨rfl, rfl⟩ ⟨Nat.le_of_ble_eq_true rfl, Nat.le_of_ble_eq_true rfl⟩ [15, 16, 0, 1, 2, 3, 4, 5, 6, 7, 8, 9, 10, 11, 12, 13, 14] [] rfl rfl rfl rfl (by decide) (ci := 10) rfl rfl 0 rfl rfl rfl (Nat.le_of_ble_eq_true rfl) ⟨Nat.le_of_ble_eq_true rfl, Nat.le_of_ble_eq_true rfl⟩ dX11_sing_46 (fun v_46 w_46 h_46 => ?_)
        obtain ⟨z31_10, z32_11, z33_12, z34_13, b25_14, b26_15, b28_16, b29_17, b30_18, rfl, rfl, hhGS_19⟩ := h_46
        refine V_to (pc' := 49) (ls' := [(0, .ref m), (1, .int y), (2, .int w_)]) (st' := []) (ws' := [(m, .inr (10, mF R v0 v7 v8 v9 v15 v16 v17 v18 v19 v27 z31_10 z32_11 z33_12 z34_13 v38 v42 v44)), ((R 1), .inl (Y 0, 3, .inl a1)), ((R 2), .inl (Y 0, 36, .inl a2)), ((R 3), .inl (Y 0, 36, .inl a3)), ((R 4), .inl (Y 0, 36, .inl a4)), ((R 5), .inl (Y 0, 24, .inl a5)), ((R 6), .inl (Y 0, 4, .inl a6)), ((R 20), .inl (Y 2, 260, .inl a20)), ((R 21), .inl (Y 0, 260, .inl a21)), ((R 22), .inl (Y 0, 2, .inl a22)), ((R 23), .inl (Y 3, 122, .inl a23)), ((R 24), .inl (Y 3, 122, .inl a24)), ((R 25), .inl (Y 0, 6, .inl b25_14)), ((R 26), .inl (Y 0, 130, .inl b26_15)), ((R 28), .inl (Y 0, 12, .inl b28_16)), ((R 29), .inl (Y 0, 60, .inl b29_17)), ((R 30), .inl (Y 0, 60, .inl b30_18))]) ?_ rfl rfl rfl rfl
        refine V_iload_n X 2 rfl dX11_sing_49 ?_
        refine V_if_ne X rfl 60 dX11_sing_50 (by decide) (fun c_50 => ?_) (fun c_50 => ?_)
        · refine V_iload_n X 2 rfl dX11_sing_60 ?_
          refine V_iconst (v := (1 : Int32)) X (by decide) dX11_sing_61 ?_
          refine V_icmp_ne X rfl (show (1 : Int32).toInt = 1 from by decide) 72 dX11_sing_62 (by decide) (fun c_62 => ?_) (fun c_62 => ?_)
          · refine V_aload_n X 0 rfl dX11_sing_72 ?_
            refine V_get (C := RX11) (T := TX11) (N := 50) (ci := 10) (v := .int z33_12) X in_X11_sing_X11 0 rfl rfl 33 (by decide) (List.mem_of_getElem? (i := 3) rfl) rfl rfl dX11_sing_73 ?_
            exact V_iret X hr dX11_sing_76 (Or.inr (⟨z33_12, z31_10, z32_11, z33_12, z34_13, b25_14, b26_15, b28_16, b29_17, b30_18, rfl, rfl, (by omega), (by unfold singA; rw [if_neg (by omega), if_neg (by omega), if_pos (by omega)]; exact hhGS_19.2.2.2)⟩))
          · refine V_aload_n X 0 rfl dX11_sing_65 ?_
            refine V_get (C := RX11) (T := TX11) (N := 50) (ci := 10) (v := .int z32_11) X in_X11_sing_X11 0 rfl rfl 32 (by decide) (List.mem_of_getElem? (i := 2) rfl) rfl rfl dX11_sing_66 ?_
            refine V_goto X 76 (by decide) dX11_sing_69 ?_
            exact V_iret X hr dX11_sing_76 (Or.inr (⟨z32_11, z31_10, z32_11, z33_12, z34_13, b25_14, b26_15, b28_16, b29_17, b30_18, rfl, rfl, (by omega), (by unfold singA; rw [if_neg (by omega), if_pos (by omega)]; exact hhGS_19.2.2.1)⟩))
        · refine V_aload_n X 0 rfl dX11_sing_53 ?_
          refine V_get (C := RX11) (T := TX11) (N := 50) (ci := 10) (v := .int z31_10) X in_X11_sing_X11 0 rfl rfl 31 (by decide) (List.mem_of_getElem? (i := 1) rfl) rfl rfl dX11_sing_54 ?_
          refine V_goto X 76 (by decide) dX11_sing_57 ?_
          exact V_iret X hr dX11_sing_76 (Or.inr (⟨z31_10, z31_10, z32_11, z33_12, z34_13, b25_14, b26_15, b28_16, b29_17, b30_18, rfl, rfl, (by omega), (by unfold singA; rw [if_pos (by omega)]; exact hhGS_19.2.1)⟩))
      · refine V_aload_n X 0 rfl dX11_sing_24 ?_
        refine V_iload_n X 1 rfl dX11_sing_25 ?_
        refine V_bipush (v := (100 : Int32)) X (by decide) dX11_sing_26 ?_
        refine V_idivZ X rfl (show (100 : Int32).toInt = 100 from by decide) (by omega) (by omega) dX11_sing_28 (fun x_20 ex_20 tx_20 => ?_)
        have tx_20 : x_20.toInt = ((s0 : Nat) : Int) := by omega
        refine V_iload_n X 1 rfl dX11_sing_29 ?_
        refine V_bipush (v := (100 : Int32)) X (by decide) dX11_sing_30 ?_
        refine V_iremZ X rfl (show (100 : Int32).toInt = 100 from by decide) (by omega) (by omega) dX11_sing_32 (fun x_21 ex_21 tx_21 => ?_)
        have tx_21 : x_21.toInt = ((ln : Nat) : Int) := by omega
        refine V_callV (C := RX11) (wr := [((R 29), .inl (Y 0, 60, .inl a29)), ((R 30), .inl (Y 0, 60, .inl a30))]) (st := []) X (c_X11_rightFrom l D Y m R v0 v7 v8 v9 v15 v16 v17 v18 v19 v27 v31 v32 v33 v34 v38 v42 v44 a1 a2 a3 a4 a5 a6 a20 a21 a22 a23 a24 a25 a26 a28 n T B S F s0 x_20 x_21 ln hLN hMT hMH hSU hLW hs0 tx_20 tx_21 (by omega) (fun h => absurd h (by omega))) 2 gX11_sing_X11_rightFrom rfl (by decide +kernel) ⟨rfl, rfl⟩ ⟨Nat.le_of_ble_eq_true rfl, Nat.le_of_ble_eq_true rfl⟩ [15, 16, 0, 1, 2, 3, 4, 5, 6, 7, 8, 9, 10, 11, 12] [13, 14] rfl rfl rfl rfl (by decide) (ci := 10) rfl rfl 0 rfl rfl rfl (Nat.le_of_ble_eq_true rfl) ⟨Nat.le_of_ble_eq_true rfl, Nat.le_of_ble_eq_true rfl⟩ dX11_sing_33 (fun v_33 w_33 h_33 => ?_)
        obtain ⟨r_23, z34_24, b25_25, b26_26, b28_27, rfl, rfl, htr_28⟩ := h_33
        refine V_to (pc' := 36) (ls' := [(0, .ref m), (1, .int y), (2, .int w_)]) (st' := [.int r_23]) (ws' := [((R 29), .inl (Y 0, 60, .inl a29)), ((R 30), .inl (Y 0, 60, .inl a30)), (m, .inr (10, mF R v0 v7 v8 v9 v15 v16 v17 v18 v19 v27 v31 v32 v33 z34_24 v38 v42 v44)), ((R 1), .inl (Y 0, 3, .inl a1)), ((R 2), .inl (Y 0, 36, .inl a2)), ((R 3), .inl (Y 0, 36, .inl a3)), ((R 4), .inl (Y 0, 36, .inl a4)), ((R 5), .inl (Y 0, 24, .inl a5)), ((R 6), .inl (Y 0, 4, .inl a6)), ((R 20), .inl (Y 2, 260, .inl a20)), ((R 21), .inl (Y 0, 260, .inl a21)), ((R 22), .inl (Y 0, 2, .inl a22)), ((R 23), .inl (Y 3, 122, .inl a23)), ((R 24), .inl (Y 3, 122, .inl a24)), ((R 25), .inl (Y 0, 6, .inl b25_25)), ((R 26), .inl (Y 0, 130, .inl b26_26)), ((R 28), .inl (Y 0, 12, .inl b28_27))]) ?_ rfl rfl rfl rfl
        refine V_ws (ws' := [(m, .inr (10, mF R v0 v7 v8 v9 v15 v16 v17 v18 v19 v27 v31 v32 v33 z34_24 v38 v42 v44)), ((R 1), .inl (Y 0, 3, .inl a1)), ((R 2), .inl (Y 0, 36, .inl a2)), ((R 3), .inl (Y 0, 36, .inl a3)), ((R 4), .inl (Y 0, 36, .inl a4)), ((R 5), .inl (Y 0, 24, .inl a5)), ((R 6), .inl (Y 0, 4, .inl a6)), ((R 20), .inl (Y 2, 260, .inl a20)), ((R 21), .inl (Y 0, 260, .inl a21)), ((R 22), .inl (Y 0, 2, .inl a22)), ((R 23), .inl (Y 3, 122, .inl a23)), ((R 24), .inl (Y 3, 122, .inl a24)), ((R 25), .inl (Y 0, 6, .inl b25_25)), ((R 26), .inl (Y 0, 130, .inl b26_26)), ((R 28), .inl (Y 0, 12, .inl b28_27)), ((R 29), .inl (Y 0, 60, .inl a29)), ((R 30), .inl (Y 0, 60, .inl a30))]) [2, 3, 4, 5, 6, 7, 8, 9, 10, 11, 12, 13, 14, 15, 16, 0, 1] rfl rfl rfl ?_
        exact V_iret X hr dX11_sing_36 (Or.inr (⟨r_23, v31, v32, v33, z34_24, b25_25, b26_26, b28_27, a29, a30, rfl, rfl, (by omega), (by unfold singA; rw [if_neg (by omega), if_neg (by omega), if_neg (by omega)]; exact htr_28)⟩))
    · refine V_to (pc' := 14) (ls' := [(0, .ref m), (1, .int y), (2, .int w_)]) (st' := [.int (0 : Int32)]) (ws' := [((R 2), .inl (Y 0, 36, .inl a2)), ((R 3), .inl (Y 0, 36, .inl a3)), ((R 4), .inl (Y 0, 36, .inl a4)), ((R 5), .inl (Y 0, 24, .inl a5)), ((R 6), .inl (Y 0, 4, .inl a6)), ((R 20), .inl (Y 2, 260, .inl a20)), ((R 21), .inl (Y 0, 260, .inl a21)), ((R 22), .inl (Y 0, 2, .inl a22)), ((R 23), .inl (Y 3, 122, .inl a23)), ((R 24), .inl (Y 3, 122, .inl a24)), ((R 25), .inl (Y 0, 6, .inl a25)), ((R 26), .inl (Y 0, 130, .inl a26)), ((R 28), .inl (Y 0, 12, .inl a28)), ((R 29), .inl (Y 0, 60, .inl a29)), ((R 30), .inl (Y 0, 60, .inl a30)), (m, .inr (10, mF R v0 v7 v8 v9 v15 v16 v17 v18 v19 v27 v31 v32 v33 v34 v38 v42 v44)), ((R 1), .inl (Y 0, 3, .inl a1))]) ?_ rfl rfl rfl rfl
      have hc_0 : (0 : Int32).toInt = 0 := by decide
      have hc_3 : (3 : Int32).toInt = 3 := by decide
      refine V_if_ne X (show (0 : Int32).toInt = 0 from by decide) 19 dX11_sing_14 (by decide) (fun c_14 => absurd c_14 (by decide)) (fun _ => ?_)
      refine V_iconst (v := (-1 : Int32)) X (by decide) dX11_sing_17 ?_
      refine V_ws (ws' := [(m, .inr (10, mF R v0 v7 v8 v9 v15 v16 v17 v18 v19 v27 v31 v32 v33 v34 v38 v42 v44)), ((R 1), .inl (Y 0, 3, .inl a1)), ((R 2), .inl (Y 0, 36, .inl a2)), ((R 3), .inl (Y 0, 36, .inl a3)), ((R 4), .inl (Y 0, 36, .inl a4)), ((R 5), .inl (Y 0, 24, .inl a5)), ((R 6), .inl (Y 0, 4, .inl a6)), ((R 20), .inl (Y 2, 260, .inl a20)), ((R 21), .inl (Y 0, 260, .inl a21)), ((R 22), .inl (Y 0, 2, .inl a22)), ((R 23), .inl (Y 3, 122, .inl a23)), ((R 24), .inl (Y 3, 122, .inl a24)), ((R 25), .inl (Y 0, 6, .inl a25)), ((R 26), .inl (Y 0, 130, .inl a26)), ((R 28), .inl (Y 0, 12, .inl a28)), ((R 29), .inl (Y 0, 60, .inl a29)), ((R 30), .inl (Y 0, 60, .inl a30))]) [15, 16, 0, 1, 2, 3, 4, 5, 6, 7, 8, 9, 10, 11, 12, 13, 14] rfl rfl rfl ?_
      exact V_iret X hr dX11_sing_18 (Or.inl ⟨rfl, rfl, (by omega)⟩)
  · refine V_to (pc' := 5) (ls' := [(0, .ref m), (1, .int y), (2, .int w_)]) (st' := [.int (0 : Int32)]) (ws' := [((R 2), .inl (Y 0, 36, .inl a2)), ((R 3), .inl (Y 0, 36, .inl a3)), ((R 4), .inl (Y 0, 36, .inl a4)), ((R 5), .inl (Y 0, 24, .inl a5)), ((R 6), .inl (Y 0, 4, .inl a6)), ((R 20), .inl (Y 2, 260, .inl a20)), ((R 21), .inl (Y 0, 260, .inl a21)), ((R 22), .inl (Y 0, 2, .inl a22)), ((R 23), .inl (Y 3, 122, .inl a23)), ((R 24), .inl (Y 3, 122, .inl a24)), ((R 25), .inl (Y 0, 6, .inl a25)), ((R 26), .inl (Y 0, 130, .inl a26)), ((R 28), .inl (Y 0, 12, .inl a28)), ((R 29), .inl (Y 0, 60, .inl a29)), ((R 30), .inl (Y 0, 60, .inl a30)), (m, .inr (10, mF R v0 v7 v8 v9 v15 v16 v17 v18 v19 v27 v31 v32 v33 v34 v38 v42 v44)), ((R 1), .inl (Y 0, 3, .inl a1))]) ?_ rfl rfl rfl rfl
    refine V_if_eq X (show (0 : Int32).toInt = 0 from by decide) 17 dX11_sing_5 (by decide) (fun _ => ?_) (fun c_5 => absurd c_5 (by decide))
    refine V_iconst (v := (-1 : Int32)) X (by decide) dX11_sing_17 ?_
    refine V_ws (ws' := [(m, .inr (10, mF R v0 v7 v8 v9 v15 v16 v17 v18 v19 v27 v31 v32 v33 v34 v38 v42 v44)), ((R 1), .inl (Y 0, 3, .inl a1)), ((R 2), .inl (Y 0, 36, .inl a2)), ((R 3), .inl (Y 0, 36, .inl a3)), ((R 4), .inl (Y 0, 36, .inl a4)), ((R 5), .inl (Y 0, 24, .inl a5)), ((R 6), .inl (Y 0, 4, .inl a6)), ((R 20), .inl (Y 2, 260, .inl a20)), ((R 21), .inl (Y 0, 260, .inl a21)), ((R 22), .inl (Y 0, 2, .inl a22)), ((R 23), .inl (Y 3, 122, .inl a23)), ((R 24), .inl (Y 3, 122, .inl a24)), ((R 25), .inl (Y 0, 6, .inl a25)), ((R 26), .inl (Y 0, 130, .inl a26)), ((R 28), .inl (Y 0, 12, .inl a28)), ((R 29), .inl (Y 0, 60, .inl a29)), ((R 30), .inl (Y 0, 60, .inl a30))]) [15, 16, 0, 1, 2, 3, 4, 5, 6, 7, 8, 9, 10, 11, 12, 13, 14] rfl rfl rfl ?_
    exact V_iret X hr dX11_sing_18 (Or.inl ⟨rfl, rfl, (by omega)⟩)

theorem in_X11_sung_X11 : ∀ w ∈ wsX110, w ∈ wsX11_sung := fun w h => List.mem_cons_of_mem _ (List.mem_append_right _ h)
set_option maxHeartbeats 4000000 in
set_option maxRecDepth 100000 in
theorem c_X11_sung (l : Launch) (D : va_G) (Y : Nat → ClassId) (m : Nat) (R : Nat → Nat) (v0 : Int32) (v7 : Int32) (v8 : Int32) (v9 : Int32) (v15 : Int32) (v16 : Int32) (v17 : Int32) (v18 : Int32) (v19 : Int32) (v27 : Int32) (v31 : Int32) (v32 : Int32) (v33 : Int32) (v34 : Int32) (v38 : Int32) (v42 : Int32) (v44 : Int32) (a1 : Nat → Int32) (a2 : Nat → Int32) (a3 : Nat → Int32) (a4 : Nat → Int32) (a5 : Nat → Int32) (a6 : Nat → Int32) (a20 : Nat → Int32) (a21 : Nat → Int32) (a22 : Nat → Int32) (a23 : Nat → Int32) (a24 : Nat → Int32) (a25 : Nat → Int32) (a26 : Nat → Int32) (a28 : Nat → Int32) (n : Nat → Nat) (T : Nat → Nat → Nat) (B : Nat → Nat → Bool) (S : Nat → Nat) (F : Nat → Nat → Nat → Int32) (a29 : Nat → Int32) (a30 : Nat → Int32) (s0 : Nat) (y : Int32) (ln : Nat) (k_ : Int32) (w_ : Int32) (hLN : LNR a1 n) (hMT : MTR a2 a3 a4 T) (hMH : MHV a5 B) (hSU : SUR a6 S) (hLW : LAWR v27 a20 a21 a22 a23 a24 F) (hs0 : s0 < 3) (hsl : 0 ≤ y.toInt → y.toInt / 100 < 3 → y.toInt / 100 = ((s0 : Nat) : Int)) (hln : 0 ≤ y.toInt → y.toInt % 100 = ((ln : Nat) : Int)) : Mg l yX11_sung wsX11_sung ({ frames := 6, cells := 0, slots := 0, locals := 150 }) D Y [(m, .inr (10, mF R v0 v7 v8 v9 v15 v16 v17 v18 v19 v27 v31 v32 v33 v34 v38 v42 v44)), ((R 1), .inl (Y 0, 3, .inl a1)), ((R 2), .inl (Y 0, 36, .inl a2)), ((R 3), .inl (Y 0, 36, .inl a3)), ((R 4), .inl (Y 0, 36, .inl a4)), ((R 5), .inl (Y 0, 24, .inl a5)), ((R 6), .inl (Y 0, 4, .inl a6)), ((R 20), .inl (Y 2, 260, .inl a20)), ((R 21), .inl (Y 0, 260, .inl a21)), ((R 22), .inl (Y 0, 2, .inl a22)), ((R 23), .inl (Y 3, 122, .inl a23)), ((R 24), .inl (Y 3, 122, .inl a24)), ((R 25), .inl (Y 0, 6, .inl a25)), ((R 26), .inl (Y 0, 130, .inl a26)), ((R 28), .inl (Y 0, 12, .inl a28)), ((R 29), .inl (Y 0, 60, .inl a29)), ((R 30), .inl (Y 0, 60, .inl a30))] [.ref m, .int y, .int k_, .int w_] 0 0 (fun vv__ ww__ => (vv__ = some (.int (-1 : Int32)) ∧ ww__ = [(m, .inr (10, mF R v0 v7 v8 v9 v15 v16 v17 v18 v19 v27 v31 v32 v33 v34 v38 v42 v44)), ((R 1), .inl (Y 0, 3, .inl a1)), ((R 2), .inl (Y 0, 36, .inl a2)), ((R 3), .inl (Y 0, 36, .inl a3)), ((R 4), .inl (Y 0, 36, .inl a4)), ((R 5), .inl (Y 0, 24, .inl a5)), ((R 6), .inl (Y 0, 4, .inl a6)), ((R 20), .inl (Y 2, 260, .inl a20)), ((R 21), .inl (Y 0, 260, .inl a21)), ((R 22), .inl (Y 0, 2, .inl a22)), ((R 23), .inl (Y 3, 122, .inl a23)), ((R 24), .inl (Y 3, 122, .inl a24)), ((R 25), .inl (Y 0, 6, .inl a25)), ((R 26), .inl (Y 0, 130, .inl a26)), ((R 28), .inl (Y 0, 12, .inl a28)), ((R 29), .inl (Y 0, 60, .inl a29)), ((R 30), .inl (Y 0, 60, .inl a30))] ∧ (¬ ((0 ≤ y.toInt ∧ y.toInt / 100 < 3 ∧ ln < n s0) ∧ 0 ≤ k_.toInt ∧ 0 ≤ w_.toInt ∧ w_.toInt < 2))) ∨ (∃ (z31 : Int32), ∃ (z32 : Int32), ∃ (z33 : Int32), ∃ (z34 : Int32), ∃ (b25 : Nat → Int32), ∃ (b26 : Nat → Int32), ∃ (b28 : Nat → Int32), ∃ (b29 : Nat → Int32), ∃ (b30 : Nat → Int32), vv__ = some (.int (-2 : Int32)) ∧ ww__ = [(m, .inr (10, mF R v0 v7 v8 v9 v15 v16 v17 v18 v19 v27 z31 z32 z33 z34 v38 v42 v44)), ((R 1), .inl (Y 0, 3, .inl a1)), ((R 2), .inl (Y 0, 36, .inl a2)), ((R 3), .inl (Y 0, 36, .inl a3)), ((R 4), .inl (Y 0, 36, .inl a4)), ((R 5), .inl (Y 0, 24, .inl a5)), ((R 6), .inl (Y 0, 4, .inl a6)), ((R 20), .inl (Y 2, 260, .inl a20)), ((R 21), .inl (Y 0, 260, .inl a21)), ((R 22), .inl (Y 0, 2, .inl a22)), ((R 23), .inl (Y 3, 122, .inl a23)), ((R 24), .inl (Y 3, 122, .inl a24)), ((R 25), .inl (Y 0, 6, .inl b25)), ((R 26), .inl (Y 0, 130, .inl b26)), ((R 28), .inl (Y 0, 12, .inl b28)), ((R 29), .inl (Y 0, 60, .inl b29)), ((R 30), .inl (Y 0, 60, .inl b30))] ∧ (0 ≤ y.toInt ∧ y.toInt / 100 = ((s0 : Nat) : Int) ∧ ln < n s0 ∧ 0 ≤ w_.toInt ∧ w_.toInt < 2) ∧ ((((sgF F S (T s0) (B s0) (n s0) ln 60).1.length : Nat) : Int) ≤ k_.toInt)) ∨ (∃ (r : Int32), ∃ (z31 : Int32), ∃ (z32 : Int32), ∃ (z33 : Int32), ∃ (z34 : Int32), ∃ (b25 : Nat → Int32), ∃ (b26 : Nat → Int32), ∃ (b28 : Nat → Int32), ∃ (b29 : Nat → Int32), ∃ (b30 : Nat → Int32), ∃ (kn : Nat), vv__ = some (.int r) ∧ ww__ = [(m, .inr (10, mF R v0 v7 v8 v9 v15 v16 v17 v18 v19 v27 z31 z32 z33 z34 v38 v42 v44)), ((R 1), .inl (Y 0, 3, .inl a1)), ((R 2), .inl (Y 0, 36, .inl a2)), ((R 3), .inl (Y 0, 36, .inl a3)), ((R 4), .inl (Y 0, 36, .inl a4)), ((R 5), .inl (Y 0, 24, .inl a5)), ((R 6), .inl (Y 0, 4, .inl a6)), ((R 20), .inl (Y 2, 260, .inl a20)), ((R 21), .inl (Y 0, 260, .inl a21)), ((R 22), .inl (Y 0, 2, .inl a22)), ((R 23), .inl (Y 3, 122, .inl a23)), ((R 24), .inl (Y 3, 122, .inl a24)), ((R 25), .inl (Y 0, 6, .inl b25)), ((R 26), .inl (Y 0, 130, .inl b26)), ((R 28), .inl (Y 0, 12, .inl b28)), ((R 29), .inl (Y 0, 60, .inl b29)), ((R 30), .inl (Y 0, 60, .inl b30))] ∧ (0 ≤ y.toInt ∧ y.toInt / 100 = ((s0 : Nat) : Int) ∧ ln < n s0 ∧ 0 ≤ w_.toInt ∧ w_.toInt < 2) ∧ (k_.toInt = ((kn : Nat) : Int)) ∧ (kn < (sgF F S (T s0) (B s0) (n s0) ln 60).1.length) ∧ (r.toInt = sungA w_.toInt (hAt (sgF F S (T s0) (B s0) (n s0) ln 60).1 kn)))) := by
  refine Mg_of (cc := cX11_sung) (maxL := 4) (ret := (some .int)) (ls0 := [(0, .ref m), (1, .int y), (2, .int k_), (3, .int w_)]) RX11 (by decide) rfl rfl rfl (Nat.le_of_ble_eq_true rfl) (fun p__ e__ s__ m__ b__ t__ c__ X hr hn => ?_)
  have hln0 : (a1 s0).toInt = ((n s0 : Nat) : Int) ∧ n s0 ≤ 12 := hLN s0 hs0
  have hln1 := hln0.2
  refine V_aload_n X 0 rfl dX11_sung_0 ?_
  refine V_iload_n X 1 rfl dX11_sung_1 ?_
  refine V_callV (C := RX11) (wr := [((R 2), .inl (Y 0, 36, .inl a2)), ((R 3), .inl (Y 0, 36, .inl a3)), ((R 4), .inl (Y 0, 36, .inl a4)), ((R 5), .inl (Y 0, 24, .inl a5)), ((R 6), .inl (Y 0, 4, .inl a6)), ((R 20), .inl (Y 2, 260, .inl a20)), ((R 21), .inl (Y 0, 260, .inl a21)), ((R 22), .inl (Y 0, 2, .inl a22)), ((R 23), .inl (Y 3, 122, .inl a23)), ((R 24), .inl (Y 3, 122, .inl a24)), ((R 25), .inl (Y 0, 6, .inl a25)), ((R 26), .inl (Y 0, 130, .inl a26)), ((R 28), .inl (Y 0, 12, .inl a28)), ((R 29), .inl (Y 0, 60, .inl a29)), ((R 30), .inl (Y 0, 60, .inl a30))]) (st := []) X (c_X11_isLine l D Y m R v0 v7 v8 v9 v15 v16 v17 v18 v19 v27 v31 v32 v33 v34 v38 v42 v44 a1 n s0 y ln hLN hs0 hsl hln) 1 gX11_sung_X11_isLine rfl (by decide +kernel) ⟨rfl, rfl⟩ ⟨Nat.le_of_ble_eq_true rfl, Nat.le_of_ble_eq_true rfl⟩ [0, 1] [2, 3, 4, 5, 6, 7, 8, 9, 10, 11, 12, 13, 14, 15, 16] rfl rfl rfl rfl (by decide) (ci := 10) rfl rfl 0 rfl rfl rfl (Nat.le_of_ble_eq_true rfl) ⟨Nat.le_of_ble_eq_true rfl, Nat.le_of_ble_eq_true rfl⟩ dX11_sung_2 (fun v_2 w_2 h_2 => ?_)
  rcases h_2 with ⟨rfl, rfl, hhy_2⟩ | ⟨rfl, rfl, hhn_3⟩
  · refine V_to (pc' := 5) (ls' := [(0, .ref m), (1, .int y), (2, .int k_), (3, .int w_)]) (st' := [.int (1 : Int32)]) (ws' := [((R 2), .inl (Y 0, 36, .inl a2)), ((R 3), .inl (Y 0, 36, .inl a3)), ((R 4), .inl (Y 0, 36, .inl a4)), ((R 5), .inl (Y 0, 24, .inl a5)), ((R 6), .inl (Y 0, 4, .inl a6)), ((R 20), .inl (Y 2, 260, .inl a20)), ((R 21), .inl (Y 0, 260, .inl a21)), ((R 22), .inl (Y 0, 2, .inl a22)), ((R 23), .inl (Y 3, 122, .inl a23)), ((R 24), .inl (Y 3, 122, .inl a24)), ((R 25), .inl (Y 0, 6, .inl a25)), ((R 26), .inl (Y 0, 130, .inl a26)), ((R 28), .inl (Y 0, 12, .inl a28)), ((R 29), .inl (Y 0, 60, .inl a29)), ((R 30), .inl (Y 0, 60, .inl a30)), (m, .inr (10, mF R v0 v7 v8 v9 v15 v16 v17 v18 v19 v27 v31 v32 v33 v34 v38 v42 v44)), ((R 1), .inl (Y 0, 3, .inl a1))]) ?_ rfl rfl rfl rfl
    refine V_if_eq X (show (1 : Int32).toInt = 1 from by decide) 21 dX11_sung_5 (by decide) (fun c_5 => absurd c_5 (by decide)) (fun _ => ?_)
    refine V_iload_n X 2 rfl dX11_sung_8 ?_
    refine V_if_lt X rfl 21 dX11_sung_9 (by decide) (fun c_9 => ?_) (fun c_9 => ?_)
    · refine V_iconst (v := (-1 : Int32)) X (by decide) dX11_sung_21 ?_
      refine V_ws (ws' := [(m, .inr (10, mF R v0 v7 v8 v9 v15 v16 v17 v18 v19 v27 v31 v32 v33 v34 v38 v42 v44)), ((R 1), .inl (Y 0, 3, .inl a1)), ((R 2), .inl (Y 0, 36, .inl a2)), ((R 3), .inl (Y 0, 36, .inl a3)), ((R 4), .inl (Y 0, 36, .inl a4)), ((R 5), .inl (Y 0, 24, .inl a5)), ((R 6), .inl (Y 0, 4, .inl a6)), ((R 20), .inl (Y 2, 260, .inl a20)), ((R 21), .inl (Y 0, 260, .inl a21)), ((R 22), .inl (Y 0, 2, .inl a22)), ((R 23), .inl (Y 3, 122, .inl a23)), ((R 24), .inl (Y 3, 122, .inl a24)), ((R 25), .inl (Y 0, 6, .inl a25)), ((R 26), .inl (Y 0, 130, .inl a26)), ((R 28), .inl (Y 0, 12, .inl a28)), ((R 29), .inl (Y 0, 60, .inl a29)), ((R 30), .inl (Y 0, 60, .inl a30))]) [15, 16, 0, 1, 2, 3, 4, 5, 6, 7, 8, 9, 10, 11, 12, 13, 14] rfl rfl rfl ?_
      exact V_iret X hr dX11_sung_22 (Or.inl ⟨rfl, rfl, (by omega)⟩)
    · refine V_iload_n X 3 rfl dX11_sung_12 ?_
      refine V_iconst (v := (0 : Int32)) X (by decide) dX11_sung_13 ?_
      refine V_iconst (v := (1 : Int32)) X (by decide) dX11_sung_14 ?_
      refine V_callS (wr := [((R 2), .inl (Y 0, 36, .inl a2)), ((R 3), .inl (Y 0, 36, .inl a3)), ((R 4), .inl (Y 0, 36, .inl a4)), ((R 5), .inl (Y 0, 24, .inl a5)), ((R 6), .inl (Y 0, 4, .inl a6)), ((R 20), .inl (Y 2, 260, .inl a20)), ((R 21), .inl (Y 0, 260, .inl a21)), ((R 22), .inl (Y 0, 2, .inl a22)), ((R 23), .inl (Y 3, 122, .inl a23)), ((R 24), .inl (Y 3, 122, .inl a24)), ((R 25), .inl (Y 0, 6, .inl a25)), ((R 26), .inl (Y 0, 130, .inl a26)), ((R 28), .inl (Y 0, 12, .inl a28)), ((R 29), .inl (Y 0, 60, .inl a29)), ((R 30), .inl (Y 0, 60, .inl a30)), (m, .inr (10, mF R v0 v7 v8 v9 v15 v16 v17 v18 v19 v27 v31 v32 v33 v34 v38 v42 v44)), ((R 1), .inl (Y 0, 3, .inl a1))]) (st := []) X (c_X11_in l D Y w_ (0 : Int32) (1 : Int32)) 3 gX11_sung_X11_in rfl (by decide +kernel) ⟨rfl, rfl⟩ ⟨Nat.le_of_ble_eq_true rfl, Nat.le_of_ble_eq_true rfl⟩ [] [0, 1, 2, 3, 4, 5, 6, 7, 8, 9, 10, 11, 12, 13, 14, 15, 16] rfl rfl rfl rfl (by decide) rfl rfl (Nat.le_of_ble_eq_true rfl) ⟨Nat.le_of_ble_eq_true rfl, Nat.le_of_ble_eq_true rfl⟩ dX11_sung_15 (fun v_15 w_15 h_15 => ?_)
      rcases h_15 with ⟨rfl, rfl, hhy_5⟩ | ⟨rfl, rfl, hhn_6⟩
      · refine V_to (pc' := 18) (ls' := [(0, .ref m), (1, .int y), (2, .int k_), (3, .int w_)]) (st' := [.int (1 : Int32)]) (ws' := [((R 2), .inl (Y 0, 36, .inl a2)), ((R 3), .inl (Y 0, 36, .inl a3)), ((R 4), .inl (Y 0, 36, .inl a4)), ((R 5), .inl (Y 0, 24, .inl a5)), ((R 6), .inl (Y 0, 4, .inl a6)), ((R 20), .inl (Y 2, 260, .inl a20)), ((R 21), .inl (Y 0, 260, .inl a21)), ((R 22), .inl (Y 0, 2, .inl a22)), ((R 23), .inl (Y 3, 122, .inl a23)), ((R 24), .inl (Y 3, 122, .inl a24)), ((R 25), .inl (Y 0, 6, .inl a25)), ((R 26), .inl (Y 0, 130, .inl a26)), ((R 28), .inl (Y 0, 12, .inl a28)), ((R 29), .inl (Y 0, 60, .inl a29)), ((R 30), .inl (Y 0, 60, .inl a30)), (m, .inr (10, mF R v0 v7 v8 v9 v15 v16 v17 v18 v19 v27 v31 v32 v33 v34 v38 v42 v44)), ((R 1), .inl (Y 0, 3, .inl a1))]) ?_ rfl rfl rfl rfl
        have hc_0 : (0 : Int32).toInt = 0 := by decide
        have hc_1 : (1 : Int32).toInt = 1 := by decide
        refine V_if_ne X (show (1 : Int32).toInt = 1 from by decide) 23 dX11_sung_18 (by decide) (fun _ => ?_) (fun c_18 => absurd c_18 (by decide))
        refine V_aload_n X 0 rfl dX11_sung_23 ?_
        refine V_iload_n X 1 rfl dX11_sung_24 ?_
        refine V_bipush (v := (100 : Int32)) X (by decide) dX11_sung_25 ?_
        refine V_idivZ X rfl (show (100 : Int32).toInt = 100 from by decide) (by omega) (by omega) dX11_sung_27 (fun x_7 ex_7 tx_7 => ?_)
        have tx_7 : x_7.toInt = ((s0 : Nat) : Int) := by omega
        refine V_iload_n X 1 rfl dX11_sung_28 ?_
        refine V_bipush (v := (100 : Int32)) X (by decide) dX11_sung_29 ?_
        refine V_iremZ X rfl (show (100 : Int32).toInt = 100 from by decide) (by omega) (by omega) dX11_sung_31 (fun x_8 ex_8 tx_8 => ?_)
        have tx_8 : x_8.toInt = ((ln : Nat) : Int) := by omega
        refine V_callV (C := RX11) (wr := []) (st := []) X (c_X11_goSinging l D Y m R v0 v7 v8 v9 v15 v16 v17 v18 v19 v27 v31 v32 v33 v34 v38 v42 v44 a1 a2 a3 a4 a5 a6 a20 a21 a22 a23 a24 a25 a26 a28 n T B S F a29 a30 s0 x_7 x_8 ln hLN hMT hMH hSU hLW hs0 tx_7 tx_8 (by omega)) 2 gX11_sung_X11_goSinging rfl (by decide +kernel) ⟨rfl, rfl⟩ ⟨Nat.le_of_ble_eq_true rfl, Nat.le_of_ble_eq_true rfl⟩ [15, 16, 0, 1, 2, 3, 4, 5, 6, 7, 8, 9, 10, 11, 12, 13, 14] [] rfl rfl rfl rfl (by decide) (ci := 10) rfl rfl 0 rfl rfl rfl (Nat.le_of_ble_eq_true rfl) ⟨Nat.le_of_ble_eq_true rfl, Nat.le_of_ble_eq_true rfl⟩ dX11_sung_32 (fun v_32 w_32 h_32 => ?_)
        obtain ⟨z31_10, z32_11, z33_12, z34_13, b25_14, b26_15, b28_16, b29_17, b30_18, rfl, rfl, hhGS_19⟩ := h_32
        refine V_to (pc' := 35) (ls' := [(0, .ref m), (1, .int y), (2, .int k_), (3, .int w_)]) (st' := []) (ws' := [(m, .inr (10, mF R v0 v7 v8 v9 v15 v16 v17 v18 v19 v27 z31_10 z32_11 z33_12 z34_13 v38 v42 v44)), ((R 1), .inl (Y 0, 3, .inl a1)), ((R 2), .inl (Y 0, 36, .inl a2)), ((R 3), .inl (Y 0, 36, .inl a3)), ((R 4), .inl (Y 0, 36, .inl a4)), ((R 5), .inl (Y 0, 24, .inl a5)), ((R 6), .inl (Y 0, 4, .inl a6)), ((R 20), .inl (Y 2, 260, .inl a20)), ((R 21), .inl (Y 0, 260, .inl a21)), ((R 22), .inl (Y 0, 2, .inl a22)), ((R 23), .inl (Y 3, 122, .inl a23)), ((R 24), .inl (Y 3, 122, .inl a24)), ((R 25), .inl (Y 0, 6, .inl b25_14)), ((R 26), .inl (Y 0, 130, .inl b26_15)), ((R 28), .inl (Y 0, 12, .inl b28_16)), ((R 29), .inl (Y 0, 60, .inl b29_17)), ((R 30), .inl (Y 0, 60, .inl b30_18))]) ?_ rfl rfl rfl rfl
        refine V_iload_n X 2 rfl dX11_sung_35 ?_
        refine V_aload_n X 0 rfl dX11_sung_36 ?_
        refine V_get (C := RX11) (T := TX11) (N := 50) (ci := 10) (v := .int z31_10) X in_X11_sung_X11 0 rfl rfl 31 (by decide) (List.mem_of_getElem? (i := 1) rfl) rfl rfl dX11_sung_37 ?_
        have hG9 := hhGS_19
        have hG1 := hG9.2.1
        have hG2 := sgF_len F S (T s0) (B s0) (n s0) ln
        obtain ⟨kn, tkn⟩ : ∃ kn : Nat, k_.toInt = ((kn : Nat) : Int) := ⟨k_.toInt.toNat, by omega⟩
        refine V_icmp_lt X rfl rfl 46 dX11_sung_40 (by decide) (fun c_40 => ?_) (fun c_40 => ?_)
        · refine V_iload_n X 3 rfl dX11_sung_46 ?_
          refine V_if_ne X rfl 59 dX11_sung_47 (by decide) (fun c_47 => ?_) (fun c_47 => ?_)
          · refine V_aload_n X 0 rfl dX11_sung_59 ?_
            refine V_get (C := RX11) (T := TX11) (N := 50) (ci := 10) (v := .ref (R 30)) X in_X11_sung_X11 0 rfl rfl 30 (by decide) (List.mem_of_getElem? (i := 3) rfl) rfl rfl dX11_sung_60 ?_
            refine V_iload_n X 2 rfl dX11_sung_63 ?_
            refine V_iald X 16 kn rfl (by omega) (by omega) dX11_sung_64 ?_
            exact V_iret X hr dX11_sung_65 (Or.inr (Or.inr (⟨(b30_18 kn), z31_10, z32_11, z33_12, z34_13, b25_14, b26_15, b28_16, b29_17, b30_18, kn, rfl, rfl, (by omega), tkn, (by omega), (by unfold sungA; rw [if_neg (by omega)]; exact (hG9.1.1 kn (by omega)).2)⟩)))
          · refine V_aload_n X 0 rfl dX11_sung_50 ?_
            refine V_get (C := RX11) (T := TX11) (N := 50) (ci := 10) (v := .ref (R 29)) X in_X11_sung_X11 0 rfl rfl 29 (by decide) (List.mem_of_getElem? (i := 2) rfl) rfl rfl dX11_sung_51 ?_
            refine V_iload_n X 2 rfl dX11_sung_54 ?_
            refine V_iald X 15 kn rfl (by omega) (by omega) dX11_sung_55 ?_
            refine V_goto X 65 (by decide) dX11_sung_56 ?_
            exact V_iret X hr dX11_sung_65 (Or.inr (Or.inr (⟨(b29_17 kn), z31_10, z32_11, z33_12, z34_13, b25_14, b26_15, b28_16, b29_17, b30_18, kn, rfl, rfl, (by omega), tkn, (by omega), (by unfold sungA; rw [if_pos (by omega)]; exact (hG9.1.1 kn (by omega)).1)⟩)))
        · refine V_bipush (v := (-2 : Int32)) X (by decide) dX11_sung_43 ?_
          exact V_iret X hr dX11_sung_45 (Or.inr (Or.inl ⟨z31_10, z32_11, z33_12, z34_13, b25_14, b26_15, b28_16, b29_17, b30_18, rfl, rfl, (by omega), (by omega)⟩))
      · refine V_to (pc' := 18) (ls' := [(0, .ref m), (1, .int y), (2, .int k_), (3, .int w_)]) (st' := [.int (0 : Int32)]) (ws' := [((R 2), .inl (Y 0, 36, .inl a2)), ((R 3), .inl (Y 0, 36, .inl a3)), ((R 4), .inl (Y 0, 36, .inl a4)), ((R 5), .inl (Y 0, 24, .inl a5)), ((R 6), .inl (Y 0, 4, .inl a6)), ((R 20), .inl (Y 2, 260, .inl a20)), ((R 21), .inl (Y 0, 260, .inl a21)), ((R 22), .inl (Y 0, 2, .inl a22)), ((R 23), .inl (Y 3, 122, .inl a23)), ((R 24), .inl (Y 3, 122, .inl a24)), ((R 25), .inl (Y 0, 6, .inl a25)), ((R 26), .inl (Y 0, 130, .inl a26)), ((R 28), .inl (Y 0, 12, .inl a28)), ((R 29), .inl (Y 0, 60, .inl a29)), ((R 30), .inl (Y 0, 60, .inl a30)), (m, .inr (10, mF R v0 v7 v8 v9 v15 v16 v17 v18 v19 v27 v31 v32 v33 v34 v38 v42 v44)), ((R 1), .inl (Y 0, 3, .inl a1))]) ?_ rfl rfl rfl rfl
        have hc_0 : (0 : Int32).toInt = 0 := by decide
        have hc_1 : (1 : Int32).toInt = 1 := by decide
        refine V_if_ne X (show (0 : Int32).toInt = 0 from by decide) 23 dX11_sung_18 (by decide) (fun c_18 => absurd c_18 (by decide)) (fun _ => ?_)
        refine V_iconst (v := (-1 : Int32)) X (by decide) dX11_sung_21 ?_
        refine V_ws (ws' := [(m, .inr (10, mF R v0 v7 v8 v9 v15 v16 v17 v18 v19 v27 v31 v32 v33 v34 v38 v42 v44)), ((R 1), .inl (Y 0, 3, .inl a1)), ((R 2), .inl (Y 0, 36, .inl a2)), ((R 3), .inl (Y 0, 36, .inl a3)), ((R 4), .inl (Y 0, 36, .inl a4)), ((R 5), .inl (Y 0, 24, .inl a5)), ((R 6), .inl (Y 0, 4, .inl a6)), ((R 20), .inl (Y 2, 260, .inl a20)), ((R 21), .inl (Y 0, 260, .inl a21)), ((R 22), .inl (Y 0, 2, .inl a22)), ((R 23), .inl (Y 3, 122, .inl a23)), ((R 24), .inl (Y 3, 122, .inl a24)), ((R 25), .inl (Y 0, 6, .inl a25)), ((R 26), .inl (Y 0, 130, .inl a26)), ((R 28), .inl (Y 0, 12, .inl a28)), ((R 29), .inl (Y 0, 60, .inl a29)), ((R 30), .inl (Y 0, 60, .inl a30))]) [15, 16, 0, 1, 2, 3, 4, 5, 6, 7, 8, 9, 10, 11, 12, 13, 14] rfl rfl rfl ?_
        exact V_iret X hr dX11_sung_22 (Or.inl ⟨rfl, rfl, (by omega)⟩)
  · refine V_to (pc' := 5) (ls' := [(0, .ref m), (1, .int y), (2, .int k_), (3, .int w_)]) (st' := [.int (0 : Int32)]) (ws' := [((R 2), .inl (Y 0, 36, .inl a2)), ((R 3), .inl (Y 0, 36, .inl a3)), ((R 4), .inl (Y 0, 36, .inl a4)), ((R 5), .inl (Y 0, 24, .inl a5)), ((R 6), .inl (Y 0, 4, .inl a6)), ((R 20), .inl (Y 2, 260, .inl a20)), ((R 21), .inl (Y 0, 260, .inl a21)), ((R 22), .inl (Y 0, 2, .inl a22)), ((R 23), .inl (Y 3, 122, .inl a23)), ((R 24), .inl (Y 3, 122, .inl a24)), ((R 25), .inl (Y 0, 6, .inl a25)), ((R 26), .inl (Y 0, 130, .inl a26)), ((R 28), .inl (Y 0, 12, .inl a28)), ((R 29), .inl (Y 0, 60, .inl a29)), ((R 30), .inl (Y 0, 60, .inl a30)), (m, .inr (10, mF R v0 v7 v8 v9 v15 v16 v17 v18 v19 v27 v31 v32 v33 v34 v38 v42 v44)), ((R 1), .inl (Y 0, 3, .inl a1))]) ?_ rfl rfl rfl rfl
    refine V_if_eq X (show (0 : Int32).toInt = 0 from by decide) 21 dX11_sung_5 (by decide) (fun _ => ?_) (fun c_5 => absurd c_5 (by decide))
    refine V_iconst (v := (-1 : Int32)) X (by decide) dX11_sung_21 ?_
    refine V_ws (ws' := [(m, .inr (10, mF R v0 v7 v8 v9 v15 v16 v17 v18 v19 v27 v31 v32 v33 v34 v38 v42 v44)), ((R 1), .inl (Y 0, 3, .inl a1)), ((R 2), .inl (Y 0, 36, .inl a2)), ((R 3), .inl (Y 0, 36, .inl a3)), ((R 4), .inl (Y 0, 36, .inl a4)), ((R 5), .inl (Y 0, 24, .inl a5)), ((R 6), .inl (Y 0, 4, .inl a6)), ((R 20), .inl (Y 2, 260, .inl a20)), ((R 21), .inl (Y 0, 260, .inl a21)), ((R 22), .inl (Y 0, 2, .inl a22)), ((R 23), .inl (Y 3, 122, .inl a23)), ((R 24), .inl (Y 3, 122, .inl a24)), ((R 25), .inl (Y 0, 6, .inl a25)), ((R 26), .inl (Y 0, 130, .inl a26)), ((R 28), .inl (Y 0, 12, .inl a28)), ((R 29), .inl (Y 0, 60, .inl a29)), ((R 30), .inl (Y 0, 60, .inl a30))]) [15, 16, 0, 1, 2, 3, 4, 5, 6, 7, 8, 9, 10, 11, 12, 13, 14] rfl rfl rfl ?_
    exact V_iret X hr dX11_sung_22 (Or.inl ⟨rfl, rfl, (by omega)⟩)
