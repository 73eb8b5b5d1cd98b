/-! ===== the law's steps on a stack, as the class works them ===== -/
def bothL (op : Int) (a b : Int32) : Int32 :=
  if op = 124 then (if a.toInt ≠ 0 ∨ b.toInt ≠ 0 then 1 else 0) else if op = 38 then (if a.toInt ≠ 0 ∧ b.toInt ≠ 0 then 1 else 0)
  else if op = 60 then (if a.toInt < b.toInt then 1 else 0) else if op = 61 then (if a.toInt = b.toInt then 1 else 0) else if op = 62 then (if b.toInt < a.toInt then 1 else 0)
  else if op = 43 then a + b else if op = 45 then a - b else if op = 42 then a * b
  else if op = 47 then (if b.toInt = 0 then 0 else a / b) else if op = 37 then (if b.toInt = 0 then 0 else a - a / b * b) else 0
def wk (fs fw nm : Nat → Int32) (sz : Nat) : Nat → Nat → Int → Nat → (Nat → Int32) → Int32
  | 0, _, _, _, _ => 0
  | f + 1, a, nx, tp, k =>
    if sz ≤ a then 0 else if tp < 2 ∨ 128 ≤ tp then 0 else if (a : Int) < nx then wk fs fw nm sz f (a + 1) nx tp k
    else if (fs a).toInt = 48 then wk fs fw nm sz f (a + 1) nx (tp + 1) (upd k tp (fw a))
    else if (fs a).toInt = 97 then wk fs fw nm sz f (a + 1) nx (tp + 1) (upd k tp (nm (fw a).toInt.toNat))
    else if (fs a).toInt = 126 then wk fs fw nm sz f (a + 1) nx tp (upd k (tp - 1) (-(k (tp - 1))))
    else if (fs a).toInt = 33 then wk fs fw nm sz f (a + 1) nx tp (upd k (tp - 1) (if (k (tp - 1)).toInt = 0 then 1 else 0))
    else if (fs a).toInt = 59 then k (tp - 1)
    else if (fs a).toInt = 63 then (if (k (tp - 1)).toInt = 0 then wk fs fw nm sz f (a + 1) (fw a).toInt (tp - 1) k else wk fs fw nm sz f (a + 1) nx (tp - 1) k)
    else wk fs fw nm sz f (a + 1) nx (tp - 1) (upd k (tp - 1 - 1) (bothL (fs a).toInt (k (tp - 1 - 1)) (k (tp - 1))))
/-- what the names stand for -/
def NMR (nm : Nat → Int32) (lk su tm : Nat) : Prop := (nm 0).toInt = ((lk / 2 ^ 0 % 2 : Nat) : Int) ∧ (nm 1).toInt = ((lk / 2 ^ 1 % 2 : Nat) : Int) ∧ (nm 2).toInt = ((lk / 2 ^ 2 % 2 : Nat) : Int) ∧ (nm 3).toInt = ((lk / 2 ^ 3 % 2 : Nat) : Int) ∧ (nm 4).toInt = ((su : Nat) : Int) ∧ (nm 5).toInt = ((tm : Nat) : Int)
/-- the steps give F -/
def CODE (fs fw : Nat → Int32) (lz : Int32) (F : Nat → Nat → Nat → Int32) : Prop := ∃ sz : Nat, lz.toInt = ((sz : Nat) : Int) ∧ sz ≤ 128 ∧ (∀ a, a < sz → (fs a).toInt = 97 → ∃ j : Nat, (fw a).toInt = ((j : Nat) : Int) ∧ j < 6) ∧ ∀ lk su tm : Nat, lk < 16 → su < 10 → tm ≤ 60 → ∀ nm k, NMR nm lk su tm → wk fs fw nm sz (sz + 1) 0 0 2 k = F lk su tm
/-- the steps give F, and what is kept of it is so -/
def LWR (fs fw : Nat → Int32) (lz : Int32) (fg fi : Nat → Int32) (F : Nat → Nat → Nat → Int32) : Prop := CODE fs fw lz F ∧ ∀ i, i < 640 → (fi i).toInt ≠ 0 → fg i = F (i % 16) (i / 16 % 10) (i / 160)
theorem upd_at {f : Nat → Int32} {k : Nat} {x y : Int32} (h : x = y) : upd f k x k = y := by unfold upd; rw [if_pos rfl]; exact h
theorem LWR_kept {fs fw : Nat → Int32} {lz : Int32} {fg fi : Nat → Int32} {F : Nat → Nat → Nat → Int32} (h : LWR fs fw lz fg fi F) {lk su tm : Nat} (h1 : lk < 16) (h2 : su < 10) (h3 : (tm * 10 + su) * 16 + lk < 640) (h4 : (fi ((tm * 10 + su) * 16 + lk)).toInt ≠ 0) : fg ((tm * 10 + su) * 16 + lk) = F lk su tm := by
  rw [h.2 _ h3 h4]
  congr 1 <;> omega
theorem LWR_new {fs fw : Nat → Int32} {lz : Int32} {fg fi : Nat → Int32} {F : Nat → Nat → Nat → Int32} (h : LWR fs fw lz fg fi F) {lk su tm : Nat} (h1 : lk < 16) (h2 : su < 10) (_h3 : (tm * 10 + su) * 16 + lk < 640) {r x : Int32} (hr : r = F lk su tm) : LWR fs fw lz (upd fg ((tm * 10 + su) * 16 + lk) r) (upd fi ((tm * 10 + su) * 16 + lk) x) F := by
  refine ⟨h.1, fun i hi hne => ?_⟩
  unfold upd at hne ⊢
  by_cases e : i = (tm * 10 + su) * 16 + lk
  · rw [if_pos e, hr, e]
    congr 1 <;> omega
  · rw [if_neg e] at hne ⊢
    exact h.2 i hi hne
def SUR (f : Nat → Int32) (S : Nat → Nat) : Prop := ∀ p, p < 4 → (f p).toInt = ((S p : Nat) : Int) ∧ S p < 10
theorem minds_ok {f : Nat → Int32} {B : Nat → Bool} (h : HV f B) {l last q : Nat} {x : Int32} (hl : l < 12) (hn : l ≠ last) (hq : q < 4) (hx : x = f (2 * l + 0) ||| f (2 * l + 1)) : bt x q = okP B last l q := by
  rw [hx, b_or, h (2 * l + 0) (by omega) q (by omega), h (2 * l + 1) (by omega) q (by omega)]
  unfold okP
  rw [show 24 * q + (2 * l + 0) = 24 * q + 2 * l by omega, show 24 * q + (2 * l + 1) = 24 * q + 2 * l + 1 by omega]
  simp [hn, hq]
theorem minds_0 {f : Nat → Int32} {B : Nat → Bool} (h : HV f B) {l last : Nat} {x : Int32} (hl : l < 12) (hn : l ≠ last) (hx : x = f (2 * l + 0) ||| f (2 * l + 1)) (h0 : x.toInt = 0) : ∀ q, q < 4 → okP B last l q = false := by
  intro q hq
  rw [← minds_ok h hl hn hq hx, show x = 0 from Int32.toInt_inj.mp (h0.trans cI_0.symm), b_0]
theorem ok_last {B : Nat → Bool} {l last : Nat} (h : l = last) : ∀ q, q < 4 → okP B last l q = false := by
  intro q _
  unfold okP; simp [h]
theorem SCI_e {ok : Nat → Nat → Bool} {val : Nat → Nat → Int} {l q : Nat} {m f b : Int} (h : SCI ok val (4 * l + q) m f b) (hq : q = 4) : SCI ok val (4 * (l + 1)) m f b := by
  subst hq; rw [show 4 * (l + 1) = 4 * l + 4 by omega]; exact h
theorem nxt_r {F : Nat → Nat → Nat → Int32} {S : Nat → Nat} {T : Nat → Nat} {B : Nat → Bool} {n l : Nat} {H : Hist} {m f b : Int} (h : SCI (okP B (hLast H)) (gvl F S T H) (4 * l) m f b) (e : l = n) : f = oL (nxt F S T B n H) ∧ ∀ x, nxt F S T B n H = some x → b = ((x.2 : Nat) : Int) := by
  subst e; exact ⟨h.2.1, h.2.2⟩
theorem wk_s (fs fw nm : Nat → Int32) (sz f a : Nat) (nx : Int) (tp : Nat) (k : Nat → Int32) : wk fs fw nm sz (f + 1) a nx tp k = (if sz ≤ a then 0 else if tp < 2 ∨ 128 ≤ tp then 0 else if (a : Int) < nx then wk fs fw nm sz f (a + 1) nx tp k
    else if (fs a).toInt = 48 then wk fs fw nm sz f (a + 1) nx (tp + 1) (upd k tp (fw a))
    else if (fs a).toInt = 97 then wk fs fw nm sz f (a + 1) nx (tp + 1) (upd k tp (nm (fw a).toInt.toNat))
    else if (fs a).toInt = 126 then wk fs fw nm sz f (a + 1) nx tp (upd k (tp - 1) (-(k (tp - 1))))
    else if (fs a).toInt = 33 then wk fs fw nm sz f (a + 1) nx tp (upd k (tp - 1) (if (k (tp - 1)).toInt = 0 then 1 else 0))
    else if (fs a).toInt = 59 then k (tp - 1)
    else if (fs a).toInt = 63 then (if (k (tp - 1)).toInt = 0 then wk fs fw nm sz f (a + 1) (fw a).toInt (tp - 1) k else wk fs fw nm sz f (a + 1) nx (tp - 1) k)
    else wk fs fw nm sz f (a + 1) nx (tp - 1) (upd k (tp - 1 - 1) (bothL (fs a).toInt (k (tp - 1 - 1)) (k (tp - 1))))) := rfl
theorem wk_end {fs fw nm : Nat → Int32} {sz fu a tp : Nat} {nx : Int} {k : Nat → Int32} {v : Int32} (h : wk fs fw nm sz fu a nx tp k = v) (hf : fu + a = sz + 1) (ha : a = sz) : (0 : Int32) = v := by
  obtain ⟨f, rfl⟩ : ∃ f, fu = f + 1 := ⟨fu - 1, by omega⟩
  rw [wk_s, if_pos (by omega)] at h
  exact h
theorem wk_lo {fs fw nm : Nat → Int32} {sz fu a tp : Nat} {nx : Int} {k : Nat → Int32} {v : Int32} (h : wk fs fw nm sz fu a nx tp k = v) (hf : fu + a = sz + 1) (ha : a < sz) (h2 : tp < 2 ∨ 128 ≤ tp) : (0 : Int32) = v := by
  obtain ⟨f, rfl⟩ : ∃ f, fu = f + 1 := ⟨fu - 1, by omega⟩
  rw [wk_s, if_neg (by omega), if_pos h2] at h
  exact h
theorem wk_skip {fs fw nm : Nat → Int32} {sz fu a tp : Nat} {nx : Int} {k : Nat → Int32} {v : Int32} (h : wk fs fw nm sz fu a nx tp k = v) (hf : fu + a = sz + 1) (ha : a < sz) (h2 : 2 ≤ tp) (h3 : tp < 128) (hn : (a : Int) < nx) : wk fs fw nm sz (fu - 1) (a + 1) nx tp k = v := by
  obtain ⟨f, rfl⟩ : ∃ f, fu = f + 1 := ⟨fu - 1, by omega⟩
  rw [wk_s, if_neg (by omega), if_neg (by omega), if_pos hn] at h
  exact h
theorem wk_48 {fs fw nm : Nat → Int32} {sz fu a tp : Nat} {nx : Int} {k : Nat → Int32} {v : Int32} (h : wk fs fw nm sz fu a nx tp k = v) (hf : fu + a = sz + 1) (ha : a < sz) (h2 : 2 ≤ tp) (h3 : tp < 128)(hn : nx ≤ (a : Int)) (hc : (fs a).toInt = 48) : wk fs fw nm sz (fu - 1) (a + 1) nx (tp + 1) (upd k tp (fw a)) = v := by
  obtain ⟨f, rfl⟩ : ∃ f, fu = f + 1 := ⟨fu - 1, by omega⟩
  rw [wk_s, if_neg (by omega), if_neg (by omega), if_neg (by omega), if_pos hc] at h
  exact h
theorem wk_97 {fs fw nm : Nat → Int32} {sz fu a tp : Nat} {nx : Int} {k : Nat → Int32} {v : Int32} (h : wk fs fw nm sz fu a nx tp k = v) (hf : fu + a = sz + 1) (ha : a < sz) (h2 : 2 ≤ tp) (h3 : tp < 128)(hn : nx ≤ (a : Int)) (hc : (fs a).toInt = 97) {j : Nat} (hj : (fw a).toInt = ((j : Nat) : Int)) : wk fs fw nm sz (fu - 1) (a + 1) nx (tp + 1) (upd k tp (nm j)) = v := by
  obtain ⟨f, rfl⟩ : ∃ f, fu = f + 1 := ⟨fu - 1, by omega⟩
  rw [wk_s, if_neg (by omega), if_neg (by omega), if_neg (by omega), if_neg (by omega), if_pos hc, show (fw a).toInt.toNat = j by omega] at h
  exact h
theorem wk_126 {fs fw nm : Nat → Int32} {sz fu a tp : Nat} {nx : Int} {k : Nat → Int32} {v : Int32} (h : wk fs fw nm sz fu a nx tp k = v) (hf : fu + a = sz + 1) (ha : a < sz) (h2 : 2 ≤ tp) (h3 : tp < 128)(hn : nx ≤ (a : Int)) (hc : (fs a).toInt = 126) {x : Int32} (hx : x = -(k (tp - 1))) : wk fs fw nm sz (fu - 1) (a + 1) nx tp (upd k (tp - 1) x) = v := by
  obtain ⟨f, rfl⟩ : ∃ f, fu = f + 1 := ⟨fu - 1, by omega⟩
  rw [wk_s, if_neg (by omega), if_neg (by omega), if_neg (by omega), if_neg (by omega), if_neg (by omega), if_pos hc, ← hx] at h
  exact h
theorem wk_33a {fs fw nm : Nat → Int32} {sz fu a tp : Nat} {nx : Int} {k : Nat → Int32} {v : Int32} (h : wk fs fw nm sz fu a nx tp k = v) (hf : fu + a = sz + 1) (ha : a < sz) (h2 : 2 ≤ tp) (h3 : tp < 128)(hn : nx ≤ (a : Int)) (hc : (fs a).toInt = 33) (hz : (k (tp - 1)).toInt ≠ 0) : wk fs fw nm sz (fu - 1) (a + 1) nx tp (upd k (tp - 1) (0 : Int32)) = v := by
  obtain ⟨f, rfl⟩ : ∃ f, fu = f + 1 := ⟨fu - 1, by omega⟩
  rw [wk_s, if_neg (by omega), if_neg (by omega), if_neg (by omega), if_neg (by omega), if_neg (by omega), if_neg (by omega), if_pos hc, if_neg hz] at h
  exact h
theorem wk_33b {fs fw nm : Nat → Int32} {sz fu a tp : Nat} {nx : Int} {k : Nat → Int32} {v : Int32} (h : wk fs fw nm sz fu a nx tp k = v) (hf : fu + a = sz + 1) (ha : a < sz) (h2 : 2 ≤ tp) (h3 : tp < 128)(hn : nx ≤ (a : Int)) (hc : (fs a).toInt = 33) (hz : (k (tp - 1)).toInt = 0) : wk fs fw nm sz (fu - 1) (a + 1) nx tp (upd k (tp - 1) (1 : Int32)) = v := by
  obtain ⟨f, rfl⟩ : ∃ f, fu = f + 1 := ⟨fu - 1, by omega⟩
  rw [wk_s, if_neg (by omega), if_neg (by omega), if_neg (by omega), if_neg (by omega), if_neg (by omega), if_neg (by omega), if_pos hc, if_pos hz] at h
  exact h
theorem wk_59 {fs fw nm : Nat → Int32} {sz fu a tp : Nat} {nx : Int} {k : Nat → Int32} {v : Int32} (h : wk fs fw nm sz fu a nx tp k = v) (hf : fu + a = sz + 1) (ha : a < sz) (h2 : 2 ≤ tp) (h3 : tp < 128)(hn : nx ≤ (a : Int)) (hc : (fs a).toInt = 59) : k (tp - 1) = v := by
  obtain ⟨f, rfl⟩ : ∃ f, fu = f + 1 := ⟨fu - 1, by omega⟩
  rw [wk_s, if_neg (by omega), if_neg (by omega), if_neg (by omega), if_neg (by omega), if_neg (by omega), if_neg (by omega), if_neg (by omega), if_pos hc] at h
  exact h
theorem wk_63a {fs fw nm : Nat → Int32} {sz fu a tp : Nat} {nx : Int} {k : Nat → Int32} {v : Int32} (h : wk fs fw nm sz fu a nx tp k = v) (hf : fu + a = sz + 1) (ha : a < sz) (h2 : 2 ≤ tp) (h3 : tp < 128)(hn : nx ≤ (a : Int)) (hc : (fs a).toInt = 63) (hz : (k (tp - 1)).toInt ≠ 0) : wk fs fw nm sz (fu - 1) (a + 1) nx (tp - 1) k = v := by
  obtain ⟨f, rfl⟩ : ∃ f, fu = f + 1 := ⟨fu - 1, by omega⟩
  rw [wk_s, if_neg (by omega), if_neg (by omega), if_neg (by omega), if_neg (by omega), if_neg (by omega), if_neg (by omega), if_neg (by omega), if_neg (by omega), if_pos hc, if_neg hz] at h
  exact h
theorem wk_63b {fs fw nm : Nat → Int32} {sz fu a tp : Nat} {nx : Int} {k : Nat → Int32} {v : Int32} (h : wk fs fw nm sz fu a nx tp k = v) (hf : fu + a = sz + 1) (ha : a < sz) (h2 : 2 ≤ tp) (h3 : tp < 128)(hn : nx ≤ (a : Int)) (hc : (fs a).toInt = 63) (hz : (k (tp - 1)).toInt = 0) : wk fs fw nm sz (fu - 1) (a + 1) (fw a).toInt (tp - 1) k = v := by
  obtain ⟨f, rfl⟩ : ∃ f, fu = f + 1 := ⟨fu - 1, by omega⟩
  rw [wk_s, if_neg (by omega), if_neg (by omega), if_neg (by omega), if_neg (by omega), if_neg (by omega), if_neg (by omega), if_neg (by omega), if_neg (by omega), if_pos hc, if_pos hz] at h
  exact h
theorem wk_op {fs fw nm : Nat → Int32} {sz fu a tp : Nat} {nx : Int} {k : Nat → Int32} {v : Int32} (h : wk fs fw nm sz fu a nx tp k = v) (hf : fu + a = sz + 1) (ha : a < sz) (h2 : 2 ≤ tp) (h3 : tp < 128)(hn : nx ≤ (a : Int)) (hc : (fs a).toInt ≠ 33 ∧ (fs a).toInt ≠ 48 ∧ (fs a).toInt ≠ 59 ∧ (fs a).toInt ≠ 63 ∧ (fs a).toInt ≠ 97 ∧ (fs a).toInt ≠ 126) {x : Int32} (hx : x = bothL (fs a).toInt (k (tp - 1 - 1)) (k (tp - 1))) : wk fs fw nm sz (fu - 1) (a + 1) nx (tp - 1) (upd k (tp - 1 - 1) x) = v := by
  obtain ⟨f, rfl⟩ : ∃ f, fu = f + 1 := ⟨fu - 1, by omega⟩
  rw [wk_s, if_neg (by omega), if_neg (by omega), if_neg (by omega), if_neg (by omega), if_neg (by omega), if_neg (by omega), if_neg (by omega), if_neg (by omega), if_neg (by omega), ← hx] at h
  exact h
theorem sh_bit {x y z i : Int32} {lk q : Nat} (hz : z = y &&& 1) (hy : y = x >>> (i &&& 31)) (hx : x.toInt = ((lk : Nat) : Int)) (hi : i.toInt = ((q : Nat) : Int)) (hq : q < 31) : z.toInt = ((lk / 2 ^ q % 2 : Nat) : Int) := by
  have hl : lk < 2 ^ 31 := by have := (tI_bd x).2; omega
  have h1 : y = nI (lk / 2 ^ q) := by
    rw [hy, i_of hx hl, i_of hi (by omega)]
    exact pk_shrN hl _ q (s_l q (by omega))
  have h2 : lk / 2 ^ q ≤ lk := Nat.div_le_self _ _
  have h3 : z = nI (lk / 2 ^ q % 2 ^ 1) := by
    rw [hz, h1]
    exact pk_andN (by omega) 1 (by decide)
  rw [h3]
  exact nI_toInt (by have := Nat.mod_lt (lk / 2 ^ q) (show 0 < 2 ^ 1 by decide); omega)
theorem ne0 {b : Int32} (h : b.toInt ≠ 0) : ¬ b = 0 := fun q => h (by rw [q]; exact cI_0)
theorem bo_or1 {q : Int} {a b : Int32} (h : q = 124) (hc : a.toInt ≠ 0 ∨ b.toInt ≠ 0) : (1 : Int32) = bothL q a b := by
  subst h; simp [bothL, hc]
theorem bo_or0 {q : Int} {a b : Int32} (h : q = 124) (h1 : a.toInt = 0) (h2 : b.toInt = 0) : (0 : Int32) = bothL q a b := by
  subst h; simp [bothL, h1, h2]
theorem bo_and1 {q : Int} {a b : Int32} (h : q = 38) (h1 : a.toInt ≠ 0) (h2 : b.toInt ≠ 0) : (1 : Int32) = bothL q a b := by
  subst h; simp [bothL, h1, h2]
theorem bo_and0 {q : Int} {a b : Int32} (h : q = 38) (hc : a.toInt = 0 ∨ b.toInt = 0) : (0 : Int32) = bothL q a b := by
  subst h; simp [bothL]; omega
theorem bo_lt1 {q : Int} {a b : Int32} (h : q = 60) (hc : a.toInt < b.toInt) : (1 : Int32) = bothL q a b := by
  subst h; simp [bothL, hc]
theorem bo_lt0 {q : Int} {a b : Int32} (h : q = 60) (hc : b.toInt ≤ a.toInt) : (0 : Int32) = bothL q a b := by
  subst h; simp [bothL, Int.not_lt.mpr hc]
theorem bo_eq1 {q : Int} {a b : Int32} (h : q = 61) (hc : a.toInt = b.toInt) : (1 : Int32) = bothL q a b := by
  subst h; simp [bothL, hc]
theorem bo_eq0 {q : Int} {a b : Int32} (h : q = 61) (hc : a.toInt ≠ b.toInt) : (0 : Int32) = bothL q a b := by
  subst h; unfold bothL; rw [if_neg (by decide), if_neg (by decide), if_neg (by decide), if_pos rfl, if_neg hc]
theorem bo_gt1 {q : Int} {a b : Int32} (h : q = 62) (hc : b.toInt < a.toInt) : (1 : Int32) = bothL q a b := by
  subst h; simp [bothL, hc]
theorem bo_gt0 {q : Int} {a b : Int32} (h : q = 62) (hc : a.toInt ≤ b.toInt) : (0 : Int32) = bothL q a b := by
  subst h; simp [bothL, Int.not_lt.mpr hc]
theorem bo_add {q : Int} {a b r : Int32} (h : q = 43) (hr : r = a + b) : r = bothL q a b := by
  subst h; simp [bothL, hr]
theorem bo_sub {q : Int} {a b r : Int32} (h : q = 45) (hr : r = a - b) : r = bothL q a b := by
  subst h; simp [bothL, hr]
theorem bo_mul {q : Int} {a b r : Int32} (h : q = 42) (hr : r = a * b) : r = bothL q a b := by
  subst h; simp [bothL, hr]
theorem bo_div {q : Int} {a b r : Int32} (h : q = 47) (h0 : b.toInt ≠ 0) (hr : r = a / b) : r = bothL q a b := by
  subst h; rw [hr]; unfold bothL; rw [if_neg (by decide), if_neg (by decide), if_neg (by decide), if_neg (by decide), if_neg (by decide), if_neg (by decide), if_neg (by decide), if_neg (by decide), if_pos rfl, if_neg h0]
theorem bo_div0 {q : Int} {a b : Int32} (h : q = 47) (h0 : b.toInt = 0) : (0 : Int32) = bothL q a b := by
  subst h; simp [bothL, h0]
theorem bo_rem {q : Int} {a b r : Int32} (h : q = 37) (h0 : b.toInt ≠ 0) (hr : r = a - a / b * b) : r = bothL q a b := by
  subst h; rw [hr]; unfold bothL; rw [if_neg (by decide), if_neg (by decide), if_neg (by decide), if_neg (by decide), if_neg (by decide), if_neg (by decide), if_neg (by decide), if_neg (by decide), if_neg (by decide), if_pos rfl, if_neg h0]
theorem bo_rem0 {q : Int} {a b : Int32} (h : q = 37) (h0 : b.toInt = 0) : (0 : Int32) = bothL q a b := by
  subst h; simp [bothL, h0]
theorem bo_none {q : Int} {a b : Int32} (h : q ≠ 37 ∧ q ≠ 38 ∧ q ≠ 42 ∧ q ≠ 43 ∧ q ≠ 45 ∧ q ≠ 47 ∧ q ≠ 60 ∧ q ≠ 61 ∧ q ≠ 62 ∧ q ≠ 124) : (0 : Int32) = bothL q a b := by
  obtain ⟨h1, h2, h3, h4, h5, h6, h7, h8, h9, h10⟩ := h
  simp [bothL, h1, h2, h3, h4, h5, h6, h7, h8, h9, h10]
theorem SCI_y2 {ok : Nat → Nat → Bool} {val : Nat → Nat → Int} {l p : Nat} {m f b v f2 b2 : Int} (hp : p < 4) (h : SCI ok val (4 * l + p) m f b) (h0 : ok l p = true) (hv : v = val l p) (h1 : m < v) (hf : f2 = ((l : Nat) : Int)) (hb : b2 = ((p : Nat) : Int)) : SCI ok val (4 * l + (p + 1)) v f2 b2 := by
  subst hf; subst hb; exact SCI_y hp h h0 hv h1
