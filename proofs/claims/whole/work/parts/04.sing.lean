/-! ===== a singing: its LINES, the latest first, each with who brought it up ===== -/
abbrev Hist : Type := List (Nat × Int)
def hLast (H : Hist) : Nat := (H.headD (0, 0)).1
def hCnt : Hist → Nat → Nat
  | [], _ => 0
  | x :: H, l => (if x.1 = l then 1 else 0) + hCnt H l
def hR : Hist → Nat
  | [] => 0
  | x :: H => if hR H = H.length ∧ (H.length = 0 ∨ x.1 = hLast H + 1) then hR H + 1 else hR H
def hAt (H : Hist) (k : Nat) : Nat × Int := H.getD (H.length - 1 - k) (0, 0)
theorem hCnt_le (H : Hist) (l : Nat) : hCnt H l ≤ H.length := by
  induction H with
  | nil => exact Nat.le_refl 0
  | cons x H ih =>
    show (if x.1 = l then 1 else 0) + hCnt H l ≤ H.length + 1
    split <;> omega
theorem hR_le (H : Hist) : hR H ≤ H.length := by
  induction H with
  | nil => exact Nat.le_refl 0
  | cons x H ih =>
    show (if hR H = H.length ∧ (H.length = 0 ∨ x.1 = hLast H + 1) then hR H + 1 else hR H) ≤ H.length + 1
    split <;> omega
theorem hR_y {H : Hist} {x : Nat × Int} (h1 : hR H = H.length) (h2 : H.length = 0 ∨ x.1 = hLast H + 1) : hR (x :: H) = hR H + 1 := by
  show (if hR H = H.length ∧ (H.length = 0 ∨ x.1 = hLast H + 1) then hR H + 1 else hR H) = _
  rw [if_pos ⟨h1, h2⟩]
theorem hR_n {H : Hist} {x : Nat × Int} (h : hR H ≠ H.length ∨ (H.length ≠ 0 ∧ x.1 ≠ hLast H + 1)) : hR (x :: H) = hR H := by
  show (if hR H = H.length ∧ (H.length = 0 ∨ x.1 = hLast H + 1) then hR H + 1 else hR H) = _
  rw [if_neg (by omega)]
theorem hAt_new (H : Hist) (x : Nat × Int) : hAt (x :: H) H.length = x := by
  unfold hAt
  rw [List.length_cons, show H.length + 1 - 1 - H.length = 0 by omega]
  rfl
theorem hAt_old (H : Hist) (x : Nat × Int) {k : Nat} (h : k < H.length) : hAt (x :: H) k = hAt H k := by
  unfold hAt
  rw [List.length_cons, show H.length + 1 - 1 - k = (H.length - 1 - k) + 1 by omega]
  rfl
theorem hAt_last {H : Hist} (h : 0 < H.length) : (hAt H (H.length - 1)).1 = hLast H := by
  unfold hAt hLast
  rw [show H.length - 1 - (H.length - 1) = 0 by omega]
  cases H with
  | nil => exact absurd h (Nat.lt_irrefl 0)
  | cons x H => rfl
/-- the rows of a singing hold its history -/
def SG (fl fb ft : Nat → Int32) (H : Hist) : Prop := (∀ k, k < H.length → (fl k).toInt = (((hAt H k).1 : Nat) : Int) ∧ (fb k).toInt = (hAt H k).2) ∧ (∀ l, l < 12 → (ft l).toInt = ((hCnt H l : Nat) : Int)) ∧ ∀ x ∈ H, x.1 < 12
theorem SG_nil {fl fb ft : Nat → Int32} (h : ∀ j, j < 12 → ft j = 0) : SG fl fb ft [] := ⟨fun _ h => absurd h (Nat.not_lt_zero _), fun l hl => by rw [h l hl]; exact cI_0, fun _ h => absurd h List.not_mem_nil⟩
theorem SG_add {fl fb ft : Nat → Int32} {H : Hist} (h : SG fl fb ft H) {l : Nat} {b : Int} {x y t : Int32} (hl : l < 12) (hx : x.toInt = ((l : Nat) : Int)) (hy : y.toInt = b) (ht : t.toInt = ((hCnt H l + 1 : Nat) : Int)) : SG (upd fl H.length x) (upd fb H.length y) (upd ft l t) ((l, b) :: H) := by
  obtain ⟨h1, h2, h3⟩ := h
  refine ⟨fun k hk => ?_, fun j hj => ?_, fun q hq => ?_⟩
  · rw [List.length_cons] at hk
    unfold upd
    by_cases e : k = H.length
    · rw [if_pos e, if_pos e, e, hAt_new]; exact ⟨hx, hy⟩
    · rw [if_neg e, if_neg e, hAt_old H (l, b) (by omega)]; exact h1 k (by omega)
  · show (upd ft l t j).toInt = (((if l = j then 1 else 0) + hCnt H j : Nat) : Int)
    unfold upd
    by_cases e : j = l
    · rw [if_pos e, if_pos e.symm, ht, e]; omega
    · rw [if_neg e, if_neg (fun q => e q.symm), h2 j hj]; omega
  · rcases List.mem_cons.mp hq with rfl | hq
    · exact hl
    · exact h3 q hq
theorem SG_last {fl fb ft : Nat → Int32} {H : Hist} (h : SG fl fb ft H) (h0 : 0 < H.length) : (fl (H.length - 1)).toInt = ((hLast H : Nat) : Int) := by
  rw [(h.1 _ (by omega)).1, hAt_last h0]
theorem SG_lt {fl fb ft : Nat → Int32} {H : Hist} (h : SG fl fb ft H) : hLast H < 12 := by
  cases H with
  | nil => exact Nat.succ_pos 11
  | cons x H => exact h.2.2 x List.mem_cons_self
/-! ===== what comes up ===== -/
def okP (B : Nat → Bool) (last l p : Nat) : Bool := decide (l ≠ last) && (B (24 * p + 2 * l) || B (24 * p + 2 * l + 1))
def lkT (T : Nat → Nat) (a b : Nat) : Nat := (if b = a + 1 then 1 else 0) + (if T (3 * b + 0) = T (3 * a + 0) then 2 else 0) + (if T (3 * b + 1) = T (3 * a + 1) then 4 else 0) + (if T (3 * b + 2) = T (3 * a + 2) then 8 else 0)
theorem lkT_lt (T : Nat → Nat) (a b : Nat) : lkT T a b < 16 := by
  unfold lkT
  split <;> split <;> split <;> split <;> omega
def scan (ok : Nat → Nat → Bool) (val : Nat → Nat → Int) : Nat → Int × Option (Nat × Nat)
  | 0 => (0, none)
  | q + 1 => if ok (q / 4) (q % 4) = true ∧ (scan ok val q).1 < val (q / 4) (q % 4) then (val (q / 4) (q % 4), some (q / 4, q % 4)) else scan ok val q
def oL (o : Option (Nat × Nat)) : Int := match o with | none => -2 | some x => x.1
/-- where the scan stands -/
def SCI (ok : Nat → Nat → Bool) (val : Nat → Nat → Int) (q : Nat) (m f b : Int) : Prop := m = (scan ok val q).1 ∧ f = oL (scan ok val q).2 ∧ ∀ x, (scan ok val q).2 = some x → b = ((x.2 : Nat) : Int)
theorem SCI_0 (ok : Nat → Nat → Bool) (val : Nat → Nat → Int) (b : Int) : SCI ok val 0 0 (-2) b := ⟨rfl, rfl, fun x h => by cases h⟩
theorem scan_n {ok : Nat → Nat → Bool} {val : Nat → Nat → Int} {q : Nat} (h : ok (q / 4) (q % 4) = false ∨ val (q / 4) (q % 4) ≤ (scan ok val q).1) : scan ok val (q + 1) = scan ok val q := by
  show (if ok (q / 4) (q % 4) = true ∧ (scan ok val q).1 < val (q / 4) (q % 4) then (val (q / 4) (q % 4), some (q / 4, q % 4)) else scan ok val q) = _
  rw [if_neg]
  rintro ⟨h1, h2⟩
  rcases h with h | h
  · rw [h] at h1; cases h1
  · omega
theorem scan_y {ok : Nat → Nat → Bool} {val : Nat → Nat → Int} {q : Nat} (h1 : ok (q / 4) (q % 4) = true) (h2 : (scan ok val q).1 < val (q / 4) (q % 4)) : scan ok val (q + 1) = (val (q / 4) (q % 4), some (q / 4, q % 4)) := by
  show (if ok (q / 4) (q % 4) = true ∧ (scan ok val q).1 < val (q / 4) (q % 4) then (val (q / 4) (q % 4), some (q / 4, q % 4)) else scan ok val q) = _
  rw [if_pos ⟨h1, h2⟩]
theorem q4 {l p : Nat} (hp : p < 4) : (4 * l + p) / 4 = l ∧ (4 * l + p) % 4 = p := by omega
theorem SCI_n {ok : Nat → Nat → Bool} {val : Nat → Nat → Int} {l p : Nat} {m f b : Int} (hp : p < 4) (h : SCI ok val (4 * l + p) m f b) (h0 : ok l p = false ∨ val l p ≤ m) : SCI ok val (4 * l + (p + 1)) m f b := by
  unfold SCI at h ⊢
  rw [show 4 * l + (p + 1) = 4 * l + p + 1 by omega, scan_n (by rw [(q4 hp).1, (q4 hp).2, ← h.1]; exact h0)]
  exact h
theorem SCI_y {ok : Nat → Nat → Bool} {val : Nat → Nat → Int} {l p : Nat} {m f b v : Int} (hp : p < 4) (h : SCI ok val (4 * l + p) m f b) (h0 : ok l p = true) (hv : v = val l p) (h1 : m < v) : SCI ok val (4 * l + (p + 1)) v l p := by
  subst hv
  unfold SCI at h ⊢
  rw [show 4 * l + (p + 1) = 4 * l + p + 1 by omega, scan_y (by rw [(q4 hp).1, (q4 hp).2]; exact h0) (by rw [(q4 hp).1, (q4 hp).2, ← h.1]; exact h1), (q4 hp).1, (q4 hp).2]
  exact ⟨rfl, rfl, fun x hx => by cases hx; rfl⟩
theorem SCI_4 {ok : Nat → Nat → Bool} {val : Nat → Nat → Int} {l : Nat} {m f b : Int} (h : SCI ok val (4 * l) m f b) (h0 : ∀ p, p < 4 → ok l p = false) : SCI ok val (4 * (l + 1)) m f b := by
  have h1 := SCI_n (p := 0) (by omega) (by simpa using h) (Or.inl (h0 0 (by omega)))
  have h2 := SCI_n (p := 1) (by omega) h1 (Or.inl (h0 1 (by omega)))
  have h3 := SCI_n (p := 2) (by omega) h2 (Or.inl (h0 2 (by omega)))
  have h4 := SCI_n (p := 3) (by omega) h3 (Or.inl (h0 3 (by omega)))
  rw [show 4 * (l + 1) = 4 * l + (3 + 1) by omega]
  exact h4
/-- the value that the law gives -/
def gvl (F : Nat → Nat → Nat → Int32) (S : Nat → Nat) (T : Nat → Nat) (H : Hist) (l p : Nat) : Int := (F (lkT T (hLast H) l) (S p) (hCnt H l)).toInt
/-- the LINE that comes up, and who brings it up -/
def nxt (F : Nat → Nat → Nat → Int32) (S : Nat → Nat) (T : Nat → Nat) (B : Nat → Bool) (n : Nat) (H : Hist) : Option (Nat × Nat) := (scan (okP B (hLast H)) (gvl F S T H) (4 * n)).2
theorem scan_lt {ok : Nat → Nat → Bool} {val : Nat → Nat → Int} : ∀ (q : Nat) (x : Nat × Nat), (scan ok val q).2 = some x → 4 * x.1 + x.2 < q ∧ x.2 < 4 ∧ ok x.1 x.2 = true
  | 0, x, h => by cases h
  | q + 1, x, h => by
    by_cases c : ok (q / 4) (q % 4) = true ∧ (scan ok val q).1 < val (q / 4) (q % 4)
    · rw [scan_y c.1 c.2] at h
      cases h
      exact ⟨by show 4 * (q / 4) + q % 4 < q + 1; omega, Nat.mod_lt _ (by omega), c.1⟩
    · have hn : scan ok val (q + 1) = scan ok val q := by
        show (if ok (q / 4) (q % 4) = true ∧ (scan ok val q).1 < val (q / 4) (q % 4) then (val (q / 4) (q % 4), some (q / 4, q % 4)) else scan ok val q) = _
        rw [if_neg c]
      rw [hn] at h
      obtain ⟨h1, h2, h3⟩ := scan_lt q x h
      exact ⟨by omega, h2, h3⟩
theorem nxt_lt {F : Nat → Nat → Nat → Int32} {S : Nat → Nat} {T : Nat → Nat} {B : Nat → Bool} {n : Nat} {H : Hist} {x : Nat × Nat} (h : nxt F S T B n H = some x) : x.1 < n ∧ x.2 < 4 ∧ x.1 ≠ hLast H := by
  obtain ⟨h1, h2, h3⟩ := scan_lt _ _ h
  refine ⟨by omega, h2, ?_⟩
  unfold okP at h3
  rw [Bool.and_eq_true] at h3
  exact of_decide_eq_true h3.1
/-! ===== a singing goes on: its history, how it came out (3: it goes on), where ===== -/
abbrev Sst : Type := Hist × Int × Int
def stepG (nx : Hist → Option (Nat × Nat)) (can : Nat → Bool) (s : Sst) : Sst :=
  if s.2.1 ≠ 3 then s else if 60 ≤ s.1.length then (s.1, 2, hLast s.1) else
  match nx s.1 with
  | none => (s.1, 0, hLast s.1)
  | some x => if can x.1 = true then ((x.1, (x.2 : Int)) :: s.1, 3, s.2.2) else (s.1, 1, x.1)
def initG (can : Nat → Bool) (l : Nat) : Sst := if can l = true then ([(l, -2)], 3, 0) else ([], 1, l)
def itG (nx : Hist → Option (Nat × Nat)) (can : Nat → Bool) (s : Sst) : Nat → Sst
  | 0 => s
  | k + 1 => stepG nx can (itG nx can s k)
theorem stepG_fix {nx : Hist → Option (Nat × Nat)} {can : Nat → Bool} {s : Sst} (h : s.2.1 ≠ 3) : stepG nx can s = s := by
  unfold stepG; rw [if_pos h]
theorem itG_fix {nx : Hist → Option (Nat × Nat)} {can : Nat → Bool} {s : Sst} {k : Nat} (h : (itG nx can s k).2.1 ≠ 3) : ∀ d, itG nx can s (k + d) = itG nx can s k
  | 0 => rfl
  | d + 1 => by
    show stepG nx can (itG nx can s (k + d)) = _
    rw [itG_fix h d, stepG_fix h]
