/-! ===== EVENINGS, JUDGED, TWO SONGS, MIXED ===== -/
def evI (B : Nat → Bool) (p : Nat) : Nat → Option Nat
  | 0 => some 0
  | k + 1 => match evI B p k with
    | none => none
    | some c => if B (24 * p + k) = true then some c else if anyB B k = false then none else some (c + 1)
def evA (o : Option Nat) : Int := match o with | none => -2 | some c => (c : Int)
theorem evI_s {B : Nat → Bool} {p k c : Nat} (h : evI B p k = some c) : evI B p (k + 1) = if B (24 * p + k) = true then some c else if anyB B k = false then none else some (c + 1) := by
  show (match evI B p k with | none => none | some c => if B (24 * p + k) = true then some c else if anyB B k = false then none else some (c + 1)) = _
  rw [h]
theorem evI_y {B : Nat → Bool} {p k c : Nat} (h : evI B p k = some c) (h1 : B (24 * p + k) = true) : evI B p (k + 1) = some c := by rw [evI_s h, if_pos h1]
theorem evI_c {B : Nat → Bool} {p k c : Nat} (h : evI B p k = some c) (h1 : B (24 * p + k) = false) (h2 : anyB B k ≠ false) : evI B p (k + 1) = some (c + 1) := by
  rw [evI_s h, if_neg (by rw [h1]; decide), if_neg h2]
theorem evI_0 {B : Nat → Bool} {p k : Nat} (h : evI B p k = none) : ∀ d, evI B p (k + d) = none
  | 0 => h
  | d + 1 => by
    show (match evI B p (k + d) with | none => none | some c => if B (24 * p + (k + d)) = true then some c else if anyB B (k + d) = false then none else some (c + 1)) = none
    rw [evI_0 h d]
theorem evI_n {B : Nat → Bool} {p k c : Nat} (h : evI B p k = some c) (h1 : B (24 * p + k) = false) (h2 : anyB B k = false) {m : Nat} (hm : k + 1 ≤ m) : evI B p m = none := by
  have : evI B p (k + 1) = none := by rw [evI_s h, if_neg (by rw [h1]; decide), if_pos h2]
  have h3 := evI_0 this (m - (k + 1))
  rw [show k + 1 + (m - (k + 1)) = m by omega] at h3
  exact h3
theorem evI_le {B : Nat → Bool} {p : Nat} : ∀ {k c : Nat}, evI B p k = some c → c ≤ k
  | 0, c, h => by cases h; exact Nat.le_refl 0
  | k + 1, c, h => by
    cases q : evI B p k with
    | none => rw [evI_0 q 1] at h; cases h
    | some d =>
      have ih := evI_le q
      rw [evI_s q] at h
      split at h
      · cases h; omega
      · split at h
        · cases h
        · cases h; omega
/-- the entries of a history stay as it goes on -/
theorem stepG_old {nx : Hist → Option (Nat × Nat)} {can : Nat → Bool} {s : Sst} {j : Nat} (h : j < s.1.length) : hAt (stepG nx can s).1 j = hAt s.1 j ∧ s.1.length ≤ (stepG nx can s).1.length := by
  rcases stepG_hist nx can s with e | ⟨x, e, -, -⟩
  · rw [e]; exact ⟨rfl, Nat.le_refl _⟩
  · rw [e]; exact ⟨hAt_old _ _ h, by rw [List.length_cons]; omega⟩
theorem itG_old {nx : Hist → Option (Nat × Nat)} {can : Nat → Bool} {s : Sst} {k j : Nat} (h : j < (itG nx can s k).1.length) : ∀ d, hAt (itG nx can s (k + d)).1 j = hAt (itG nx can s k).1 j ∧ j < (itG nx can s (k + d)).1.length
  | 0 => ⟨rfl, h⟩
  | d + 1 => by
    obtain ⟨h1, h2⟩ := itG_old h d
    obtain ⟨h3, h4⟩ := stepG_old (nx := nx) (can := can) h2
    exact ⟨h3.trans h1, Nat.lt_of_lt_of_le h2 h4⟩
/-- the i-th LINE of a whole singing is there just if it is there after i steps -/
theorem sgF_at {F : Nat → Nat → Nat → Int32} {S : Nat → Nat} {T : Nat → Nat} {B : Nat → Bool} {n l i : Nat} (hi : i ≤ 60) (h : i < (sgF F S T B n l i).1.length) : i < (sgF F S T B n l 60).1.length ∧ hAt (sgF F S T B n l 60).1 i = hAt (sgF F S T B n l i).1 i := by
  have := itG_old (nx := nxt F S T B n) (can := canS B) (s := initG (canS B) l) (k := i) h (60 - i)
  rw [show i + (60 - i) = 60 by omega] at this
  exact ⟨this.2, this.1⟩
theorem sgF_no {F : Nat → Nat → Nat → Int32} {S : Nat → Nat} {T : Nat → Nat} {B : Nat → Bool} {n l i : Nat} (hi : i ≤ 60) (h : ¬ i < (sgF F S T B n l i).1.length) : ¬ i < (sgF F S T B n l 60).1.length := by
  by_cases c : (sgF F S T B n l i).2.1 = 3
  · obtain ⟨H, h1, h2⟩ := itG_len (nx := nxt F S T B n) (can := canS B) (l := l) i c
    exfalso; apply h
    show i < (itG (nxt F S T B n) (canS B) (initG (canS B) l) i).1.length
    rw [h1, List.length_append, h2]
    show i < i + 1; omega
  · rw [sgF_60 hi c]; exact h
/-- JUDGED of told LINES v, m of them -/
def jdO (v : Nat → Int) (H : Hist) (j : Nat) : Prop := j < H.length ∧ (((hAt H j).1 : Nat) : Int) = v j
def FNc (F : Nat → Nat → Nat → Int32) (S : Nat → Nat) (T : Nat → Nat) (B : Nat → Bool) (n : Nat) (v : Nat → Int) (m : Nat) (r : Int) : Prop :=
  (m = 0 ∧ r = -2) ∨ (0 < m ∧ ¬ (0 ≤ v 0 ∧ v 0 < (n : Int)) ∧ r = 0) ∨ (0 < m ∧ 0 ≤ v 0 ∧ v 0 < (n : Int) ∧ ((∃ i : Nat, i < m ∧ (∀ j, j < i → jdO v (sgF F S T B n (v 0).toNat 60).1 j) ∧ ¬ jdO v (sgF F S T B n (v 0).toNat 60).1 i ∧ r = (i : Int)) ∨ ((∀ j, j < m → jdO v (sgF F S T B n (v 0).toNat 60).1 j) ∧ r = -2)))
theorem FNc_u {F : Nat → Nat → Nat → Int32} {S : Nat → Nat} {T : Nat → Nat} {B : Nat → Bool} {n : Nat} {v : Nat → Int} {m : Nat} {r r' : Int} (h : FNc F S T B n v m r) (h' : FNc F S T B n v m r') : r = r' := by
  rcases h with ⟨a1, a2⟩ | ⟨a1, a2, a3⟩ | ⟨a1, a2, a3, a4⟩ <;> rcases h' with ⟨b1, b2⟩ | ⟨b1, b2, b3⟩ | ⟨b1, b2, b3, b4⟩ <;> try omega
  · exact absurd ⟨b2, b3⟩ a2
  · rcases a4 with ⟨i, c1, c2, c3, c4⟩ | ⟨c1, c2⟩ <;> rcases b4 with ⟨i', d1, d2, d3, d4⟩ | ⟨d1, d2⟩
    · rcases Nat.lt_trichotomy i i' with q | q | q
      · exact absurd (d2 i q) c3
      · rw [c4, d4, q]
      · exact absurd (c2 i' q) d3
    · exact absurd (d1 i c1) c3
    · exact absurd (c1 i' d1) d3
    · rw [c2, d2]
/-- how far two stretches are alike, as a number -/
def alN (T T2 : Nat → Nat) (n n2 : Nat) : Nat → Nat → Nat → Nat
  | 0, _, _ => 0
  | f + 1, i, k => if i < n ∧ k < n2 ∧ T (3 * i + 0) = T2 (3 * k + 0) then 1 + alN T T2 n n2 f (i + 1) (k + 1) else 0
theorem alN_c (T T2 : Nat → Nat) (n n2 : Nat) : ∀ (f i k : Nat), n < i + f → ALc T T2 n n2 i k (alN T T2 n n2 f i k)
  | 0, i, k, h => ⟨fun j hj => absurd hj (Nat.not_lt_zero j), fun q => by have := q.1; omega⟩
  | f + 1, i, k, h => by
    show ALc T T2 n n2 i k (if i < n ∧ k < n2 ∧ T (3 * i + 0) = T2 (3 * k + 0) then 1 + alN T T2 n n2 f (i + 1) (k + 1) else 0)
    by_cases c : i < n ∧ k < n2 ∧ T (3 * i + 0) = T2 (3 * k + 0)
    · rw [if_pos c]
      obtain ⟨h1, h2⟩ := alN_c T T2 n n2 f (i + 1) (k + 1) (by omega)
      have sh : ∀ j, ALp T T2 n n2 (i + 1) (k + 1) j → ALp T T2 n n2 i k (1 + j) := by
        intro j ⟨q1, q2, q3⟩
        refine ⟨by omega, by omega, ?_⟩
        rw [show i + (1 + j) = i + 1 + j by omega, show k + (1 + j) = k + 1 + j by omega]; exact q3
      have hs : ∀ j, ALp T T2 n n2 i k (1 + j) → ALp T T2 n n2 (i + 1) (k + 1) j := by
        intro j ⟨q1, q2, q3⟩
        refine ⟨by omega, by omega, ?_⟩
        rw [show i + 1 + j = i + (1 + j) by omega, show k + 1 + j = k + (1 + j) by omega]; exact q3
      refine ⟨fun j hj => ?_, fun q => h2 (hs _ q)⟩
      rcases Nat.eq_zero_or_pos j with q | q
      · rw [q]; exact c
      · have := sh (j - 1) (h1 (j - 1) (by omega))
        rw [show 1 + (j - 1) = j by omega] at this; exact this
    · rw [if_neg c]
      exact ⟨fun j hj => absurd hj (Nat.not_lt_zero j), fun q => c q⟩
def alF (T T2 : Nat → Nat) (n n2 i k : Nat) : Nat := alN T T2 n n2 13 i k
theorem alF_u {T T2 : Nat → Nat} {n n2 i k r : Nat} (hn : n ≤ 12) (h : ALc T T2 n n2 i k r) : r = alF T T2 n n2 i k := ALc_u h (alN_c T T2 n n2 13 i k (by omega))
/-- TWO SONGS so far: how long, where, where -/
def twS (A : Nat → Nat → Nat) (i j : Nat) (s : Int × Int × Int) : Int × Int × Int := if s.1 < (A i j : Int) then ((A i j : Int), (i : Int), (j : Int)) else s
def twL (A : Nat → Nat → Nat) (i : Nat) (s : Int × Int × Int) : Nat → Int × Int × Int
  | 0 => s
  | j + 1 => twS A i j (twL A i s j)
def twF (A : Nat → Nat → Nat) (n2 : Nat) : Nat → Int × Int × Int
  | 0 => (0, -2, -2)
  | i + 1 => twL A i (twF A n2 i) n2
/-- MIXED: the first place whose tune is among those -/
def MXc (g : Nat → Bool) (m : Nat) (r : Int) : Prop := (∃ k : Nat, k < m ∧ g k = true ∧ (∀ j, j < k → g j = false) ∧ r = (k : Int)) ∨ ((∀ j, j < m → g j = false) ∧ r = -2)
theorem MXc_u {g : Nat → Bool} {m : Nat} {r r' : Int} (h : MXc g m r) (h' : MXc g m r') : r = r' := by
  rcases h with ⟨k, a1, a2, a3, a4⟩ | ⟨a1, a2⟩ <;> rcases h' with ⟨k', b1, b2, b3, b4⟩ | ⟨b1, b2⟩
  · rcases Nat.lt_trichotomy k k' with q | q | q
    · rw [b3 k q] at a2; cases a2
    · rw [a4, b4, q]
    · rw [a3 k' q] at b2; cases b2
  · rw [b1 k a1] at a2; cases a2
  · rw [a1 k' b1] at b2; cases b2
  · rw [a2, b2]
def wh1 (q : Int) : Int := if 0 ≤ q then 1 else 0
