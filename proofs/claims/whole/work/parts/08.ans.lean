/-! ===== RUN UP, ONE BIT, FEWEST, EVENINGS, DRAWN ===== -/
/-- RUN UP so far: the LINE, how many -/
def bst (R : Nat → Nat) : Nat → Int × Int
  | 0 => (-2, -2)
  | k + 1 => if (bst R k).2 < (R k : Int) then ((k : Int), (R k : Int)) else bst R k
theorem bst_y {R : Nat → Nat} {k : Nat} {a b : Int} (h : bst R k = (a, b)) (c : b < (R k : Int)) : bst R (k + 1) = ((k : Int), (R k : Int)) := by
  show (if (bst R k).2 < (R k : Int) then ((k : Int), (R k : Int)) else bst R k) = _
  rw [h, if_pos c]
theorem bst_n {R : Nat → Nat} {k : Nat} {a b : Int} (h : bst R k = (a, b)) (c : (R k : Int) ≤ b) : bst R (k + 1) = (a, b) := by
  show (if (bst R k).2 < (R k : Int) then ((k : Int), (R k : Int)) else bst R k) = _
  rw [h, if_neg (by show ¬ b < (R k : Int); omega)]
def rgB (R : Nat → Nat) : Nat → Nat → Bool
  | 0, _ => false
  | k + 1, i => rgB R k i || (decide (k ≤ i) && decide (i < k + R k))
def noB (B : Nat → Bool) : Nat → Nat → Bool
  | 0, _ => false
  | k + 1, i => noB B k i || (decide (i = k) && !canS B k)
/-- (1 << r) - 1 -/
theorem ones_bt : ∀ r, r < 13 → ∀ i, i < 32 → bt (nI (2 ^ r - 1)) i = decide (i < r) := by decide +kernel
theorem ones_sh {x y r : Int32} {q : Nat} (hx : x = (1 : Int32) <<< (r &&& 31)) (hr : r.toInt = (q : Int)) (hq : q < 13) (hy : y = x - 1) : ∀ i, i < 32 → bt y i = decide (i < q) := by
  have h1 : x = nI (1 * 2 ^ q) := by
    rw [hx, i_of hr (by omega)]
    exact pk_shlN (n := 1) _ q (s_l q (by omega)) (by
      have : ∀ r, r < 13 → 1 * 2 ^ r < 2 ^ 32 := by decide
      exact this q hq)
  have h2 : y = nI (2 ^ q - 1) := by
    rw [hy, h1, Nat.one_mul]
    exact pk_sub (b := 1) (Nat.one_le_two_pow)
  intro i hi
  rw [h2]; exact ones_bt q hq i hi
theorem rgB_s {R : Nat → Nat} {k : Nat} {x y z o c : Int32} (h : ∀ i, i < 32 → bt x i = rgB R k i) (hy : ∀ i, i < 32 → bt y i = decide (i < R k)) (hz : z = y <<< (c &&& 31)) (hc : c.toInt = (k : Int)) (hk : k < 32) (ho : o = x ||| z) : ∀ i, i < 32 → bt o i = rgB R (k + 1) i := by
  intro i hi
  rw [ho, b_or, h i hi, hz, i_of hc (by omega), b_shl k hk y hi]
  show _ = (rgB R k i || (decide (k ≤ i) && decide (i < k + R k)))
  congr 1
  by_cases q : k ≤ i
  · rw [hy (i - k) (by omega)]
    simp only [q, decide_true, Bool.true_and, decide_eq_decide]
    omega
  · simp [q]
theorem noB_y {B : Nat → Bool} {k : Nat} {x y z : Int32} (h : ∀ i, i < 32 → bt x i = noB B k i) (h0 : canS B k = false) (hy : ∀ i, i < 32 → bt y i = decide (i = k)) (hz : z = x ||| y) : ∀ i, i < 32 → bt z i = noB B (k + 1) i := by
  intro i hi
  rw [hz, b_or, h i hi, hy i hi]
  show _ = (noB B k i || (decide (i = k) && !canS B k))
  rw [h0]; simp
theorem noB_n {B : Nat → Bool} {k : Nat} {x : Int32} (h : ∀ i, i < 32 → bt x i = noB B k i) (h0 : canS B k = true) : ∀ i, i < 32 → bt x i = noB B (k + 1) i := by
  intro i hi
  rw [h i hi]
  show _ = (noB B k i || (decide (i = k) && !canS B k))
  rw [h0]; simp
/-- what runUp answers of an int that holds bits -/
def BitsOf (x : Int32) (f : Nat → Bool) : Prop := ∀ i, i < 32 → bt x i = f i
theorem BitsOf_u {x y : Int32} {f : Nat → Bool} (h : BitsOf x f) (h' : BitsOf y f) : x = y := b_ext fun i hi => by rw [h i hi, h' i hi]
/-! ONE BIT -/
theorem up_back {B : Nat → Bool} {b : Nat} (h : B b = false) : upB (upB B b true) b false = B := by
  funext j
  unfold upB
  by_cases e : j = b
  · rw [if_pos e, e, h]
  · rw [if_neg e, if_neg e]
def obS (B : Nat → Bool) (n : Nat) (val : Nat → Nat) (st : Int × Int) (b : Nat) : Int × Int := if b / 2 % 12 < n ∧ B b = false ∧ st.2 < (val b : Int) then ((b : Int), (val b : Int)) else st
def obF (B : Nat → Bool) (n : Nat) (val : Nat → Nat) : Nat → Int × Int
  | 0 => (-2, -2)
  | k + 1 => obS B n val (obF B n val k) k
theorem obF_y {B : Nat → Bool} {n : Nat} {val : Nat → Nat} {k : Nat} {a b : Int} (h : obF B n val k = (a, b)) (h1 : k / 2 % 12 < n) (h2 : B k = false) (h3 : b < (val k : Int)) : obF B n val (k + 1) = ((k : Int), (val k : Int)) := by
  show obS B n val (obF B n val k) k = _
  rw [h]; unfold obS; rw [if_pos ⟨h1, h2, h3⟩]
theorem obF_n {B : Nat → Bool} {n : Nat} {val : Nat → Nat} {k : Nat} {a b : Int} (h : obF B n val k = (a, b)) (h1 : n ≤ k / 2 % 12 ∨ B k = true ∨ (val k : Int) ≤ b) : obF B n val (k + 1) = (a, b) := by
  show obS B n val (obF B n val k) k = _
  rw [h]; unfold obS; rw [if_neg]
  rintro ⟨q1, q2, q3⟩
  rcases h1 with h1 | h1 | h1
  · omega
  · rw [q2] at h1; cases h1
  · have : b < (val k : Int) := q3
    omega
theorem obF_lt {B : Nat → Bool} {n : Nat} {val : Nat → Nat} : ∀ (k : Nat), (obF B n val k).1 < (k : Int) ∧ ((obF B n val k).1 = -2 ∨ 0 ≤ (obF B n val k).1)
  | 0 => ⟨by show (-2 : Int) < ((0 : Nat) : Int); omega, Or.inl rfl⟩
  | k + 1 => by
    have ih := obF_lt (B := B) (n := n) (val := val) k
    show (obS B n val (obF B n val k) k).1 < _ ∧ _
    have h2 : (obF B n val (k + 1)).1 = (obS B n val (obF B n val k) k).1 := rfl
    rw [h2]
    unfold obS
    by_cases c : k / 2 % 12 < n ∧ B k = false ∧ (obF B n val k).2 < (val k : Int)
    · rw [if_pos c]
      exact ⟨by show (k : Int) < ((k + 1 : Nat) : Int); omega, Or.inr (by show 0 ≤ (k : Int); omega)⟩
    · rw [if_neg c]
      exact ⟨by omega, ih.2⟩
def obV (F : Nat → Nat → Nat → Int32) (S : Nat → Nat) (T : Nat → Nat) (B : Nat → Bool) (n b : Nat) : Nat := rtF F S T (upB B b true) n 0
def obA (w : Int) (r : Int × Int) : Int := if w = 0 then r.1 / 24 else if w = 1 then r.1 / 2 % 12 else if w = 2 then r.1 % 2 else r.2
/-! FEWEST, as the class looks for it -/
def fbL (B : Nat → Bool) (n rt : Nat) (rec : (Nat → Bool) → Int) : Nat → Int
  | 0 => -2
  | q + 1 => if B (24 * (q / 2) + 2 * rt + q % 2) = false ∧ 0 ≤ rec (upB B (24 * (q / 2) + 2 * rt + q % 2) true) ∧ (fbL B n rt rec q < 0 ∨ rec (upB B (24 * (q / 2) + 2 * rt + q % 2) true) < fbL B n rt rec q) then rec (upB B (24 * (q / 2) + 2 * rt + q % 2) true) else fbL B n rt rec q
def fbF (F : Nat → Nat → Nat → Int32) (S : Nat → Nat) (T : Nat → Nat) (n : Nat) : Nat → Nat → (Nat → Bool) → Int
  | 0, g, B => if n ≤ rtF F S T B n 0 then (g : Int) else -2
  | v + 1, g, B => if n ≤ rtF F S T B n 0 then (g : Int) else fbL B n (rtF F S T B n 0) (fbF F S T n v (g + 1)) 8
theorem fbF_w {F : Nat → Nat → Nat → Int32} {S : Nat → Nat} {T : Nat → Nat} {n v g : Nat} {B : Nat → Bool} (h : n ≤ rtF F S T B n 0) : fbF F S T n v g B = (g : Int) := by
  cases v with
  | zero => show (if n ≤ rtF F S T B n 0 then (g : Int) else -2) = _; rw [if_pos h]
  | succ v => show (if n ≤ rtF F S T B n 0 then (g : Int) else _) = _; rw [if_pos h]
theorem fbF_0 {F : Nat → Nat → Nat → Int32} {S : Nat → Nat} {T : Nat → Nat} {n g : Nat} {B : Nat → Bool} (h : rtF F S T B n 0 < n) : fbF F S T n 0 g B = -2 := by
  show (if n ≤ rtF F S T B n 0 then (g : Int) else -2) = _; rw [if_neg (by omega)]
theorem fbF_s {F : Nat → Nat → Nat → Int32} {S : Nat → Nat} {T : Nat → Nat} {n v g : Nat} {B : Nat → Bool} (h : rtF F S T B n 0 < n) : fbF F S T n (v + 1) g B = fbL B n (rtF F S T B n 0) (fbF F S T n v (g + 1)) 8 := by
  show (if n ≤ rtF F S T B n 0 then (g : Int) else _) = _; rw [if_neg (by omega)]
theorem fbL_e (B : Nat → Bool) (n rt : Nat) (rec : (Nat → Bool) → Int) {p w : Nat} (hw : w < 2) : fbL B n rt rec (2 * p + (w + 1)) = if B (24 * p + 2 * rt + w) = false ∧ 0 ≤ rec (upB B (24 * p + 2 * rt + w) true) ∧ (fbL B n rt rec (2 * p + w) < 0 ∨ rec (upB B (24 * p + 2 * rt + w) true) < fbL B n rt rec (2 * p + w)) then rec (upB B (24 * p + 2 * rt + w) true) else fbL B n rt rec (2 * p + w) := by
  have h1 : (2 * p + w) / 2 = p := by omega
  have h2 : (2 * p + w) % 2 = w := by omega
  have := show fbL B n rt rec (2 * p + w + 1) = _ from rfl
  rw [show 2 * p + (w + 1) = 2 * p + w + 1 by omega, this]
  show (if B (24 * ((2 * p + w) / 2) + 2 * rt + (2 * p + w) % 2) = false ∧ 0 ≤ rec (upB B (24 * ((2 * p + w) / 2) + 2 * rt + (2 * p + w) % 2) true) ∧ (fbL B n rt rec (2 * p + w) < 0 ∨ rec (upB B (24 * ((2 * p + w) / 2) + 2 * rt + (2 * p + w) % 2) true) < fbL B n rt rec (2 * p + w)) then rec (upB B (24 * ((2 * p + w) / 2) + 2 * rt + (2 * p + w) % 2) true) else fbL B n rt rec (2 * p + w)) = _
  rw [h1, h2]
section FBL
variable {B : Nat → Bool} {n rt p w : Nat} {rec : (Nat → Bool) → Int} {u f : Int}
theorem fbL_n (h : u = fbL B n rt rec (2 * p + w)) (hw : w < 2) (hb : B (24 * p + 2 * rt + w) = true) : u = fbL B n rt rec (2 * p + (w + 1)) := by
  rw [fbL_e B n rt rec hw, if_neg (by rw [hb]; rintro ⟨q, -⟩; cases q)]; exact h
theorem fbL_neg (h : u = fbL B n rt rec (2 * p + w)) (hw : w < 2) (_hb : B (24 * p + 2 * rt + w) = false) (hf : rec (upB B (24 * p + 2 * rt + w) true) < 0) : u = fbL B n rt rec (2 * p + (w + 1)) := by
  rw [fbL_e B n rt rec hw, if_neg (by rintro ⟨-, q, -⟩; omega)]; exact h
theorem fbL_new (h : u = fbL B n rt rec (2 * p + w)) (hw : w < 2) (hb : B (24 * p + 2 * rt + w) = false) (hf : f = rec (upB B (24 * p + 2 * rt + w) true)) (h0 : 0 ≤ rec (upB B (24 * p + 2 * rt + w) true)) (hc : u < 0 ∨ rec (upB B (24 * p + 2 * rt + w) true) < u) : f = fbL B n rt rec (2 * p + (w + 1)) := by
  rw [fbL_e B n rt rec hw, if_pos ⟨hb, h0, h ▸ hc⟩]; exact hf
theorem fbL_old (h : u = fbL B n rt rec (2 * p + w)) (hw : w < 2) (_hb : B (24 * p + 2 * rt + w) = false) (_hf : f = rec (upB B (24 * p + 2 * rt + w) true)) (_h0 : 0 ≤ rec (upB B (24 * p + 2 * rt + w) true)) (h1 : 0 ≤ u) (h2 : u ≤ rec (upB B (24 * p + 2 * rt + w) true)) : u = fbL B n rt rec (2 * p + (w + 1)) := by
  rw [fbL_e B n rt rec hw, if_neg (by rintro ⟨-, -, q⟩; rw [← h] at q; omega)]; exact h
end FBL
