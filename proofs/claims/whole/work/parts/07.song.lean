/-! ===== a SONG: counts, tunes, stretches ===== -/
def pc4 (q : Nat) : Nat := q % 2 + q / 2 % 2 + q / 4 % 2 + q / 8 % 2
def nb (b : Bool) : Nat := if b = true then 1 else 0
def e4 (b0 b1 b2 b3 : Bool) : Nat := nb b0 + 2 * nb b1 + 4 * nb b2 + 8 * nb b3
theorem e4_pc : ∀ b0 b1 b2 b3 : Bool, e4 b0 b1 b2 b3 < 16 ∧ pc4 (e4 b0 b1 b2 b3) = nb b0 + nb b1 + nb b2 + nb b3 := by decide
theorem e4_bt : ∀ b0 b1 b2 b3 : Bool, ∀ i, i < 32 → bt (nI (e4 b0 b1 b2 b3)) i = (decide (i < 4) && (if i = 0 then b0 else if i = 1 then b1 else if i = 2 then b2 else b3)) := by decide +kernel
def tb4 (B : Nat → Bool) (j : Nat) : Nat := nb (B j) + nb (B (24 + j)) + nb (B (48 + j)) + nb (B (72 + j))
def cnB (B : Nat → Bool) : Nat → Nat
  | 0 => 0
  | k + 1 => cnB B k + tb4 B k
theorem nb_le (b : Bool) : nb b ≤ 1 := by cases b <;> decide
theorem tb4_le (B : Nat → Bool) (j : Nat) : tb4 B j ≤ 4 := by
  have h1 := nb_le (B j)
  have h2 := nb_le (B (24 + j))
  have h3 := nb_le (B (48 + j))
  have h4 := nb_le (B (72 + j))
  unfold tb4; omega
theorem cnB_le (B : Nat → Bool) : ∀ k, cnB B k ≤ 4 * k
  | 0 => Nat.le_refl 0
  | k + 1 => by
    have h1 := cnB_le B k
    have h2 := tb4_le B k
    show cnB B k + tb4 B k ≤ 4 * (k + 1)
    omega
theorem HV_num {f : Nat → Int32} {B : Nat → Bool} (h : HV f B) {j : Nat} (hj : j < 24) : ∃ q, q < 16 ∧ (f j).toInt = ((q : Nat) : Int) ∧ pc4 q = tb4 B j := by
  refine ⟨e4 (B j) (B (24 + j)) (B (48 + j)) (B (72 + j)), (e4_pc _ _ _ _).1, ?_, (e4_pc _ _ _ _).2⟩
  have e : f j = nI (e4 (B j) (B (24 + j)) (B (48 + j)) (B (72 + j))) := by
    refine b_ext fun i hi => ?_
    rw [h j hj i hi, e4_bt _ _ _ _ i hi]
    by_cases h4 : i < 4
    · rcases (by omega : i = 0 ∨ i = 1 ∨ i = 2 ∨ i = 3) with rfl | rfl | rfl | rfl <;> simp
    · simp [h4]
  rw [e]
  exact nI_toInt (by have := (e4_pc (B j) (B (24 + j)) (B (48 + j)) (B (72 + j))).1; omega)
/-- which tunes somebody has, of the LINES below k -/
def tnB (T : Nat → Nat) (B : Nat → Bool) : Nat → Nat → Bool
  | 0, _ => false
  | k + 1, i => tnB T B k i || (anyB B (2 * k) && decide (i = T (3 * k + 0)))
theorem tnB_n {T : Nat → Nat} {B : Nat → Bool} {k : Nat} {x : Int32} (h : ∀ i, i < 32 → bt x i = tnB T B k i) (h0 : anyB B (2 * k) = false) : ∀ i, i < 32 → bt x i = tnB T B (k + 1) i := by
  intro i hi
  rw [h i hi]
  show _ = (tnB T B k i || (anyB B (2 * k) && decide (i = T (3 * k + 0))))
  rw [h0]; simp
theorem tnB_y {T : Nat → Nat} {B : Nat → Bool} {k : Nat} {x y z : Int32} (h : ∀ i, i < 32 → bt x i = tnB T B k i) (h0 : anyB B (2 * k) = true) (hy : ∀ i, i < 32 → bt y i = decide (i = T (3 * k + 0))) (hz : z = x ||| y) : ∀ i, i < 32 → bt z i = tnB T B (k + 1) i := by
  intro i hi
  rw [hz, b_or, h i hi, hy i hi]
  show _ = (tnB T B k i || (anyB B (2 * k) && decide (i = T (3 * k + 0))))
  rw [h0]; simp
theorem any_y {f : Nat → Int32} {B : Nat → Bool} (h : HV f B) {k : Nat} (hk : k < 12) (h0 : (f (2 * k + 0)).toInt ≠ 0) : anyB B (2 * k) = true :=
  Classical.byContradiction fun q => h0 ((HV_any h (by omega : 2 * k < 24)).mpr (by simpa using q))
theorem any_n {f : Nat → Int32} {B : Nat → Bool} (h : HV f B) {k : Nat} (hk : k < 12) (h0 : (f (2 * k + 0)).toInt = 0) : anyB B (2 * k) = false := (HV_any h (by omega : 2 * k < 24)).mp h0
/-- a stretch of tunes stands at l -/
def mtc (T : Nat → Nat) (v : Nat → Int) (m l : Nat) : Prop := ∀ j, j < m → ((T (3 * (l + j) + 0) : Nat) : Int) = v j
/-- the first place of a stretch; -2: none -/
def PLc (T : Nat → Nat) (v : Nat → Int) (m n : Nat) (r : Int) : Prop := (∃ l : Nat, l + m ≤ n ∧ mtc T v m l ∧ (∀ l', l' < l → ¬ mtc T v m l') ∧ r = ((l : Nat) : Int)) ∨ (r = -2 ∧ ∀ l, l + m ≤ n → ¬ mtc T v m l)
theorem PLc_u {T : Nat → Nat} {v : Nat → Int} {m n : Nat} {r r' : Int} (h : PLc T v m n r) (h' : PLc T v m n r') : r = r' := by
  rcases h with ⟨l, a1, a2, a3, a4⟩ | ⟨a1, a2⟩ <;> rcases h' with ⟨l', b1, b2, b3, b4⟩ | ⟨b1, b2⟩
  · rcases Nat.lt_trichotomy l l' with q | q | q
    · exact absurd a2 (b3 l q)
    · rw [a4, b4, q]
    · exact absurd b2 (a3 l' q)
  · exact absurd a2 (b2 l a1)
  · exact absurd b2 (a2 l' b1)
  · rw [a1, b1]
/-- how far two stretches are alike -/
def ALp (T T2 : Nat → Nat) (n n2 i k j : Nat) : Prop := i + j < n ∧ k + j < n2 ∧ T (3 * (i + j) + 0) = T2 (3 * (k + j) + 0)
def ALc (T T2 : Nat → Nat) (n n2 i k r : Nat) : Prop := (∀ j, j < r → ALp T T2 n n2 i k j) ∧ ¬ ALp T T2 n n2 i k r
theorem ALc_u {T T2 : Nat → Nat} {n n2 i k r r' : Nat} (h : ALc T T2 n n2 i k r) (h' : ALc T T2 n n2 i k r') : r = r' := by
  rcases Nat.lt_trichotomy r r' with q | q | q
  · exact absurd (h'.1 r q) h.2
  · exact q
  · exact absurd (h.1 r' q) h'.2
theorem lt_snoc {P : Nat → Prop} {k : Nat} (h : ∀ j, j < k → P j) (hk : P k) : ∀ j, j < k + 1 → P j := by
  intro j hj
  rcases (by omega : j < k ∨ j = k) with q | q
  · exact h j q
  · rw [q]; exact hk
/-! ===== what public calls answer ===== -/
def singA (w : Int) (st : Sst) : Int := if w = 0 then ((st.1.length : Nat) : Int) else if w = 1 then st.2.1 else if w = 2 then st.2.2 else ((hR st.1 : Nat) : Int)
def sungA (w : Int) (x : Nat × Int) : Int := if w = 0 then ((x.1 : Nat) : Int) else x.2
theorem dec_bz {v : Int} {b : Int} (h : b = if v = 1 then 1 else 0) : b = bz (decide (v = 1)) := by
  rw [h]; unfold bz; by_cases q : v = 1 <;> simp [q]
theorem bz_dec {v : Int} (h1 : 0 ≤ v) (h2 : v < 2) : v = bz (decide (v = 1)) := dec_bz (by split <;> omega)
