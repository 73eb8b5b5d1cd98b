/-! ===== numbers and bits (the family bt, b_ begins with the kit's rows, given for pasting) ===== -/
/-- the lookup of a switch finds nothing -/
theorem lk_none : ∀ (ps : List (Int × Int)) (d x : Int), (∀ q ∈ ps, x ≠ q.1) → Op.lookupswitch.offset ps d x = d
  | [], _, _, _ => rfl
  | (a, o) :: r, d, x, h => by
    show (if a = x then o else Op.lookupswitch.offset r d x) = d
    rw [if_neg (fun e => h (a, o) List.mem_cons_self e.symm)]
    exact lk_none r d x (fun q hq => h q (List.mem_cons_of_mem _ hq))
def bz (b : Bool) : Int := if b = true then 1 else 0
theorem bz_t {b : Bool} (h : bz b = 1) : b = true := by cases b <;> simp_all [bz]
theorem bz_f {b : Bool} (h : bz b ≠ 1) : b = false := by cases b <;> simp_all [bz]
def bt (x : Int32) (i : Nat) : Bool := x.toBitVec.getLsbD i
theorem b_ext {x y : Int32} (h : ∀ i, i < 32 → bt x i = bt y i) : x = y := Int32.toBitVec_inj.mp (BitVec.eq_of_getLsbD_eq (fun i hi => h i hi))
theorem b_or (x y : Int32) (i : Nat) : bt (x ||| y) i = (bt x i || bt y i) := by unfold bt; rw [Int32.toBitVec_or, BitVec.getLsbD_or]
theorem b_and (x y : Int32) (i : Nat) : bt (x &&& y) i = (bt x i && bt y i) := by unfold bt; rw [Int32.toBitVec_and, BitVec.getLsbD_and]
theorem b_xor (x y : Int32) (i : Nat) : bt (x ^^^ y) i = (bt x i ^^ bt y i) := by unfold bt; rw [Int32.toBitVec_xor, BitVec.getLsbD_xor]
theorem b_big {x : Int32} {i : Nat} (h : 32 ≤ i) : bt x i = false := BitVec.getLsbD_of_ge _ _ h
theorem b_255 (i : Nat) : bt 255 i = decide (i < 8) := by
  rcases Nat.lt_or_ge i 32 with h | h
  · exact (by decide +kernel : ∀ i, i < 32 → bt 255 i = decide (i < 8)) i h
  · rw [b_big h, decide_eq_false (by omega)]
theorem b_65535 (i : Nat) : bt 65535 i = decide (i < 16) := by
  rcases Nat.lt_or_ge i 32 with h | h
  · exact (by decide +kernel : ∀ i, i < 32 → bt 65535 i = decide (i < 16)) i h
  · rw [b_big h, decide_eq_false (by omega)]
theorem b_m1 : ∀ i, i < 32 → bt (-1) i = true := by decide +kernel
theorem b_0 (i : Nat) : bt 0 i = false := BitVec.getLsbD_zero
theorem s_l : ∀ n, n < 32 → ((nI n &&& 31).toBitVec.smod 32).toNat = n := by decide +kernel
theorem s_u : ∀ n, n < 32 → (((nI n).toUInt32 &&& Int32.toUInt32 31).toBitVec % 32).toNat = n := by decide +kernel
theorem b_shl (n : Nat) (hn : n < 32) (x : Int32) {i : Nat} (hi : i < 32) : bt (x <<< (nI n &&& 31)) i = (decide (n ≤ i) && bt x (i - n)) := by
  unfold bt
  rw [Int32.toBitVec_shiftLeft]
  show (x.toBitVec <<< ((nI n &&& 31).toBitVec.smod 32).toNat).getLsbD i = _
  rw [s_l n hn, BitVec.getLsbD_shiftLeft]
  rcases Nat.lt_or_ge i n with h | h
  · simp [h, Nat.not_le.mpr h]
  · simp [hi, h, Nat.not_lt.mpr h]
theorem b_ushr (n : Nat) (hn : n < 32) (x : Int32) (i : Nat) : bt ((x.toUInt32 >>> ((nI n).toUInt32 &&& Int32.toUInt32 31)).toInt32) i = bt x (n + i) := by
  show (x.toUInt32 >>> ((nI n).toUInt32 &&& Int32.toUInt32 31)).toBitVec.getLsbD i = x.toUInt32.toBitVec.getLsbD (n + i)
  rw [UInt32.toBitVec_shiftRight]
  show (x.toUInt32.toBitVec >>> (((nI n).toUInt32 &&& Int32.toUInt32 31).toBitVec % 32).toNat).getLsbD i = _
  rw [s_u n hn, BitVec.getLsbD_ushiftRight]
theorem b_sshr (n : Nat) (hn : n < 32) (x : Int32) {i : Nat} (hi : i < 32) : bt (x >>> (nI n &&& 31)) i = if n + i < 32 then bt x (n + i) else bt x 31 := by
  unfold bt
  rw [Int32.toBitVec_shiftRight]
  show (x.toBitVec.sshiftRight ((nI n &&& 31).toBitVec.smod 32).toNat).getLsbD i = _
  rw [s_l n hn, BitVec.getLsbD_sshiftRight, BitVec.msb_eq_getLsbD_last]
  simp [hi]

theorem b_1 (i : Nat) : bt 1 i = decide (i = 0) := by
  rcases Nat.lt_or_ge i 32 with h | h
  · have : ∀ j, j < 32 → bt 1 j = decide (j = 0) := by decide +kernel
    exact this i h
  · rw [b_big h]; simp; omega
theorem i_of {r : Int32} {q : Nat} (hr : r.toInt = (q : Int)) (hq : q < 2 ^ 31) : r = nI q := Int32.toInt_inj.mp (hr.trans (nI_toInt hq).symm)
theorem b_z (b : Bool) : ((if b = true then 1 else 0 : Int32)).toInt = bz b := by cases b <;> decide
/-- (f >> r) & 1 is a bit -/
theorem b_pick {f x y r : Int32} {q : Nat} (hy : y = x &&& 1) (hx : x = f >>> (r &&& 31)) (hr : r.toInt = (q : Int)) (hq : q < 32) : y.toInt = bz (bt f q) := by
  rw [← b_z, hy, hx, i_of hr (by omega)]
  congr 1
  refine b_ext fun i hi => ?_
  rw [b_and, b_sshr q hq f hi, b_1]
  by_cases h0 : i = 0
  · subst h0
    cases hb : bt f q <;> simp [hq, hb, b_1, b_0]
  · cases hb : bt f q <;> simp [h0, b_1, b_0]
/-- 1 << r -/
theorem b_one {x r : Int32} {q : Nat} (hx : x = (1 : Int32) <<< (r &&& 31)) (hr : r.toInt = (q : Int)) (hq : q < 32) {i : Nat} (hi : i < 32) : bt x i = decide (i = q) := by
  rw [hx, i_of hr (by omega), b_shl q hq 1 hi, b_1]
  by_cases h : q ≤ i
  · simp [h]; omega
  · simp [h]; omega
/-- f & ~(1 << r) -/
theorem b_clear {f x y z : Int32} {q : Nat} (hx : ∀ i, i < 32 → bt x i = decide (i = q)) (hz : z = x ^^^ (-1)) (hy : y = f &&& z) {i : Nat} (hi : i < 32) : bt y i = (bt f i && !decide (i = q)) := by
  rw [hy, b_and, hz, b_xor, hx i hi, b_m1 i hi]; simp
/-- no bit: 0 -/
theorem b_eq0 {x : Int32} (h : ∀ i, i < 32 → bt x i = false) : x = 0 := b_ext fun i hi => by rw [h i hi, b_0]
theorem b_ne0 {x : Int32} {i : Nat} (h : bt x i = true) : x ≠ 0 := fun e => by rw [e, b_0] at h; cases h
/-! ===== a SONG: who has what; its parts ===== -/
/-- the bits that are had: bit 24 p + 2 l + w: singer p, line l, w (0 tune, 1 words); havers by 2 l + w -/
def HV (f : Nat → Int32) (B : Nat → Bool) : Prop := ∀ j, j < 24 → ∀ q, q < 32 → bt (f j) q = (decide (q < 4) && B (24 * q + j))
def PT (f : Nat → Int32) (T : Nat → Nat) : Prop := ∀ j, j < 36 → (f j).toInt = ((T j : Nat) : Int) ∧ T j < 8
def upB (B : Nat → Bool) (b : Nat) (v : Bool) : Nat → Bool := fun j => if j = b then v else B j
def upN (T : Nat → Nat) (b : Nat) (v : Nat) : Nat → Nat := fun j => if j = b then v else T j
theorem HV_at {f : Nat → Int32} {B : Nat → Bool} (h : HV f B) {b : Nat} (hb : b < 96) : bt (f (b % 24)) (b / 24) = B b := by
  rw [h (b % 24) (by omega) (b / 24) (by omega), show 24 * (b / 24) + b % 24 = b by omega]
  simp; omega
theorem HV_set {f : Nat → Int32} {B : Nat → Bool} (h : HV f B) {b : Nat} (hb : b < 96) {v : Bool} {x : Int32} (hx : ∀ i, i < 32 → bt x i = if i = b / 24 then v else bt (f (b % 24)) i) : HV (upd f (b % 24) x) (upB B b v) := by
  intro j hj q hq
  unfold upd upB
  by_cases h1 : j = b % 24
  · rw [if_pos h1, hx q hq]
    by_cases h2 : q = b / 24
    · rw [if_pos h2, if_pos (by omega)]; simp; omega
    · rw [if_neg h2, if_neg (by omega), ← h1, h j hj q hq]
  · rw [if_neg h1, h j hj q hq, if_neg (by omega)]
theorem HV_row {f : Nat → Int32} {B : Nat → Bool} (h : HV f B) {j : Nat} (hj : j < 24) : f j = 0 ↔ ∀ p, p < 4 → B (24 * p + j) = false := by
  constructor
  · intro e p hp
    have := h j hj p (by omega)
    rw [e, b_0] at this
    simpa [hp] using this.symm
  · intro e
    refine b_eq0 fun i hi => ?_
    rw [h j hj i hi]
    by_cases h4 : i < 4
    · simp [e i h4]
    · simp [h4]

theorem bz_f0 {b : Bool} (h : bz b = 0) : b = false := by cases b <;> simp_all [bz]
theorem bz_t0 {b : Bool} (h : bz b ≠ 0) : b = true := by cases b <;> simp_all [bz]
/-- somebody has it -/
def anyB (B : Nat → Bool) (j : Nat) : Bool := B j || B (24 + j) || B (48 + j) || B (72 + j)
def canS (B : Nat → Bool) (l : Nat) : Bool := anyB B (2 * l) && anyB B (2 * l + 1)
theorem HV_any {f : Nat → Int32} {B : Nat → Bool} (h : HV f B) {j : Nat} (hj : j < 24) : (f j).toInt = 0 ↔ anyB B j = false := by
  have h1 : (f j).toInt = 0 ↔ f j = 0 := ⟨fun q => Int32.toInt_inj.mp (q.trans cI_0.symm), fun q => by rw [q]; exact cI_0⟩
  rw [h1, HV_row h hj]
  unfold anyB
  constructor
  · intro e
    have e0 := e 0 (by omega)
    have e1 := e 1 (by omega)
    have e2 := e 2 (by omega)
    have e3 := e 3 (by omega)
    simp only [Nat.mul_zero, Nat.zero_add, Nat.mul_one] at e0 e1
    rw [show 24 * 2 = 48 from rfl] at e2
    rw [show 24 * 3 = 72 from rfl] at e3
    rw [e0, e1, e2, e3]; rfl
  · intro e p hp
    simp only [Bool.or_eq_false_iff] at e
    obtain ⟨⟨⟨e0, e1⟩, e2⟩, e3⟩ := e
    rcases (by omega : p = 0 ∨ p = 1 ∨ p = 2 ∨ p = 3) with rfl | rfl | rfl | rfl
    · simpa using e0
    · simpa using e1
    · simpa using e2
    · simpa using e3
theorem canS_f0 {f : Nat → Int32} {B : Nat → Bool} (h : HV f B) {l : Nat} (hl : l < 12) (h0 : (f (2 * l + 0)).toInt = 0) : canS B l = false := by
  unfold canS; rw [(HV_any h (by omega : 2 * l < 24)).mp h0]; rfl
theorem canS_f1 {f : Nat → Int32} {B : Nat → Bool} (h : HV f B) {l : Nat} (hl : l < 12) (h0 : (f (2 * l + 1)).toInt = 0) : canS B l = false := by
  unfold canS; rw [(HV_any h (by omega : 2 * l + 1 < 24)).mp h0]; simp
theorem canS_t {f : Nat → Int32} {B : Nat → Bool} (h : HV f B) {l : Nat} (hl : l < 12) (h0 : (f (2 * l + 0)).toInt ≠ 0) (h1 : (f (2 * l + 1)).toInt ≠ 0) : canS B l = true := by
  unfold canS
  rw [Bool.and_eq_true]
  exact ⟨Classical.byContradiction fun q => h0 ((HV_any h (by omega : 2 * l < 24)).mpr (by simpa using q)), Classical.byContradiction fun q => h1 ((HV_any h (by omega : 2 * l + 1 < 24)).mpr (by simpa using q))⟩

theorem fill_s {g : Nat → Int32} {v : Int32} {k : Nat} (h : ∀ j, j < k → g j = v) : ∀ j, j < k + 1 → upd g k v j = v := by
  intro j hj
  unfold upd
  by_cases q : j = k
  · rw [if_pos q]
  · rw [if_neg q]; exact h j (by omega)
theorem fill_sL {g : Nat → Int64} {v : Int64} {k : Nat} (h : ∀ j, j < k → g j = v) : ∀ j, j < k + 1 → vp_updL g k v j = v := by
  intro j hj
  unfold vp_updL
  by_cases q : j = k
  · rw [if_pos q]
  · rw [if_neg q]; exact h j (by omega)

/-- what a ROW of a sort keeps -/
def lowZ (q : Int) (v : Int64) : Int64 := if q = 0 then v.toInt32.toInt8.toInt32.toInt64 else if q = 1 then v.toInt32.toInt16.toInt32.toInt64 else if q = 2 then v.toInt32.toInt64 else if q = 4 then (if v = 0 then 0 else 1) else v
theorem low0 {q : Int} {v x : Int64} (h : q = 0) (e : x = v.toInt32.toInt8.toInt32.toInt64) : x = lowZ q v := by subst h; rw [e]; rfl
theorem low1 {q : Int} {v x : Int64} (h : q = 1) (e : x = v.toInt32.toInt16.toInt32.toInt64) : x = lowZ q v := by subst h; rw [e]; rfl
theorem low2 {q : Int} {v x : Int64} (h : q = 2) (e : x = v.toInt32.toInt64) : x = lowZ q v := by subst h; rw [e]; rfl
theorem low3 {q : Int} {v : Int64} (h : q = 3) : v = lowZ q v := by subst h; rfl
theorem low5 {q : Int} {v : Int64} (h : q < 0 ∨ 4 < q) : v = lowZ q v := by unfold lowZ; rw [if_neg (by omega), if_neg (by omega), if_neg (by omega), if_neg (by omega)]
theorem low40 {q : Int} {v : Int64} (h : q = 4) (e : v = 0) : 0 = lowZ q v := by subst h; subst e; rfl
theorem low41 {q : Int} {v : Int64} (h : q = 4) (e : ¬ v = 0) : 1 = lowZ q v := by subst h; show (1 : Int64) = (if v = 0 then 0 else 1); rw [if_neg e]
theorem lcmp0 (v : Int64) : (lg_cmp v 0).toInt = 0 ↔ v = 0 := by
  unfold lg_cmp
  by_cases h1 : v > 0
  · rw [if_pos h1]
    refine ⟨fun h => absurd h (by decide), fun h => ?_⟩
    subst h; exact absurd h1 (by decide)
  · rw [if_neg h1]
    by_cases h2 : v = 0
    · rw [if_pos h2]; exact ⟨fun _ => h2, fun _ => by decide⟩
    · rw [if_neg h2]; exact ⟨fun h => absurd h (by decide), fun h => absurd h h2⟩

theorem cpy0 {f g : Nat → Int32} {n j : Nat} (h : j < n) : va_cpy f g 0 0 n j = f j := by
  rw [pk_cpy_in (Nat.zero_le j) (by omega)]
  congr 1; omega

/-! CHANGES -/
def chD (d : Nat) : Nat := if d < 40 then d + 1 else 40
def chg (d : Nat) (f : Nat → Int32) (x : Int32) (j : Nat) : Int32 := if d < 40 then (if j = d then x else f j) else (if j = 39 then x else f (j + 1))
theorem chg_lt {d : Nat} (h : d < 40) {f : Nat → Int32} {x : Int32} : ∀ j, j < chD d → upd f d x j = chg d f x j := by
  intro j _
  unfold chg upd; rw [if_pos h]
theorem chg_ge {d : Nat} (h : ¬ d < 40) {f : Nat → Int32} {x : Int32} : ∀ j, j < chD d → upd (va_cpy f f 1 0 39) 39 x j = chg d f x j := by
  intro j hj
  unfold chD at hj; rw [if_neg h] at hj
  unfold chg upd; rw [if_neg h]
  by_cases e : j = 39
  · rw [if_pos e, if_pos e]
  · rw [if_neg e, if_neg e, pk_cpy_in (Nat.zero_le j) (by omega)]
    congr 1; omega
/-- the fields of the reference: its rows by R, its numbers -/
def mF (R : Nat → Nat) (v0 : Int32) (v7 : Int32) (v8 : Int32) (v9 : Int32) (v15 : Int32) (v16 : Int32) (v17 : Int32) (v18 : Int32) (v19 : Int32) (v27 : Int32) (v31 : Int32) (v32 : Int32) (v33 : Int32) (v34 : Int32) (v38 : Int32) (v42 : Int32) (v44 : Int32) : List Value := [.int v0, .ref (R 1), .ref (R 2), .ref (R 3), .ref (R 4), .ref (R 5), .ref (R 6), .int v7, .int v8, .int v9, .ref (R 10), .ref (R 11), .ref (R 12), .ref (R 13), .ref (R 14), .int v15, .int v16, .int v17, .int v18, .int v19, .ref (R 20), .ref (R 21), .ref (R 22), .ref (R 23), .ref (R 24), .ref (R 25), .ref (R 26), .int v27, .ref (R 28), .ref (R 29), .ref (R 30), .int v31, .int v32, .int v33, .int v34, .ref (R 35), .ref (R 36), .ref (R 37), .int v38, .ref (R 39), .ref (R 40), .ref (R 41), .int v42, .ref (R 43), .int v44, .ref (R 45), .ref (R 46), .ref (R 47), .ref (R 48), .ref (R 49)]
