
/-! ===== the reference: counts, DRAWN ===== -/
theorem bt_nI {a i : Nat} (hi : i < 32) : bt (nI a) i = a.testBit i := by
  show (BitVec.ofNat 32 a).getLsbD i = _
  rw [BitVec.getLsbD_ofNat, decide_eq_true hi, Bool.true_and]
def pcn (v : Nat) : Nat := v / 2 ^ 0 % 2 + v / 2 ^ 1 % 2 + v / 2 ^ 2 % 2 + v / 2 ^ 3 % 2 + v / 2 ^ 4 % 2 + v / 2 ^ 5 % 2 + v / 2 ^ 6 % 2 + v / 2 ^ 7 % 2 + v / 2 ^ 8 % 2 + v / 2 ^ 9 % 2 + v / 2 ^ 10 % 2 + v / 2 ^ 11 % 2
theorem pcn_s0 : ∀ a, a < 64 → ∀ b, b < 64 → 64 * a + b ≠ 0 → pcn ((64 * a + b) &&& (64 * a + b - 1)) + 1 = pcn (64 * a + b) ∧ (64 * a + b) &&& (64 * a + b - 1) < 64 * a + b := by decide +kernel
theorem pcn_s (w : Nat) (hw : w < 4096) (h0 : w ≠ 0) : pcn (w &&& (w - 1)) + 1 = pcn w ∧ w &&& (w - 1) < w := by
  have h := pcn_s0 (w / 64) (by omega) (w % 64) (by omega) (by omega)
  rw [show 64 * (w / 64) + w % 64 = w by omega] at h; exact h
theorem pcn_le (v : Nat) : pcn v ≤ 12 := by unfold pcn; omega
theorem and_nI {x y z : Int32} {a b : Nat} (hz : z = x &&& y) (hx : x.toInt = ((a : Nat) : Int)) (hy : y.toInt = ((b : Nat) : Int)) (ha : a < 4096) (hb : b < 4096) : z.toInt = ((a &&& b : Nat) : Int) := by
  have hle : a &&& b ≤ a := Nat.and_le_left
  have e : z = nI (a &&& b) := by
    rw [hz, i_of hx (by omega), i_of hy (by omega)]
    refine b_ext fun i hi => ?_
    rw [b_and, bt_nI hi, bt_nI hi, bt_nI hi, Nat.testBit_and]
  rw [e]; exact nI_toInt (by omega)
def mB (B : Nat → Bool) (k : Nat) : Nat := nb (B (24 * (k / 2) + 2 * 0 + k % 2)) + nb (B (24 * (k / 2) + 2 * 1 + k % 2)) + nb (B (24 * (k / 2) + 2 * 2 + k % 2)) + nb (B (24 * (k / 2) + 2 * 3 + k % 2)) + nb (B (24 * (k / 2) + 2 * 4 + k % 2)) + nb (B (24 * (k / 2) + 2 * 5 + k % 2)) + nb (B (24 * (k / 2) + 2 * 6 + k % 2)) + nb (B (24 * (k / 2) + 2 * 7 + k % 2)) + nb (B (24 * (k / 2) + 2 * 8 + k % 2)) + nb (B (24 * (k / 2) + 2 * 9 + k % 2)) + nb (B (24 * (k / 2) + 2 * 10 + k % 2)) + nb (B (24 * (k / 2) + 2 * 11 + k % 2))
def mSum (B : Nat → Bool) : Nat → Nat
  | 0 => 0
  | k + 1 => mSum B k + mB B k
theorem tb_nb (v i : Nat) : v / 2 ^ i % 2 = nb (v.testBit i) := by
  rw [← Nat.toNat_testBit]; cases v.testBit i <;> rfl
theorem MHV_num {f : Nat → Int32} {B : Nat → Nat → Bool} (h : MHV f B) {s k : Nat} (hs : s < 3) (hk : k < 8) : ∃ v, v < 4096 ∧ (f (8 * s + k)).toInt = ((v : Nat) : Int) ∧ pcn v = mB (B s) k := by
  have hb : ∀ l, l < 32 → bt (f (8 * s + k)) l = (decide (l < 12) && B s (24 * (k / 2) + 2 * l + k % 2)) := by
    intro l hl
    have := h s hs (k / 2) (by omega) (k % 2) (by omega) l hl
    rw [show 8 * s + 2 * (k / 2) + k % 2 = 8 * s + k by omega] at this
    exact this
  have hv : ∀ l, (f (8 * s + k)).toBitVec.toNat.testBit l = (decide (l < 12) && B s (24 * (k / 2) + 2 * l + k % 2)) := by
    intro l
    by_cases c : l < 32
    · rw [← hb l c]; rfl
    · have : (f (8 * s + k)).toBitVec.toNat.testBit l = false := by
        apply Nat.testBit_lt_two_pow
        exact Nat.lt_of_lt_of_le (f (8 * s + k)).toBitVec.isLt (Nat.pow_le_pow_right (by omega) (by omega))
      rw [this, decide_eq_false (by omega)]; rfl
  have hlt : (f (8 * s + k)).toBitVec.toNat < 2 ^ 12 := by
    apply Nat.lt_pow_two_of_testBit
    intro i hi
    rw [hv i, decide_eq_false (by omega)]; rfl
  refine ⟨(f (8 * s + k)).toBitVec.toNat, hlt, ?_, ?_⟩
  · have e : f (8 * s + k) = nI (f (8 * s + k)).toBitVec.toNat := by
      refine b_ext fun i hi => ?_
      rw [bt_nI hi]; rfl
    have := congrArg Int32.toInt e
    rw [nI_toInt (by have : (2 : Nat) ^ 12 = 4096 := by decide
                     omega)] at this
    exact this
  · unfold pcn mB
    simp only [tb_nb, hv]
    rfl
theorem mSum_8 (B : Nat → Bool) : mSum B 8 = cnB B 24 := by
  simp only [mSum, mB, cnB, tb4, Nat.reduceDiv, Nat.reduceMod, Nat.reduceMul, Nat.reduceAdd, Nat.zero_add, Nat.add_zero, Nat.mul_zero, Nat.zero_mod, Nat.zero_div]
  omega
theorem mSum_le (B : Nat → Bool) : ∀ k, mSum B k ≤ 12 * k
  | 0 => Nat.le_refl 0
  | k + 1 => by
    have h := mSum_le B k
    have h1 : ∀ b, nb b ≤ 1 := nb_le
    have h2 : mB B k ≤ 12 := by
      unfold mB
      have a0 := h1 (B (24 * (k / 2) + 2 * 0 + k % 2))
      have a1 := h1 (B (24 * (k / 2) + 2 * 1 + k % 2))
      have a2 := h1 (B (24 * (k / 2) + 2 * 2 + k % 2))
      have a3 := h1 (B (24 * (k / 2) + 2 * 3 + k % 2))
      have a4 := h1 (B (24 * (k / 2) + 2 * 4 + k % 2))
      have a5 := h1 (B (24 * (k / 2) + 2 * 5 + k % 2))
      have a6 := h1 (B (24 * (k / 2) + 2 * 6 + k % 2))
      have a7 := h1 (B (24 * (k / 2) + 2 * 7 + k % 2))
      have a8 := h1 (B (24 * (k / 2) + 2 * 8 + k % 2))
      have a9 := h1 (B (24 * (k / 2) + 2 * 9 + k % 2))
      have a10 := h1 (B (24 * (k / 2) + 2 * 10 + k % 2))
      have a11 := h1 (B (24 * (k / 2) + 2 * 11 + k % 2))
      omega
    show mSum B k + mB B k ≤ 12 * (k + 1)
    omega
theorem fgF_f {fo : Int} {B : Nat → Bool} {z : Int32} {j : Nat} (h : B j = false) : ∀ k, (fgF fo B z k).1 j = false
  | 0 => h
  | k + 1 => by
    have ih := fgF_f (fo := fo) (z := z) h k
    show (fgS fo k (fgF fo B z k)).1 j = false
    unfold fgS
    split
    · show (if _ then _ else _ : Nat → Bool) j = false
      split
      · show (if j = k then false else (fgF fo B z k).1 j) = false
        split
        · rfl
        · exact ih
      · exact ih
    · exact ih
theorem fgF_sk {fo : Int} {B : Nat → Bool} {z : Int32} {a : Nat} : ∀ d, (∀ j, a ≤ j → j < a + d → B j = false) → fgF fo B z (a + d) = fgF fo B z a
  | 0, _ => rfl
  | d + 1, h => by
    have ih := fgF_sk (fo := fo) (z := z) (a := a) d (fun j h1 h2 => h j h1 (by omega))
    show fgS fo (a + d) (fgF fo B z (a + d)) = _
    rw [fg_n (fgF_f (h (a + d) (by omega) (by omega)) (a + d)), ih]
theorem fgF_nx {fo : Int} {B : Nat → Bool} {z : Int32} {n b : Nat} (h : b < 8 * n) (hn : n ≤ 12) (hB : ∀ j, n ≤ j / 2 % 12 → B j = false) : fgF fo B z (betE n (b + 1)) = fgF fo B z (bet n b + 1) := by
  obtain ⟨p, l, w, hp, hl, hw, hb⟩ := dec_b h
  have hbe := bet_eq hb hl hw hp
  have key : ∀ d, (∀ j, bet n b + 1 ≤ j → j < bet n b + 1 + d → B j = false) → betE n (b + 1) = bet n b + 1 + d → fgF fo B z (betE n (b + 1)) = fgF fo B z (bet n b + 1) := by
    intro d h1 h2; rw [h2]; exact fgF_sk d h1
  by_cases c : 2 * l + w + 1 < 2 * n
  · refine key 0 (fun j h1 h2 => by omega) ?_
    have h8 : b + 1 < 8 * n := by
      rw [hb]; rcases (by omega : p = 0 ∨ p = 1 ∨ p = 2 ∨ p = 3) with rfl | rfl | rfl | rfl <;> omega
    unfold betE; rw [if_pos h8]
    by_cases w1 : w = 0
    · rw [bet_eq (p := p) (l := l) (w := 1) (by omega) hl (by omega) hp]; omega
    · rw [bet_eq (p := p) (l := l + 1) (w := 0) (by omega) (by omega) (by omega) hp]; omega
  · have e1 : w = 1 ∧ l + 1 = n := by omega
    refine key (24 * (p + 1) - (bet n b + 1)) (fun j h1 h2 => ?_) ?_
    · refine hB j ?_
      have h3 : j < 24 * (p + 1) := by omega
      have h4 : 24 * p + 2 * n ≤ j := by omega
      rcases (by omega : p = 0 ∨ p = 1 ∨ p = 2 ∨ p = 3) with rfl | rfl | rfl | rfl <;> omega
    · have e3 : betE n (b + 1) = 24 * (p + 1) := by
        unfold betE
        by_cases p3 : p = 3
        · subst p3; rw [if_neg (by omega)]
        · have h8 : b + 1 < 8 * n := by rcases (by omega : p = 0 ∨ p = 1 ∨ p = 2) with rfl | rfl | rfl <;> omega
          rw [if_pos h8, bet_eq (p := p + 1) (l := 0) (w := 0) (by rw [Nat.add_mul]; omega) (by omega) (by omega) (by omega)]; omega
      rw [e3]; omega
theorem fgF_0 {fo : Int} {B : Nat → Bool} {z : Int32} {n : Nat} (hB : ∀ j, n ≤ j / 2 % 12 → B j = false) : fgF fo B z (betE n 0) = (B, z) := by
  unfold betE
  by_cases h : 0 < 8 * n
  · rw [if_pos h]; unfold bet; simp; rfl
  · rw [if_neg h]
    have := fgF_sk (fo := fo) (z := z) (B := B) (a := 0) 96 (fun j _ _ => hB j (by omega))
    rw [Nat.zero_add] at this; rw [this]; rfl
theorem betE_e {n b : Nat} (h : ¬ b < 8 * n) : betE n b = 96 := by unfold betE; rw [if_neg h]
theorem betE_b {n b : Nat} (h : b < 8 * n) : betE n b = bet n b := by unfold betE; rw [if_pos h]
set_option maxRecDepth 100000 in
theorem drF_f {F : Nat → Nat → Nat → Int32} {S : Nat → Nat} {T : Nat → Nat} {n : Nat} {fo : Int} {B : Nat → Bool} {z : Int32} {j : Nat} (h : B j = false) : ∀ k, (drF F S T n fo B z k).1 j = false
  | 0 => h
  | k + 1 => by
    have e : (drF F S T n fo B z (k + 1)).1 = (fgF fo (drF F S T n fo B z k).1 (drF F S T n fo B z k).2.1 96).1 := rfl
    rw [e]; generalize 96 = q; exact fgF_f (drF_f h k) q
set_option maxRecDepth 100000 in
theorem drF_le {F : Nat → Nat → Nat → Int32} {S : Nat → Nat} {T : Nat → Nat} {n : Nat} {fo : Int} {B : Nat → Bool} {z : Int32} (hn : n ≤ 12) : ∀ k, (drF F S T n fo B z k).2.2 ≤ 12 * k
  | 0 => Nat.le_refl 0
  | k + 1 => by
    have := drF_le (F := F) (S := S) (T := T) (fo := fo) (B := B) (z := z) hn k
    have h2 := rtF_12 F S T (fgF fo (drF F S T n fo B z k).1 (drF F S T n fo B z k).2.1 96).1 n 0 hn (by omega)
    show (drF F S T n fo B z k).2.2 + _ ≤ 12 * (k + 1)
    omega
theorem canS_0 {B : Nat → Bool} (h : ∀ j, B j = false) (l : Nat) : canS B l = false := by unfold canS anyB; simp [h]
theorem MHV_same {f g : Nat → Int32} {B : Nat → Nat → Bool} (h : MHV f B) (h1 : ∀ j, j < 24 → g j = f j) : MHV g B := fun s hs p hp w hw l hl => by rw [h1 _ (by omega)]; exact h s hs p hp w hw l hl
/-! singing in deed -/
theorem mx_lt {a b : Int32} (h : a.toInt < b.toInt) : b = (if a < b then b else a) := by rw [if_pos (Int32.lt_iff_toInt_lt.mpr h)]
theorem mx_ge {a b : Int32} (h : b.toInt ≤ a.toInt) : a = (if a < b then b else a) := by rw [if_neg (fun q => by have := Int32.lt_iff_toInt_lt.mp q; omega)]
theorem OFT_0 {f : Nat → Int32} (h : ∀ j, j < 12 → f j = 0) : OFT f [] := fun l hl => by rw [h l hl]; rfl
set_option maxHeartbeats 4000000 in
set_option maxRecDepth 100000 in
theorem c_X11_bitsOf (l : Launch) (D : va_G) (Y : Nat → ClassId) (x : Int32) (v_ : Nat) (tx : x.toInt = ((v_ : Nat) : Int)) (hv : v_ < 4096) : Mg l yX11_bitsOf wsX11_bitsOf ({ frames := 0, cells := 0, slots := 0, locals := 0 }) D Y [] [.int x] 0 0 (fun vv__ ww__ => (∃ (r : Int32), vv__ = some (.int r) ∧ ww__ = [] ∧ (r.toInt = ((pcn v_ : Nat) : Int)))) := by
  refine Mg_of (cc := cX11_bitsOf) (maxL := 3) (ret := (some .int)) (ls0 := [(0, .int x)]) RX11 (by decide) rfl rfl rfl (Nat.le_of_ble_eq_true rfl) (fun p__ e__ s__ m__ b__ t__ c__ X hr hn => ?_)
  have hpv := pcn_le v_
  refine V_iconst (v := (0 : Int32)) X (by decide) dX11_bitsOf_0 ?_
  refine V_istore_n (ls' := [(1, .int (0 : Int32)), (0, .int x)]) X (by decide) rfl dX11_bitsOf_1 ?_
  refine V_iload_n X 1 rfl dX11_bitsOf_2 ?_
  refine V_istore_n (ls' := [(2, .int x), (1, .int (0 : Int32)), (0, .int x)]) X (by decide) rfl dX11_bitsOf_3 ?_
  refine V_ls (ls' := [(0, .int x), (1, .int (0 : Int32)), (2, .int x)]) [2, 1, 0] rfl ?_
  refine V_to (V_ind4 (fun (u2 : Int32) (w : Nat) (i1 : Int32) (k : Nat) => (u2.toInt = ((w : Nat) : Int)) ∧ (i1.toInt = ((k : Nat) : Int)) ∧ (w < 4096) ∧ (k + pcn w = pcn v_)) (fun (u2 : Int32) (w : Nat) (i1 : Int32) (k : Nat) => w) (fun (u2 : Int32) (w : Nat) (i1 : Int32) (k : Nat) => [(0, .int x), (1, .int i1), (2, .int u2)]) (fun (u2 : Int32) (w : Nat) (i1 : Int32) (k : Nat) => []) (fun u2 w i1 k hI_4 ih_4 => ?_) x v_ (0 : Int32) 0 ?_) rfl rfl rfl rfl
  · obtain ⟨tu2, ti1, hw, hp⟩ := hI_4
    refine V_to (ls' := [(0, .int x), (1, .int i1), (2, .int u2)]) (ws' := []) ?_ rfl rfl rfl rfl
    refine V_iload_n X 2 rfl dX11_bitsOf_4 ?_
    refine V_if_eq X tu2 20 dX11_bitsOf_5 (by decide) (fun c_5 => ?_) (fun c_5 => ?_)
    · refine V_iload_n X 1 rfl dX11_bitsOf_20 ?_
      exact V_iret X hr dX11_bitsOf_21 (⟨i1, rfl, rfl, (by have h9 : pcn w = 0 := (by rw [show w = 0 by omega]; rfl); omega)⟩)
    · have hpw := pcn_le w
      have hps := pcn_s w hw (by omega)
      refine V_iincZ X (fun vv_ => [(1, .int vv_), (0, .int x), (2, .int u2)]) ti1 (by omega) (by omega) (by decide) 1 rfl (by decide) (fun _ => rfl) dX11_bitsOf_8 (fun x_1 ex_1 tx_1 => ?_)
      have tx_1 : x_1.toInt = (((k + 1) : Nat) : Int) := by omega
      refine V_iload_n X 2 rfl dX11_bitsOf_11 ?_
      refine V_iload_n X 2 rfl dX11_bitsOf_12 ?_
      refine V_iconst (v := (1 : Int32)) X (by decide) dX11_bitsOf_13 ?_
      refine V_isubZ X tu2 (show (1 : Int32).toInt = 1 from by decide) (by omega) (by omega) dX11_bitsOf_14 (fun x_2 ex_2 tx_2 => ?_)
      have tx_2 : x_2.toInt = (((w - 1) : Nat) : Int) := by omega
      refine V_iand X dX11_bitsOf_15 (fun x_3 ex_3 => ?_)
      have tx_3 : x_3.toInt = (((w &&& (w - 1)) : Nat) : Int) := (and_nI ex_3 tu2 tx_2 hw (by omega))
      refine V_istore_n (ls' := [(2, .int x_3), (1, .int x_1), (0, .int x)]) X (by decide) rfl dX11_bitsOf_16 ?_
      refine V_goto X 4 (by decide) dX11_bitsOf_17 ?_
      refine V_ls (ls' := [(0, .int x), (1, .int x_1), (2, .int x_3)]) [2, 1, 0] rfl ?_
      exact V_to (ih_4 x_3 (w &&& (w - 1)) x_1 (k + 1) ⟨(by omega), (by omega), (by omega), (by omega)⟩ (by omega)) rfl rfl rfl rfl
  · exact ⟨(by omega), (by have h9 : (0 : Int32).toInt = 0 := (show (0 : Int32).toInt = 0 from by decide); omega), hv, (Nat.zero_add _)⟩

theorem in_X11_bitsLeft_X11 : ∀ w ∈ wsX110, w ∈ wsX11_bitsLeft := fun w h => List.mem_cons_of_mem _ (List.mem_append_right _ h)
set_option maxHeartbeats 4000000 in
set_option maxRecDepth 100000 in
theorem c_X11_bitsLeft (l : Launch) (D : va_G) (Y : Nat → ClassId) (m : Nat) (R : Nat → Nat) (v0 : Int32) (v7 : Int32) (v8 : Int32) (v9 : Int32) (v15 : Int32) (v16 : Int32) (v17 : Int32) (v18 : Int32) (v19 : Int32) (v27 : Int32) (v31 : Int32) (v32 : Int32) (v33 : Int32) (v34 : Int32) (v38 : Int32) (v42 : Int32) (v44 : Int32) (a5 : Nat → Int32) (B : Nat → Nat → Bool) (s0 : Nat) (x : Int32) (hMH : MHV a5 B) (hs0 : s0 < 3) (tx : x.toInt = ((s0 : Nat) : Int)) : Mg l yX11_bitsLeft wsX11_bitsLeft ({ frames := 1, cells := 0, slots := 0, locals := 22 }) D Y [(m, .inr (10, mF R v0 v7 v8 v9 v15 v16 v17 v18 v19 v27 v31 v32 v33 v34 v38 v42 v44)), ((R 5), .inl (Y 0, 24, .inl a5))] [.ref m, .int x] 0 0 (fun vv__ ww__ => (∃ (r : Int32), vv__ = some (.int r) ∧ ww__ = [(m, .inr (10, mF R v0 v7 v8 v9 v15 v16 v17 v18 v19 v27 v31 v32 v33 v34 v38 v42 v44)), ((R 5), .inl (Y 0, 24, .inl a5))] ∧ (r.toInt = ((cnB (B s0) 24 : Nat) : Int)))) := by
  refine Mg_of (cc := cX11_bitsLeft) (maxL := 4) (ret := (some .int)) (ls0 := [(0, .ref m), (1, .int x)]) RX11 (by decide) rfl rfl rfl (Nat.le_of_ble_eq_true rfl) (fun p__ e__ s__ m__ b__ t__ c__ X hr hn => ?_)
  refine V_iconst (v := (0 : Int32)) X (by decide) dX11_bitsLeft_0 ?_
  refine V_istore_n (ls' := [(2, .int (0 : Int32)), (0, .ref m), (1, .int x)]) X (by decide) rfl dX11_bitsLeft_1 ?_
  refine V_iconst (v := (0 : Int32)) X (by decide) dX11_bitsLeft_2 ?_
  refine V_istore_n (ls' := [(3, .int (0 : Int32)), (2, .int (0 : Int32)), (0, .ref m), (1, .int x)]) X (by decide) rfl dX11_bitsLeft_3 ?_
  refine V_ls (ls' := [(0, .ref m), (1, .int x), (2, .int (0 : Int32)), (3, .int (0 : Int32))]) [2, 3, 1, 0] rfl ?_
  refine V_to (V_ind4 (fun (i3 : Int32) (k : Nat) (i2 : Int32) (sN : Nat) => (i3.toInt = ((k : Nat) : Int)) ∧ (i2.toInt = ((sN : Nat) : Int)) ∧ (k ≤ 8) ∧ (sN = mSum (B s0) k)) (fun (i3 : Int32) (k : Nat) (i2 : Int32) (sN : Nat) => 8 - k) (fun (i3 : Int32) (k : Nat) (i2 : Int32) (sN : Nat) => [(0, .ref m), (1, .int x), (2, .int i2), (3, .int i3)]) (fun (i3 : Int32) (k : Nat) (i2 : Int32) (sN : Nat) => [(m, .inr (10, mF R v0 v7 v8 v9 v15 v16 v17 v18 v19 v27 v31 v32 v33 v34 v38 v42 v44)), ((R 5), .inl (Y 0, 24, .inl a5))]) (fun i3 k i2 sN hI_4 ih_4 => ?_) (0 : Int32) 0 (0 : Int32) 0 ?_) rfl rfl rfl rfl
  · obtain ⟨ti3, ti2, hk, hs⟩ := hI_4
    refine V_to (ls' := [(0, .ref m), (1, .int x), (2, .int i2), (3, .int i3)]) (ws' := [(m, .inr (10, mF R v0 v7 v8 v9 v15 v16 v17 v18 v19 v27 v31 v32 v33 v34 v38 v42 v44)), ((R 5), .inl (Y 0, 24, .inl a5))]) ?_ rfl rfl rfl rfl
    refine V_iload_n X 3 rfl dX11_bitsLeft_4 ?_
    refine V_bipush (v := (8 : Int32)) X (by decide) dX11_bitsLeft_5 ?_
    refine V_icmp_ge X ti3 (show (8 : Int32).toInt = 8 from by decide) 33 dX11_bitsLeft_7 (by decide) (fun c_7 => ?_) (fun c_7 => ?_)
    · refine V_iload_n X 2 rfl dX11_bitsLeft_33 ?_
      exact V_iret X hr dX11_bitsLeft_34 (⟨i2, rfl, rfl, (by rw [← mSum_8, ti2, hs, show k = 8 by omega])⟩)
    · obtain ⟨vk, hv1, hv2, hv3⟩ := MHV_num hMH hs0 (show k < 8 by omega)
      have hp12 := pcn_le vk
      have hsl := mSum_le (B s0) k
      refine V_iload_n X 2 rfl dX11_bitsLeft_10 ?_
      refine V_aload_n X 0 rfl dX11_bitsLeft_11 ?_
      refine V_get (C := RX11) (T := TX11) (N := 50) (ci := 10) (v := .ref (R 5)) X in_X11_bitsLeft_X11 0 rfl rfl 5 (by decide) (List.mem_of_getElem? (i := 1) rfl) rfl rfl dX11_bitsLeft_12 ?_
      refine V_bipush (v := (8 : Int32)) X (by decide) dX11_bitsLeft_15 ?_
      refine V_iload_n X 1 rfl dX11_bitsLeft_17 ?_
      refine V_imulZ X (show (8 : Int32).toInt = 8 from by decide) tx (by omega) (by omega) dX11_bitsLeft_18 (fun x_1 ex_1 tx_1 => ?_)
      have tx_1 : x_1.toInt = (((8 * s0) : Nat) : Int) := by omega
      refine V_iload_n X 3 rfl dX11_bitsLeft_19 ?_
      refine V_iaddZ X tx_1 ti3 (by omega) (by omega) dX11_bitsLeft_20 (fun x_2 ex_2 tx_2 => ?_)
      have tx_2 : x_2.toInt = ((((8 * s0) + k) : Nat) : Int) := by omega
      refine V_iald X 1 ((8 * s0) + k) rfl tx_2 (by omega) dX11_bitsLeft_21 ?_
      refine V_nm (fun x_3 ex_3 => ?_)
      have tx_3 : x_3.toInt = ((vk : Nat) : Int) := by rw [ex_3]; exact hv2
      refine V_callS (wr := [(m, .inr (10, mF R v0 v7 v8 v9 v15 v16 v17 v18 v19 v27 v31 v32 v33 v34 v38 v42 v44)), ((R 5), .inl (Y 0, 24, .inl a5))]) (st := [.int i2]) X (c_X11_bitsOf l D Y x_3 vk tx_3 (by omega)) 1 gX11_bitsLeft_X11_bitsOf rfl (by decide +kernel) ⟨rfl, rfl⟩ ⟨Nat.le_of_ble_eq_true rfl, Nat.le_of_ble_eq_true rfl⟩ [] [0, 1] rfl rfl rfl rfl (by decide) rfl rfl (Nat.le_of_ble_eq_true rfl) ⟨Nat.le_of_ble_eq_true rfl, Nat.le_of_ble_eq_true rfl⟩ dX11_bitsLeft_22 (fun v_22 w_22 h_22 => ?_)
      obtain ⟨r_5, rfl, rfl, htr_6⟩ := h_22
      refine V_to (pc' := 25) (ls' := [(0, .ref m), (1, .int x), (2, .int i2), (3, .int i3)]) (st' := [.int r_5, .int i2]) (ws' := [(m, .inr (10, mF R v0 v7 v8 v9 v15 v16 v17 v18 v19 v27 v31 v32 v33 v34 v38 v42 v44)), ((R 5), .inl (Y 0, 24, .inl a5))]) ?_ rfl rfl rfl rfl
      refine V_iaddZ X ti2 htr_6 (by omega) (by omega) dX11_bitsLeft_25 (fun x_7 ex_7 tx_7 => ?_)
      have tx_7 : x_7.toInt = (((sN + pcn vk) : Nat) : Int) := by omega
      refine V_istore_n (ls' := [(2, .int x_7), (0, .ref m), (1, .int x), (3, .int i3)]) X (by decide) rfl dX11_bitsLeft_26 ?_
      refine V_iincZ X (fun vv_ => [(3, .int vv_), (2, .int x_7), (0, .ref m), (1, .int x)]) ti3 (by omega) (by omega) (by decide) 3 rfl (by decide) (fun _ => rfl) dX11_bitsLeft_27 (fun x_8 ex_8 tx_8 => ?_)
      have tx_8 : x_8.toInt = (((k + 1) : Nat) : Int) := by omega
      refine V_goto X 4 (by decide) dX11_bitsLeft_30 ?_
      refine V_ls (ls' := [(0, .ref m), (1, .int x), (2, .int x_7), (3, .int x_8)]) [2, 3, 1, 0] rfl ?_
      exact V_to (ih_4 x_8 (k + 1) x_7 (sN + pcn vk) ⟨(by omega), (by omega), (by omega), (by show _ = mSum (B s0) k + mB (B s0) k; rw [← hs, hv3])⟩ (by omega)) rfl rfl rfl rfl
  · exact ⟨(by have h9 : (0 : Int32).toInt = 0 := (show (0 : Int32).toInt = 0 from by decide); omega), (by have h9 : (0 : Int32).toInt = 0 := (show (0 : Int32).toInt = 0 from by decide); omega), (by omega), rfl⟩

theorem in_X11_drawn_X11 : ∀ w ∈ wsX110, w ∈ wsX11_drawn := fun w h => List.mem_cons_of_mem _ (List.mem_append_right _ h)
set_option maxHeartbeats 4000000 in
set_option maxRecDepth 100000 in
theorem c_X11_drawn (l : Launch) (D : va_G) (Y : Nat → ClassId) (m : Nat) (R : Nat → Nat) (v0 : Int32) (v7 : Int32) (v8 : Int32) (v9 : Int32) (v15 : Int32) (v16 : Int32) (v17 : Int32) (v18 : Int32) (v19 : Int32) (v27 : Int32) (v31 : Int32) (v32 : Int32) (v33 : Int32) (v34 : Int32) (v38 : Int32) (v42 : Int32) (v44 : Int32) (a1 : Nat → Int32) (a2 : Nat → Int32) (a3 : Nat → Int32) (a4 : Nat → Int32) (a5 : Nat → Int32) (a6 : Nat → Int32) (a20 : Nat → Int32) (a21 : Nat → Int32) (a22 : Nat → Int32) (a23 : Nat → Int32) (a24 : Nat → Int32) (a25 : Nat → Int32) (a26 : Nat → Int32) (a28 : Nat → Int32) (n : Nat → Nat) (T : Nat → Nat → Nat) (B : Nat → Nat → Bool) (S : Nat → Nat) (F : Nat → Nat → Nat → Int32) (a35 : Nat → Int32) (s0 : Nat) (i : Int32) (sd : Int32) (m_ : Int32) (w_ : Int32) (hLN : LNR a1 n) (hMT : MTR a2 a3 a4 T) (hMH : MHV a5 B) (hSU : SUR a6 S) (hLW : LAWR v27 a20 a21 a22 a23 a24 F) (hs0 : s0 < 3) (hso : 0 ≤ i.toInt → i.toInt < 3 → i.toInt = ((s0 : Nat) : Int)) (hBz : ∀ j, n s0 ≤ j / 2 % 12 → B s0 j = false) : Mg l yX11_drawn wsX11_drawn ({ frames := 6, cells := 0, slots := 0, locals := 150 }) D Y [(m, .inr (10, mF R v0 v7 v8 v9 v15 v16 v17 v18 v19 v27 v31 v32 v33 v34 v38 v42 v44)), ((R 1), .inl (Y 0, 3, .inl a1)), ((R 2), .inl (Y 0, 36, .inl a2)), ((R 3), .inl (Y 0, 36, .inl a3)), ((R 4), .inl (Y 0, 36, .inl a4)), ((R 5), .inl (Y 0, 24, .inl a5)), ((R 6), .inl (Y 0, 4, .inl a6)), ((R 20), .inl (Y 2, 260, .inl a20)), ((R 21), .inl (Y 0, 260, .inl a21)), ((R 22), .inl (Y 0, 2, .inl a22)), ((R 23), .inl (Y 3, 122, .inl a23)), ((R 24), .inl (Y 3, 122, .inl a24)), ((R 25), .inl (Y 0, 6, .inl a25)), ((R 26), .inl (Y 0, 130, .inl a26)), ((R 28), .inl (Y 0, 12, .inl a28)), ((R 35), .inl (Y 0, 24, .inl a35))] [.ref m, .int i, .int sd, .int m_, .int w_] 0 0 (fun vv__ ww__ => (vv__ = some (.int (-1 : Int32)) ∧ ww__ = [(m, .inr (10, mF R v0 v7 v8 v9 v15 v16 v17 v18 v19 v27 v31 v32 v33 v34 v38 v42 v44)), ((R 1), .inl (Y 0, 3, .inl a1)), ((R 2), .inl (Y 0, 36, .inl a2)), ((R 3), .inl (Y 0, 36, .inl a3)), ((R 4), .inl (Y 0, 36, .inl a4)), ((R 5), .inl (Y 0, 24, .inl a5)), ((R 6), .inl (Y 0, 4, .inl a6)), ((R 20), .inl (Y 2, 260, .inl a20)), ((R 21), .inl (Y 0, 260, .inl a21)), ((R 22), .inl (Y 0, 2, .inl a22)), ((R 23), .inl (Y 3, 122, .inl a23)), ((R 24), .inl (Y 3, 122, .inl a24)), ((R 25), .inl (Y 0, 6, .inl a25)), ((R 26), .inl (Y 0, 130, .inl a26)), ((R 28), .inl (Y 0, 12, .inl a28)), ((R 35), .inl (Y 0, 24, .inl a35))] ∧ (¬ (0 ≤ i.toInt ∧ i.toInt < 3 ∧ 1 ≤ m_.toInt ∧ m_.toInt ≤ 20 ∧ 0 ≤ w_.toInt ∧ w_.toInt < 2))) ∨ (∃ (r : Int32), ∃ (z34 : Int32), ∃ (b25 : Nat → Int32), ∃ (b26 : Nat → Int32), ∃ (b28 : Nat → Int32), ∃ (b5 : Nat → Int32), ∃ (b35 : Nat → Int32), ∃ (nn : Nat), vv__ = some (.int r) ∧ ww__ = [(m, .inr (10, mF R v0 v7 v8 v9 v15 v16 v17 v18 v19 v27 v31 v32 v33 z34 v38 v42 v44)), ((R 1), .inl (Y 0, 3, .inl a1)), ((R 2), .inl (Y 0, 36, .inl a2)), ((R 3), .inl (Y 0, 36, .inl a3)), ((R 4), .inl (Y 0, 36, .inl a4)), ((R 5), .inl (Y 0, 24, .inl b5)), ((R 6), .inl (Y 0, 4, .inl a6)), ((R 20), .inl (Y 2, 260, .inl a20)), ((R 21), .inl (Y 0, 260, .inl a21)), ((R 22), .inl (Y 0, 2, .inl a22)), ((R 23), .inl (Y 3, 122, .inl a23)), ((R 24), .inl (Y 3, 122, .inl a24)), ((R 25), .inl (Y 0, 6, .inl b25)), ((R 26), .inl (Y 0, 130, .inl b26)), ((R 28), .inl (Y 0, 12, .inl b28)), ((R 35), .inl (Y 0, 24, .inl b35))] ∧ (0 ≤ i.toInt ∧ i.toInt = ((s0 : Nat) : Int) ∧ m_.toInt = ((nn : Nat) : Int) ∧ 1 ≤ nn ∧ nn ≤ 20) ∧ (0 ≤ w_.toInt ∧ w_.toInt < 2) ∧ (r.toInt = if w_.toInt = 0 then (((drF F S (T s0) (n s0) v7.toInt (B s0) sd nn).2.2 : Nat) : Int) else ((cnB (drF F S (T s0) (n s0) v7.toInt (B s0) sd nn).1 24 : Nat) : Int)) ∧ (MHV b5 B))) := by
  refine Mg_of (cc := cX11_drawn) (maxL := 9) (ret := (some .int)) (ls0 := [(0, .ref m), (1, .int i), (2, .int sd), (3, .int m_), (4, .int w_)]) RX11 (by decide) rfl rfl rfl (Nat.le_of_ble_eq_true rfl) (fun p__ e__ s__ m__ b__ t__ c__ X hr hn => ?_)
  have hln0 : (a1 s0).toInt = ((n s0 : Nat) : Int) ∧ n s0 ≤ 12 := hLN s0 hs0
  have hn12 := hln0.2
  refine V_iload_n X 1 rfl dX11_drawn_0 ?_
  refine V_callS (wr := [(m, .inr (10, mF R v0 v7 v8 v9 v15 v16 v17 v18 v19 v27 v31 v32 v33 v34 v38 v42 v44)), ((R 1), .inl (Y 0, 3, .inl a1)), ((R 2), .inl (Y 0, 36, .inl a2)), ((R 3), .inl (Y 0, 36, .inl a3)), ((R 4), .inl (Y 0, 36, .inl a4)), ((R 5), .inl (Y 0, 24, .inl a5)), ((R 6), .inl (Y 0, 4, .inl a6)), ((R 20), .inl (Y 2, 260, .inl a20)), ((R 21), .inl (Y 0, 260, .inl a21)), ((R 22), .inl (Y 0, 2, .inl a22)), ((R 23), .inl (Y 3, 122, .inl a23)), ((R 24), .inl (Y 3, 122, .inl a24)), ((R 25), .inl (Y 0, 6, .inl a25)), ((R 26), .inl (Y 0, 130, .inl a26)), ((R 28), .inl (Y 0, 12, .inl a28)), ((R 35), .inl (Y 0, 24, .inl a35))]) (st := []) X (c_X11_isSong l D Y i) 1 gX11_drawn_X11_isSong rfl (by decide +kernel) ⟨rfl, rfl⟩ ⟨Nat.le_of_ble_eq_true rfl, Nat.le_of_ble_eq_true rfl⟩ [] [0, 1, 2, 3, 4, 5, 6, 7, 8, 9, 10, 11, 12, 13, 14, 15] rfl rfl rfl rfl (by decide) rfl rfl (Nat.le_of_ble_eq_true rfl) ⟨Nat.le_of_ble_eq_true rfl, Nat.le_of_ble_eq_true rfl⟩ dX11_drawn_1 (fun v_1 w_1 h_1 => ?_)
  rcases h_1 with ⟨rfl, rfl, hhy_2⟩ | ⟨rfl, rfl, hhn_3⟩
  · refine V_to (pc' := 4) (ls' := [(0, .ref m), (1, .int i), (2, .int sd), (3, .int m_), (4, .int w_)]) (st' := [.int (1 : Int32)]) (ws' := [(m, .inr (10, mF R v0 v7 v8 v9 v15 v16 v17 v18 v19 v27 v31 v32 v33 v34 v38 v42 v44)), ((R 1), .inl (Y 0, 3, .inl a1)), ((R 2), .inl (Y 0, 36, .inl a2)), ((R 3), .inl (Y 0, 36, .inl a3)), ((R 4), .inl (Y 0, 36, .inl a4)), ((R 5), .inl (Y 0, 24, .inl a5)), ((R 6), .inl (Y 0, 4, .inl a6)), ((R 20), .inl (Y 2, 260, .inl a20)), ((R 21), .inl (Y 0, 260, .inl a21)), ((R 22), .inl (Y 0, 2, .inl a22)), ((R 23), .inl (Y 3, 122, .inl a23)), ((R 24), .inl (Y 3, 122, .inl a24)), ((R 25), .inl (Y 0, 6, .inl a25)), ((R 26), .inl (Y 0, 130, .inl a26)), ((R 28), .inl (Y 0, 12, .inl a28)), ((R 35), .inl (Y 0, 24, .inl a35))]) ?_ rfl rfl rfl rfl
    refine V_if_eq X (show (1 : Int32).toInt = 1 from by decide) 27 dX11_drawn_4 (by decide) (fun c_4 => absurd c_4 (by decide)) (fun _ => ?_)
    refine V_iload_n X 3 rfl dX11_drawn_7 ?_
    refine V_iconst (v := (1 : Int32)) X (by decide) dX11_drawn_8 ?_
    refine V_bipush (v := (20 : Int32)) X (by decide) dX11_drawn_9 ?_
    refine V_callS (wr := [(m, .inr (10, mF R v0 v7 v8 v9 v15 v16 v17 v18 v19 v27 v31 v32 v33 v34 v38 v42 v44)), ((R 1), .inl (Y 0, 3, .inl a1)), ((R 2), .inl (Y 0, 36, .inl a2)), ((R 3), .inl (Y 0, 36, .inl a3)), ((R 4), .inl (Y 0, 36, .inl a4)), ((R 5), .inl (Y 0, 24, .inl a5)), ((R 6), .inl (Y 0, 4, .inl a6)), ((R 20), .inl (Y 2, 260, .inl a20)), ((R 21), .inl (Y 0, 260, .inl a21)), ((R 22), .inl (Y 0, 2, .inl a22)), ((R 23), .inl (Y 3, 122, .inl a23)), ((R 24), .inl (Y 3, 122, .inl a24)), ((R 25), .inl (Y 0, 6, .inl a25)), ((R 26), .inl (Y 0, 130, .inl a26)), ((R 28), .inl (Y 0, 12, .inl a28)), ((R 35), .inl (Y 0, 24, .inl a35))]) (st := []) X (c_X11_in l D Y m_ (1 : Int32) (20 : Int32)) 3 gX11_drawn_X11_in rfl (by decide +kernel) ⟨rfl, rfl⟩ ⟨Nat.le_of_ble_eq_true rfl, Nat.le_of_ble_eq_true rfl⟩ [] [0, 1, 2, 3, 4, 5, 6, 7, 8, 9, 10, 11, 12, 13, 14, 15] rfl rfl rfl rfl (by decide) rfl rfl (Nat.le_of_ble_eq_true rfl) ⟨Nat.le_of_ble_eq_true rfl, Nat.le_of_ble_eq_true rfl⟩ dX11_drawn_11 (fun v_11 w_11 h_11 => ?_)
    rcases h_11 with ⟨rfl, rfl, hhy_5⟩ | ⟨rfl, rfl, hhn_6⟩
    · refine V_to (pc' := 14) (ls' := [(0, .ref m), (1, .int i), (2, .int sd), (3, .int m_), (4, .int w_)]) (st' := [.int (1 : Int32)]) (ws' := [(m, .inr (10, mF R v0 v7 v8 v9 v15 v16 v17 v18 v19 v27 v31 v32 v33 v34 v38 v42 v44)), ((R 1), .inl (Y 0, 3, .inl a1)), ((R 2), .inl (Y 0, 36, .inl a2)), ((R 3), .inl (Y 0, 36, .inl a3)), ((R 4), .inl (Y 0, 36, .inl a4)), ((R 5), .inl (Y 0, 24, .inl a5)), ((R 6), .inl (Y 0, 4, .inl a6)), ((R 20), .inl (Y 2, 260, .inl a20)), ((R 21), .inl (Y 0, 260, .inl a21)), ((R 22), .inl (Y 0, 2, .inl a22)), ((R 23), .inl (Y 3, 122, .inl a23)), ((R 24), .inl (Y 3, 122, .inl a24)), ((R 25), .inl (Y 0, 6, .inl a25)), ((R 26), .inl (Y 0, 130, .inl a26)), ((R 28), .inl (Y 0, 12, .inl a28)), ((R 35), .inl (Y 0, 24, .inl a35))]) ?_ rfl rfl rfl rfl
      have hc_1 : (1 : Int32).toInt = 1 := by decide
      have hc_20 : (20 : Int32).toInt = 20 := by decide
      refine V_if_eq X (show (1 : Int32).toInt = 1 from by decide) 27 dX11_drawn_14 (by decide) (fun c_14 => absurd c_14 (by decide)) (fun _ => ?_)
      refine V_iload X 4 rfl dX11_drawn_17 ?_
      refine V_iconst (v := (0 : Int32)) X (by decide) dX11_drawn_19 ?_
      refine V_iconst (v := (1 : Int32)) X (by decide) dX11_drawn_20 ?_
      refine V_callS (wr := [(m, .inr (10, mF R v0 v7 v8 v9 v15 v16 v17 v18 v19 v27 v31 v32 v33 v34 v38 v42 v44)), ((R 1), .inl (Y 0, 3, .inl a1)), ((R 2), .inl (Y 0, 36, .inl a2)), ((R 3), .inl (Y 0, 36, .inl a3)), ((R 4), .inl (Y 0, 36, .inl a4)), ((R 5), .inl (Y 0, 24, .inl a5)), ((R 6), .inl (Y 0, 4, .inl a6)), ((R 20), .inl (Y 2, 260, .inl a20)), ((R 21), .inl (Y 0, 260, .inl a21)), ((R 22), .inl (Y 0, 2, .inl a22)), ((R 23), .inl (Y 3, 122, .inl a23)), ((R 24), .inl (Y 3, 122, .inl a24)), ((R 25), .inl (Y 0, 6, .inl a25)), ((R 26), .inl (Y 0, 130, .inl a26)), ((R 28), .inl (Y 0, 12, .inl a28)), ((R 35), .inl (Y 0, 24, .inl a35))]) (st := []) X (c_X11_in l D Y w_ (0 : Int32) (1 : Int32)) 3 gX11_drawn_X11_in rfl (by decide +kernel) ⟨rfl, rfl⟩ ⟨Nat.le_of_ble_eq_true rfl, Nat.le_of_ble_eq_true rfl⟩ [] [0, 1, 2, 3, 4, 5, 6, 7, 8, 9, 10, 11, 12, 13, 14, 15] rfl rfl rfl rfl (by decide) rfl rfl (Nat.le_of_ble_eq_true rfl) ⟨Nat.le_of_ble_eq_true rfl, Nat.le_of_ble_eq_true rfl⟩ dX11_drawn_21 (fun v_21 w_21 h_21 => ?_)
      rcases h_21 with ⟨rfl, rfl, hhy_8⟩ | ⟨rfl, rfl, hhn_9⟩
      · refine V_to (pc' := 24) (ls' := [(0, .ref m), (1, .int i), (2, .int sd), (3, .int m_), (4, .int w_)]) (st' := [.int (1 : Int32)]) (ws' := [(m, .inr (10, mF R v0 v7 v8 v9 v15 v16 v17 v18 v19 v27 v31 v32 v33 v34 v38 v42 v44)), ((R 1), .inl (Y 0, 3, .inl a1)), ((R 2), .inl (Y 0, 36, .inl a2)), ((R 3), .inl (Y 0, 36, .inl a3)), ((R 4), .inl (Y 0, 36, .inl a4)), ((R 5), .inl (Y 0, 24, .inl a5)), ((R 6), .inl (Y 0, 4, .inl a6)), ((R 20), .inl (Y 2, 260, .inl a20)), ((R 21), .inl (Y 0, 260, .inl a21)), ((R 22), .inl (Y 0, 2, .inl a22)), ((R 23), .inl (Y 3, 122, .inl a23)), ((R 24), .inl (Y 3, 122, .inl a24)), ((R 25), .inl (Y 0, 6, .inl a25)), ((R 26), .inl (Y 0, 130, .inl a26)), ((R 28), .inl (Y 0, 12, .inl a28)), ((R 35), .inl (Y 0, 24, .inl a35))]) ?_ rfl rfl rfl rfl
        have hc_0 : (0 : Int32).toInt = 0 := by decide
        refine V_if_ne X (show (1 : Int32).toInt = 1 from by decide) 29 dX11_drawn_24 (by decide) (fun _ => ?_) (fun c_24 => absurd c_24 (by decide))
        obtain ⟨nn, tnn⟩ : ∃ nn : Nat, m_.toInt = ((nn : Nat) : Int) := ⟨m_.toInt.toNat, by omega⟩
        · refine V_iconst (v := (0 : Int32)) X (by decide) dX11_drawn_29 ?_
          refine V_istore (ls' := [(5, .int (0 : Int32)), (0, .ref m), (1, .int i), (2, .int sd), (3, .int m_), (4, .int w_)]) X (by decide) rfl dX11_drawn_30 ?_
          refine V_ls (ls' := [(0, .ref m), (1, .int i), (2, .int sd), (3, .int m_), (4, .int w_), (5, .int (0 : Int32))]) [1, 2, 3, 4, 5, 0] rfl ?_
          refine V_to (V_ind3 (fun (i5 : Int32) (k : Nat) (g35 : Nat → Int32) => (i5.toInt = ((k : Nat) : Int)) ∧ (k ≤ 24) ∧ (∀ j, j < k → g35 j = a5 j)) (fun (i5 : Int32) (k : Nat) (g35 : Nat → Int32) => 24 - k) (fun (i5 : Int32) (k : Nat) (g35 : Nat → Int32) => [(0, .ref m), (1, .int i), (2, .int sd), (3, .int m_), (4, .int w_), (5, .int i5)]) (fun (i5 : Int32) (k : Nat) (g35 : Nat → Int32) => [(m, .inr (10, mF R v0 v7 v8 v9 v15 v16 v17 v18 v19 v27 v31 v32 v33 v34 v38 v42 v44)), ((R 1), .inl (Y 0, 3, .inl a1)), ((R 2), .inl (Y 0, 36, .inl a2)), ((R 3), .inl (Y 0, 36, .inl a3)), ((R 4), .inl (Y 0, 36, .inl a4)), ((R 5), .inl (Y 0, 24, .inl a5)), ((R 6), .inl (Y 0, 4, .inl a6)), ((R 20), .inl (Y 2, 260, .inl a20)), ((R 21), .inl (Y 0, 260, .inl a21)), ((R 22), .inl (Y 0, 2, .inl a22)), ((R 23), .inl (Y 3, 122, .inl a23)), ((R 24), .inl (Y 3, 122, .inl a24)), ((R 25), .inl (Y 0, 6, .inl a25)), ((R 26), .inl (Y 0, 130, .inl a26)), ((R 28), .inl (Y 0, 12, .inl a28)), ((R 35), .inl (Y 0, 24, .inl g35))]) (fun i5 k g35 hI_32 ih_32 => ?_) (0 : Int32) 0 a35 ?_) rfl rfl rfl rfl
          · obtain ⟨ti5, hk, hc⟩ := hI_32
            refine V_to (ls' := [(0, .ref m), (1, .int i), (2, .int sd), (3, .int m_), (4, .int w_), (5, .int i5)]) (ws' := [(m, .inr (10, mF R v0 v7 v8 v9 v15 v16 v17 v18 v19 v27 v31 v32 v33 v34 v38 v42 v44)), ((R 1), .inl (Y 0, 3, .inl a1)), ((R 2), .inl (Y 0, 36, .inl a2)), ((R 3), .inl (Y 0, 36, .inl a3)), ((R 4), .inl (Y 0, 36, .inl a4)), ((R 5), .inl (Y 0, 24, .inl a5)), ((R 6), .inl (Y 0, 4, .inl a6)), ((R 20), .inl (Y 2, 260, .inl a20)), ((R 21), .inl (Y 0, 260, .inl a21)), ((R 22), .inl (Y 0, 2, .inl a22)), ((R 23), .inl (Y 3, 122, .inl a23)), ((R 24), .inl (Y 3, 122, .inl a24)), ((R 25), .inl (Y 0, 6, .inl a25)), ((R 26), .inl (Y 0, 130, .inl a26)), ((R 28), .inl (Y 0, 12, .inl a28)), ((R 35), .inl (Y 0, 24, .inl g35))]) ?_ rfl rfl rfl rfl
            refine V_iload X 5 rfl dX11_drawn_32 ?_
            refine V_bipush (v := (24 : Int32)) X (by decide) dX11_drawn_34 ?_
            refine V_icmp_ge X ti5 (show (24 : Int32).toInt = 24 from by decide) 59 dX11_drawn_36 (by decide) (fun c_36 => ?_) (fun c_36 => ?_)
            · refine V_iload_n X 2 rfl dX11_drawn_59 ?_
              refine V_istore (ls' := [(5, .int sd), (0, .ref m), (1, .int i), (2, .int sd), (3, .int m_), (4, .int w_)]) X (by decide) rfl dX11_drawn_60 ?_
              refine V_iconst (v := (0 : Int32)) X (by decide) dX11_drawn_62 ?_
              refine V_istore (ls' := [(6, .int (0 : Int32)), (5, .int sd), (0, .ref m), (1, .int i), (2, .int sd), (3, .int m_), (4, .int w_)]) X (by decide) rfl dX11_drawn_63 ?_
              refine V_iconst (v := (0 : Int32)) X (by decide) dX11_drawn_65 ?_
              refine V_istore (ls' := [(7, .int (0 : Int32)), (6, .int (0 : Int32)), (5, .int sd), (0, .ref m), (1, .int i), (2, .int sd), (3, .int m_), (4, .int w_)]) X (by decide) rfl dX11_drawn_66 ?_
              refine V_ls (ls' := [(0, .ref m), (1, .int i), (2, .int sd), (3, .int m_), (4, .int w_), (5, .int sd), (6, .int (0 : Int32)), (7, .int (0 : Int32))]) [3, 4, 5, 6, 7, 2, 1, 0] rfl ?_
              refine V_to (V_ind9 (fun (i7 : Int32) (q : Nat) (z5 : Int32) (i6 : Int32) (z34 : Int32) (g25 : Nat → Int32) (g26 : Nat → Int32) (g28 : Nat → Int32) (g5 : Nat → Int32) => (i7.toInt = ((q : Nat) : Int)) ∧ (i6.toInt = (((drF F S (T s0) (n s0) v7.toInt (B s0) sd q).2.2 : Nat) : Int)) ∧ (q ≤ nn) ∧ (z5 = (drF F S (T s0) (n s0) v7.toInt (B s0) sd q).2.1) ∧ (MHV g5 (upS B s0 (drF F S (T s0) (n s0) v7.toInt (B s0) sd q).1))) (fun (i7 : Int32) (q : Nat) (z5 : Int32) (i6 : Int32) (z34 : Int32) (g25 : Nat → Int32) (g26 : Nat → Int32) (g28 : Nat → Int32) (g5 : Nat → Int32) => nn - q) (fun (i7 : Int32) (q : Nat) (z5 : Int32) (i6 : Int32) (z34 : Int32) (g25 : Nat → Int32) (g26 : Nat → Int32) (g28 : Nat → Int32) (g5 : Nat → Int32) => [(0, .ref m), (1, .int i), (2, .int sd), (3, .int m_), (4, .int w_), (5, .int z5), (6, .int i6), (7, .int i7)]) (fun (i7 : Int32) (q : Nat) (z5 : Int32) (i6 : Int32) (z34 : Int32) (g25 : Nat → Int32) (g26 : Nat → Int32) (g28 : Nat → Int32) (g5 : Nat → Int32) => [(m, .inr (10, mF R v0 v7 v8 v9 v15 v16 v17 v18 v19 v27 v31 v32 v33 z34 v38 v42 v44)), ((R 1), .inl (Y 0, 3, .inl a1)), ((R 2), .inl (Y 0, 36, .inl a2)), ((R 3), .inl (Y 0, 36, .inl a3)), ((R 4), .inl (Y 0, 36, .inl a4)), ((R 5), .inl (Y 0, 24, .inl g5)), ((R 6), .inl (Y 0, 4, .inl a6)), ((R 20), .inl (Y 2, 260, .inl a20)), ((R 21), .inl (Y 0, 260, .inl a21)), ((R 22), .inl (Y 0, 2, .inl a22)), ((R 23), .inl (Y 3, 122, .inl a23)), ((R 24), .inl (Y 3, 122, .inl a24)), ((R 25), .inl (Y 0, 6, .inl g25)), ((R 26), .inl (Y 0, 130, .inl g26)), ((R 28), .inl (Y 0, 12, .inl g28)), ((R 35), .inl (Y 0, 24, .inl g35))]) (fun i7 q z5 i6 z34 g25 g26 g28 g5 hI_68 ih_68 => ?_) (0 : Int32) 0 sd (0 : Int32) v34 a25 a26 a28 a5 ?_) rfl rfl rfl rfl
              · obtain ⟨ti7, ti6, hq, hzq, hM5⟩ := hI_68
                refine V_to (ls' := [(0, .ref m), (1, .int i), (2, .int sd), (3, .int m_), (4, .int w_), (5, .int z5), (6, .int i6), (7, .int i7)]) (ws' := [(m, .inr (10, mF R v0 v7 v8 v9 v15 v16 v17 v18 v19 v27 v31 v32 v33 z34 v38 v42 v44)), ((R 1), .inl (Y 0, 3, .inl a1)), ((R 2), .inl (Y 0, 36, .inl a2)), ((R 3), .inl (Y 0, 36, .inl a3)), ((R 4), .inl (Y 0, 36, .inl a4)), ((R 5), .inl (Y 0, 24, .inl g5)), ((R 6), .inl (Y 0, 4, .inl a6)), ((R 20), .inl (Y 2, 260, .inl a20)), ((R 21), .inl (Y 0, 260, .inl a21)), ((R 22), .inl (Y 0, 2, .inl a22)), ((R 23), .inl (Y 3, 122, .inl a23)), ((R 24), .inl (Y 3, 122, .inl a24)), ((R 25), .inl (Y 0, 6, .inl g25)), ((R 26), .inl (Y 0, 130, .inl g26)), ((R 28), .inl (Y 0, 12, .inl g28)), ((R 35), .inl (Y 0, 24, .inl g35))]) ?_ rfl rfl rfl rfl
                refine V_iload X 7 rfl dX11_drawn_68 ?_
                refine V_iload_n X 3 rfl dX11_drawn_70 ?_
                refine V_icmp_ge X ti7 tnn 158 dX11_drawn_71 (by decide) (fun c_71 => ?_) (fun c_71 => ?_)
                · refine V_aload_n X 0 rfl dX11_drawn_158 ?_
                  refine V_iload_n X 1 rfl dX11_drawn_159 ?_
                  refine V_callV (C := RX11) (wr := [((R 1), .inl (Y 0, 3, .inl a1)), ((R 2), .inl (Y 0, 36, .inl a2)), ((R 3), .inl (Y 0, 36, .inl a3)), ((R 4), .inl (Y 0, 36, .inl a4)), ((R 6), .inl (Y 0, 4, .inl a6)), ((R 20), .inl (Y 2, 260, .inl a20)), ((R 21), .inl (Y 0, 260, .inl a21)), ((R 22), .inl (Y 0, 2, .inl a22)), ((R 23), .inl (Y 3, 122, .inl a23)), ((R 24), .inl (Y 3, 122, .inl a24)), ((R 25), .inl (Y 0, 6, .inl g25)), ((R 26), .inl (Y 0, 130, .inl g26)), ((R 28), .inl (Y 0, 12, .inl g28)), ((R 35), .inl (Y 0, 24, .inl g35))]) (st := []) X (c_X11_bitsLeft l D Y m R v0 v7 v8 v9 v15 v16 v17 v18 v19 v27 v31 v32 v33 z34 v38 v42 v44 g5 (upS B s0 (drF F S (T s0) (n s0) v7.toInt (B s0) sd q).1) s0 i hM5 hs0 (by omega)) 1 gX11_drawn_X11_bitsLeft rfl (by decide +kernel) ⟨rfl, rfl⟩ ⟨Nat.le_of_ble_eq_true rfl, Nat.le_of_ble_eq_true rfl⟩ [0, 5] [1, 2, 3, 4, 6, 7, 8, 9, 10, 11, 12, 13, 14, 15] rfl rfl rfl rfl (by decide) (ci := 10) rfl rfl 0 rfl rfl rfl (Nat.le_of_ble_eq_true rfl) ⟨Nat.le_of_ble_eq_true rfl, Nat.le_of_ble_eq_true rfl⟩ dX11_drawn_160 (fun v_160 w_160 h_160 => ?_)
                  obtain ⟨r_11, rfl, rfl, trb⟩ := h_160
                  refine V_to (pc' := 163) (ls' := [(0, .ref m), (1, .int i), (2, .int sd), (3, .int m_), (4, .int w_), (5, .int z5), (6, .int i6), (7, .int i7)]) (st' := [.int r_11]) (ws' := [((R 1), .inl (Y 0, 3, .inl a1)), ((R 2), .inl (Y 0, 36, .inl a2)), ((R 3), .inl (Y 0, 36, .inl a3)), ((R 4), .inl (Y 0, 36, .inl a4)), ((R 6), .inl (Y 0, 4, .inl a6)), ((R 20), .inl (Y 2, 260, .inl a20)), ((R 21), .inl (Y 0, 260, .inl a21)), ((R 22), .inl (Y 0, 2, .inl a22)), ((R 23), .inl (Y 3, 122, .inl a23)), ((R 24), .inl (Y 3, 122, .inl a24)), ((R 25), .inl (Y 0, 6, .inl g25)), ((R 26), .inl (Y 0, 130, .inl g26)), ((R 28), .inl (Y 0, 12, .inl g28)), ((R 35), .inl (Y 0, 24, .inl g35)), (m, .inr (10, mF R v0 v7 v8 v9 v15 v16 v17 v18 v19 v27 v31 v32 v33 z34 v38 v42 v44)), ((R 5), .inl (Y 0, 24, .inl g5))]) ?_ rfl rfl rfl rfl
                  refine V_istore (ls' := [(7, .int r_11), (0, .ref m), (1, .int i), (2, .int sd), (3, .int m_), (4, .int w_), (5, .int z5), (6, .int i6)]) X (by decide) rfl dX11_drawn_163 ?_
                  refine V_iconst (v := (0 : Int32)) X (by decide) dX11_drawn_165 ?_
                  refine V_istore (ls' := [(8, .int (0 : Int32)), (7, .int r_11), (0, .ref m), (1, .int i), (2, .int sd), (3, .int m_), (4, .int w_), (5, .int z5), (6, .int i6)]) X (by decide) rfl dX11_drawn_166 ?_
                  refine V_ls (ls' := [(0, .ref m), (1, .int i), (2, .int sd), (3, .int m_), (4, .int w_), (5, .int z5), (6, .int i6), (7, .int r_11), (8, .int (0 : Int32))]) [2, 3, 4, 5, 6, 7, 8, 1, 0] rfl ?_
                  refine V_ws (ws' := [(m, .inr (10, mF R v0 v7 v8 v9 v15 v16 v17 v18 v19 v27 v31 v32 v33 z34 v38 v42 v44)), ((R 1), .inl (Y 0, 3, .inl a1)), ((R 2), .inl (Y 0, 36, .inl a2)), ((R 3), .inl (Y 0, 36, .inl a3)), ((R 4), .inl (Y 0, 36, .inl a4)), ((R 5), .inl (Y 0, 24, .inl g5)), ((R 6), .inl (Y 0, 4, .inl a6)), ((R 20), .inl (Y 2, 260, .inl a20)), ((R 21), .inl (Y 0, 260, .inl a21)), ((R 22), .inl (Y 0, 2, .inl a22)), ((R 23), .inl (Y 3, 122, .inl a23)), ((R 24), .inl (Y 3, 122, .inl a24)), ((R 25), .inl (Y 0, 6, .inl g25)), ((R 26), .inl (Y 0, 130, .inl g26)), ((R 28), .inl (Y 0, 12, .inl g28)), ((R 35), .inl (Y 0, 24, .inl g35))]) [14, 0, 1, 2, 3, 15, 4, 5, 6, 7, 8, 9, 10, 11, 12, 13] rfl rfl rfl ?_
                  refine V_to (V_ind3 (fun (i8 : Int32) (k : Nat) (h5 : Nat → Int32) => (i8.toInt = ((k : Nat) : Int)) ∧ (k ≤ 24) ∧ (∀ j, j < k → h5 j = a5 j)) (fun (i8 : Int32) (k : Nat) (h5 : Nat → Int32) => 24 - k) (fun (i8 : Int32) (k : Nat) (h5 : Nat → Int32) => [(0, .ref m), (1, .int i), (2, .int sd), (3, .int m_), (4, .int w_), (5, .int z5), (6, .int i6), (7, .int r_11), (8, .int i8)]) (fun (i8 : Int32) (k : Nat) (h5 : Nat → Int32) => [(m, .inr (10, mF R v0 v7 v8 v9 v15 v16 v17 v18 v19 v27 v31 v32 v33 z34 v38 v42 v44)), ((R 1), .inl (Y 0, 3, .inl a1)), ((R 2), .inl (Y 0, 36, .inl a2)), ((R 3), .inl (Y 0, 36, .inl a3)), ((R 4), .inl (Y 0, 36, .inl a4)), ((R 5), .inl (Y 0, 24, .inl h5)), ((R 6), .inl (Y 0, 4, .inl a6)), ((R 20), .inl (Y 2, 260, .inl a20)), ((R 21), .inl (Y 0, 260, .inl a21)), ((R 22), .inl (Y 0, 2, .inl a22)), ((R 23), .inl (Y 3, 122, .inl a23)), ((R 24), .inl (Y 3, 122, .inl a24)), ((R 25), .inl (Y 0, 6, .inl g25)), ((R 26), .inl (Y 0, 130, .inl g26)), ((R 28), .inl (Y 0, 12, .inl g28)), ((R 35), .inl (Y 0, 24, .inl g35))]) (fun i8 k h5 hI_168 ih_168 => ?_) (0 : Int32) 0 g5 ?_) rfl rfl rfl rfl
                  · obtain ⟨ti8, hk2, hd⟩ := hI_168
                    refine V_to (ls' := [(0, .ref m), (1, .int i), (2, .int sd), (3, .int m_), (4, .int w_), (5, .int z5), (6, .int i6), (7, .int r_11), (8, .int i8)]) (ws' := [(m, .inr (10, mF R v0 v7 v8 v9 v15 v16 v17 v18 v19 v27 v31 v32 v33 z34 v38 v42 v44)), ((R 1), .inl (Y 0, 3, .inl a1)), ((R 2), .inl (Y 0, 36, .inl a2)), ((R 3), .inl (Y 0, 36, .inl a3)), ((R 4), .inl (Y 0, 36, .inl a4)), ((R 5), .inl (Y 0, 24, .inl h5)), ((R 6), .inl (Y 0, 4, .inl a6)), ((R 20), .inl (Y 2, 260, .inl a20)), ((R 21), .inl (Y 0, 260, .inl a21)), ((R 22), .inl (Y 0, 2, .inl a22)), ((R 23), .inl (Y 3, 122, .inl a23)), ((R 24), .inl (Y 3, 122, .inl a24)), ((R 25), .inl (Y 0, 6, .inl g25)), ((R 26), .inl (Y 0, 130, .inl g26)), ((R 28), .inl (Y 0, 12, .inl g28)), ((R 35), .inl (Y 0, 24, .inl g35))]) ?_ rfl rfl rfl rfl
                    refine V_iload X 8 rfl dX11_drawn_168 ?_
                    refine V_bipush (v := (24 : Int32)) X (by decide) dX11_drawn_170 ?_
                    refine V_icmp_ge X ti8 (show (24 : Int32).toInt = 24 from by decide) 195 dX11_drawn_172 (by decide) (fun c_172 => ?_) (fun c_172 => ?_)
                    · refine V_iload X 4 rfl dX11_drawn_195 ?_
                      refine V_if_ne X rfl 205 dX11_drawn_197 (by decide) (fun c_197 => ?_) (fun c_197 => ?_)
                      · refine V_iload X 7 rfl dX11_drawn_205 ?_
                        exact V_iret X hr dX11_drawn_207 (Or.inr (⟨r_11, z34, g25, g26, g28, h5, g35, nn, rfl, rfl, ⟨by omega, by omega, tnn, by omega, by omega⟩, (by omega), (by rw [if_neg (by omega)]; have h9 := trb; rw [upS_eq, show q = nn by omega] at h9; omega), (MHV_same hMH (fun j hj => hd j (by omega)))⟩))
                      · refine V_iload X 6 rfl dX11_drawn_200 ?_
                        refine V_goto X 207 (by decide) dX11_drawn_202 ?_
                        exact V_iret X hr dX11_drawn_207 (Or.inr (⟨i6, z34, g25, g26, g28, h5, g35, nn, rfl, rfl, ⟨by omega, by omega, tnn, by omega, by omega⟩, (by omega), (by rw [if_pos (by omega)]; have h9 := ti6; rw [show q = nn by omega] at h9; exact h9), (MHV_same hMH (fun j hj => hd j (by omega)))⟩))
                    · refine V_aload_n X 0 rfl dX11_drawn_175 ?_
                      refine V_get (C := RX11) (T := TX11) (N := 50) (ci := 10) (v := .ref (R 5)) X in_X11_drawn_X11 0 rfl rfl 5 (by decide) (List.mem_of_getElem? (i := 2) rfl) rfl rfl dX11_drawn_176 ?_
                      refine V_iload X 8 rfl dX11_drawn_179 ?_
                      refine V_aload_n X 0 rfl dX11_drawn_181 ?_
                      refine V_get (C := RX11) (T := TX11) (N := 50) (ci := 10) (v := .ref (R 35)) X in_X11_drawn_X11 0 rfl rfl 35 (by decide) (List.mem_of_getElem? (i := 1) rfl) rfl rfl dX11_drawn_182 ?_
                      refine V_iload X 8 rfl dX11_drawn_185 ?_
                      refine V_iald X 15 k rfl ti8 (by omega) dX11_drawn_187 ?_
                      refine V_iast (ws' := [(m, .inr (10, mF R v0 v7 v8 v9 v15 v16 v17 v18 v19 v27 v31 v32 v33 z34 v38 v42 v44)), ((R 1), .inl (Y 0, 3, .inl a1)), ((R 2), .inl (Y 0, 36, .inl a2)), ((R 3), .inl (Y 0, 36, .inl a3)), ((R 4), .inl (Y 0, 36, .inl a4)), ((R 5), .inl (Y 0, 24, .inl (upd h5 k (g35 k)))), ((R 6), .inl (Y 0, 4, .inl a6)), ((R 20), .inl (Y 2, 260, .inl a20)), ((R 21), .inl (Y 0, 260, .inl a21)), ((R 22), .inl (Y 0, 2, .inl a22)), ((R 23), .inl (Y 3, 122, .inl a23)), ((R 24), .inl (Y 3, 122, .inl a24)), ((R 25), .inl (Y 0, 6, .inl g25)), ((R 26), .inl (Y 0, 130, .inl g26)), ((R 28), .inl (Y 0, 12, .inl g28)), ((R 35), .inl (Y 0, 24, .inl g35))]) X 5 k rfl ti8 (by omega) rfl dX11_drawn_188 ?_
                      refine V_iincZ X (fun vv_ => [(8, .int vv_), (0, .ref m), (1, .int i), (2, .int sd), (3, .int m_), (4, .int w_), (5, .int z5), (6, .int i6), (7, .int r_11)]) ti8 (by omega) (by omega) (by decide) 8 rfl (by decide) (fun _ => rfl) dX11_drawn_189 (fun x_13 ex_13 tx_13 => ?_)
                      have tx_13 : x_13.toInt = (((k + 1) : Nat) : Int) := by omega
                      refine V_goto X 168 (by decide) dX11_drawn_192 ?_
                      refine V_ls (ls' := [(0, .ref m), (1, .int i), (2, .int sd), (3, .int m_), (4, .int w_), (5, .int z5), (6, .int i6), (7, .int r_11), (8, .int x_13)]) [1, 2, 3, 4, 5, 6, 7, 8, 0] rfl ?_
                      exact V_to (ih_168 x_13 (k + 1) (upd h5 k (g35 k)) ⟨(by omega), (by omega), (fun j hj => by unfold upd; by_cases e : j = k; (rw [if_pos e, e]; exact hc k (by omega)); (rw [if_neg e]; exact hd j (by omega)))⟩ (by omega)) rfl rfl rfl rfl
                  · exact ⟨(by have h9 : (0 : Int32).toInt = 0 := (show (0 : Int32).toInt = 0 from by decide); omega), (by omega), (fun j hj => absurd hj (Nat.not_lt_zero j))⟩
                · refine V_iconst (v := (0 : Int32)) X (by decide) dX11_drawn_74 ?_
                  refine V_istore (ls' := [(8, .int (0 : Int32)), (0, .ref m), (1, .int i), (2, .int sd), (3, .int m_), (4, .int w_), (5, .int z5), (6, .int i6), (7, .int i7)]) X (by decide) rfl dX11_drawn_75 ?_
                  refine V_ls (ls' := [(0, .ref m), (1, .int i), (2, .int sd), (3, .int m_), (4, .int w_), (5, .int z5), (6, .int i6), (7, .int i7), (8, .int (0 : Int32))]) [1, 2, 3, 4, 5, 6, 7, 8, 0] rfl ?_
                  refine V_to (V_ind4 (fun (i8 : Int32) (bn : Nat) (z5 : Int32) (g5 : Nat → Int32) => (i8.toInt = ((bn : Nat) : Int)) ∧ (bn ≤ 8 * n s0) ∧ (z5 = (fgF v7.toInt (drF F S (T s0) (n s0) v7.toInt (B s0) sd q).1 (drF F S (T s0) (n s0) v7.toInt (B s0) sd q).2.1 (betE (n s0) bn)).2) ∧ (MHV g5 (upS B s0 (fgF v7.toInt (drF F S (T s0) (n s0) v7.toInt (B s0) sd q).1 (drF F S (T s0) (n s0) v7.toInt (B s0) sd q).2.1 (betE (n s0) bn)).1))) (fun (i8 : Int32) (bn : Nat) (z5 : Int32) (g5 : Nat → Int32) => 8 * n s0 - bn) (fun (i8 : Int32) (bn : Nat) (z5 : Int32) (g5 : Nat → Int32) => [(0, .ref m), (1, .int i), (2, .int sd), (3, .int m_), (4, .int w_), (5, .int z5), (6, .int i6), (7, .int i7), (8, .int i8)]) (fun (i8 : Int32) (bn : Nat) (z5 : Int32) (g5 : Nat → Int32) => [(m, .inr (10, mF R v0 v7 v8 v9 v15 v16 v17 v18 v19 v27 v31 v32 v33 z34 v38 v42 v44)), ((R 1), .inl (Y 0, 3, .inl a1)), ((R 2), .inl (Y 0, 36, .inl a2)), ((R 3), .inl (Y 0, 36, .inl a3)), ((R 4), .inl (Y 0, 36, .inl a4)), ((R 5), .inl (Y 0, 24, .inl g5)), ((R 6), .inl (Y 0, 4, .inl a6)), ((R 20), .inl (Y 2, 260, .inl a20)), ((R 21), .inl (Y 0, 260, .inl a21)), ((R 22), .inl (Y 0, 2, .inl a22)), ((R 23), .inl (Y 3, 122, .inl a23)), ((R 24), .inl (Y 3, 122, .inl a24)), ((R 25), .inl (Y 0, 6, .inl g25)), ((R 26), .inl (Y 0, 130, .inl g26)), ((R 28), .inl (Y 0, 12, .inl g28)), ((R 35), .inl (Y 0, 24, .inl g35))]) (fun i8 bn z5 g5 hI_77 ih_77 => ?_) (0 : Int32) 0 z5 g5 ?_) rfl rfl rfl rfl
                  · obtain ⟨ti8, hbn8, hzb, hM5b⟩ := hI_77
                    refine V_to (ls' := [(0, .ref m), (1, .int i), (2, .int sd), (3, .int m_), (4, .int w_), (5, .int z5), (6, .int i6), (7, .int i7), (8, .int i8)]) (ws' := [(m, .inr (10, mF R v0 v7 v8 v9 v15 v16 v17 v18 v19 v27 v31 v32 v33 z34 v38 v42 v44)), ((R 1), .inl (Y 0, 3, .inl a1)), ((R 2), .inl (Y 0, 36, .inl a2)), ((R 3), .inl (Y 0, 36, .inl a3)), ((R 4), .inl (Y 0, 36, .inl a4)), ((R 5), .inl (Y 0, 24, .inl g5)), ((R 6), .inl (Y 0, 4, .inl a6)), ((R 20), .inl (Y 2, 260, .inl a20)), ((R 21), .inl (Y 0, 260, .inl a21)), ((R 22), .inl (Y 0, 2, .inl a22)), ((R 23), .inl (Y 3, 122, .inl a23)), ((R 24), .inl (Y 3, 122, .inl a24)), ((R 25), .inl (Y 0, 6, .inl g25)), ((R 26), .inl (Y 0, 130, .inl g26)), ((R 28), .inl (Y 0, 12, .inl g28)), ((R 35), .inl (Y 0, 24, .inl g35))]) ?_ rfl rfl rfl rfl
                    refine V_iload X 8 rfl dX11_drawn_77 ?_
                    refine V_aload_n X 0 rfl dX11_drawn_79 ?_
                    refine V_iload_n X 1 rfl dX11_drawn_80 ?_
                    refine V_callV (C := RX11) (wr := [((R 2), .inl (Y 0, 36, .inl a2)), ((R 3), .inl (Y 0, 36, .inl a3)), ((R 4), .inl (Y 0, 36, .inl a4)), ((R 5), .inl (Y 0, 24, .inl g5)), ((R 6), .inl (Y 0, 4, .inl a6)), ((R 20), .inl (Y 2, 260, .inl a20)), ((R 21), .inl (Y 0, 260, .inl a21)), ((R 22), .inl (Y 0, 2, .inl a22)), ((R 23), .inl (Y 3, 122, .inl a23)), ((R 24), .inl (Y 3, 122, .inl a24)), ((R 25), .inl (Y 0, 6, .inl g25)), ((R 26), .inl (Y 0, 130, .inl g26)), ((R 28), .inl (Y 0, 12, .inl g28)), ((R 35), .inl (Y 0, 24, .inl g35))]) (st := [.int i8]) X (c_X11_bitsFor l D Y m R v0 v7 v8 v9 v15 v16 v17 v18 v19 v27 v31 v32 v33 z34 v38 v42 v44 a1 n s0 i hLN hs0 (by omega)) 1 gX11_drawn_X11_bitsFor rfl (by decide +kernel) ⟨rfl, rfl⟩ ⟨Nat.le_of_ble_eq_true rfl, Nat.le_of_ble_eq_true rfl⟩ [0, 1] [2, 3, 4, 5, 6, 7, 8, 9, 10, 11, 12, 13, 14, 15] rfl rfl rfl rfl (by decide) (ci := 10) rfl rfl 0 rfl rfl rfl (Nat.le_of_ble_eq_true rfl) ⟨Nat.le_of_ble_eq_true rfl, Nat.le_of_ble_eq_true rfl⟩ dX11_drawn_81 (fun v_81 w_81 h_81 => ?_)
                    obtain ⟨r_15, rfl, rfl, htr_16⟩ := h_81
                    refine V_to (pc' := 84) (ls' := [(0, .ref m), (1, .int i), (2, .int sd), (3, .int m_), (4, .int w_), (5, .int z5), (6, .int i6), (7, .int i7), (8, .int i8)]) (st' := [.int r_15, .int i8]) (ws' := [((R 2), .inl (Y 0, 36, .inl a2)), ((R 3), .inl (Y 0, 36, .inl a3)), ((R 4), .inl (Y 0, 36, .inl a4)), ((R 5), .inl (Y 0, 24, .inl g5)), ((R 6), .inl (Y 0, 4, .inl a6)), ((R 20), .inl (Y 2, 260, .inl a20)), ((R 21), .inl (Y 0, 260, .inl a21)), ((R 22), .inl (Y 0, 2, .inl a22)), ((R 23), .inl (Y 3, 122, .inl a23)), ((R 24), .inl (Y 3, 122, .inl a24)), ((R 25), .inl (Y 0, 6, .inl g25)), ((R 26), .inl (Y 0, 130, .inl g26)), ((R 28), .inl (Y 0, 12, .inl g28)), ((R 35), .inl (Y 0, 24, .inl g35)), (m, .inr (10, mF R v0 v7 v8 v9 v15 v16 v17 v18 v19 v27 v31 v32 v33 z34 v38 v42 v44)), ((R 1), .inl (Y 0, 3, .inl a1))]) ?_ rfl rfl rfl rfl
                    refine V_icmp_ge X ti8 htr_16 141 dX11_drawn_84 (by decide) (fun c_84 => ?_) (fun c_84 => ?_)
                    · have hM6 : MHV g5 (upS B s0 (drF F S (T s0) (n s0) v7.toInt (B s0) sd (q + 1)).1) := by have h9 := hM5b; rw [betE_e (by omega)] at h9; exact h9
                      have hz6 : z5 = (drF F S (T s0) (n s0) v7.toInt (B s0) sd (q + 1)).2.1 := by rw [hzb, betE_e (by omega)]; rfl
                      have hdl := drF_le (F := F) (S := S) (T := T s0) (fo := v7.toInt) (B := B s0) (z := sd) hn12 q
                      have hr12 := rtF_12 F S (T s0) (drF F S (T s0) (n s0) v7.toInt (B s0) sd (q + 1)).1 (n s0) 0 hn12 (by omega)
                      refine V_iload X 6 rfl dX11_drawn_141 ?_
                      refine V_aload_n X 0 rfl dX11_drawn_143 ?_
                      refine V_iload_n X 1 rfl dX11_drawn_144 ?_
                      refine V_iconst (v := (0 : Int32)) X (by decide) dX11_drawn_145 ?_
                      refine V_callV (C := RX11) (wr := [((R 35), .inl (Y 0, 24, .inl g35))]) (st := [.int i6]) X (c_X11_rightFrom l D Y m R v0 v7 v8 v9 v15 v16 v17 v18 v19 v27 v31 v32 v33 z34 v38 v42 v44 a1 a2 a3 a4 g5 a6 a20 a21 a22 a23 a24 g25 g26 g28 n T (upS B s0 (drF F S (T s0) (n s0) v7.toInt (B s0) sd (q + 1)).1) S F s0 i (0 : Int32) 0 hLN hMT hM6 hSU hLW hs0 (by omega) (by decide) (by omega) (fun h => by rw [upS_eq]; exact canS_0 (fun j => drF_f (hBz j (by omega)) (q + 1)) 0)) 2 gX11_drawn_X11_rightFrom rfl (by decide +kernel) ⟨rfl, rfl⟩ ⟨Nat.le_of_ble_eq_true rfl, Nat.le_of_ble_eq_true rfl⟩ [14, 15, 0, 1, 2, 3, 4, 5, 6, 7, 8, 9, 10, 11, 12] [13] rfl rfl rfl rfl (by decide) (ci := 10) rfl rfl 0 rfl rfl rfl (Nat.le_of_ble_eq_true rfl) ⟨Nat.le_of_ble_eq_true rfl, Nat.le_of_ble_eq_true rfl⟩ dX11_drawn_146 (fun v_146 w_146 h_146 => ?_)
                      obtain ⟨r_18, z34_19, b25_20, b26_21, b28_22, rfl, rfl, trf⟩ := h_146
                      refine V_to (pc' := 149) (ls' := [(0, .ref m), (1, .int i), (2, .int sd), (3, .int m_), (4, .int w_), (5, .int z5), (6, .int i6), (7, .int i7), (8, .int i8)]) (st' := [.int r_18, .int i6]) (ws' := [((R 35), .inl (Y 0, 24, .inl g35)), (m, .inr (10, mF R v0 v7 v8 v9 v15 v16 v17 v18 v19 v27 v31 v32 v33 z34_19 v38 v42 v44)), ((R 1), .inl (Y 0, 3, .inl a1)), ((R 2), .inl (Y 0, 36, .inl a2)), ((R 3), .inl (Y 0, 36, .inl a3)), ((R 4), .inl (Y 0, 36, .inl a4)), ((R 5), .inl (Y 0, 24, .inl g5)), ((R 6), .inl (Y 0, 4, .inl a6)), ((R 20), .inl (Y 2, 260, .inl a20)), ((R 21), .inl (Y 0, 260, .inl a21)), ((R 22), .inl (Y 0, 2, .inl a22)), ((R 23), .inl (Y 3, 122, .inl a23)), ((R 24), .inl (Y 3, 122, .inl a24)), ((R 25), .inl (Y 0, 6, .inl b25_20)), ((R 26), .inl (Y 0, 130, .inl b26_21)), ((R 28), .inl (Y 0, 12, .inl b28_22))]) ?_ rfl rfl rfl rfl
                      rw [upS_eq] at trf
                      refine V_iaddZ X ti6 trf (by omega) (by omega) dX11_drawn_149 (fun x_24 ex_24 tx_24 => ?_)
                      have tx_24 : x_24.toInt = (((drF F S (T s0) (n s0) v7.toInt (B s0) sd (q + 1)).2.2 : Nat) : Int) := (by have h9 : (drF F S (T s0) (n s0) v7.toInt (B s0) sd (q + 1)).2.2 = (drF F S (T s0) (n s0) v7.toInt (B s0) sd q).2.2 + rtF F S (T s0) (drF F S (T s0) (n s0) v7.toInt (B s0) sd (q + 1)).1 (n s0) 0 := rfl; omega)
                      refine V_istore (ls' := [(6, .int x_24), (0, .ref m), (1, .int i), (2, .int sd), (3, .int m_), (4, .int w_), (5, .int z5), (7, .int i7), (8, .int i8)]) X (by decide) rfl dX11_drawn_150 ?_
                      refine V_iincZ X (fun vv_ => [(7, .int vv_), (6, .int x_24), (0, .ref m), (1, .int i), (2, .int sd), (3, .int m_), (4, .int w_), (5, .int z5), (8, .int i8)]) ti7 (by omega) (by omega) (by decide) 7 rfl (by decide) (fun _ => rfl) dX11_drawn_152 (fun x_25 ex_25 tx_25 => ?_)
                      have tx_25 : x_25.toInt = (((q + 1) : Nat) : Int) := by omega
                      refine V_goto X 68 (by decide) dX11_drawn_155 ?_
                      refine V_ls (ls' := [(0, .ref m), (1, .int i), (2, .int sd), (3, .int m_), (4, .int w_), (5, .int z5), (6, .int x_24), (7, .int x_25)]) [2, 3, 4, 5, 6, 7, 1, 0] rfl ?_
                      refine V_ws (ws' := [(m, .inr (10, mF R v0 v7 v8 v9 v15 v16 v17 v18 v19 v27 v31 v32 v33 z34_19 v38 v42 v44)), ((R 1), .inl (Y 0, 3, .inl a1)), ((R 2), .inl (Y 0, 36, .inl a2)), ((R 3), .inl (Y 0, 36, .inl a3)), ((R 4), .inl (Y 0, 36, .inl a4)), ((R 5), .inl (Y 0, 24, .inl g5)), ((R 6), .inl (Y 0, 4, .inl a6)), ((R 20), .inl (Y 2, 260, .inl a20)), ((R 21), .inl (Y 0, 260, .inl a21)), ((R 22), .inl (Y 0, 2, .inl a22)), ((R 23), .inl (Y 3, 122, .inl a23)), ((R 24), .inl (Y 3, 122, .inl a24)), ((R 25), .inl (Y 0, 6, .inl b25_20)), ((R 26), .inl (Y 0, 130, .inl b26_21)), ((R 28), .inl (Y 0, 12, .inl b28_22)), ((R 35), .inl (Y 0, 24, .inl g35))]) [1, 2, 3, 4, 5, 6, 7, 8, 9, 10, 11, 12, 13, 14, 15, 0] rfl rfl rfl ?_
                      exact V_to (ih_68 x_25 (q + 1) z5 x_24 z34_19 b25_20 b26_21 b28_22 g5 ⟨(by omega), (by omega), (by omega), hz6, hM6⟩ (by omega)) rfl rfl rfl rfl
                    · obtain ⟨pd, ld, wd, hpd, hld, hwd, hbd⟩ := dec_b (show bn < 8 * n s0 by omega)
                      have hbt := bet_eq hbd hld hwd hpd
                      have hBq : ∀ j, n s0 ≤ j / 2 % 12 → (drF F S (T s0) (n s0) v7.toInt (B s0) sd q).1 j = false := fun j hj => drF_f (hBz j hj) q
                      refine V_aload_n X 0 rfl dX11_drawn_87 ?_
                      refine V_iload_n X 1 rfl dX11_drawn_88 ?_
                      refine V_iload X 8 rfl dX11_drawn_89 ?_
                      refine V_callV (C := RX11) (wr := [((R 2), .inl (Y 0, 36, .inl a2)), ((R 3), .inl (Y 0, 36, .inl a3)), ((R 4), .inl (Y 0, 36, .inl a4)), ((R 6), .inl (Y 0, 4, .inl a6)), ((R 20), .inl (Y 2, 260, .inl a20)), ((R 21), .inl (Y 0, 260, .inl a21)), ((R 22), .inl (Y 0, 2, .inl a22)), ((R 23), .inl (Y 3, 122, .inl a23)), ((R 24), .inl (Y 3, 122, .inl a24)), ((R 25), .inl (Y 0, 6, .inl g25)), ((R 26), .inl (Y 0, 130, .inl g26)), ((R 28), .inl (Y 0, 12, .inl g28)), ((R 35), .inl (Y 0, 24, .inl g35))]) (st := []) X (c_X11_bitOf l D Y m R v0 v7 v8 v9 v15 v16 v17 v18 v19 v27 v31 v32 v33 z34 v38 v42 v44 a1 g5 n (upS B s0 (fgF v7.toInt (drF F S (T s0) (n s0) v7.toInt (B s0) sd q).1 (drF F S (T s0) (n s0) v7.toInt (B s0) sd q).2.1 (betE (n s0) bn)).1) s0 i i8 bn pd ld wd hLN hM5b hs0 (by omega) ti8 (by omega) (by omega) (by omega) (by omega)) 2 gX11_drawn_X11_bitOf rfl (by decide +kernel) ⟨rfl, rfl⟩ ⟨Nat.le_of_ble_eq_true rfl, Nat.le_of_ble_eq_true rfl⟩ [14, 15, 3] [0, 1, 2, 4, 5, 6, 7, 8, 9, 10, 11, 12, 13] rfl rfl rfl rfl (by decide) (ci := 10) rfl rfl 0 rfl rfl rfl (Nat.le_of_ble_eq_true rfl) ⟨Nat.le_of_ble_eq_true rfl, Nat.le_of_ble_eq_true rfl⟩ dX11_drawn_91 (fun v_91 w_91 h_91 => ?_)
                      obtain ⟨r_27, rfl, rfl, htr_28⟩ := h_91
                      refine V_to (pc' := 94) (ls' := [(0, .ref m), (1, .int i), (2, .int sd), (3, .int m_), (4, .int w_), (5, .int z5), (6, .int i6), (7, .int i7), (8, .int i8)]) (st' := [.int r_27]) (ws' := [((R 2), .inl (Y 0, 36, .inl a2)), ((R 3), .inl (Y 0, 36, .inl a3)), ((R 4), .inl (Y 0, 36, .inl a4)), ((R 6), .inl (Y 0, 4, .inl a6)), ((R 20), .inl (Y 2, 260, .inl a20)), ((R 21), .inl (Y 0, 260, .inl a21)), ((R 22), .inl (Y 0, 2, .inl a22)), ((R 23), .inl (Y 3, 122, .inl a23)), ((R 24), .inl (Y 3, 122, .inl a24)), ((R 25), .inl (Y 0, 6, .inl g25)), ((R 26), .inl (Y 0, 130, .inl g26)), ((R 28), .inl (Y 0, 12, .inl g28)), ((R 35), .inl (Y 0, 24, .inl g35)), (m, .inr (10, mF R v0 v7 v8 v9 v15 v16 v17 v18 v19 v27 v31 v32 v33 z34 v38 v42 v44)), ((R 1), .inl (Y 0, 3, .inl a1)), ((R 5), .inl (Y 0, 24, .inl g5))]) ?_ rfl rfl rfl rfl
                      have hFs := betE_b (show bn < 8 * n s0 by omega)
                      have hzb2 := hzb
                      rw [hFs] at hzb2
                      have hM5b2 := hM5b
                      rw [hFs] at hM5b2
                      refine V_if_ne X htr_28 100 dX11_drawn_94 (by decide) (fun c_94 => ?_) (fun c_94 => ?_)
                      · have hFt : (fgF v7.toInt (drF F S (T s0) (n s0) v7.toInt (B s0) sd q).1 (drF F S (T s0) (n s0) v7.toInt (B s0) sd q).2.1 (bet (n s0) bn)).1 (bet (n s0) bn) = true := by have h9 := c_94; rw [upS_eq, hFs, ← hbt] at h9; exact bz_t0 h9
                        refine V_iload X 5 rfl dX11_drawn_100 ?_
                        refine V_ldcw (v := (1103515245 : Int32)) X (List.mem_of_getElem? (i := 3) rfl) dX11_drawn_102 ?_
                        refine V_imul X dX11_drawn_105 (fun x_29 ex_29 => ?_)
                        refine V_sipush (v := (12345 : Int32)) X (by decide) dX11_drawn_106 ?_
                        refine V_iadd X dX11_drawn_109 (fun x_30 ex_30 => ?_)
                        refine V_istore (ls' := [(5, .int x_30), (0, .ref m), (1, .int i), (2, .int sd), (3, .int m_), (4, .int w_), (6, .int i6), (7, .int i7), (8, .int i8)]) X (by decide) rfl dX11_drawn_110 ?_
                        refine V_iload X 0 rfl dX11_drawn_112 ?_
                        refine V_bipush (v := (8 : Int32)) X (by decide) dX11_drawn_114 ?_
                        refine V_iushr X dX11_drawn_116 (fun x_31 ex_31 => ?_)
                        refine V_bipush (v := (12 : Int32)) X (by decide) dX11_drawn_117 ?_
                        refine V_irem X (by decide) dX11_drawn_119 (fun x_32 ex_32 => ?_)
                        refine V_aload_n X 1 rfl dX11_drawn_120 ?_
                        refine V_get (C := RX11) (T := TX11) (N := 50) (ci := 10) (v := .int v7) X in_X11_drawn_X11 13 rfl rfl 7 (by decide) (List.mem_of_getElem? (i := 4) rfl) rfl rfl dX11_drawn_121 ?_
                        refine V_icmp_ge X rfl rfl 135 dX11_drawn_124 (by decide) (fun c_124 => ?_) (fun c_124 => ?_)
                        · refine V_iincZ X (fun vv_ => [(8, .int vv_), (5, .int x_30), (0, .ref m), (1, .int i), (2, .int sd), (3, .int m_), (4, .int w_), (6, .int i6), (7, .int i7)]) ti8 (by omega) (by omega) (by decide) 8 rfl (by decide) (fun _ => rfl) dX11_drawn_135 (fun x_33 ex_33 tx_33 => ?_)
                          have tx_33 : x_33.toInt = (((bn + 1) : Nat) : Int) := by omega
                          refine V_goto X 77 (by decide) dX11_drawn_138 ?_
                          refine V_ls (ls' := [(0, .ref m), (1, .int i), (2, .int sd), (3, .int m_), (4, .int w_), (5, .int x_30), (6, .int i6), (7, .int i7), (8, .int x_33)]) [2, 3, 4, 5, 6, 1, 7, 8, 0] rfl ?_
                          refine V_ws (ws' := [(m, .inr (10, mF R v0 v7 v8 v9 v15 v16 v17 v18 v19 v27 v31 v32 v33 z34 v38 v42 v44)), ((R 1), .inl (Y 0, 3, .inl a1)), ((R 2), .inl (Y 0, 36, .inl a2)), ((R 3), .inl (Y 0, 36, .inl a3)), ((R 4), .inl (Y 0, 36, .inl a4)), ((R 5), .inl (Y 0, 24, .inl g5)), ((R 6), .inl (Y 0, 4, .inl a6)), ((R 20), .inl (Y 2, 260, .inl a20)), ((R 21), .inl (Y 0, 260, .inl a21)), ((R 22), .inl (Y 0, 2, .inl a22)), ((R 23), .inl (Y 3, 122, .inl a23)), ((R 24), .inl (Y 3, 122, .inl a24)), ((R 25), .inl (Y 0, 6, .inl g25)), ((R 26), .inl (Y 0, 130, .inl g26)), ((R 28), .inl (Y 0, 12, .inl g28)), ((R 35), .inl (Y 0, 24, .inl g35))]) [13, 14, 0, 1, 2, 15, 3, 4, 5, 6, 7, 8, 9, 10, 11, 12] rfl rfl rfl ?_
                          exact V_to (ih_77 x_33 (bn + 1) x_30 g5 ⟨(by omega), (by omega), (by rw [fgF_nx (by omega) hn12 hBq]; show _ = (fgS _ _ _).2; exact (fg_y hzb2 hFt ex_29 ex_30).symm), (by rw [fgF_nx (by omega) hn12 hBq]; show MHV _ (upS B s0 (fgS _ _ _).1); rw [fg_1 hzb2 hFt ex_29 ex_30 ex_31 ex_32, if_neg (by omega)]; exact hM5b2)⟩ (by omega)) rfl rfl rfl rfl
                        · refine V_aload_n X 1 rfl dX11_drawn_127 ?_
                          refine V_iload_n X 2 rfl dX11_drawn_128 ?_
                          refine V_iload X 8 rfl dX11_drawn_129 ?_
                          refine V_iconst (v := (0 : Int32)) X (by decide) dX11_drawn_131 ?_
                          refine V_callV (C := RX11) (wr := [((R 2), .inl (Y 0, 36, .inl a2)), ((R 3), .inl (Y 0, 36, .inl a3)), ((R 4), .inl (Y 0, 36, .inl a4)), ((R 6), .inl (Y 0, 4, .inl a6)), ((R 20), .inl (Y 2, 260, .inl a20)), ((R 21), .inl (Y 0, 260, .inl a21)), ((R 22), .inl (Y 0, 2, .inl a22)), ((R 23), .inl (Y 3, 122, .inl a23)), ((R 24), .inl (Y 3, 122, .inl a24)), ((R 25), .inl (Y 0, 6, .inl g25)), ((R 26), .inl (Y 0, 130, .inl g26)), ((R 28), .inl (Y 0, 12, .inl g28)), ((R 35), .inl (Y 0, 24, .inl g35))]) (st := []) X (c_X11_giveBit l D Y m R v0 v7 v8 v9 v15 v16 v17 v18 v19 v27 v31 v32 v33 z34 v38 v42 v44 a1 g5 n (upS B s0 (fgF v7.toInt (drF F S (T s0) (n s0) v7.toInt (B s0) sd q).1 (drF F S (T s0) (n s0) v7.toInt (B s0) sd q).2.1 (betE (n s0) bn)).1) s0 i i8 bn pd ld wd (0 : Int32) false hLN hM5b hs0 (by omega) ti8 (by omega) (by omega) (by omega) (by omega) (by decide)) 3 gX11_drawn_X11_giveBit rfl (by decide +kernel) ⟨rfl, rfl⟩ ⟨Nat.le_of_ble_eq_true rfl, Nat.le_of_ble_eq_true rfl⟩ [13, 14, 15] [0, 1, 2, 3, 4, 5, 6, 7, 8, 9, 10, 11, 12] rfl rfl rfl rfl (by decide) (ci := 10) rfl rfl 0 rfl rfl rfl (Nat.le_of_ble_eq_true rfl) ⟨Nat.le_of_ble_eq_true rfl, Nat.le_of_ble_eq_true rfl⟩ dX11_drawn_132 (fun v_132 w_132 h_132 => ?_)
                          obtain ⟨b5_35, rfl, rfl, hMa⟩ := h_132
                          refine V_to (pc' := 135) (ls' := [(5, .int x_30), (0, .ref m), (1, .int i), (2, .int sd), (3, .int m_), (4, .int w_), (6, .int i6), (7, .int i7), (8, .int i8)]) (st' := []) (ws' := [((R 2), .inl (Y 0, 36, .inl a2)), ((R 3), .inl (Y 0, 36, .inl a3)), ((R 4), .inl (Y 0, 36, .inl a4)), ((R 6), .inl (Y 0, 4, .inl a6)), ((R 20), .inl (Y 2, 260, .inl a20)), ((R 21), .inl (Y 0, 260, .inl a21)), ((R 22), .inl (Y 0, 2, .inl a22)), ((R 23), .inl (Y 3, 122, .inl a23)), ((R 24), .inl (Y 3, 122, .inl a24)), ((R 25), .inl (Y 0, 6, .inl g25)), ((R 26), .inl (Y 0, 130, .inl g26)), ((R 28), .inl (Y 0, 12, .inl g28)), ((R 35), .inl (Y 0, 24, .inl g35)), (m, .inr (10, mF R v0 v7 v8 v9 v15 v16 v17 v18 v19 v27 v31 v32 v33 z34 v38 v42 v44)), ((R 1), .inl (Y 0, 3, .inl a1)), ((R 5), .inl (Y 0, 24, .inl b5_35))]) ?_ rfl rfl rfl rfl
                          refine V_iincZ X (fun vv_ => [(8, .int vv_), (5, .int x_30), (0, .ref m), (1, .int i), (2, .int sd), (3, .int m_), (4, .int w_), (6, .int i6), (7, .int i7)]) ti8 (by omega) (by omega) (by decide) 8 rfl (by decide) (fun _ => rfl) dX11_drawn_135 (fun x_37 ex_37 tx_37 => ?_)
                          have tx_37 : x_37.toInt = (((bn + 1) : Nat) : Int) := by omega
                          refine V_goto X 77 (by decide) dX11_drawn_138 ?_
                          refine V_ls (ls' := [(0, .ref m), (1, .int i), (2, .int sd), (3, .int m_), (4, .int w_), (5, .int x_30), (6, .int i6), (7, .int i7), (8, .int x_37)]) [2, 3, 4, 5, 6, 1, 7, 8, 0] rfl ?_
                          refine V_ws (ws' := [(m, .inr (10, mF R v0 v7 v8 v9 v15 v16 v17 v18 v19 v27 v31 v32 v33 z34 v38 v42 v44)), ((R 1), .inl (Y 0, 3, .inl a1)), ((R 2), .inl (Y 0, 36, .inl a2)), ((R 3), .inl (Y 0, 36, .inl a3)), ((R 4), .inl (Y 0, 36, .inl a4)), ((R 5), .inl (Y 0, 24, .inl b5_35)), ((R 6), .inl (Y 0, 4, .inl a6)), ((R 20), .inl (Y 2, 260, .inl a20)), ((R 21), .inl (Y 0, 260, .inl a21)), ((R 22), .inl (Y 0, 2, .inl a22)), ((R 23), .inl (Y 3, 122, .inl a23)), ((R 24), .inl (Y 3, 122, .inl a24)), ((R 25), .inl (Y 0, 6, .inl g25)), ((R 26), .inl (Y 0, 130, .inl g26)), ((R 28), .inl (Y 0, 12, .inl g28)), ((R 35), .inl (Y 0, 24, .inl g35))]) [13, 14, 0, 1, 2, 15, 3, 4, 5, 6, 7, 8, 9, 10, 11, 12] rfl rfl rfl ?_
                          exact V_to (ih_77 x_37 (bn + 1) x_30 b5_35 ⟨(by omega), (by omega), (by rw [fgF_nx (by omega) hn12 hBq]; show _ = (fgS _ _ _).2; exact (fg_y hzb2 hFt ex_29 ex_30).symm), (by rw [fgF_nx (by omega) hn12 hBq]; show MHV _ (upS B s0 (fgS _ _ _).1); rw [fg_1 hzb2 hFt ex_29 ex_30 ex_31 ex_32, if_pos (by omega)]; have h9 := MHV_u hMa; rw [hFs, ← hbt] at h9; exact h9)⟩ (by omega)) rfl rfl rfl rfl
                      · have hFf : (fgF v7.toInt (drF F S (T s0) (n s0) v7.toInt (B s0) sd q).1 (drF F S (T s0) (n s0) v7.toInt (B s0) sd q).2.1 (bet (n s0) bn)).1 (bet (n s0) bn) = false := by have h9 := c_94; rw [upS_eq, hFs, ← hbt] at h9; exact bz_f0 h9
                        refine V_goto X 135 (by decide) dX11_drawn_97 ?_
                        refine V_iincZ X (fun vv_ => [(8, .int vv_), (0, .ref m), (1, .int i), (2, .int sd), (3, .int m_), (4, .int w_), (5, .int z5), (6, .int i6), (7, .int i7)]) ti8 (by omega) (by omega) (by decide) 8 rfl (by decide) (fun _ => rfl) dX11_drawn_135 (fun x_38 ex_38 tx_38 => ?_)
                        have tx_38 : x_38.toInt = (((bn + 1) : Nat) : Int) := by omega
                        refine V_goto X 77 (by decide) dX11_drawn_138 ?_
                        refine V_ls (ls' := [(0, .ref m), (1, .int i), (2, .int sd), (3, .int m_), (4, .int w_), (5, .int z5), (6, .int i6), (7, .int i7), (8, .int x_38)]) [1, 2, 3, 4, 5, 6, 7, 8, 0] rfl ?_
                        refine V_ws (ws' := [(m, .inr (10, mF R v0 v7 v8 v9 v15 v16 v17 v18 v19 v27 v31 v32 v33 z34 v38 v42 v44)), ((R 1), .inl (Y 0, 3, .inl a1)), ((R 2), .inl (Y 0, 36, .inl a2)), ((R 3), .inl (Y 0, 36, .inl a3)), ((R 4), .inl (Y 0, 36, .inl a4)), ((R 5), .inl (Y 0, 24, .inl g5)), ((R 6), .inl (Y 0, 4, .inl a6)), ((R 20), .inl (Y 2, 260, .inl a20)), ((R 21), .inl (Y 0, 260, .inl a21)), ((R 22), .inl (Y 0, 2, .inl a22)), ((R 23), .inl (Y 3, 122, .inl a23)), ((R 24), .inl (Y 3, 122, .inl a24)), ((R 25), .inl (Y 0, 6, .inl g25)), ((R 26), .inl (Y 0, 130, .inl g26)), ((R 28), .inl (Y 0, 12, .inl g28)), ((R 35), .inl (Y 0, 24, .inl g35))]) [13, 14, 0, 1, 2, 15, 3, 4, 5, 6, 7, 8, 9, 10, 11, 12] rfl rfl rfl ?_
                        exact V_to (ih_77 x_38 (bn + 1) z5 g5 ⟨(by omega), (by omega), (by rw [fgF_nx (by omega) hn12 hBq]; show _ = (fgS _ _ _).2; rw [fg_n hFf]; exact hzb2), (by rw [fgF_nx (by omega) hn12 hBq]; show MHV _ (upS B s0 (fgS _ _ _).1); rw [fg_n hFf]; exact hM5b2)⟩ (by omega)) rfl rfl rfl rfl
                  · exact ⟨(by have h9 : (0 : Int32).toInt = 0 := (show (0 : Int32).toInt = 0 from by decide); omega), (by omega), (by rw [fgF_0 (fun j hj => drF_f (hBz j hj) q)]; exact hzq), (by rw [fgF_0 (fun j hj => drF_f (hBz j hj) q)]; exact hM5)⟩
              · exact ⟨(by have h9 : (0 : Int32).toInt = 0 := (show (0 : Int32).toInt = 0 from by decide); omega), (show (0 : Int32).toInt = ((0 : Nat) : Int) by decide), (by omega), rfl, (by show MHV a5 (upS B s0 (B s0)); rw [upS_id]; exact hMH)⟩
            · refine V_aload_n X 0 rfl dX11_drawn_39 ?_
              refine V_get (C := RX11) (T := TX11) (N := 50) (ci := 10) (v := .ref (R 35)) X in_X11_drawn_X11 0 rfl rfl 35 (by decide) (List.mem_of_getElem? (i := 1) rfl) rfl rfl dX11_drawn_40 ?_
              refine V_iload X 5 rfl dX11_drawn_43 ?_
              refine V_aload_n X 0 rfl dX11_drawn_45 ?_
              refine V_get (C := RX11) (T := TX11) (N := 50) (ci := 10) (v := .ref (R 5)) X in_X11_drawn_X11 0 rfl rfl 5 (by decide) (List.mem_of_getElem? (i := 2) rfl) rfl rfl dX11_drawn_46 ?_
              refine V_iload X 5 rfl dX11_drawn_49 ?_
              refine V_iald X 5 k rfl ti5 (by omega) dX11_drawn_51 ?_
              refine V_iast (ws' := [(m, .inr (10, mF R v0 v7 v8 v9 v15 v16 v17 v18 v19 v27 v31 v32 v33 v34 v38 v42 v44)), ((R 1), .inl (Y 0, 3, .inl a1)), ((R 2), .inl (Y 0, 36, .inl a2)), ((R 3), .inl (Y 0, 36, .inl a3)), ((R 4), .inl (Y 0, 36, .inl a4)), ((R 5), .inl (Y 0, 24, .inl a5)), ((R 6), .inl (Y 0, 4, .inl a6)), ((R 20), .inl (Y 2, 260, .inl a20)), ((R 21), .inl (Y 0, 260, .inl a21)), ((R 22), .inl (Y 0, 2, .inl a22)), ((R 23), .inl (Y 3, 122, .inl a23)), ((R 24), .inl (Y 3, 122, .inl a24)), ((R 25), .inl (Y 0, 6, .inl a25)), ((R 26), .inl (Y 0, 130, .inl a26)), ((R 28), .inl (Y 0, 12, .inl a28)), ((R 35), .inl (Y 0, 24, .inl (upd g35 k (a5 k))))]) X 15 k rfl ti5 (by omega) rfl dX11_drawn_52 ?_
              refine V_iincZ X (fun vv_ => [(5, .int vv_), (0, .ref m), (1, .int i), (2, .int sd), (3, .int m_), (4, .int w_)]) ti5 (by omega) (by omega) (by decide) 5 rfl (by decide) (fun _ => rfl) dX11_drawn_53 (fun x_39 ex_39 tx_39 => ?_)
              have tx_39 : x_39.toInt = (((k + 1) : Nat) : Int) := by omega
              refine V_goto X 32 (by decide) dX11_drawn_56 ?_
              refine V_ls (ls' := [(0, .ref m), (1, .int i), (2, .int sd), (3, .int m_), (4, .int w_), (5, .int x_39)]) [1, 2, 3, 4, 5, 0] rfl ?_
              exact V_to (ih_32 x_39 (k + 1) (upd g35 k (a5 k)) ⟨(by omega), (by omega), (fun j hj => by unfold upd; by_cases e : j = k; (rw [if_pos e, e]); (rw [if_neg e]; exact hc j (by omega)))⟩ (by omega)) rfl rfl rfl rfl
          · exact ⟨(by have h9 : (0 : Int32).toInt = 0 := (show (0 : Int32).toInt = 0 from by decide); omega), (by omega), (fun j hj => absurd hj (Nat.not_lt_zero j))⟩
      · refine V_to (pc' := 24) (ls' := [(0, .ref m), (1, .int i), (2, .int sd), (3, .int m_), (4, .int w_)]) (st' := [.int (0 : Int32)]) (ws' := [(m, .inr (10, mF R v0 v7 v8 v9 v15 v16 v17 v18 v19 v27 v31 v32 v33 v34 v38 v42 v44)), ((R 1), .inl (Y 0, 3, .inl a1)), ((R 2), .inl (Y 0, 36, .inl a2)), ((R 3), .inl (Y 0, 36, .inl a3)), ((R 4), .inl (Y 0, 36, .inl a4)), ((R 5), .inl (Y 0, 24, .inl a5)), ((R 6), .inl (Y 0, 4, .inl a6)), ((R 20), .inl (Y 2, 260, .inl a20)), ((R 21), .inl (Y 0, 260, .inl a21)), ((R 22), .inl (Y 0, 2, .inl a22)), ((R 23), .inl (Y 3, 122, .inl a23)), ((R 24), .inl (Y 3, 122, .inl a24)), ((R 25), .inl (Y 0, 6, .inl a25)), ((R 26), .inl (Y 0, 130, .inl a26)), ((R 28), .inl (Y 0, 12, .inl a28)), ((R 35), .inl (Y 0, 24, .inl a35))]) ?_ rfl rfl rfl rfl
        have hc_0 : (0 : Int32).toInt = 0 := by decide
        refine V_if_ne X (show (0 : Int32).toInt = 0 from by decide) 29 dX11_drawn_24 (by decide) (fun c_24 => absurd c_24 (by decide)) (fun _ => ?_)
        refine V_iconst (v := (-1 : Int32)) X (by decide) dX11_drawn_27 ?_
        exact V_iret X hr dX11_drawn_28 (Or.inl ⟨rfl, rfl, (by omega)⟩)
    · refine V_to (pc' := 14) (ls' := [(0, .ref m), (1, .int i), (2, .int sd), (3, .int m_), (4, .int w_)]) (st' := [.int (0 : Int32)]) (ws' := [(m, .inr (10, mF R v0 v7 v8 v9 v15 v16 v17 v18 v19 v27 v31 v32 v33 v34 v38 v42 v44)), ((R 1), .inl (Y 0, 3, .inl a1)), ((R 2), .inl (Y 0, 36, .inl a2)), ((R 3), .inl (Y 0, 36, .inl a3)), ((R 4), .inl (Y 0, 36, .inl a4)), ((R 5), .inl (Y 0, 24, .inl a5)), ((R 6), .inl (Y 0, 4, .inl a6)), ((R 20), .inl (Y 2, 260, .inl a20)), ((R 21), .inl (Y 0, 260, .inl a21)), ((R 22), .inl (Y 0, 2, .inl a22)), ((R 23), .inl (Y 3, 122, .inl a23)), ((R 24), .inl (Y 3, 122, .inl a24)), ((R 25), .inl (Y 0, 6, .inl a25)), ((R 26), .inl (Y 0, 130, .inl a26)), ((R 28), .inl (Y 0, 12, .inl a28)), ((R 35), .inl (Y 0, 24, .inl a35))]) ?_ rfl rfl rfl rfl
      have hc_1 : (1 : Int32).toInt = 1 := by decide
      have hc_20 : (20 : Int32).toInt = 20 := by decide
      refine V_if_eq X (show (0 : Int32).toInt = 0 from by decide) 27 dX11_drawn_14 (by decide) (fun _ => ?_) (fun c_14 => absurd c_14 (by decide))
      refine V_iconst (v := (-1 : Int32)) X (by decide) dX11_drawn_27 ?_
      exact V_iret X hr dX11_drawn_28 (Or.inl ⟨rfl, rfl, (by omega)⟩)
  · refine V_to (pc' := 4) (ls' := [(0, .ref m), (1, .int i), (2, .int sd), (3, .int m_), (4, .int w_)]) (st' := [.int (0 : Int32)]) (ws' := [(m, .inr (10, mF R v0 v7 v8 v9 v15 v16 v17 v18 v19 v27 v31 v32 v33 v34 v38 v42 v44)), ((R 1), .inl (Y 0, 3, .inl a1)), ((R 2), .inl (Y 0, 36, .inl a2)), ((R 3), .inl (Y 0, 36, .inl a3)), ((R 4), .inl (Y 0, 36, .inl a4)), ((R 5), .inl (Y 0, 24, .inl a5)), ((R 6), .inl (Y 0, 4, .inl a6)), ((R 20), .inl (Y 2, 260, .inl a20)), ((R 21), .inl (Y 0, 260, .inl a21)), ((R 22), .inl (Y 0, 2, .inl a22)), ((R 23), .inl (Y 3, 122, .inl a23)), ((R 24), .inl (Y 3, 122, .inl a24)), ((R 25), .inl (Y 0, 6, .inl a25)), ((R 26), .inl (Y 0, 130, .inl a26)), ((R 28), .inl (Y 0, 12, .inl a28)), ((R 35), .inl (Y 0, 24, .inl a35))]) ?_ rfl rfl rfl rfl
    refine V_if_eq X (show (0 : Int32).toInt = 0 from by decide) 27 dX11_drawn_4 (by decide) (fun _ => ?_) (fun c_4 => absurd c_4 (by decide))
    refine V_iconst (v := (-1 : Int32)) X (by decide) dX11_drawn_27 ?_
    exact V_iret X hr dX11_drawn_28 (Or.inl ⟨rfl, rfl, (by omega)⟩)

theorem in_X11_singNow_X11 : ∀ w ∈ wsX110, w ∈ wsX11_singNow := fun w h => List.mem_cons_of_mem _ (List.mem_append_right _ h)
set_option maxHeartbeats 4000000 in
set_option maxRecDepth 100000 in
theorem c_X11_singNow (l : Launch) (D : va_G) (Y : Nat → ClassId) (m : Nat) (R : Nat → Nat) (v0 : Int32) (v7 : Int32) (v8 : Int32) (v9 : Int32) (v15 : Int32) (v16 : Int32) (v17 : Int32) (v18 : Int32) (v19 : Int32) (v27 : Int32) (v31 : Int32) (v32 : Int32) (v33 : Int32) (v34 : Int32) (v38 : Int32) (v42 : Int32) (v44 : Int32) (a5 : Nat → Int32) (a36 : Nat → Int32) (a37 : Nat → Int32) (B : Nat → Nat → Bool) (s0 : Nat) (x : Int32) (c_ : Int32) (ln : Nat) (H : Hist) (hMH : MHV a5 B) (hs0 : s0 < 3) (tx : x.toInt = ((s0 : Nat) : Int)) (tc_ : c_.toInt = ((ln : Nat) : Int)) (hl : ln < 12) (hon : (a36 6).toInt = ((H.length : Nat) : Int)) (hl60 : H.length < 60) (hOF : OFT a37 H) : Mg l yX11_singNow wsX11_singNow ({ frames := 4, cells := 0, slots := 0, locals := 93 }) D Y [(m, .inr (10, mF R v0 v7 v8 v9 v15 v16 v17 v18 v19 v27 v31 v32 v33 v34 v38 v42 v44)), ((R 5), .inl (Y 0, 24, .inl a5)), ((R 36), .inl (Y 0, 7, .inl a36)), ((R 37), .inl (Y 0, 12, .inl a37))] [.ref m, .int x, .int c_] 0 0 (fun vv__ ww__ => (∃ (b36 : Nat → Int32), ∃ (b37 : Nat → Int32), vv__ = some (.int (0 : Int32)) ∧ ww__ = [(m, .inr (10, mF R v0 v7 v8 v9 v15 v16 v17 v18 v19 v27 v31 v32 v33 v34 v38 v42 v44)), ((R 5), .inl (Y 0, 24, .inl a5)), ((R 36), .inl (Y 0, 7, .inl b36)), ((R 37), .inl (Y 0, 12, .inl b37))] ∧ (canS (B s0) ln = false) ∧ (b36 0 = a36 0) ∧ (b36 1 = a36 1) ∧ (b36 3 = a36 3) ∧ (b36 2 = a36 2 + 1) ∧ ((b36 4).toInt = -1)) ∨ (∃ (b36 : Nat → Int32), ∃ (b37 : Nat → Int32), vv__ = some (.int (1 : Int32)) ∧ ww__ = [(m, .inr (10, mF R v0 v7 v8 v9 v15 v16 v17 v18 v19 v27 v31 v32 v33 v34 v38 v42 v44)), ((R 5), .inl (Y 0, 24, .inl a5)), ((R 36), .inl (Y 0, 7, .inl b36)), ((R 37), .inl (Y 0, 12, .inl b37))] ∧ (canS (B s0) ln = true) ∧ (b36 0 = a36 0) ∧ (b36 2 = a36 2) ∧ (b36 5 = a36 5) ∧ (b36 1 = a36 1 + 1) ∧ (b36 3 = (if a36 3 < b36 6 then b36 6 else a36 3)) ∧ ((b36 4).toInt = ((ln : Nat) : Int)) ∧ ((b36 6).toInt = ((H.length + 1 : Nat) : Int)) ∧ (∀ b, OFT b37 ((ln, b) :: H)))) := by
  refine Mg_of (cc := cX11_singNow) (maxL := 3) (ret := (some .boolean)) (ls0 := [(0, .ref m), (1, .int x), (2, .int c_)]) RX11 (by decide) rfl rfl rfl (Nat.le_of_ble_eq_true rfl) (fun p__ e__ s__ m__ b__ t__ c__ X hr hn => ?_)
  refine V_aload_n X 0 rfl dX11_singNow_0 ?_
  refine V_iload_n X 1 rfl dX11_singNow_1 ?_
  refine V_iload_n X 2 rfl dX11_singNow_2 ?_
  refine V_callV (C := RX11) (wr := [((R 36), .inl (Y 0, 7, .inl a36)), ((R 37), .inl (Y 0, 12, .inl a37))]) (st := []) X (c_X11_canSing l D Y m R v0 v7 v8 v9 v15 v16 v17 v18 v19 v27 v31 v32 v33 v34 v38 v42 v44 a5 B s0 x c_ ln hMH hs0 tx tc_ hl) 2 gX11_singNow_X11_canSing rfl (by decide +kernel) ⟨rfl, rfl⟩ ⟨Nat.le_of_ble_eq_true rfl, Nat.le_of_ble_eq_true rfl⟩ [0, 1] [2, 3] rfl rfl rfl rfl (by decide) (ci := 10) rfl rfl 0 rfl rfl rfl (Nat.le_of_ble_eq_true rfl) ⟨Nat.le_of_ble_eq_true rfl, Nat.le_of_ble_eq_true rfl⟩ dX11_singNow_3 (fun v_3 w_3 h_3 => ?_)
  rcases h_3 with ⟨rfl, rfl, hhy_2⟩ | ⟨rfl, rfl, hhn_3⟩
  · refine V_to (pc' := 6) (ls' := [(0, .ref m), (1, .int x), (2, .int c_)]) (st' := [.int (1 : Int32)]) (ws' := [((R 36), .inl (Y 0, 7, .inl a36)), ((R 37), .inl (Y 0, 12, .inl a37)), (m, .inr (10, mF R v0 v7 v8 v9 v15 v16 v17 v18 v19 v27 v31 v32 v33 v34 v38 v42 v44)), ((R 5), .inl (Y 0, 24, .inl a5))]) ?_ rfl rfl rfl rfl
    refine V_if_ne X (show (1 : Int32).toInt = 1 from by decide) 28 dX11_singNow_6 (by decide) (fun _ => ?_) (fun c_6 => absurd c_6 (by decide))
    have hcl := hCnt_le H ln
    refine V_aload_n X 0 rfl dX11_singNow_28 ?_
    refine V_get (C := RX11) (T := TX11) (N := 50) (ci := 10) (v := .ref (R 36)) X in_X11_singNow_X11 2 rfl rfl 36 (by decide) (List.mem_of_getElem? (i := 1) rfl) rfl rfl dX11_singNow_29 ?_
    refine V_iconst (v := (1 : Int32)) X (by decide) dX11_singNow_32 ?_
    refine V_dup2 X rfl rfl dX11_singNow_33 ?_
    refine V_iald X 0 1 rfl (show (1 : Int32).toInt = ((1 : Nat) : Int) from (show (1 : Int32).toInt = 1 from by decide)) (by omega) dX11_singNow_34 ?_
    refine V_iconst (v := (1 : Int32)) X (by decide) dX11_singNow_35 ?_
    refine V_iadd X dX11_singNow_36 (fun x_4 ex_4 => ?_)
    refine V_iast (ws' := [((R 36), .inl (Y 0, 7, .inl (upd a36 1 x_4))), ((R 37), .inl (Y 0, 12, .inl a37)), (m, .inr (10, mF R v0 v7 v8 v9 v15 v16 v17 v18 v19 v27 v31 v32 v33 v34 v38 v42 v44)), ((R 5), .inl (Y 0, 24, .inl a5))]) X 0 1 rfl (show (1 : Int32).toInt = ((1 : Nat) : Int) from (show (1 : Int32).toInt = 1 from by decide)) (by omega) rfl dX11_singNow_37 ?_
    refine V_aload_n X 0 rfl dX11_singNow_38 ?_
    refine V_get (C := RX11) (T := TX11) (N := 50) (ci := 10) (v := .ref (R 36)) X in_X11_singNow_X11 2 rfl rfl 36 (by decide) (List.mem_of_getElem? (i := 1) rfl) rfl rfl dX11_singNow_39 ?_
    refine V_iconst (v := (4 : Int32)) X (by decide) dX11_singNow_42 ?_
    refine V_iload_n X 2 rfl dX11_singNow_43 ?_
    refine V_iast (ws' := [((R 36), .inl (Y 0, 7, .inl (upd (upd a36 1 x_4) 4 c_))), ((R 37), .inl (Y 0, 12, .inl a37)), (m, .inr (10, mF R v0 v7 v8 v9 v15 v16 v17 v18 v19 v27 v31 v32 v33 v34 v38 v42 v44)), ((R 5), .inl (Y 0, 24, .inl a5))]) X 0 4 rfl (show (4 : Int32).toInt = ((4 : Nat) : Int) from (show (4 : Int32).toInt = 4 from by decide)) (by omega) rfl dX11_singNow_44 ?_
    refine V_aload_n X 0 rfl dX11_singNow_45 ?_
    refine V_get (C := RX11) (T := TX11) (N := 50) (ci := 10) (v := .ref (R 36)) X in_X11_singNow_X11 2 rfl rfl 36 (by decide) (List.mem_of_getElem? (i := 1) rfl) rfl rfl dX11_singNow_46 ?_
    refine V_bipush (v := (6 : Int32)) X (by decide) dX11_singNow_49 ?_
    refine V_dup2 X rfl rfl dX11_singNow_51 ?_
    refine V_iald X 0 6 rfl (show (6 : Int32).toInt = ((6 : Nat) : Int) from (show (6 : Int32).toInt = 6 from by decide)) (by omega) dX11_singNow_52 ?_
    refine V_nm (fun x_5 ex_5 => ?_)
    have tx_5 : x_5.toInt = ((H.length : Nat) : Int) := by rw [ex_5]; exact hon
    refine V_iconst (v := (1 : Int32)) X (by decide) dX11_singNow_53 ?_
    refine V_iaddZ X tx_5 (show (1 : Int32).toInt = 1 from by decide) (by omega) (by omega) dX11_singNow_54 (fun x_6 ex_6 tx_6 => ?_)
    have tx_6 : x_6.toInt = (((H.length + 1) : Nat) : Int) := by omega
    refine V_iast (ws' := [((R 36), .inl (Y 0, 7, .inl (upd (upd (upd a36 1 x_4) 4 c_) 6 x_6))), ((R 37), .inl (Y 0, 12, .inl a37)), (m, .inr (10, mF R v0 v7 v8 v9 v15 v16 v17 v18 v19 v27 v31 v32 v33 v34 v38 v42 v44)), ((R 5), .inl (Y 0, 24, .inl a5))]) X 0 6 rfl (show (6 : Int32).toInt = ((6 : Nat) : Int) from (show (6 : Int32).toInt = 6 from by decide)) (by omega) rfl dX11_singNow_55 ?_
    refine V_aload_n X 0 rfl dX11_singNow_56 ?_
    refine V_get (C := RX11) (T := TX11) (N := 50) (ci := 10) (v := .ref (R 37)) X in_X11_singNow_X11 2 rfl rfl 37 (by decide) (List.mem_of_getElem? (i := 2) rfl) rfl rfl dX11_singNow_57 ?_
    refine V_iload_n X 2 rfl dX11_singNow_60 ?_
    refine V_dup2 X rfl rfl dX11_singNow_61 ?_
    refine V_iald X 1 ln rfl tc_ (by omega) dX11_singNow_62 ?_
    refine V_nm (fun x_7 ex_7 => ?_)
    have tx_7 : x_7.toInt = (((hCnt H ln) : Nat) : Int) := by rw [ex_7]; exact (hOF ln hl)
    refine V_iconst (v := (1 : Int32)) X (by decide) dX11_singNow_63 ?_
    refine V_iaddZ X tx_7 (show (1 : Int32).toInt = 1 from by decide) (by omega) (by omega) dX11_singNow_64 (fun x_8 ex_8 tx_8 => ?_)
    have tx_8 : x_8.toInt = ((((hCnt H ln) + 1) : Nat) : Int) := by omega
    refine V_iast (ws' := [((R 36), .inl (Y 0, 7, .inl (upd (upd (upd a36 1 x_4) 4 c_) 6 x_6))), ((R 37), .inl (Y 0, 12, .inl (upd a37 ln x_8))), (m, .inr (10, mF R v0 v7 v8 v9 v15 v16 v17 v18 v19 v27 v31 v32 v33 v34 v38 v42 v44)), ((R 5), .inl (Y 0, 24, .inl a5))]) X 1 ln rfl tc_ (by omega) rfl dX11_singNow_65 ?_
    refine V_aload_n X 0 rfl dX11_singNow_66 ?_
    refine V_get (C := RX11) (T := TX11) (N := 50) (ci := 10) (v := .ref (R 36)) X in_X11_singNow_X11 2 rfl rfl 36 (by decide) (List.mem_of_getElem? (i := 1) rfl) rfl rfl dX11_singNow_67 ?_
    refine V_bipush (v := (6 : Int32)) X (by decide) dX11_singNow_70 ?_
    refine V_iald X 0 6 rfl (show (6 : Int32).toInt = ((6 : Nat) : Int) from (show (6 : Int32).toInt = 6 from by decide)) (by omega) dX11_singNow_72 ?_
    refine V_aload_n X 0 rfl dX11_singNow_73 ?_
    refine V_get (C := RX11) (T := TX11) (N := 50) (ci := 10) (v := .ref (R 36)) X in_X11_singNow_X11 2 rfl rfl 36 (by decide) (List.mem_of_getElem? (i := 1) rfl) rfl rfl dX11_singNow_74 ?_
    refine V_iconst (v := (3 : Int32)) X (by decide) dX11_singNow_77 ?_
    refine V_iald X 0 3 rfl (show (3 : Int32).toInt = ((3 : Nat) : Int) from (show (3 : Int32).toInt = 3 from by decide)) (by omega) dX11_singNow_78 ?_
    refine V_icmp_le X rfl rfl 95 dX11_singNow_79 (by decide) (fun c_79 => ?_) (fun c_79 => ?_)
    · refine V_iconst (v := (1 : Int32)) X (by decide) dX11_singNow_95 ?_
      refine V_ws (ws' := [(m, .inr (10, mF R v0 v7 v8 v9 v15 v16 v17 v18 v19 v27 v31 v32 v33 v34 v38 v42 v44)), ((R 5), .inl (Y 0, 24, .inl a5)), ((R 36), .inl (Y 0, 7, .inl (upd (upd (upd a36 1 x_4) 4 c_) 6 x_6))), ((R 37), .inl (Y 0, 12, .inl (upd a37 ln x_8)))]) [2, 3, 0, 1] rfl rfl rfl ?_
      exact V_zret X hr rfl dX11_singNow_96 (Or.inr (⟨(upd (upd (upd a36 1 x_4) 4 c_) 6 x_6), (upd a37 ln x_8), rfl, rfl, hhy_2, rfl, rfl, rfl, ex_4, (mx_ge c_79), (by show c_.toInt = _; exact tc_), (by show x_6.toInt = _; omega), (fun b => OFT_add hOF b (by omega))⟩))
    · refine V_aload_n X 0 rfl dX11_singNow_82 ?_
      refine V_get (C := RX11) (T := TX11) (N := 50) (ci := 10) (v := .ref (R 36)) X in_X11_singNow_X11 2 rfl rfl 36 (by decide) (List.mem_of_getElem? (i := 1) rfl) rfl rfl dX11_singNow_83 ?_
      refine V_iconst (v := (3 : Int32)) X (by decide) dX11_singNow_86 ?_
      refine V_aload_n X 0 rfl dX11_singNow_87 ?_
      refine V_get (C := RX11) (T := TX11) (N := 50) (ci := 10) (v := .ref (R 36)) X in_X11_singNow_X11 2 rfl rfl 36 (by decide) (List.mem_of_getElem? (i := 1) rfl) rfl rfl dX11_singNow_88 ?_
      refine V_bipush (v := (6 : Int32)) X (by decide) dX11_singNow_91 ?_
      refine V_iald X 0 6 rfl (show (6 : Int32).toInt = ((6 : Nat) : Int) from (show (6 : Int32).toInt = 6 from by decide)) (by omega) dX11_singNow_93 ?_
      refine V_iast (ws' := [((R 36), .inl (Y 0, 7, .inl (upd (upd (upd (upd a36 1 x_4) 4 c_) 6 x_6) 3 ((upd (upd (upd a36 1 x_4) 4 c_) 6 x_6) 6)))), ((R 37), .inl (Y 0, 12, .inl (upd a37 ln x_8))), (m, .inr (10, mF R v0 v7 v8 v9 v15 v16 v17 v18 v19 v27 v31 v32 v33 v34 v38 v42 v44)), ((R 5), .inl (Y 0, 24, .inl a5))]) X 0 3 rfl (show (3 : Int32).toInt = ((3 : Nat) : Int) from (show (3 : Int32).toInt = 3 from by decide)) (by omega) rfl dX11_singNow_94 ?_
      refine V_iconst (v := (1 : Int32)) X (by decide) dX11_singNow_95 ?_
      refine V_ws (ws' := [(m, .inr (10, mF R v0 v7 v8 v9 v15 v16 v17 v18 v19 v27 v31 v32 v33 v34 v38 v42 v44)), ((R 5), .inl (Y 0, 24, .inl a5)), ((R 36), .inl (Y 0, 7, .inl (upd (upd (upd (upd a36 1 x_4) 4 c_) 6 x_6) 3 ((upd (upd (upd a36 1 x_4) 4 c_) 6 x_6) 6)))), ((R 37), .inl (Y 0, 12, .inl (upd a37 ln x_8)))]) [2, 3, 0, 1] rfl rfl rfl ?_
      exact V_zret X hr rfl dX11_singNow_96 (Or.inr (⟨(upd (upd (upd (upd a36 1 x_4) 4 c_) 6 x_6) 3 ((upd (upd (upd a36 1 x_4) 4 c_) 6 x_6) 6)), (upd a37 ln x_8), rfl, rfl, hhy_2, rfl, rfl, rfl, ex_4, (mx_lt c_79), (by show c_.toInt = _; exact tc_), (by show x_6.toInt = _; omega), (fun b => OFT_add hOF b (by omega))⟩))
  · refine V_to (pc' := 6) (ls' := [(0, .ref m), (1, .int x), (2, .int c_)]) (st' := [.int (0 : Int32)]) (ws' := [((R 36), .inl (Y 0, 7, .inl a36)), ((R 37), .inl (Y 0, 12, .inl a37)), (m, .inr (10, mF R v0 v7 v8 v9 v15 v16 v17 v18 v19 v27 v31 v32 v33 v34 v38 v42 v44)), ((R 5), .inl (Y 0, 24, .inl a5))]) ?_ rfl rfl rfl rfl
    refine V_if_ne X (show (0 : Int32).toInt = 0 from by decide) 28 dX11_singNow_6 (by decide) (fun c_6 => absurd c_6 (by decide)) (fun _ => ?_)
    refine V_aload_n X 0 rfl dX11_singNow_9 ?_
    refine V_get (C := RX11) (T := TX11) (N := 50) (ci := 10) (v := .ref (R 36)) X in_X11_singNow_X11 2 rfl rfl 36 (by decide) (List.mem_of_getElem? (i := 1) rfl) rfl rfl dX11_singNow_10 ?_
    refine V_iconst (v := (2 : Int32)) X (by decide) dX11_singNow_13 ?_
    refine V_dup2 X rfl rfl dX11_singNow_14 ?_
    refine V_iald X 0 2 rfl (show (2 : Int32).toInt = ((2 : Nat) : Int) from (show (2 : Int32).toInt = 2 from by decide)) (by omega) dX11_singNow_15 ?_
    refine V_iconst (v := (1 : Int32)) X (by decide) dX11_singNow_16 ?_
    refine V_iadd X dX11_singNow_17 (fun x_9 ex_9 => ?_)
    refine V_iast (ws' := [((R 36), .inl (Y 0, 7, .inl (upd a36 2 x_9))), ((R 37), .inl (Y 0, 12, .inl a37)), (m, .inr (10, mF R v0 v7 v8 v9 v15 v16 v17 v18 v19 v27 v31 v32 v33 v34 v38 v42 v44)), ((R 5), .inl (Y 0, 24, .inl a5))]) X 0 2 rfl (show (2 : Int32).toInt = ((2 : Nat) : Int) from (show (2 : Int32).toInt = 2 from by decide)) (by omega) rfl dX11_singNow_18 ?_
    refine V_aload_n X 0 rfl dX11_singNow_19 ?_
    refine V_get (C := RX11) (T := TX11) (N := 50) (ci := 10) (v := .ref (R 36)) X in_X11_singNow_X11 2 rfl rfl 36 (by decide) (List.mem_of_getElem? (i := 1) rfl) rfl rfl dX11_singNow_20 ?_
    refine V_iconst (v := (4 : Int32)) X (by decide) dX11_singNow_23 ?_
    refine V_iconst (v := (-1 : Int32)) X (by decide) dX11_singNow_24 ?_
    refine V_iast (ws' := [((R 36), .inl (Y 0, 7, .inl (upd (upd a36 2 x_9) 4 (-1 : Int32)))), ((R 37), .inl (Y 0, 12, .inl a37)), (m, .inr (10, mF R v0 v7 v8 v9 v15 v16 v17 v18 v19 v27 v31 v32 v33 v34 v38 v42 v44)), ((R 5), .inl (Y 0, 24, .inl a5))]) X 0 4 rfl (show (4 : Int32).toInt = ((4 : Nat) : Int) from (show (4 : Int32).toInt = 4 from by decide)) (by omega) rfl dX11_singNow_25 ?_
    refine V_iconst (v := (0 : Int32)) X (by decide) dX11_singNow_26 ?_
    refine V_ws (ws' := [(m, .inr (10, mF R v0 v7 v8 v9 v15 v16 v17 v18 v19 v27 v31 v32 v33 v34 v38 v42 v44)), ((R 5), .inl (Y 0, 24, .inl a5)), ((R 36), .inl (Y 0, 7, .inl (upd (upd a36 2 x_9) 4 (-1 : Int32)))), ((R 37), .inl (Y 0, 12, .inl a37))]) [2, 3, 0, 1] rfl rfl rfl ?_
    exact V_zret X hr rfl dX11_singNow_27 (Or.inl ⟨(upd (upd a36 2 x_9) 4 (-1 : Int32)), a37, rfl, rfl, hhn_3, rfl, rfl, rfl, ex_9, (by show (-1 : Int32).toInt = -1; decide)⟩)

theorem in_X11_begin_X11 : ∀ w ∈ wsX110, w ∈ wsX11_begin := fun w h => List.mem_cons_of_mem _ (List.mem_append_right _ h)
set_option maxHeartbeats 4000000 in
set_option maxRecDepth 100000 in
theorem c_X11_begin (l : Launch) (D : va_G) (Y : Nat → ClassId) (m : Nat) (R : Nat → Nat) (v0 : Int32) (v7 : Int32) (v8 : Int32) (v9 : Int32) (v15 : Int32) (v16 : Int32) (v17 : Int32) (v18 : Int32) (v19 : Int32) (v27 : Int32) (v31 : Int32) (v32 : Int32) (v33 : Int32) (v34 : Int32) (v38 : Int32) (v42 : Int32) (v44 : Int32) (a1 : Nat → Int32) (a5 : Nat → Int32) (a36 : Nat → Int32) (a37 : Nat → Int32) (n : Nat → Nat) (B : Nat → Nat → Bool) (s0 : Nat) (y : Int32) (ln : Nat) (hLN : LNR a1 n) (hMH : MHV a5 B) (hs0 : s0 < 3) (hsl : 0 ≤ y.toInt → y.toInt / 100 < 3 → y.toInt / 100 = ((s0 : Nat) : Int)) (hln : 0 ≤ y.toInt → y.toInt % 100 = ((ln : Nat) : Int)) : Mg l yX11_begin wsX11_begin ({ frames := 5, cells := 0, slots := 0, locals := 115 }) D Y [(m, .inr (10, mF R v0 v7 v8 v9 v15 v16 v17 v18 v19 v27 v31 v32 v33 v34 v38 v42 v44)), ((R 1), .inl (Y 0, 3, .inl a1)), ((R 5), .inl (Y 0, 24, .inl a5)), ((R 36), .inl (Y 0, 7, .inl a36)), ((R 37), .inl (Y 0, 12, .inl a37))] [.ref m, .int y] 0 0 (fun vv__ ww__ => (vv__ = some (.int (-1 : Int32)) ∧ ww__ = [(m, .inr (10, mF R v0 v7 v8 v9 v15 v16 v17 v18 v19 v27 v31 v32 v33 v34 v38 v42 v44)), ((R 1), .inl (Y 0, 3, .inl a1)), ((R 5), .inl (Y 0, 24, .inl a5)), ((R 36), .inl (Y 0, 7, .inl a36)), ((R 37), .inl (Y 0, 12, .inl a37))] ∧ (¬ (0 ≤ y.toInt ∧ y.toInt / 100 = ((s0 : Nat) : Int) ∧ ln < n s0))) ∨ (vv__ = some (.int (-5 : Int32)) ∧ ww__ = [(m, .inr (10, mF R v0 v7 v8 v9 v15 v16 v17 v18 v19 v27 v31 v32 v33 v34 v38 v42 v44)), ((R 1), .inl (Y 0, 3, .inl a1)), ((R 5), .inl (Y 0, 24, .inl a5)), ((R 36), .inl (Y 0, 7, .inl a36)), ((R 37), .inl (Y 0, 12, .inl a37))] ∧ (0 ≤ y.toInt ∧ y.toInt / 100 = ((s0 : Nat) : Int) ∧ ln < n s0) ∧ (0 ≤ (a36 4).toInt)) ∨ (∃ (b36 : Nat → Int32), ∃ (b37 : Nat → Int32), vv__ = some (.int (0 : Int32)) ∧ ww__ = [(m, .inr (10, mF R v0 v7 v8 v9 v15 v16 v17 v18 v19 v27 v31 v32 v33 v34 v38 v42 v44)), ((R 1), .inl (Y 0, 3, .inl a1)), ((R 5), .inl (Y 0, 24, .inl a5)), ((R 36), .inl (Y 0, 7, .inl b36)), ((R 37), .inl (Y 0, 12, .inl b37))] ∧ (0 ≤ y.toInt ∧ y.toInt / 100 = ((s0 : Nat) : Int) ∧ ln < n s0) ∧ ((a36 4).toInt < 0) ∧ (canS (B s0) ln = false) ∧ (b36 0 = a36 0 + 1) ∧ (b36 1 = a36 1) ∧ (b36 2 = a36 2 + 1) ∧ (b36 3 = a36 3) ∧ ((b36 4).toInt = -1)) ∨ (∃ (b36 : Nat → Int32), ∃ (b37 : Nat → Int32), vv__ = some (.int (1 : Int32)) ∧ ww__ = [(m, .inr (10, mF R v0 v7 v8 v9 v15 v16 v17 v18 v19 v27 v31 v32 v33 v34 v38 v42 v44)), ((R 1), .inl (Y 0, 3, .inl a1)), ((R 5), .inl (Y 0, 24, .inl a5)), ((R 36), .inl (Y 0, 7, .inl b36)), ((R 37), .inl (Y 0, 12, .inl b37))] ∧ (0 ≤ y.toInt ∧ y.toInt / 100 = ((s0 : Nat) : Int) ∧ ln < n s0) ∧ ((a36 4).toInt < 0) ∧ (canS (B s0) ln = true) ∧ (b36 0 = a36 0 + 1) ∧ (b36 1 = a36 1 + 1) ∧ (b36 2 = a36 2) ∧ (b36 3 = (if a36 3 < b36 6 then b36 6 else a36 3)) ∧ ((b36 4).toInt = ((ln : Nat) : Int)) ∧ ((b36 5).toInt = ((s0 : Nat) : Int)) ∧ ((b36 6).toInt = ((0 + 1 : Nat) : Int)) ∧ (OFT b37 [(ln, -2)]))) := by
  refine Mg_of (cc := cX11_begin) (maxL := 3) (ret := (some .int)) (ls0 := [(0, .ref m), (1, .int y)]) RX11 (by decide) rfl rfl rfl (Nat.le_of_ble_eq_true rfl) (fun p__ e__ s__ m__ b__ t__ c__ X hr hn => ?_)
  have hln0 : (a1 s0).toInt = ((n s0 : Nat) : Int) ∧ n s0 ≤ 12 := hLN s0 hs0
  have hn12 := hln0.2
  refine V_aload_n X 0 rfl dX11_begin_0 ?_
  refine V_iload_n X 1 rfl dX11_begin_1 ?_
  refine V_callV (C := RX11) (wr := [((R 5), .inl (Y 0, 24, .inl a5)), ((R 36), .inl (Y 0, 7, .inl a36)), ((R 37), .inl (Y 0, 12, .inl a37))]) (st := []) X (c_X11_isLine l D Y m R v0 v7 v8 v9 v15 v16 v17 v18 v19 v27 v31 v32 v33 v34 v38 v42 v44 a1 n s0 y ln hLN hs0 hsl hln) 1 gX11_begin_X11_isLine rfl (by decide +kernel) ⟨rfl, rfl⟩ ⟨Nat.le_of_ble_eq_true rfl, Nat.le_of_ble_eq_true rfl⟩ [0, 1] [2, 3, 4] rfl rfl rfl rfl (by decide) (ci := 10) rfl rfl 0 rfl rfl rfl (Nat.le_of_ble_eq_true rfl) ⟨Nat.le_of_ble_eq_true rfl, Nat.le_of_ble_eq_true rfl⟩ dX11_begin_2 (fun v_2 w_2 h_2 => ?_)
  rcases h_2 with ⟨rfl, rfl, hhy_2⟩ | ⟨rfl, rfl, hhn_3⟩
  · refine V_to (pc' := 5) (ls' := [(0, .ref m), (1, .int y)]) (st' := [.int (1 : Int32)]) (ws' := [((R 5), .inl (Y 0, 24, .inl a5)), ((R 36), .inl (Y 0, 7, .inl a36)), ((R 37), .inl (Y 0, 12, .inl a37)), (m, .inr (10, mF R v0 v7 v8 v9 v15 v16 v17 v18 v19 v27 v31 v32 v33 v34 v38 v42 v44)), ((R 1), .inl (Y 0, 3, .inl a1))]) ?_ rfl rfl rfl rfl
    refine V_if_ne X (show (1 : Int32).toInt = 1 from by decide) 10 dX11_begin_5 (by decide) (fun _ => ?_) (fun c_5 => absurd c_5 (by decide))
    refine V_aload_n X 0 rfl dX11_begin_10 ?_
    refine V_get (C := RX11) (T := TX11) (N := 50) (ci := 10) (v := .ref (R 36)) X in_X11_begin_X11 3 rfl rfl 36 (by decide) (List.mem_of_getElem? (i := 1) rfl) rfl rfl dX11_begin_11 ?_
    refine V_iconst (v := (4 : Int32)) X (by decide) dX11_begin_14 ?_
    refine V_iald X 1 4 rfl (show (4 : Int32).toInt = ((4 : Nat) : Int) from (show (4 : Int32).toInt = 4 from by decide)) (by omega) dX11_begin_15 ?_
    refine V_if_lt X rfl 22 dX11_begin_16 (by decide) (fun c_16 => ?_) (fun c_16 => ?_)
    · refine V_aload_n X 0 rfl dX11_begin_22 ?_
      refine V_get (C := RX11) (T := TX11) (N := 50) (ci := 10) (v := .ref (R 36)) X in_X11_begin_X11 3 rfl rfl 36 (by decide) (List.mem_of_getElem? (i := 1) rfl) rfl rfl dX11_begin_23 ?_
      refine V_iconst (v := (0 : Int32)) X (by decide) dX11_begin_26 ?_
      refine V_dup2 X rfl rfl dX11_begin_27 ?_
      refine V_iald X 1 0 rfl (show (0 : Int32).toInt = ((0 : Nat) : Int) from (show (0 : Int32).toInt = 0 from by decide)) (by omega) dX11_begin_28 ?_
      refine V_iconst (v := (1 : Int32)) X (by decide) dX11_begin_29 ?_
      refine V_iadd X dX11_begin_30 (fun x_4 ex_4 => ?_)
      refine V_iast (ws' := [((R 5), .inl (Y 0, 24, .inl a5)), ((R 36), .inl (Y 0, 7, .inl (upd a36 0 x_4))), ((R 37), .inl (Y 0, 12, .inl a37)), (m, .inr (10, mF R v0 v7 v8 v9 v15 v16 v17 v18 v19 v27 v31 v32 v33 v34 v38 v42 v44)), ((R 1), .inl (Y 0, 3, .inl a1))]) X 1 0 rfl (show (0 : Int32).toInt = ((0 : Nat) : Int) from (show (0 : Int32).toInt = 0 from by decide)) (by omega) rfl dX11_begin_31 ?_
      refine V_aload_n X 0 rfl dX11_begin_32 ?_
      refine V_get (C := RX11) (T := TX11) (N := 50) (ci := 10) (v := .ref (R 36)) X in_X11_begin_X11 3 rfl rfl 36 (by decide) (List.mem_of_getElem? (i := 1) rfl) rfl rfl dX11_begin_33 ?_
      refine V_iconst (v := (5 : Int32)) X (by decide) dX11_begin_36 ?_
      refine V_iload_n X 1 rfl dX11_begin_37 ?_
      refine V_bipush (v := (100 : Int32)) X (by decide) dX11_begin_38 ?_
      refine V_idivZ X rfl (show (100 : Int32).toInt = 100 from by decide) (by omega) (by omega) dX11_begin_40 (fun x_5 ex_5 tx_5 => ?_)
      have tx_5 : x_5.toInt = ((s0 : Nat) : Int) := by omega
      refine V_iast (ws' := [((R 5), .inl (Y 0, 24, .inl a5)), ((R 36), .inl (Y 0, 7, .inl (upd (upd a36 0 x_4) 5 x_5))), ((R 37), .inl (Y 0, 12, .inl a37)), (m, .inr (10, mF R v0 v7 v8 v9 v15 v16 v17 v18 v19 v27 v31 v32 v33 v34 v38 v42 v44)), ((R 1), .inl (Y 0, 3, .inl a1))]) X 1 5 rfl (show (5 : Int32).toInt = ((5 : Nat) : Int) from (show (5 : Int32).toInt = 5 from by decide)) (by omega) rfl dX11_begin_41 ?_
      refine V_aload_n X 0 rfl dX11_begin_42 ?_
      refine V_get (C := RX11) (T := TX11) (N := 50) (ci := 10) (v := .ref (R 36)) X in_X11_begin_X11 3 rfl rfl 36 (by decide) (List.mem_of_getElem? (i := 1) rfl) rfl rfl dX11_begin_43 ?_
      refine V_bipush (v := (6 : Int32)) X (by decide) dX11_begin_46 ?_
      refine V_iconst (v := (0 : Int32)) X (by decide) dX11_begin_48 ?_
      refine V_iast (ws' := [((R 5), .inl (Y 0, 24, .inl a5)), ((R 36), .inl (Y 0, 7, .inl (upd (upd (upd a36 0 x_4) 5 x_5) 6 (0 : Int32)))), ((R 37), .inl (Y 0, 12, .inl a37)), (m, .inr (10, mF R v0 v7 v8 v9 v15 v16 v17 v18 v19 v27 v31 v32 v33 v34 v38 v42 v44)), ((R 1), .inl (Y 0, 3, .inl a1))]) X 1 6 rfl (show (6 : Int32).toInt = ((6 : Nat) : Int) from (show (6 : Int32).toInt = 6 from by decide)) (by omega) rfl dX11_begin_49 ?_
      refine V_iconst (v := (0 : Int32)) X (by decide) dX11_begin_50 ?_
      refine V_istore_n (ls' := [(2, .int (0 : Int32)), (0, .ref m), (1, .int y)]) X (by decide) rfl dX11_begin_51 ?_
      refine V_ls (ls' := [(0, .ref m), (1, .int y), (2, .int (0 : Int32))]) [1, 2, 0] rfl ?_
      refine V_ws (ws' := [(m, .inr (10, mF R v0 v7 v8 v9 v15 v16 v17 v18 v19 v27 v31 v32 v33 v34 v38 v42 v44)), ((R 1), .inl (Y 0, 3, .inl a1)), ((R 5), .inl (Y 0, 24, .inl a5)), ((R 36), .inl (Y 0, 7, .inl (upd (upd (upd a36 0 x_4) 5 x_5) 6 (0 : Int32)))), ((R 37), .inl (Y 0, 12, .inl a37))]) [3, 4, 0, 1, 2] rfl rfl rfl ?_
      refine V_to (V_ind3 (fun (i2 : Int32) (k : Nat) (g37 : Nat → Int32) => (i2.toInt = ((k : Nat) : Int)) ∧ (k ≤ 12) ∧ (∀ j, j < k → g37 j = 0)) (fun (i2 : Int32) (k : Nat) (g37 : Nat → Int32) => 12 - k) (fun (i2 : Int32) (k : Nat) (g37 : Nat → Int32) => [(0, .ref m), (1, .int y), (2, .int i2)]) (fun (i2 : Int32) (k : Nat) (g37 : Nat → Int32) => [(m, .inr (10, mF R v0 v7 v8 v9 v15 v16 v17 v18 v19 v27 v31 v32 v33 v34 v38 v42 v44)), ((R 1), .inl (Y 0, 3, .inl a1)), ((R 5), .inl (Y 0, 24, .inl a5)), ((R 36), .inl (Y 0, 7, .inl (upd (upd (upd a36 0 x_4) 5 x_5) 6 (0 : Int32)))), ((R 37), .inl (Y 0, 12, .inl g37))]) (fun i2 k g37 hI_52 ih_52 => ?_) (0 : Int32) 0 a37 ?_) rfl rfl rfl rfl
      · obtain ⟨ti2, hk, hg⟩ := hI_52
        refine V_to (ls' := [(0, .ref m), (1, .int y), (2, .int i2)]) (ws' := [(m, .inr (10, mF R v0 v7 v8 v9 v15 v16 v17 v18 v19 v27 v31 v32 v33 v34 v38 v42 v44)), ((R 1), .inl (Y 0, 3, .inl a1)), ((R 5), .inl (Y 0, 24, .inl a5)), ((R 36), .inl (Y 0, 7, .inl (upd (upd (upd a36 0 x_4) 5 x_5) 6 (0 : Int32)))), ((R 37), .inl (Y 0, 12, .inl g37))]) ?_ rfl rfl rfl rfl
        refine V_iload_n X 2 rfl dX11_begin_52 ?_
        refine V_bipush (v := (12 : Int32)) X (by decide) dX11_begin_53 ?_
        refine V_icmp_ge X ti2 (show (12 : Int32).toInt = 12 from by decide) 71 dX11_begin_55 (by decide) (fun c_55 => ?_) (fun c_55 => ?_)
        · refine V_aload_n X 0 rfl dX11_begin_71 ?_
          refine V_iload_n X 1 rfl dX11_begin_72 ?_
          refine V_bipush (v := (100 : Int32)) X (by decide) dX11_begin_73 ?_
          refine V_idivZ X rfl (show (100 : Int32).toInt = 100 from by decide) (by omega) (by omega) dX11_begin_75 (fun x_6 ex_6 tx_6 => ?_)
          have tx_6 : x_6.toInt = ((s0 : Nat) : Int) := by omega
          refine V_iload_n X 1 rfl dX11_begin_76 ?_
          refine V_bipush (v := (100 : Int32)) X (by decide) dX11_begin_77 ?_
          refine V_iremZ X rfl (show (100 : Int32).toInt = 100 from by decide) (by omega) (by omega) dX11_begin_79 (fun x_7 ex_7 tx_7 => ?_)
          have tx_7 : x_7.toInt = ((ln : Nat) : Int) := by omega
          refine V_callV (C := RX11) (wr := [((R 1), .inl (Y 0, 3, .inl a1))]) (st := []) X (c_X11_singNow l D Y m R v0 v7 v8 v9 v15 v16 v17 v18 v19 v27 v31 v32 v33 v34 v38 v42 v44 a5 (upd (upd (upd a36 0 x_4) 5 x_5) 6 (0 : Int32)) g37 B s0 x_6 x_7 ln ([] : Hist) hMH hs0 tx_6 tx_7 (by omega) (by show (0 : Int32).toInt = _; decide) (by show 0 < 60; decide) (OFT_0 (fun j hj => hg j (by omega)))) 2 gX11_begin_X11_singNow rfl (by decide +kernel) ⟨rfl, rfl⟩ ⟨Nat.le_of_ble_eq_true rfl, Nat.le_of_ble_eq_true rfl⟩ [0, 2, 3, 4] [1] rfl rfl rfl rfl (by decide) (ci := 10) rfl rfl 0 rfl rfl rfl (Nat.le_of_ble_eq_true rfl) ⟨Nat.le_of_ble_eq_true rfl, Nat.le_of_ble_eq_true rfl⟩ dX11_begin_80 (fun v_80 w_80 h_80 => ?_)
          rcases h_80 with ⟨b36_9, b37_10, rfl, rfl, hhn_11, kk0, kk1, kk3, kk2, kk4⟩ | ⟨b36_17, b37_18, rfl, rfl, hhy_19, kk0, kk2, kk5, kk1, kk3, kk4, kk6, hhOF2_27⟩
          · refine V_to (pc' := 83) (ls' := [(0, .ref m), (1, .int y), (2, .int i2)]) (st' := [.int (0 : Int32)]) (ws' := [((R 1), .inl (Y 0, 3, .inl a1)), (m, .inr (10, mF R v0 v7 v8 v9 v15 v16 v17 v18 v19 v27 v31 v32 v33 v34 v38 v42 v44)), ((R 5), .inl (Y 0, 24, .inl a5)), ((R 36), .inl (Y 0, 7, .inl b36_9)), ((R 37), .inl (Y 0, 12, .inl b37_10))]) ?_ rfl rfl rfl rfl
            refine V_if_eq X (show (0 : Int32).toInt = 0 from by decide) 90 dX11_begin_83 (by decide) (fun _ => ?_) (fun c_83 => absurd c_83 (by decide))
            refine V_iconst (v := (0 : Int32)) X (by decide) dX11_begin_90 ?_
            refine V_ws (ws' := [(m, .inr (10, mF R v0 v7 v8 v9 v15 v16 v17 v18 v19 v27 v31 v32 v33 v34 v38 v42 v44)), ((R 1), .inl (Y 0, 3, .inl a1)), ((R 5), .inl (Y 0, 24, .inl a5)), ((R 36), .inl (Y 0, 7, .inl b36_9)), ((R 37), .inl (Y 0, 12, .inl b37_10))]) [1, 0, 2, 3, 4] rfl rfl rfl ?_
            exact V_iret X hr dX11_begin_91 (Or.inr (Or.inr (Or.inl ⟨b36_9, b37_10, rfl, rfl, hhy_2, c_16, hhn_11, (kk0.trans (show _ = a36 0 + 1 from ex_4)), kk1, kk2, kk3, kk4⟩)))
          · refine V_to (pc' := 83) (ls' := [(0, .ref m), (1, .int y), (2, .int i2)]) (st' := [.int (1 : Int32)]) (ws' := [((R 1), .inl (Y 0, 3, .inl a1)), (m, .inr (10, mF R v0 v7 v8 v9 v15 v16 v17 v18 v19 v27 v31 v32 v33 v34 v38 v42 v44)), ((R 5), .inl (Y 0, 24, .inl a5)), ((R 36), .inl (Y 0, 7, .inl b36_17)), ((R 37), .inl (Y 0, 12, .inl b37_18))]) ?_ rfl rfl rfl rfl
            refine V_if_eq X (show (1 : Int32).toInt = 1 from by decide) 90 dX11_begin_83 (by decide) (fun c_83 => absurd c_83 (by decide)) (fun _ => ?_)
            refine V_iconst (v := (1 : Int32)) X (by decide) dX11_begin_86 ?_
            refine V_goto X 91 (by decide) dX11_begin_87 ?_
            refine V_ws (ws' := [(m, .inr (10, mF R v0 v7 v8 v9 v15 v16 v17 v18 v19 v27 v31 v32 v33 v34 v38 v42 v44)), ((R 1), .inl (Y 0, 3, .inl a1)), ((R 5), .inl (Y 0, 24, .inl a5)), ((R 36), .inl (Y 0, 7, .inl b36_17)), ((R 37), .inl (Y 0, 12, .inl b37_18))]) [1, 0, 2, 3, 4] rfl rfl rfl ?_
            exact V_iret X hr dX11_begin_91 (Or.inr (Or.inr (Or.inr (⟨b36_17, b37_18, rfl, rfl, hhy_2, c_16, hhy_19, (kk0.trans (show _ = a36 0 + 1 from ex_4)), kk1, kk2, kk3, kk4, (by rw [kk5]; show x_5.toInt = _; omega), kk6, (hhOF2_27 (-2))⟩))))
        · refine V_aload_n X 0 rfl dX11_begin_58 ?_
          refine V_get (C := RX11) (T := TX11) (N := 50) (ci := 10) (v := .ref (R 37)) X in_X11_begin_X11 0 rfl rfl 37 (by decide) (List.mem_of_getElem? (i := 2) rfl) rfl rfl dX11_begin_59 ?_
          refine V_iload_n X 2 rfl dX11_begin_62 ?_
          refine V_iconst (v := (0 : Int32)) X (by decide) dX11_begin_63 ?_
          refine V_iast (ws' := [(m, .inr (10, mF R v0 v7 v8 v9 v15 v16 v17 v18 v19 v27 v31 v32 v33 v34 v38 v42 v44)), ((R 1), .inl (Y 0, 3, .inl a1)), ((R 5), .inl (Y 0, 24, .inl a5)), ((R 36), .inl (Y 0, 7, .inl (upd (upd (upd a36 0 x_4) 5 x_5) 6 (0 : Int32)))), ((R 37), .inl (Y 0, 12, .inl (upd g37 k (0 : Int32))))]) X 4 k rfl ti2 (by omega) rfl dX11_begin_64 ?_
          refine V_iincZ X (fun vv_ => [(2, .int vv_), (0, .ref m), (1, .int y)]) ti2 (by omega) (by omega) (by decide) 2 rfl (by decide) (fun _ => rfl) dX11_begin_65 (fun x_28 ex_28 tx_28 => ?_)
          have tx_28 : x_28.toInt = (((k + 1) : Nat) : Int) := by omega
          refine V_goto X 52 (by decide) dX11_begin_68 ?_
          refine V_ls (ls' := [(0, .ref m), (1, .int y), (2, .int x_28)]) [1, 2, 0] rfl ?_
          exact V_to (ih_52 x_28 (k + 1) (upd g37 k (0 : Int32)) ⟨(by omega), (by omega), (fill_s hg)⟩ (by omega)) rfl rfl rfl rfl
      · exact ⟨(by have h9 : (0 : Int32).toInt = 0 := (show (0 : Int32).toInt = 0 from by decide); omega), (by omega), (fun j hj => absurd hj (Nat.not_lt_zero j))⟩
    · refine V_bipush (v := (-5 : Int32)) X (by decide) dX11_begin_19 ?_
      refine V_ws (ws' := [(m, .inr (10, mF R v0 v7 v8 v9 v15 v16 v17 v18 v19 v27 v31 v32 v33 v34 v38 v42 v44)), ((R 1), .inl (Y 0, 3, .inl a1)), ((R 5), .inl (Y 0, 24, .inl a5)), ((R 36), .inl (Y 0, 7, .inl a36)), ((R 37), .inl (Y 0, 12, .inl a37))]) [3, 4, 0, 1, 2] rfl rfl rfl ?_
      exact V_iret X hr dX11_begin_21 (Or.inr (Or.inl ⟨rfl, rfl, hhy_2, c_16⟩))
  · refine V_to (pc' := 5) (ls' := [(0, .ref m), (1, .int y)]) (st' := [.int (0 : Int32)]) (ws' := [((R 5), .inl (Y 0, 24, .inl a5)), ((R 36), .inl (Y 0, 7, .inl a36)), ((R 37), .inl (Y 0, 12, .inl a37)), (m, .inr (10, mF R v0 v7 v8 v9 v15 v16 v17 v18 v19 v27 v31 v32 v33 v34 v38 v42 v44)), ((R 1), .inl (Y 0, 3, .inl a1))]) ?_ rfl rfl rfl rfl
    refine V_if_ne X (show (0 : Int32).toInt = 0 from by decide) 10 dX11_begin_5 (by decide) (fun c_5 => absurd c_5 (by decide)) (fun _ => ?_)
    refine V_iconst (v := (-1 : Int32)) X (by decide) dX11_begin_8 ?_
    refine V_ws (ws' := [(m, .inr (10, mF R v0 v7 v8 v9 v15 v16 v17 v18 v19 v27 v31 v32 v33 v34 v38 v42 v44)), ((R 1), .inl (Y 0, 3, .inl a1)), ((R 5), .inl (Y 0, 24, .inl a5)), ((R 36), .inl (Y 0, 7, .inl a36)), ((R 37), .inl (Y 0, 12, .inl a37))]) [3, 4, 0, 1, 2] rfl rfl rfl ?_
    exact V_iret X hr dX11_begin_9 (Or.inl ⟨rfl, rfl, (by omega)⟩)

theorem in_X11_on_X11 : ∀ w ∈ wsX110, w ∈ wsX11_on := fun w h => List.mem_cons_of_mem _ (List.mem_append_right _ h)
set_option maxHeartbeats 4000000 in
set_option maxRecDepth 100000 in
theorem c_X11_on (l : Launch) (D : va_G) (Y : Nat → ClassId) (m : Nat) (R : Nat → Nat) (v0 : Int32) (v7 : Int32) (v8 : Int32) (v9 : Int32) (v15 : Int32) (v16 : Int32) (v17 : Int32) (v18 : Int32) (v19 : Int32) (v27 : Int32) (v31 : Int32) (v32 : Int32) (v33 : Int32) (v34 : Int32) (v38 : Int32) (v42 : Int32) (v44 : Int32) (a1 : Nat → Int32) (a2 : Nat → Int32) (a3 : Nat → Int32) (a4 : Nat → Int32) (a5 : Nat → Int32) (a6 : Nat → Int32) (a20 : Nat → Int32) (a21 : Nat → Int32) (a22 : Nat → Int32) (a23 : Nat → Int32) (a24 : Nat → Int32) (a25 : Nat → Int32) (a26 : Nat → Int32) (a28 : Nat → Int32) (n : Nat → Nat) (T : Nat → Nat → Nat) (B : Nat → Nat → Bool) (S : Nat → Nat) (F : Nat → Nat → Nat → Int32) (a36 : Nat → Int32) (a37 : Nat → Int32) (s0 : Nat) (H : Hist) (hLN : LNR a1 n) (hMT : MTR a2 a3 a4 T) (hMH : MHV a5 B) (hSU : SUR a6 S) (hLW : LAWR v27 a20 a21 a22 a23 a24 F) (hs0 : s0 < 3) (hcur : (a36 4).toInt = ((hLast H : Nat) : Int)) (hsg : (a36 5).toInt = ((s0 : Nat) : Int)) (hcn : (a36 6).toInt = ((H.length : Nat) : Int)) (hl0 : H.length ≤ 60) (hla : hLast H < 12) (hOF : OFT a37 H) : Mg l yX11_on wsX11_on ({ frames := 5, cells := 0, slots := 0, locals := 126 }) D Y [(m, .inr (10, mF R v0 v7 v8 v9 v15 v16 v17 v18 v19 v27 v31 v32 v33 v34 v38 v42 v44)), ((R 1), .inl (Y 0, 3, .inl a1)), ((R 2), .inl (Y 0, 36, .inl a2)), ((R 3), .inl (Y 0, 36, .inl a3)), ((R 4), .inl (Y 0, 36, .inl a4)), ((R 5), .inl (Y 0, 24, .inl a5)), ((R 6), .inl (Y 0, 4, .inl a6)), ((R 20), .inl (Y 2, 260, .inl a20)), ((R 21), .inl (Y 0, 260, .inl a21)), ((R 22), .inl (Y 0, 2, .inl a22)), ((R 23), .inl (Y 3, 122, .inl a23)), ((R 24), .inl (Y 3, 122, .inl a24)), ((R 25), .inl (Y 0, 6, .inl a25)), ((R 26), .inl (Y 0, 130, .inl a26)), ((R 28), .inl (Y 0, 12, .inl a28)), ((R 36), .inl (Y 0, 7, .inl a36)), ((R 37), .inl (Y 0, 12, .inl a37))] [.ref m] 0 0 (fun vv__ ww__ => (∃ (z34 : Int32), ∃ (b25 : Nat → Int32), ∃ (b26 : Nat → Int32), ∃ (b28 : Nat → Int32), ∃ (b36 : Nat → Int32), ∃ (b37 : Nat → Int32), vv__ = some (.int (-6 : Int32)) ∧ ww__ = [(m, .inr (10, mF R v0 v7 v8 v9 v15 v16 v17 v18 v19 v27 v31 v32 v33 z34 v38 v42 v44)), ((R 1), .inl (Y 0, 3, .inl a1)), ((R 2), .inl (Y 0, 36, .inl a2)), ((R 3), .inl (Y 0, 36, .inl a3)), ((R 4), .inl (Y 0, 36, .inl a4)), ((R 5), .inl (Y 0, 24, .inl a5)), ((R 6), .inl (Y 0, 4, .inl a6)), ((R 20), .inl (Y 2, 260, .inl a20)), ((R 21), .inl (Y 0, 260, .inl a21)), ((R 22), .inl (Y 0, 2, .inl a22)), ((R 23), .inl (Y 3, 122, .inl a23)), ((R 24), .inl (Y 3, 122, .inl a24)), ((R 25), .inl (Y 0, 6, .inl b25)), ((R 26), .inl (Y 0, 130, .inl b26)), ((R 28), .inl (Y 0, 12, .inl b28)), ((R 36), .inl (Y 0, 7, .inl b36)), ((R 37), .inl (Y 0, 12, .inl b37))] ∧ (60 ≤ H.length) ∧ (b36 0 = a36 0) ∧ (b36 1 = a36 1) ∧ (b36 2 = a36 2) ∧ (b36 3 = a36 3) ∧ ((b36 4).toInt = -1)) ∨ (∃ (z34 : Int32), ∃ (b25 : Nat → Int32), ∃ (b26 : Nat → Int32), ∃ (b28 : Nat → Int32), ∃ (b36 : Nat → Int32), ∃ (b37 : Nat → Int32), vv__ = some (.int (-2 : Int32)) ∧ ww__ = [(m, .inr (10, mF R v0 v7 v8 v9 v15 v16 v17 v18 v19 v27 v31 v32 v33 z34 v38 v42 v44)), ((R 1), .inl (Y 0, 3, .inl a1)), ((R 2), .inl (Y 0, 36, .inl a2)), ((R 3), .inl (Y 0, 36, .inl a3)), ((R 4), .inl (Y 0, 36, .inl a4)), ((R 5), .inl (Y 0, 24, .inl a5)), ((R 6), .inl (Y 0, 4, .inl a6)), ((R 20), .inl (Y 2, 260, .inl a20)), ((R 21), .inl (Y 0, 260, .inl a21)), ((R 22), .inl (Y 0, 2, .inl a22)), ((R 23), .inl (Y 3, 122, .inl a23)), ((R 24), .inl (Y 3, 122, .inl a24)), ((R 25), .inl (Y 0, 6, .inl b25)), ((R 26), .inl (Y 0, 130, .inl b26)), ((R 28), .inl (Y 0, 12, .inl b28)), ((R 36), .inl (Y 0, 7, .inl b36)), ((R 37), .inl (Y 0, 12, .inl b37))] ∧ (H.length < 60) ∧ (nxt F S (T s0) (B s0) (n s0) H = none) ∧ (b36 0 = a36 0) ∧ (b36 1 = a36 1) ∧ (b36 2 = a36 2) ∧ (b36 3 = a36 3) ∧ ((b36 4).toInt = -1)) ∨ (∃ (r : Int32), ∃ (z34 : Int32), ∃ (b25 : Nat → Int32), ∃ (b26 : Nat → Int32), ∃ (b28 : Nat → Int32), ∃ (b36 : Nat → Int32), ∃ (b37 : Nat → Int32), ∃ (xl : Nat), ∃ (xp : Nat), vv__ = some (.int r) ∧ ww__ = [(m, .inr (10, mF R v0 v7 v8 v9 v15 v16 v17 v18 v19 v27 v31 v32 v33 z34 v38 v42 v44)), ((R 1), .inl (Y 0, 3, .inl a1)), ((R 2), .inl (Y 0, 36, .inl a2)), ((R 3), .inl (Y 0, 36, .inl a3)), ((R 4), .inl (Y 0, 36, .inl a4)), ((R 5), .inl (Y 0, 24, .inl a5)), ((R 6), .inl (Y 0, 4, .inl a6)), ((R 20), .inl (Y 2, 260, .inl a20)), ((R 21), .inl (Y 0, 260, .inl a21)), ((R 22), .inl (Y 0, 2, .inl a22)), ((R 23), .inl (Y 3, 122, .inl a23)), ((R 24), .inl (Y 3, 122, .inl a24)), ((R 25), .inl (Y 0, 6, .inl b25)), ((R 26), .inl (Y 0, 130, .inl b26)), ((R 28), .inl (Y 0, 12, .inl b28)), ((R 36), .inl (Y 0, 7, .inl b36)), ((R 37), .inl (Y 0, 12, .inl b37))] ∧ (H.length < 60) ∧ (nxt F S (T s0) (B s0) (n s0) H = some (xl, xp)) ∧ (canS (B s0) xl = false) ∧ (r.toInt = -20 - ((xl : Nat) : Int)) ∧ (b36 0 = a36 0) ∧ (b36 1 = a36 1) ∧ (b36 3 = a36 3) ∧ (b36 2 = a36 2 + 1) ∧ ((b36 4).toInt = -1)) ∨ (∃ (r : Int32), ∃ (z34 : Int32), ∃ (b25 : Nat → Int32), ∃ (b26 : Nat → Int32), ∃ (b28 : Nat → Int32), ∃ (b36 : Nat → Int32), ∃ (b37 : Nat → Int32), ∃ (xl : Nat), ∃ (xp : Nat), vv__ = some (.int r) ∧ ww__ = [(m, .inr (10, mF R v0 v7 v8 v9 v15 v16 v17 v18 v19 v27 v31 v32 v33 z34 v38 v42 v44)), ((R 1), .inl (Y 0, 3, .inl a1)), ((R 2), .inl (Y 0, 36, .inl a2)), ((R 3), .inl (Y 0, 36, .inl a3)), ((R 4), .inl (Y 0, 36, .inl a4)), ((R 5), .inl (Y 0, 24, .inl a5)), ((R 6), .inl (Y 0, 4, .inl a6)), ((R 20), .inl (Y 2, 260, .inl a20)), ((R 21), .inl (Y 0, 260, .inl a21)), ((R 22), .inl (Y 0, 2, .inl a22)), ((R 23), .inl (Y 3, 122, .inl a23)), ((R 24), .inl (Y 3, 122, .inl a24)), ((R 25), .inl (Y 0, 6, .inl b25)), ((R 26), .inl (Y 0, 130, .inl b26)), ((R 28), .inl (Y 0, 12, .inl b28)), ((R 36), .inl (Y 0, 7, .inl b36)), ((R 37), .inl (Y 0, 12, .inl b37))] ∧ (H.length < 60) ∧ (nxt F S (T s0) (B s0) (n s0) H = some (xl, xp)) ∧ (canS (B s0) xl = true) ∧ (r.toInt = ((xl : Nat) : Int)) ∧ (b36 0 = a36 0) ∧ (b36 2 = a36 2) ∧ (b36 5 = a36 5) ∧ (b36 1 = a36 1 + 1) ∧ (b36 3 = (if a36 3 < b36 6 then b36 6 else a36 3)) ∧ ((b36 4).toInt = ((xl : Nat) : Int)) ∧ ((b36 6).toInt = ((H.length + 1 : Nat) : Int)) ∧ (∀ b, OFT b37 ((xl, b) :: H)))) := by
  refine Mg_of (cc := cX11_on) (maxL := 2) (ret := (some .int)) (ls0 := [(0, .ref m)]) RX11 (by decide) rfl rfl rfl (Nat.le_of_ble_eq_true rfl) (fun p__ e__ s__ m__ b__ t__ c__ X hr hn => ?_)
  have hln0 : (a1 s0).toInt = ((n s0 : Nat) : Int) ∧ n s0 ≤ 12 := hLN s0 hs0
  have hn12 := hln0.2
  refine V_aload_n X 0 rfl dX11_on_0 ?_
  refine V_get (C := RX11) (T := TX11) (N := 50) (ci := 10) (v := .ref (R 36)) X in_X11_on_X11 0 rfl rfl 36 (by decide) (List.mem_of_getElem? (i := 1) rfl) rfl rfl dX11_on_1 ?_
  refine V_iconst (v := (4 : Int32)) X (by decide) dX11_on_4 ?_
  refine V_iald X 15 4 rfl (show (4 : Int32).toInt = ((4 : Nat) : Int) from (show (4 : Int32).toInt = 4 from by decide)) (by omega) dX11_on_5 ?_
  refine V_nm (fun x_1 ex_1 => ?_)
  have tx_1 : x_1.toInt = (((hLast H) : Nat) : Int) := by rw [ex_1]; exact hcur
  refine V_if_ge X tx_1 12 dX11_on_6 (by decide) (fun c_6 => ?_) (fun c_6 => False.elim (by omega))
  refine V_aload_n X 0 rfl dX11_on_12 ?_
  refine V_get (C := RX11) (T := TX11) (N := 50) (ci := 10) (v := .ref (R 36)) X in_X11_on_X11 0 rfl rfl 36 (by decide) (List.mem_of_getElem? (i := 1) rfl) rfl rfl dX11_on_13 ?_
  refine V_bipush (v := (6 : Int32)) X (by decide) dX11_on_16 ?_
  refine V_iald X 15 6 rfl (show (6 : Int32).toInt = ((6 : Nat) : Int) from (show (6 : Int32).toInt = 6 from by decide)) (by omega) dX11_on_18 ?_
  refine V_nm (fun x_2 ex_2 => ?_)
  have tx_2 : x_2.toInt = ((H.length : Nat) : Int) := by rw [ex_2]; exact hcn
  refine V_bipush (v := (60 : Int32)) X (by decide) dX11_on_19 ?_
  refine V_icmp_ne X tx_2 (show (60 : Int32).toInt = 60 from by decide) 34 dX11_on_21 (by decide) (fun c_21 => ?_) (fun c_21 => ?_)
  · refine V_iconst (v := (0 : Int32)) X (by decide) dX11_on_34 ?_
    refine V_istore_n (ls' := [(1, .int (0 : Int32)), (0, .ref m)]) X (by decide) rfl dX11_on_35 ?_
    refine V_ls (ls' := [(0, .ref m), (1, .int (0 : Int32))]) [1, 0] rfl ?_
    refine V_to (V_ind3 (fun (i1 : Int32) (k : Nat) (g28 : Nat → Int32) => (i1.toInt = ((k : Nat) : Int)) ∧ (k ≤ 12) ∧ (∀ j, j < k → g28 j = a37 j)) (fun (i1 : Int32) (k : Nat) (g28 : Nat → Int32) => 12 - k) (fun (i1 : Int32) (k : Nat) (g28 : Nat → Int32) => [(0, .ref m), (1, .int i1)]) (fun (i1 : Int32) (k : Nat) (g28 : Nat → Int32) => [(m, .inr (10, mF R v0 v7 v8 v9 v15 v16 v17 v18 v19 v27 v31 v32 v33 v34 v38 v42 v44)), ((R 1), .inl (Y 0, 3, .inl a1)), ((R 2), .inl (Y 0, 36, .inl a2)), ((R 3), .inl (Y 0, 36, .inl a3)), ((R 4), .inl (Y 0, 36, .inl a4)), ((R 5), .inl (Y 0, 24, .inl a5)), ((R 6), .inl (Y 0, 4, .inl a6)), ((R 20), .inl (Y 2, 260, .inl a20)), ((R 21), .inl (Y 0, 260, .inl a21)), ((R 22), .inl (Y 0, 2, .inl a22)), ((R 23), .inl (Y 3, 122, .inl a23)), ((R 24), .inl (Y 3, 122, .inl a24)), ((R 25), .inl (Y 0, 6, .inl a25)), ((R 26), .inl (Y 0, 130, .inl a26)), ((R 28), .inl (Y 0, 12, .inl g28)), ((R 36), .inl (Y 0, 7, .inl a36)), ((R 37), .inl (Y 0, 12, .inl a37))]) (fun i1 k g28 hI_36 ih_36 => ?_) (0 : Int32) 0 a28 ?_) rfl rfl rfl rfl
    · obtain ⟨ti1, hk, hcp⟩ := hI_36
      refine V_to (ls' := [(0, .ref m), (1, .int i1)]) (ws' := [(m, .inr (10, mF R v0 v7 v8 v9 v15 v16 v17 v18 v19 v27 v31 v32 v33 v34 v38 v42 v44)), ((R 1), .inl (Y 0, 3, .inl a1)), ((R 2), .inl (Y 0, 36, .inl a2)), ((R 3), .inl (Y 0, 36, .inl a3)), ((R 4), .inl (Y 0, 36, .inl a4)), ((R 5), .inl (Y 0, 24, .inl a5)), ((R 6), .inl (Y 0, 4, .inl a6)), ((R 20), .inl (Y 2, 260, .inl a20)), ((R 21), .inl (Y 0, 260, .inl a21)), ((R 22), .inl (Y 0, 2, .inl a22)), ((R 23), .inl (Y 3, 122, .inl a23)), ((R 24), .inl (Y 3, 122, .inl a24)), ((R 25), .inl (Y 0, 6, .inl a25)), ((R 26), .inl (Y 0, 130, .inl a26)), ((R 28), .inl (Y 0, 12, .inl g28)), ((R 36), .inl (Y 0, 7, .inl a36)), ((R 37), .inl (Y 0, 12, .inl a37))]) ?_ rfl rfl rfl rfl
      refine V_iload_n X 1 rfl dX11_on_36 ?_
      refine V_bipush (v := (12 : Int32)) X (by decide) dX11_on_37 ?_
      refine V_icmp_ge X ti1 (show (12 : Int32).toInt = 12 from by decide) 60 dX11_on_39 (by decide) (fun c_39 => ?_) (fun c_39 => ?_)
      · have hOs : OFT g28 H := fun l hl => by rw [hcp l (by omega)]; exact hOF l hl
        refine V_aload_n X 0 rfl dX11_on_60 ?_
        refine V_aload_n X 0 rfl dX11_on_61 ?_
        refine V_get (C := RX11) (T := TX11) (N := 50) (ci := 10) (v := .ref (R 36)) X in_X11_on_X11 0 rfl rfl 36 (by decide) (List.mem_of_getElem? (i := 1) rfl) rfl rfl dX11_on_62 ?_
        refine V_iconst (v := (5 : Int32)) X (by decide) dX11_on_65 ?_
        refine V_iald X 15 5 rfl (show (5 : Int32).toInt = ((5 : Nat) : Int) from (show (5 : Int32).toInt = 5 from by decide)) (by omega) dX11_on_66 ?_
        refine V_nm (fun x_3 ex_3 => ?_)
        have tx_3 : x_3.toInt = ((s0 : Nat) : Int) := by rw [ex_3]; exact hsg
        refine V_aload_n X 0 rfl dX11_on_67 ?_
        refine V_get (C := RX11) (T := TX11) (N := 50) (ci := 10) (v := .ref (R 36)) X in_X11_on_X11 0 rfl rfl 36 (by decide) (List.mem_of_getElem? (i := 1) rfl) rfl rfl dX11_on_68 ?_
        refine V_iconst (v := (4 : Int32)) X (by decide) dX11_on_71 ?_
        refine V_iald X 15 4 rfl (show (4 : Int32).toInt = ((4 : Nat) : Int) from (show (4 : Int32).toInt = 4 from by decide)) (by omega) dX11_on_72 ?_
        refine V_nm (fun x_4 ex_4 => ?_)
        have tx_4 : x_4.toInt = (((hLast H) : Nat) : Int) := by rw [ex_4]; exact hcur
        refine V_callV (C := RX11) (wr := [((R 36), .inl (Y 0, 7, .inl a36)), ((R 37), .inl (Y 0, 12, .inl a37))]) (st := []) X (c_X11_nextOf l D Y m R v0 v7 v8 v9 v15 v16 v17 v18 v19 v27 v31 v32 v33 v34 v38 v42 v44 a1 a2 a3 a4 a5 a6 a20 a21 a22 a23 a24 a25 a26 g28 n T B S F s0 x_3 x_4 (hLast H) H hLN hMT hMH hSU hLW hs0 tx_3 tx_4 hla rfl hOs) 2 gX11_on_X11_nextOf rfl (by decide +kernel) ⟨rfl, rfl⟩ ⟨Nat.le_of_ble_eq_true rfl, Nat.le_of_ble_eq_true rfl⟩ [0, 1, 2, 3, 4, 5, 6, 7, 8, 9, 10, 11, 12, 13, 14] [15, 16] rfl rfl rfl rfl (by decide) (ci := 10) rfl rfl 0 rfl rfl rfl (Nat.le_of_ble_eq_true rfl) ⟨Nat.le_of_ble_eq_true rfl, Nat.le_of_ble_eq_true rfl⟩ dX11_on_73 (fun v_73 w_73 h_73 => ?_)
        obtain ⟨r_6, z34_7, b25_8, b26_9, rfl, rfl, htr_10, hhby_11⟩ := h_73
        refine V_to (pc' := 76) (ls' := [(0, .ref m), (1, .int i1)]) (st' := [.int r_6]) (ws' := [((R 36), .inl (Y 0, 7, .inl a36)), ((R 37), .inl (Y 0, 12, .inl a37)), (m, .inr (10, mF R v0 v7 v8 v9 v15 v16 v17 v18 v19 v27 v31 v32 v33 z34_7 v38 v42 v44)), ((R 1), .inl (Y 0, 3, .inl a1)), ((R 2), .inl (Y 0, 36, .inl a2)), ((R 3), .inl (Y 0, 36, .inl a3)), ((R 4), .inl (Y 0, 36, .inl a4)), ((R 5), .inl (Y 0, 24, .inl a5)), ((R 6), .inl (Y 0, 4, .inl a6)), ((R 20), .inl (Y 2, 260, .inl a20)), ((R 21), .inl (Y 0, 260, .inl a21)), ((R 22), .inl (Y 0, 2, .inl a22)), ((R 23), .inl (Y 3, 122, .inl a23)), ((R 24), .inl (Y 3, 122, .inl a24)), ((R 25), .inl (Y 0, 6, .inl b25_8)), ((R 26), .inl (Y 0, 130, .inl b26_9)), ((R 28), .inl (Y 0, 12, .inl g28))]) ?_ rfl rfl rfl rfl
        refine V_istore_n (ls' := [(1, .int r_6), (0, .ref m)]) X (by decide) rfl dX11_on_76 ?_
        refine V_iload_n X 0 rfl dX11_on_77 ?_
        refine V_if_ge X htr_10 91 dX11_on_78 (by decide) (fun c_78 => ?_) (fun c_78 => ?_)
        · obtain ⟨xl, xp, hxo, hxl⟩ := oM_some c_78 rfl
          have hxl12 := (nxt_lt hxo).1
          have t4 : r_6.toInt = ((xl : Nat) : Int) := by omega
          refine V_aload_n X 1 rfl dX11_on_91 ?_
          refine V_aload_n X 1 rfl dX11_on_92 ?_
          refine V_get (C := RX11) (T := TX11) (N := 50) (ci := 10) (v := .ref (R 36)) X in_X11_on_X11 2 rfl rfl 36 (by decide) (List.mem_of_getElem? (i := 1) rfl) rfl rfl dX11_on_93 ?_
          refine V_iconst (v := (5 : Int32)) X (by decide) dX11_on_96 ?_
          refine V_iald X 0 5 rfl (show (5 : Int32).toInt = ((5 : Nat) : Int) from (show (5 : Int32).toInt = 5 from by decide)) (by omega) dX11_on_97 ?_
          refine V_nm (fun x_12 ex_12 => ?_)
          have tx_12 : x_12.toInt = ((s0 : Nat) : Int) := by rw [ex_12]; exact hsg
          refine V_iload_n X 0 rfl dX11_on_98 ?_
          refine V_callV (C := RX11) (wr := [((R 1), .inl (Y 0, 3, .inl a1)), ((R 2), .inl (Y 0, 36, .inl a2)), ((R 3), .inl (Y 0, 36, .inl a3)), ((R 4), .inl (Y 0, 36, .inl a4)), ((R 6), .inl (Y 0, 4, .inl a6)), ((R 20), .inl (Y 2, 260, .inl a20)), ((R 21), .inl (Y 0, 260, .inl a21)), ((R 22), .inl (Y 0, 2, .inl a22)), ((R 23), .inl (Y 3, 122, .inl a23)), ((R 24), .inl (Y 3, 122, .inl a24)), ((R 25), .inl (Y 0, 6, .inl b25_8)), ((R 26), .inl (Y 0, 130, .inl b26_9)), ((R 28), .inl (Y 0, 12, .inl g28))]) (st := []) X (c_X11_singNow l D Y m R v0 v7 v8 v9 v15 v16 v17 v18 v19 v27 v31 v32 v33 z34_7 v38 v42 v44 a5 a36 a37 B s0 x_12 r_6 xl H hMH hs0 tx_12 t4 (by omega) hcn (by omega) hOF) 2 gX11_on_X11_singNow rfl (by decide +kernel) ⟨rfl, rfl⟩ ⟨Nat.le_of_ble_eq_true rfl, Nat.le_of_ble_eq_true rfl⟩ [2, 7, 0, 1] [3, 4, 5, 6, 8, 9, 10, 11, 12, 13, 14, 15, 16] rfl rfl rfl rfl (by decide) (ci := 10) rfl rfl 0 rfl rfl rfl (Nat.le_of_ble_eq_true rfl) ⟨Nat.le_of_ble_eq_true rfl, Nat.le_of_ble_eq_true rfl⟩ dX11_on_99 (fun v_99 w_99 h_99 => ?_)
          rcases h_99 with ⟨b36_14, b37_15, rfl, rfl, hhn_16, kk0, kk1, kk3, kk2, kk4⟩ | ⟨b36_22, b37_23, rfl, rfl, hhy_24, kk0, kk2, kk5, kk1, kk3, kk4, kk6, hhOF2_32⟩
          · refine V_to (pc' := 102) (ls' := [(1, .int r_6), (0, .ref m)]) (st' := [.int (0 : Int32)]) (ws' := [((R 1), .inl (Y 0, 3, .inl a1)), ((R 2), .inl (Y 0, 36, .inl a2)), ((R 3), .inl (Y 0, 36, .inl a3)), ((R 4), .inl (Y 0, 36, .inl a4)), ((R 6), .inl (Y 0, 4, .inl a6)), ((R 20), .inl (Y 2, 260, .inl a20)), ((R 21), .inl (Y 0, 260, .inl a21)), ((R 22), .inl (Y 0, 2, .inl a22)), ((R 23), .inl (Y 3, 122, .inl a23)), ((R 24), .inl (Y 3, 122, .inl a24)), ((R 25), .inl (Y 0, 6, .inl b25_8)), ((R 26), .inl (Y 0, 130, .inl b26_9)), ((R 28), .inl (Y 0, 12, .inl g28)), (m, .inr (10, mF R v0 v7 v8 v9 v15 v16 v17 v18 v19 v27 v31 v32 v33 z34_7 v38 v42 v44)), ((R 5), .inl (Y 0, 24, .inl a5)), ((R 36), .inl (Y 0, 7, .inl b36_14)), ((R 37), .inl (Y 0, 12, .inl b37_15))]) ?_ rfl rfl rfl rfl
            refine V_if_eq X (show (0 : Int32).toInt = 0 from by decide) 109 dX11_on_102 (by decide) (fun _ => ?_) (fun c_102 => absurd c_102 (by decide))
            refine V_bipush (v := (-20 : Int32)) X (by decide) dX11_on_109 ?_
            refine V_iload_n X 0 rfl dX11_on_111 ?_
            refine V_isubZ X (show (-20 : Int32).toInt = (-20) from by decide) htr_10 (by omega) (by omega) dX11_on_112 (fun x_33 ex_33 tx_33 => ?_)
            refine V_ws (ws' := [(m, .inr (10, mF R v0 v7 v8 v9 v15 v16 v17 v18 v19 v27 v31 v32 v33 z34_7 v38 v42 v44)), ((R 1), .inl (Y 0, 3, .inl a1)), ((R 2), .inl (Y 0, 36, .inl a2)), ((R 3), .inl (Y 0, 36, .inl a3)), ((R 4), .inl (Y 0, 36, .inl a4)), ((R 5), .inl (Y 0, 24, .inl a5)), ((R 6), .inl (Y 0, 4, .inl a6)), ((R 20), .inl (Y 2, 260, .inl a20)), ((R 21), .inl (Y 0, 260, .inl a21)), ((R 22), .inl (Y 0, 2, .inl a22)), ((R 23), .inl (Y 3, 122, .inl a23)), ((R 24), .inl (Y 3, 122, .inl a24)), ((R 25), .inl (Y 0, 6, .inl b25_8)), ((R 26), .inl (Y 0, 130, .inl b26_9)), ((R 28), .inl (Y 0, 12, .inl g28)), ((R 36), .inl (Y 0, 7, .inl b36_14)), ((R 37), .inl (Y 0, 12, .inl b37_15))]) [13, 0, 1, 2, 3, 14, 4, 5, 6, 7, 8, 9, 10, 11, 12, 15, 16] rfl rfl rfl ?_
            exact V_iret X hr dX11_on_113 (Or.inr (Or.inr (Or.inl ⟨x_33, z34_7, b25_8, b26_9, g28, b36_14, b37_15, xl, xp, rfl, rfl, (by omega), hxo, hhn_16, (by omega), kk0, kk1, kk3, kk2, kk4⟩)))
          · refine V_to (pc' := 102) (ls' := [(1, .int r_6), (0, .ref m)]) (st' := [.int (1 : Int32)]) (ws' := [((R 1), .inl (Y 0, 3, .inl a1)), ((R 2), .inl (Y 0, 36, .inl a2)), ((R 3), .inl (Y 0, 36, .inl a3)), ((R 4), .inl (Y 0, 36, .inl a4)), ((R 6), .inl (Y 0, 4, .inl a6)), ((R 20), .inl (Y 2, 260, .inl a20)), ((R 21), .inl (Y 0, 260, .inl a21)), ((R 22), .inl (Y 0, 2, .inl a22)), ((R 23), .inl (Y 3, 122, .inl a23)), ((R 24), .inl (Y 3, 122, .inl a24)), ((R 25), .inl (Y 0, 6, .inl b25_8)), ((R 26), .inl (Y 0, 130, .inl b26_9)), ((R 28), .inl (Y 0, 12, .inl g28)), (m, .inr (10, mF R v0 v7 v8 v9 v15 v16 v17 v18 v19 v27 v31 v32 v33 z34_7 v38 v42 v44)), ((R 5), .inl (Y 0, 24, .inl a5)), ((R 36), .inl (Y 0, 7, .inl b36_22)), ((R 37), .inl (Y 0, 12, .inl b37_23))]) ?_ rfl rfl rfl rfl
            refine V_if_eq X (show (1 : Int32).toInt = 1 from by decide) 109 dX11_on_102 (by decide) (fun c_102 => absurd c_102 (by decide)) (fun _ => ?_)
            refine V_iload_n X 0 rfl dX11_on_105 ?_
            refine V_goto X 113 (by decide) dX11_on_106 ?_
            refine V_ws (ws' := [(m, .inr (10, mF R v0 v7 v8 v9 v15 v16 v17 v18 v19 v27 v31 v32 v33 z34_7 v38 v42 v44)), ((R 1), .inl (Y 0, 3, .inl a1)), ((R 2), .inl (Y 0, 36, .inl a2)), ((R 3), .inl (Y 0, 36, .inl a3)), ((R 4), .inl (Y 0, 36, .inl a4)), ((R 5), .inl (Y 0, 24, .inl a5)), ((R 6), .inl (Y 0, 4, .inl a6)), ((R 20), .inl (Y 2, 260, .inl a20)), ((R 21), .inl (Y 0, 260, .inl a21)), ((R 22), .inl (Y 0, 2, .inl a22)), ((R 23), .inl (Y 3, 122, .inl a23)), ((R 24), .inl (Y 3, 122, .inl a24)), ((R 25), .inl (Y 0, 6, .inl b25_8)), ((R 26), .inl (Y 0, 130, .inl b26_9)), ((R 28), .inl (Y 0, 12, .inl g28)), ((R 36), .inl (Y 0, 7, .inl b36_22)), ((R 37), .inl (Y 0, 12, .inl b37_23))]) [13, 0, 1, 2, 3, 14, 4, 5, 6, 7, 8, 9, 10, 11, 12, 15, 16] rfl rfl rfl ?_
            exact V_iret X hr dX11_on_113 (Or.inr (Or.inr (Or.inr (⟨r_6, z34_7, b25_8, b26_9, g28, b36_22, b37_23, xl, xp, rfl, rfl, (by omega), hxo, hhy_24, (by omega), kk0, kk2, kk5, kk1, kk3, kk4, kk6, hhOF2_32⟩))))
        · refine V_aload_n X 1 rfl dX11_on_81 ?_
          refine V_get (C := RX11) (T := TX11) (N := 50) (ci := 10) (v := .ref (R 36)) X in_X11_on_X11 2 rfl rfl 36 (by decide) (List.mem_of_getElem? (i := 1) rfl) rfl rfl dX11_on_82 ?_
          refine V_iconst (v := (4 : Int32)) X (by decide) dX11_on_85 ?_
          refine V_iconst (v := (-1 : Int32)) X (by decide) dX11_on_86 ?_
          refine V_iast (ws' := [((R 36), .inl (Y 0, 7, .inl (upd a36 4 (-1 : Int32)))), ((R 37), .inl (Y 0, 12, .inl a37)), (m, .inr (10, mF R v0 v7 v8 v9 v15 v16 v17 v18 v19 v27 v31 v32 v33 z34_7 v38 v42 v44)), ((R 1), .inl (Y 0, 3, .inl a1)), ((R 2), .inl (Y 0, 36, .inl a2)), ((R 3), .inl (Y 0, 36, .inl a3)), ((R 4), .inl (Y 0, 36, .inl a4)), ((R 5), .inl (Y 0, 24, .inl a5)), ((R 6), .inl (Y 0, 4, .inl a6)), ((R 20), .inl (Y 2, 260, .inl a20)), ((R 21), .inl (Y 0, 260, .inl a21)), ((R 22), .inl (Y 0, 2, .inl a22)), ((R 23), .inl (Y 3, 122, .inl a23)), ((R 24), .inl (Y 3, 122, .inl a24)), ((R 25), .inl (Y 0, 6, .inl b25_8)), ((R 26), .inl (Y 0, 130, .inl b26_9)), ((R 28), .inl (Y 0, 12, .inl g28))]) X 0 4 rfl (show (4 : Int32).toInt = ((4 : Nat) : Int) from (show (4 : Int32).toInt = 4 from by decide)) (by omega) rfl dX11_on_87 ?_
          refine V_bipush (v := (-2 : Int32)) X (by decide) dX11_on_88 ?_
          refine V_ws (ws' := [(m, .inr (10, mF R v0 v7 v8 v9 v15 v16 v17 v18 v19 v27 v31 v32 v33 z34_7 v38 v42 v44)), ((R 1), .inl (Y 0, 3, .inl a1)), ((R 2), .inl (Y 0, 36, .inl a2)), ((R 3), .inl (Y 0, 36, .inl a3)), ((R 4), .inl (Y 0, 36, .inl a4)), ((R 5), .inl (Y 0, 24, .inl a5)), ((R 6), .inl (Y 0, 4, .inl a6)), ((R 20), .inl (Y 2, 260, .inl a20)), ((R 21), .inl (Y 0, 260, .inl a21)), ((R 22), .inl (Y 0, 2, .inl a22)), ((R 23), .inl (Y 3, 122, .inl a23)), ((R 24), .inl (Y 3, 122, .inl a24)), ((R 25), .inl (Y 0, 6, .inl b25_8)), ((R 26), .inl (Y 0, 130, .inl b26_9)), ((R 28), .inl (Y 0, 12, .inl g28)), ((R 36), .inl (Y 0, 7, .inl (upd a36 4 (-1 : Int32)))), ((R 37), .inl (Y 0, 12, .inl a37))]) [2, 3, 4, 5, 6, 7, 8, 9, 10, 11, 12, 13, 14, 15, 16, 0, 1] rfl rfl rfl ?_
          exact V_iret X hr dX11_on_90 (Or.inr (Or.inl ⟨z34_7, b25_8, b26_9, g28, (upd a36 4 (-1 : Int32)), a37, rfl, rfl, (by omega), (oM_none c_78 rfl), rfl, rfl, rfl, rfl, (by show (-1 : Int32).toInt = -1; decide)⟩))
      · refine V_aload_n X 0 rfl dX11_on_42 ?_
        refine V_get (C := RX11) (T := TX11) (N := 50) (ci := 10) (v := .ref (R 28)) X in_X11_on_X11 0 rfl rfl 28 (by decide) (List.mem_of_getElem? (i := 2) rfl) rfl rfl dX11_on_43 ?_
        refine V_iload_n X 1 rfl dX11_on_46 ?_
        refine V_aload_n X 0 rfl dX11_on_47 ?_
        refine V_get (C := RX11) (T := TX11) (N := 50) (ci := 10) (v := .ref (R 37)) X in_X11_on_X11 0 rfl rfl 37 (by decide) (List.mem_of_getElem? (i := 3) rfl) rfl rfl dX11_on_48 ?_
        refine V_iload_n X 1 rfl dX11_on_51 ?_
        refine V_iald X 16 k rfl ti1 (by omega) dX11_on_52 ?_
        refine V_iast (ws' := [(m, .inr (10, mF R v0 v7 v8 v9 v15 v16 v17 v18 v19 v27 v31 v32 v33 v34 v38 v42 v44)), ((R 1), .inl (Y 0, 3, .inl a1)), ((R 2), .inl (Y 0, 36, .inl a2)), ((R 3), .inl (Y 0, 36, .inl a3)), ((R 4), .inl (Y 0, 36, .inl a4)), ((R 5), .inl (Y 0, 24, .inl a5)), ((R 6), .inl (Y 0, 4, .inl a6)), ((R 20), .inl (Y 2, 260, .inl a20)), ((R 21), .inl (Y 0, 260, .inl a21)), ((R 22), .inl (Y 0, 2, .inl a22)), ((R 23), .inl (Y 3, 122, .inl a23)), ((R 24), .inl (Y 3, 122, .inl a24)), ((R 25), .inl (Y 0, 6, .inl a25)), ((R 26), .inl (Y 0, 130, .inl a26)), ((R 28), .inl (Y 0, 12, .inl (upd g28 k (a37 k)))), ((R 36), .inl (Y 0, 7, .inl a36)), ((R 37), .inl (Y 0, 12, .inl a37))]) X 14 k rfl ti1 (by omega) rfl dX11_on_53 ?_
        refine V_iincZ X (fun vv_ => [(1, .int vv_), (0, .ref m)]) ti1 (by omega) (by omega) (by decide) 1 rfl (by decide) (fun _ => rfl) dX11_on_54 (fun x_34 ex_34 tx_34 => ?_)
        have tx_34 : x_34.toInt = (((k + 1) : Nat) : Int) := by omega
        refine V_goto X 36 (by decide) dX11_on_57 ?_
        refine V_ls (ls' := [(0, .ref m), (1, .int x_34)]) [1, 0] rfl ?_
        exact V_to (ih_36 x_34 (k + 1) (upd g28 k (a37 k)) ⟨(by omega), (by omega), (fun j hj => by unfold upd; by_cases e : j = k; (rw [if_pos e, e]); (rw [if_neg e]; exact hcp j (by omega)))⟩ (by omega)) rfl rfl rfl rfl
    · exact ⟨(by have h9 : (0 : Int32).toInt = 0 := (show (0 : Int32).toInt = 0 from by decide); omega), (by omega), (fun j hj => absurd hj (Nat.not_lt_zero j))⟩
  · refine V_aload_n X 0 rfl dX11_on_24 ?_
    refine V_get (C := RX11) (T := TX11) (N := 50) (ci := 10) (v := .ref (R 36)) X in_X11_on_X11 0 rfl rfl 36 (by decide) (List.mem_of_getElem? (i := 1) rfl) rfl rfl dX11_on_25 ?_
    refine V_iconst (v := (4 : Int32)) X (by decide) dX11_on_28 ?_
    refine V_iconst (v := (-1 : Int32)) X (by decide) dX11_on_29 ?_
    refine V_iast (ws' := [(m, .inr (10, mF R v0 v7 v8 v9 v15 v16 v17 v18 v19 v27 v31 v32 v33 v34 v38 v42 v44)), ((R 1), .inl (Y 0, 3, .inl a1)), ((R 2), .inl (Y 0, 36, .inl a2)), ((R 3), .inl (Y 0, 36, .inl a3)), ((R 4), .inl (Y 0, 36, .inl a4)), ((R 5), .inl (Y 0, 24, .inl a5)), ((R 6), .inl (Y 0, 4, .inl a6)), ((R 20), .inl (Y 2, 260, .inl a20)), ((R 21), .inl (Y 0, 260, .inl a21)), ((R 22), .inl (Y 0, 2, .inl a22)), ((R 23), .inl (Y 3, 122, .inl a23)), ((R 24), .inl (Y 3, 122, .inl a24)), ((R 25), .inl (Y 0, 6, .inl a25)), ((R 26), .inl (Y 0, 130, .inl a26)), ((R 28), .inl (Y 0, 12, .inl a28)), ((R 36), .inl (Y 0, 7, .inl (upd a36 4 (-1 : Int32)))), ((R 37), .inl (Y 0, 12, .inl a37))]) X 15 4 rfl (show (4 : Int32).toInt = ((4 : Nat) : Int) from (show (4 : Int32).toInt = 4 from by decide)) (by omega) rfl dX11_on_30 ?_
    refine V_bipush (v := (-6 : Int32)) X (by decide) dX11_on_31 ?_
    exact V_iret X hr dX11_on_33 (Or.inl ⟨v34, a25, a26, a28, (upd a36 4 (-1 : Int32)), a37, rfl, rfl, (by omega), rfl, rfl, rfl, rfl, (by show (-1 : Int32).toInt = -1; decide)⟩)

set_option maxHeartbeats 4000000 in
set_option maxRecDepth 100000 in
theorem c_X11_on_off (l : Launch) (D : va_G) (Y : Nat → ClassId) (m : Nat) (R : Nat → Nat) (v0 : Int32) (v7 : Int32) (v8 : Int32) (v9 : Int32) (v15 : Int32) (v16 : Int32) (v17 : Int32) (v18 : Int32) (v19 : Int32) (v27 : Int32) (v31 : Int32) (v32 : Int32) (v33 : Int32) (v34 : Int32) (v38 : Int32) (v42 : Int32) (v44 : Int32) (a36 : Nat → Int32) (hoff : (a36 4).toInt < 0) : Mg l yX11_on wsX11_on ({ frames := 0, cells := 0, slots := 0, locals := 0 }) D Y [(m, .inr (10, mF R v0 v7 v8 v9 v15 v16 v17 v18 v19 v27 v31 v32 v33 v34 v38 v42 v44)), ((R 36), .inl (Y 0, 7, .inl a36))] [.ref m] 0 0 (fun vv__ ww__ => (vv__ = some (.int (-5 : Int32)) ∧ ww__ = [(m, .inr (10, mF R v0 v7 v8 v9 v15 v16 v17 v18 v19 v27 v31 v32 v33 v34 v38 v42 v44)), ((R 36), .inl (Y 0, 7, .inl a36))])) := by
  refine Mg_of (cc := cX11_on) (maxL := 2) (ret := (some .int)) (ls0 := [(0, .ref m)]) RX11 (by decide) rfl rfl rfl (Nat.le_of_ble_eq_true rfl) (fun p__ e__ s__ m__ b__ t__ c__ X hr hn => ?_)
  refine V_aload_n X 0 rfl dX11_on_0 ?_
  refine V_get (C := RX11) (T := TX11) (N := 50) (ci := 10) (v := .ref (R 36)) X in_X11_on_X11 0 rfl rfl 36 (by decide) (List.mem_of_getElem? (i := 1) rfl) rfl rfl dX11_on_1 ?_
  refine V_iconst (v := (4 : Int32)) X (by decide) dX11_on_4 ?_
  refine V_iald X 1 4 rfl (show (4 : Int32).toInt = ((4 : Nat) : Int) from (show (4 : Int32).toInt = 4 from by decide)) (by omega) dX11_on_5 ?_
  refine V_if_ge X rfl 12 dX11_on_6 (by decide) (fun c_6 => False.elim (by omega)) (fun c_6 => ?_)
  refine V_bipush (v := (-5 : Int32)) X (by decide) dX11_on_9 ?_
  exact V_iret X hr dX11_on_11 (⟨rfl, rfl⟩)

theorem in_X11_led_X11 : ∀ w ∈ wsX110, w ∈ wsX11_led := fun w h => List.mem_cons_of_mem _ (List.mem_append_right _ h)
set_option maxHeartbeats 4000000 in
set_option maxRecDepth 100000 in
theorem c_X11_led (l : Launch) (D : va_G) (Y : Nat → ClassId) (m : Nat) (R : Nat → Nat) (v0 : Int32) (v7 : Int32) (v8 : Int32) (v9 : Int32) (v15 : Int32) (v16 : Int32) (v17 : Int32) (v18 : Int32) (v19 : Int32) (v27 : Int32) (v31 : Int32) (v32 : Int32) (v33 : Int32) (v34 : Int32) (v38 : Int32) (v42 : Int32) (v44 : Int32) (a36 : Nat → Int32) (w_ : Int32) : Mg l yX11_led wsX11_led ({ frames := 1, cells := 0, slots := 0, locals := 22 }) D Y [(m, .inr (10, mF R v0 v7 v8 v9 v15 v16 v17 v18 v19 v27 v31 v32 v33 v34 v38 v42 v44)), ((R 36), .inl (Y 0, 7, .inl a36))] [.ref m, .int w_] 0 0 (fun vv__ ww__ => (vv__ = some (.int (a36 0)) ∧ ww__ = [(m, .inr (10, mF R v0 v7 v8 v9 v15 v16 v17 v18 v19 v27 v31 v32 v33 v34 v38 v42 v44)), ((R 36), .inl (Y 0, 7, .inl a36))] ∧ (w_.toInt = 0)) ∨ (vv__ = some (.int (a36 1)) ∧ ww__ = [(m, .inr (10, mF R v0 v7 v8 v9 v15 v16 v17 v18 v19 v27 v31 v32 v33 v34 v38 v42 v44)), ((R 36), .inl (Y 0, 7, .inl a36))] ∧ (w_.toInt = 1)) ∨ (vv__ = some (.int (a36 2)) ∧ ww__ = [(m, .inr (10, mF R v0 v7 v8 v9 v15 v16 v17 v18 v19 v27 v31 v32 v33 v34 v38 v42 v44)), ((R 36), .inl (Y 0, 7, .inl a36))] ∧ (w_.toInt = 2)) ∨ (vv__ = some (.int (a36 3)) ∧ ww__ = [(m, .inr (10, mF R v0 v7 v8 v9 v15 v16 v17 v18 v19 v27 v31 v32 v33 v34 v38 v42 v44)), ((R 36), .inl (Y 0, 7, .inl a36))] ∧ (w_.toInt = 3)) ∨ (vv__ = some (.int (a36 6)) ∧ ww__ = [(m, .inr (10, mF R v0 v7 v8 v9 v15 v16 v17 v18 v19 v27 v31 v32 v33 v34 v38 v42 v44)), ((R 36), .inl (Y 0, 7, .inl a36))] ∧ (w_.toInt = 4) ∧ (0 ≤ (a36 4).toInt)) ∨ (vv__ = some (.int (-5 : Int32)) ∧ ww__ = [(m, .inr (10, mF R v0 v7 v8 v9 v15 v16 v17 v18 v19 v27 v31 v32 v33 v34 v38 v42 v44)), ((R 36), .inl (Y 0, 7, .inl a36))] ∧ (w_.toInt = 4) ∧ ((a36 4).toInt < 0)) ∨ (vv__ = some (.int (-1 : Int32)) ∧ ww__ = [(m, .inr (10, mF R v0 v7 v8 v9 v15 v16 v17 v18 v19 v27 v31 v32 v33 v34 v38 v42 v44)), ((R 36), .inl (Y 0, 7, .inl a36))] ∧ (w_.toInt < 0 ∨ 4 < w_.toInt))) := by
  refine Mg_of (cc := cX11_led) (maxL := 2) (ret := (some .int)) (ls0 := [(0, .ref m), (1, .int w_)]) RX11 (by decide) rfl rfl rfl (Nat.le_of_ble_eq_true rfl) (fun p__ e__ s__ m__ b__ t__ c__ X hr hn => ?_)
  refine V_iload_n X 1 rfl dX11_led_0 ?_
  refine V_iconst (v := (4 : Int32)) X (by decide) dX11_led_1 ?_
  refine V_icmp_ne X rfl (show (4 : Int32).toInt = 4 from by decide) 27 dX11_led_2 (by decide) (fun c_2 => ?_) (fun c_2 => ?_)
  · refine V_iload_n X 1 rfl dX11_led_27 ?_
    refine V_iconst (v := (0 : Int32)) X (by decide) dX11_led_28 ?_
    refine V_iconst (v := (3 : Int32)) X (by decide) dX11_led_29 ?_
    refine V_callS (wr := [(m, .inr (10, mF R v0 v7 v8 v9 v15 v16 v17 v18 v19 v27 v31 v32 v33 v34 v38 v42 v44)), ((R 36), .inl (Y 0, 7, .inl a36))]) (st := []) X (c_X11_in l D Y w_ (0 : Int32) (3 : Int32)) 3 gX11_led_X11_in rfl (by decide +kernel) ⟨rfl, rfl⟩ ⟨Nat.le_of_ble_eq_true rfl, Nat.le_of_ble_eq_true rfl⟩ [] [0, 1] rfl rfl rfl rfl (by decide) rfl rfl (Nat.le_of_ble_eq_true rfl) ⟨Nat.le_of_ble_eq_true rfl, Nat.le_of_ble_eq_true rfl⟩ dX11_led_30 (fun v_30 w_30 h_30 => ?_)
    rcases h_30 with ⟨rfl, rfl, hhy_2⟩ | ⟨rfl, rfl, hhn_3⟩
    · refine V_to (pc' := 33) (ls' := [(0, .ref m), (1, .int w_)]) (st' := [.int (1 : Int32)]) (ws' := [(m, .inr (10, mF R v0 v7 v8 v9 v15 v16 v17 v18 v19 v27 v31 v32 v33 v34 v38 v42 v44)), ((R 36), .inl (Y 0, 7, .inl a36))]) ?_ rfl rfl rfl rfl
      have hc_0 : (0 : Int32).toInt = 0 := by decide
      have hc_3 : (3 : Int32).toInt = 3 := by decide
      refine V_if_eq X (show (1 : Int32).toInt = 1 from by decide) 45 dX11_led_33 (by decide) (fun c_33 => absurd c_33 (by decide)) (fun _ => ?_)
      rcases (by omega : w_.toInt = 0 ∨ w_.toInt = 1 ∨ w_.toInt = 2 ∨ w_.toInt = 3) with hq | hq | hq | hq
      · refine V_aload_n X 0 rfl dX11_led_36 ?_
        refine V_get (C := RX11) (T := TX11) (N := 50) (ci := 10) (v := .ref (R 36)) X in_X11_led_X11 0 rfl rfl 36 (by decide) (List.mem_of_getElem? (i := 1) rfl) rfl rfl dX11_led_37 ?_
        refine V_iload_n X 1 rfl dX11_led_40 ?_
        refine V_iald X 1 0 rfl (show w_.toInt = ((0 : Nat) : Int) from (show w_.toInt = ((0 : Nat) : Int) by omega)) (by omega) dX11_led_41 ?_
        refine V_goto X 46 (by decide) dX11_led_42 ?_
        exact V_iret X hr dX11_led_46 (Or.inl ⟨rfl, rfl, hq⟩)
      · refine V_aload_n X 0 rfl dX11_led_36 ?_
        refine V_get (C := RX11) (T := TX11) (N := 50) (ci := 10) (v := .ref (R 36)) X in_X11_led_X11 0 rfl rfl 36 (by decide) (List.mem_of_getElem? (i := 1) rfl) rfl rfl dX11_led_37 ?_
        refine V_iload_n X 1 rfl dX11_led_40 ?_
        refine V_iald X 1 1 rfl (show w_.toInt = ((1 : Nat) : Int) from (show w_.toInt = ((1 : Nat) : Int) by omega)) (by omega) dX11_led_41 ?_
        refine V_goto X 46 (by decide) dX11_led_42 ?_
        exact V_iret X hr dX11_led_46 (Or.inr (Or.inl ⟨rfl, rfl, hq⟩))
      · refine V_aload_n X 0 rfl dX11_led_36 ?_
        refine V_get (C := RX11) (T := TX11) (N := 50) (ci := 10) (v := .ref (R 36)) X in_X11_led_X11 0 rfl rfl 36 (by decide) (List.mem_of_getElem? (i := 1) rfl) rfl rfl dX11_led_37 ?_
        refine V_iload_n X 1 rfl dX11_led_40 ?_
        refine V_iald X 1 2 rfl (show w_.toInt = ((2 : Nat) : Int) from (show w_.toInt = ((2 : Nat) : Int) by omega)) (by omega) dX11_led_41 ?_
        refine V_goto X 46 (by decide) dX11_led_42 ?_
        exact V_iret X hr dX11_led_46 (Or.inr (Or.inr (Or.inl ⟨rfl, rfl, hq⟩)))
      · refine V_aload_n X 0 rfl dX11_led_36 ?_
        refine V_get (C := RX11) (T := TX11) (N := 50) (ci := 10) (v := .ref (R 36)) X in_X11_led_X11 0 rfl rfl 36 (by decide) (List.mem_of_getElem? (i := 1) rfl) rfl rfl dX11_led_37 ?_
        refine V_iload_n X 1 rfl dX11_led_40 ?_
        refine V_iald X 1 3 rfl (show w_.toInt = ((3 : Nat) : Int) from (show w_.toInt = ((3 : Nat) : Int) by omega)) (by omega) dX11_led_41 ?_
        refine V_goto X 46 (by decide) dX11_led_42 ?_
        exact V_iret X hr dX11_led_46 (Or.inr (Or.inr (Or.inr (Or.inl ⟨rfl, rfl, hq⟩))))
    · refine V_to (pc' := 33) (ls' := [(0, .ref m), (1, .int w_)]) (st' := [.int (0 : Int32)]) (ws' := [(m, .inr (10, mF R v0 v7 v8 v9 v15 v16 v17 v18 v19 v27 v31 v32 v33 v34 v38 v42 v44)), ((R 36), .inl (Y 0, 7, .inl a36))]) ?_ rfl rfl rfl rfl
      have hc_0 : (0 : Int32).toInt = 0 := by decide
      have hc_3 : (3 : Int32).toInt = 3 := by decide
      refine V_if_eq X (show (0 : Int32).toInt = 0 from by decide) 45 dX11_led_33 (by decide) (fun _ => ?_) (fun c_33 => absurd c_33 (by decide))
      refine V_iconst (v := (-1 : Int32)) X (by decide) dX11_led_45 ?_
      exact V_iret X hr dX11_led_46 (Or.inr (Or.inr (Or.inr (Or.inr (Or.inr (Or.inr (⟨rfl, rfl, (by omega)⟩)))))))
  · refine V_aload_n X 0 rfl dX11_led_5 ?_
    refine V_get (C := RX11) (T := TX11) (N := 50) (ci := 10) (v := .ref (R 36)) X in_X11_led_X11 0 rfl rfl 36 (by decide) (List.mem_of_getElem? (i := 1) rfl) rfl rfl dX11_led_6 ?_
    refine V_iconst (v := (4 : Int32)) X (by decide) dX11_led_9 ?_
    refine V_iald X 1 4 rfl (show (4 : Int32).toInt = ((4 : Nat) : Int) from (show (4 : Int32).toInt = 4 from by decide)) (by omega) dX11_led_10 ?_
    refine V_if_ge X rfl 19 dX11_led_11 (by decide) (fun c_11 => ?_) (fun c_11 => ?_)
    · refine V_aload_n X 0 rfl dX11_led_19 ?_
      refine V_get (C := RX11) (T := TX11) (N := 50) (ci := 10) (v := .ref (R 36)) X in_X11_led_X11 0 rfl rfl 36 (by decide) (List.mem_of_getElem? (i := 1) rfl) rfl rfl dX11_led_20 ?_
      refine V_bipush (v := (6 : Int32)) X (by decide) dX11_led_23 ?_
      refine V_iald X 1 6 rfl (show (6 : Int32).toInt = ((6 : Nat) : Int) from (show (6 : Int32).toInt = 6 from by decide)) (by omega) dX11_led_25 ?_
      exact V_iret X hr dX11_led_26 (Or.inr (Or.inr (Or.inr (Or.inr (Or.inl ⟨rfl, rfl, c_2, c_11⟩)))))
    · refine V_bipush (v := (-5 : Int32)) X (by decide) dX11_led_14 ?_
      refine V_goto X 26 (by decide) dX11_led_16 ?_
      exact V_iret X hr dX11_led_26 (Or.inr (Or.inr (Or.inr (Or.inr (Or.inr (Or.inl ⟨rfl, rfl, c_2, c_11⟩))))))
