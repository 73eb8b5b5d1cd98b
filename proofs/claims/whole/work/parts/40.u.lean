
/-! ===== the reference: its rows ===== -/
def LNR (f : Nat → Int32) (n : Nat → Nat) : Prop := ∀ s, s < 3 → (f s).toInt = ((n s : Nat) : Int) ∧ n s ≤ 12
def MTR (f2 f3 f4 : Nat → Int32) (T : Nat → Nat → Nat) : Prop := ∀ s, s < 3 → ∀ l, l < 12 → ((f2 (12 * s + l)).toInt = ((T s (3 * l + 0) : Nat) : Int) ∧ T s (3 * l + 0) < 8) ∧ ((f3 (12 * s + l)).toInt = ((T s (3 * l + 1) : Nat) : Int) ∧ T s (3 * l + 1) < 8) ∧ ((f4 (12 * s + l)).toInt = ((T s (3 * l + 2) : Nat) : Int) ∧ T s (3 * l + 2) < 8)
def MHV (f : Nat → Int32) (B : Nat → Nat → Bool) : Prop := ∀ s, s < 3 → ∀ p, p < 4 → ∀ w, w < 2 → ∀ l, l < 32 → bt (f (8 * s + 2 * p + w)) l = (decide (l < 12) && B s (24 * p + 2 * l + w))
def upS {α : Type} (B : Nat → α) (s : Nat) (v : α) : Nat → α := fun j => if j = s then v else B j
theorem upS_eq {α : Type} (B : Nat → α) (s : Nat) (v : α) : upS B s v s = v := by unfold upS; rw [if_pos rfl]
theorem upS_ne {α : Type} {B : Nat → α} {s t : Nat} {v : α} (h : t ≠ s) : upS B s v t = B t := by unfold upS; rw [if_neg h]
theorem upS_id {α : Type} (B : Nat → α) (s : Nat) : upS B s (B s) = B := by funext j; unfold upS; split; rename_i h; rw [h]; rfl
theorem upS_up {α : Type} (B : Nat → α) (s : Nat) (v w : α) : upS (upS B s v) s w = upS B s w := by funext j; unfold upS; split <;> rfl
theorem MHV_at {f : Nat → Int32} {B : Nat → Nat → Bool} (h : MHV f B) {s p w l : Nat} (hs : s < 3) (hp : p < 4) (hw : w < 2) (hl : l < 12) : bt (f (8 * s + 2 * p + w)) l = B s (24 * p + 2 * l + w) := by
  rw [h s hs p hp w hw l (by omega)]; simp [hl]
theorem MHV_set {f : Nat → Int32} {B : Nat → Nat → Bool} (h : MHV f B) {s p w l : Nat} (hs : s < 3) (hp : p < 4) (hw : w < 2) (hl : l < 12) {v : Bool} {x : Int32} (hx : ∀ i, i < 32 → bt x i = if i = l then v else bt (f (8 * s + 2 * p + w)) i) : MHV (upd f (8 * s + 2 * p + w) x) (upS B s (upB (B s) (24 * p + 2 * l + w) v)) := by
  intro s' hs' p' hp' w' hw' l' hl'
  unfold upd
  by_cases e : 8 * s' + 2 * p' + w' = 8 * s + 2 * p + w
  · have e1 : s' = s := by omega
    have e2 : p' = p := by omega
    have e3 : w' = w := by omega
    subst e1; subst e2; subst e3
    rw [if_pos rfl, hx l' hl', upS_eq]
    by_cases q : l' = l
    · subst q; rw [if_pos rfl]; unfold upB; rw [if_pos rfl]; simp [hl]
    · rw [if_neg q, h s' hs' p' hp' w' hw' l' hl']; unfold upB; rw [if_neg (by omega)]
  · rw [if_neg e, h s' hs' p' hp' w' hw' l' hl']
    by_cases q : s' = s
    · subst q; rw [upS_eq]; unfold upB
      by_cases c : l' < 12
      · rw [if_neg (by omega)]
      · simp [c]
    · rw [upS_ne q]
def SHf (a b : Nat → Int32) (k : Nat) : Prop := ∀ j, j < 40 → b j = if j + 1 < k then a (j + 1) else a j
theorem SHf_0 (a : Nat → Int32) : SHf a a 1 := fun j _ => by rw [if_neg (by omega)]
theorem SHf_s {a b : Nat → Int32} {k : Nat} (h : SHf a b k) (h1 : 1 ≤ k) (h2 : k < 40) : SHf a (upd b (k - 1) (b k)) (k + 1) := by
  intro j hj
  unfold upd
  by_cases e : j = k - 1
  · subst e; rw [if_pos rfl, h k h2, if_neg (by omega), if_pos (by omega), show k - 1 + 1 = k by omega]
  · rw [if_neg e, h j hj]
    by_cases c : j + 1 < k
    · rw [if_pos c, if_pos (by omega)]
    · rw [if_neg c, if_neg (by omega)]
theorem chg_sh {a b : Nat → Int32} {k d : Nat} (h : SHf a b k) (hk : k = 40) (hd : d = 40) {x : Int32} {q : Nat} (hq : q = 39) : ∀ j, j < chD d → upd b q x j = chg d a x j := by
  subst hk; subst hd; subst hq
  intro j hj
  unfold chD at hj; rw [if_neg (by omega)] at hj
  unfold chg
  rw [if_neg (by omega)]
  unfold upd
  by_cases e : j = 39
  · rw [if_pos e, if_pos e]
  · rw [if_neg e, if_neg e, h j hj, if_pos (by omega)]
def aB4 (B : Nat → Bool) (l w : Nat) : Nat → Nat
  | 0 => 0
  | p + 1 => aB4 B l w p + (if B (24 * p + 2 * l + w) = true then 2 ^ p else 0)

def WHO (B : Nat → Bool) (l w : Nat) (k : Nat) (x : Int32) : Prop := ∀ i, i < 32 → bt x i = (decide (i < k) && B (24 * i + 2 * l + w))
theorem WHO_0 (B : Nat → Bool) (l w : Nat) : WHO B l w 0 0 := fun i _ => by rw [b_0]; simp
theorem WHO_s {B : Nat → Bool} {l w k : Nat} {u x y z c : Int32} (h : WHO B l w k u) (hk : k < 4) (hx : x.toInt = bz (B (24 * k + 2 * l + w))) (hc : c.toInt = (k : Int)) (hy : y = x <<< (c &&& 31)) (hz : z = u ||| y) : WHO B l w (k + 1) z := by
  intro i hi
  rw [hz, b_or, h i hi]
  by_cases hb : B (24 * k + 2 * l + w) = true
  · have hx1 : x = 1 := Int32.toInt_inj.mp (by rw [hx, hb]; decide)
    subst hx1
    rw [b_one hy hc (by omega) hi]
    by_cases e : i = k
    · subst e; simp [hb]
    · by_cases q : i < k
      · simp [q, e, show i < k + 1 by omega]
      · simp [q, e, show ¬ i < k + 1 by omega]
  · have hx0 : x = 0 := Int32.toInt_inj.mp (by rw [hx]; simp [bz, hb])
    subst hx0
    have hy0 : y = 0 := by rw [hy, i_of hc (by omega)]; exact b_eq0 fun i hi => by rw [b_shl k (by omega) 0 hi, b_0]; simp
    rw [hy0, b_0]
    by_cases e : i = k
    · subst e; simp [hb]
    · by_cases q : i < k
      · simp [q, show i < k + 1 by omega]
      · simp [q, show ¬ i < k + 1 by omega]
theorem WHO_any {B : Nat → Bool} {l w : Nat} {x : Int32} (h : WHO B l w 4 x) : x.toInt = 0 ↔ anyB B (2 * l + w) = false := by
  constructor
  · intro h0
    have hx : x = 0 := Int32.toInt_inj.mp (by rw [h0]; decide)
    subst hx
    have h1 := h 0 (by omega); have h2 := h 1 (by omega); have h3 := h 2 (by omega); have h4 := h 3 (by omega)
    rw [b_0] at h1 h2 h3 h4
    unfold anyB
    simp at h1 h2 h3 h4
    rw [show 2 * l + w = 2 * l + w from rfl, show 24 + (2 * l + w) = 24 + 2 * l + w by omega, show 48 + (2 * l + w) = 48 + 2 * l + w by omega, show 72 + (2 * l + w) = 72 + 2 * l + w by omega, h1, h2, h3, h4]; rfl
  · intro h0
    unfold anyB at h0
    have hx : x = 0 := b_eq0 fun i hi => by
      rw [h i hi]
      by_cases q : i < 4
      · rcases (by omega : i = 0 ∨ i = 1 ∨ i = 2 ∨ i = 3) with rfl | rfl | rfl | rfl <;> simp_all [Nat.add_assoc]
      · simp [q]
    rw [hx]; decide
set_option maxHeartbeats 4000000 in
set_option maxRecDepth 100000 in
theorem c_X11_in (l : Launch) (D : va_G) (Y : Nat → ClassId) (x : Int32) (y : Int32) (q : Int32) : Mg l yX11_in wsX11_in ({ frames := 0, cells := 0, slots := 0, locals := 0 }) D Y [] [.int x, .int y, .int q] 0 0 (fun vv__ ww__ => (vv__ = some (.int (1 : Int32)) ∧ ww__ = [] ∧ (y.toInt ≤ x.toInt ∧ x.toInt ≤ q.toInt)) ∨ (vv__ = some (.int (0 : Int32)) ∧ ww__ = [] ∧ (¬ (y.toInt ≤ x.toInt ∧ x.toInt ≤ q.toInt)))) := by
  refine Mg_of (cc := cX11_in) (maxL := 3) (ret := (some .boolean)) (ls0 := [(0, .int x), (1, .int y), (2, .int q)]) RX11 (by decide) rfl rfl rfl (Nat.le_of_ble_eq_true rfl) (fun p__ e__ s__ m__ b__ t__ c__ X hr hn => ?_)
  refine V_iload_n X 0 rfl dX11_in_0 ?_
  refine V_iload_n X 1 rfl dX11_in_1 ?_
  refine V_icmp_lt X rfl rfl 14 dX11_in_2 (by decide) (fun c_2 => ?_) (fun c_2 => ?_)
  · refine V_iconst (v := (0 : Int32)) X (by decide) dX11_in_14 ?_
    exact V_zret X hr rfl dX11_in_15 (Or.inr (⟨rfl, rfl, (by omega)⟩))
  · refine V_iload_n X 0 rfl dX11_in_5 ?_
    refine V_iload_n X 2 rfl dX11_in_6 ?_
    refine V_icmp_gt X rfl rfl 14 dX11_in_7 (by decide) (fun c_7 => ?_) (fun c_7 => ?_)
    · refine V_iconst (v := (0 : Int32)) X (by decide) dX11_in_14 ?_
      exact V_zret X hr rfl dX11_in_15 (Or.inr (⟨rfl, rfl, (by omega)⟩))
    · refine V_iconst (v := (1 : Int32)) X (by decide) dX11_in_10 ?_
      refine V_goto X 15 (by decide) dX11_in_11 ?_
      exact V_zret X hr rfl dX11_in_15 (Or.inl ⟨rfl, rfl, (by omega)⟩)

set_option maxHeartbeats 4000000 in
set_option maxRecDepth 100000 in
theorem c_X11_isSong (l : Launch) (D : va_G) (Y : Nat → ClassId) (x : Int32) : Mg l yX11_isSong wsX11_isSong ({ frames := 1, cells := 0, slots := 0, locals := 22 }) D Y [] [.int x] 0 0 (fun vv__ ww__ => (vv__ = some (.int (1 : Int32)) ∧ ww__ = [] ∧ (0 ≤ x.toInt ∧ x.toInt < 3)) ∨ (vv__ = some (.int (0 : Int32)) ∧ ww__ = [] ∧ (¬ (0 ≤ x.toInt ∧ x.toInt < 3)))) := by
  refine Mg_of (cc := cX11_isSong) (maxL := 1) (ret := (some .boolean)) (ls0 := [(0, .int x)]) RX11 (by decide) rfl rfl rfl (Nat.le_of_ble_eq_true rfl) (fun p__ e__ s__ m__ b__ t__ c__ X hr hn => ?_)
  refine V_iload_n X 0 rfl dX11_isSong_0 ?_
  refine V_iconst (v := (0 : Int32)) X (by decide) dX11_isSong_1 ?_
  refine V_iconst (v := (2 : Int32)) X (by decide) dX11_isSong_2 ?_
  refine V_callS (wr := []) (st := []) X (c_X11_in l D Y x (0 : Int32) (2 : Int32)) 3 gX11_isSong_X11_in rfl (by decide +kernel) ⟨rfl, rfl⟩ ⟨Nat.le_of_ble_eq_true rfl, Nat.le_of_ble_eq_true rfl⟩ [] [] rfl rfl rfl rfl (by decide) rfl rfl (Nat.le_of_ble_eq_true rfl) ⟨Nat.le_of_ble_eq_true rfl, Nat.le_of_ble_eq_true rfl⟩ dX11_isSong_3 (fun v_3 w_3 h_3 => ?_)
  rcases h_3 with ⟨rfl, rfl, hhy_2⟩ | ⟨rfl, rfl, hhn_3⟩
  · refine V_to (pc' := 6) (ls' := [(0, .int x)]) (st' := [.int (1 : Int32)]) (ws' := []) ?_ rfl rfl rfl rfl
    have hc_0 : (0 : Int32).toInt = 0 := by decide
    have hc_2 : (2 : Int32).toInt = 2 := by decide
    exact V_zret X hr rfl dX11_isSong_6 (Or.inl ⟨rfl, rfl, (by omega)⟩)
  · refine V_to (pc' := 6) (ls' := [(0, .int x)]) (st' := [.int (0 : Int32)]) (ws' := []) ?_ rfl rfl rfl rfl
    have hc_0 : (0 : Int32).toInt = 0 := by decide
    have hc_2 : (2 : Int32).toInt = 2 := by decide
    exact V_zret X hr rfl dX11_isSong_6 (Or.inr (⟨rfl, rfl, (by omega)⟩))

set_option maxHeartbeats 4000000 in
set_option maxRecDepth 100000 in
theorem c_X11_isSinger (l : Launch) (D : va_G) (Y : Nat → ClassId) (x : Int32) : Mg l yX11_isSinger wsX11_isSinger ({ frames := 1, cells := 0, slots := 0, locals := 22 }) D Y [] [.int x] 0 0 (fun vv__ ww__ => (vv__ = some (.int (1 : Int32)) ∧ ww__ = [] ∧ (0 ≤ x.toInt ∧ x.toInt < 4)) ∨ (vv__ = some (.int (0 : Int32)) ∧ ww__ = [] ∧ (¬ (0 ≤ x.toInt ∧ x.toInt < 4)))) := by
  refine Mg_of (cc := cX11_isSinger) (maxL := 1) (ret := (some .boolean)) (ls0 := [(0, .int x)]) RX11 (by decide) rfl rfl rfl (Nat.le_of_ble_eq_true rfl) (fun p__ e__ s__ m__ b__ t__ c__ X hr hn => ?_)
  refine V_iload_n X 0 rfl dX11_isSinger_0 ?_
  refine V_iconst (v := (0 : Int32)) X (by decide) dX11_isSinger_1 ?_
  refine V_iconst (v := (3 : Int32)) X (by decide) dX11_isSinger_2 ?_
  refine V_callS (wr := []) (st := []) X (c_X11_in l D Y x (0 : Int32) (3 : Int32)) 3 gX11_isSinger_X11_in rfl (by decide +kernel) ⟨rfl, rfl⟩ ⟨Nat.le_of_ble_eq_true rfl, Nat.le_of_ble_eq_true rfl⟩ [] [] rfl rfl rfl rfl (by decide) rfl rfl (Nat.le_of_ble_eq_true rfl) ⟨Nat.le_of_ble_eq_true rfl, Nat.le_of_ble_eq_true rfl⟩ dX11_isSinger_3 (fun v_3 w_3 h_3 => ?_)
  rcases h_3 with ⟨rfl, rfl, hhy_2⟩ | ⟨rfl, rfl, hhn_3⟩
  · refine V_to (pc' := 6) (ls' := [(0, .int x)]) (st' := [.int (1 : Int32)]) (ws' := []) ?_ rfl rfl rfl rfl
    have hc_0 : (0 : Int32).toInt = 0 := by decide
    have hc_3 : (3 : Int32).toInt = 3 := by decide
    exact V_zret X hr rfl dX11_isSinger_6 (Or.inl ⟨rfl, rfl, (by omega)⟩)
  · refine V_to (pc' := 6) (ls' := [(0, .int x)]) (st' := [.int (0 : Int32)]) (ws' := []) ?_ rfl rfl rfl rfl
    have hc_0 : (0 : Int32).toInt = 0 := by decide
    have hc_3 : (3 : Int32).toInt = 3 := by decide
    exact V_zret X hr rfl dX11_isSinger_6 (Or.inr (⟨rfl, rfl, (by omega)⟩))

set_option maxHeartbeats 4000000 in
set_option maxRecDepth 100000 in
theorem c_X11_isShelf (l : Launch) (D : va_G) (Y : Nat → ClassId) (x : Int32) : Mg l yX11_isShelf wsX11_isShelf ({ frames := 1, cells := 0, slots := 0, locals := 22 }) D Y [] [.int x] 0 0 (fun vv__ ww__ => (vv__ = some (.int (1 : Int32)) ∧ ww__ = [] ∧ (0 ≤ x.toInt ∧ x.toInt < 6)) ∨ (vv__ = some (.int (0 : Int32)) ∧ ww__ = [] ∧ (¬ (0 ≤ x.toInt ∧ x.toInt < 6)))) := by
  refine Mg_of (cc := cX11_isShelf) (maxL := 1) (ret := (some .boolean)) (ls0 := [(0, .int x)]) RX11 (by decide) rfl rfl rfl (Nat.le_of_ble_eq_true rfl) (fun p__ e__ s__ m__ b__ t__ c__ X hr hn => ?_)
  refine V_iload_n X 0 rfl dX11_isShelf_0 ?_
  refine V_iconst (v := (0 : Int32)) X (by decide) dX11_isShelf_1 ?_
  refine V_iconst (v := (5 : Int32)) X (by decide) dX11_isShelf_2 ?_
  refine V_callS (wr := []) (st := []) X (c_X11_in l D Y x (0 : Int32) (5 : Int32)) 3 gX11_isShelf_X11_in rfl (by decide +kernel) ⟨rfl, rfl⟩ ⟨Nat.le_of_ble_eq_true rfl, Nat.le_of_ble_eq_true rfl⟩ [] [] rfl rfl rfl rfl (by decide) rfl rfl (Nat.le_of_ble_eq_true rfl) ⟨Nat.le_of_ble_eq_true rfl, Nat.le_of_ble_eq_true rfl⟩ dX11_isShelf_3 (fun v_3 w_3 h_3 => ?_)
  rcases h_3 with ⟨rfl, rfl, hhy_2⟩ | ⟨rfl, rfl, hhn_3⟩
  · refine V_to (pc' := 6) (ls' := [(0, .int x)]) (st' := [.int (1 : Int32)]) (ws' := []) ?_ rfl rfl rfl rfl
    have hc_0 : (0 : Int32).toInt = 0 := by decide
    have hc_5 : (5 : Int32).toInt = 5 := by decide
    exact V_zret X hr rfl dX11_isShelf_6 (Or.inl ⟨rfl, rfl, (by omega)⟩)
  · refine V_to (pc' := 6) (ls' := [(0, .int x)]) (st' := [.int (0 : Int32)]) (ws' := []) ?_ rfl rfl rfl rfl
    have hc_0 : (0 : Int32).toInt = 0 := by decide
    have hc_5 : (5 : Int32).toInt = 5 := by decide
    exact V_zret X hr rfl dX11_isShelf_6 (Or.inr (⟨rfl, rfl, (by omega)⟩))

theorem in_X11_isLine_X11 : ∀ w ∈ wsX110, w ∈ wsX11_isLine := fun w h => List.mem_cons_of_mem _ (List.mem_append_right _ h)
set_option maxHeartbeats 4000000 in
set_option maxRecDepth 100000 in
theorem c_X11_isLine (l : Launch) (D : va_G) (Y : Nat → ClassId) (m : Nat) (R : Nat → Nat) (v0 : Int32) (v7 : Int32) (v8 : Int32) (v9 : Int32) (v15 : Int32) (v16 : Int32) (v17 : Int32) (v18 : Int32) (v19 : Int32) (v27 : Int32) (v31 : Int32) (v32 : Int32) (v33 : Int32) (v34 : Int32) (v38 : Int32) (v42 : Int32) (v44 : Int32) (a1 : Nat → Int32) (n : Nat → Nat) (s0 : Nat) (y : Int32) (ln : Nat) (hLN : LNR a1 n) (hs0 : s0 < 3) (hsl : 0 ≤ y.toInt → y.toInt / 100 < 3 → y.toInt / 100 = ((s0 : Nat) : Int)) (hln : 0 ≤ y.toInt → y.toInt % 100 = ((ln : Nat) : Int)) : Mg l yX11_isLine wsX11_isLine ({ frames := 2, cells := 0, slots := 0, locals := 42 }) D Y [(m, .inr (10, mF R v0 v7 v8 v9 v15 v16 v17 v18 v19 v27 v31 v32 v33 v34 v38 v42 v44)), ((R 1), .inl (Y 0, 3, .inl a1))] [.ref m, .int y] 0 0 (fun vv__ ww__ => (vv__ = some (.int (1 : Int32)) ∧ ww__ = [(m, .inr (10, mF R v0 v7 v8 v9 v15 v16 v17 v18 v19 v27 v31 v32 v33 v34 v38 v42 v44)), ((R 1), .inl (Y 0, 3, .inl a1))] ∧ (0 ≤ y.toInt ∧ y.toInt / 100 = ((s0 : Nat) : Int) ∧ ln < n s0)) ∨ (vv__ = some (.int (0 : Int32)) ∧ ww__ = [(m, .inr (10, mF R v0 v7 v8 v9 v15 v16 v17 v18 v19 v27 v31 v32 v33 v34 v38 v42 v44)), ((R 1), .inl (Y 0, 3, .inl a1))] ∧ (¬ (0 ≤ y.toInt ∧ y.toInt / 100 < 3 ∧ ln < n s0)))) := by
  refine Mg_of (cc := cX11_isLine) (maxL := 2) (ret := (some .boolean)) (ls0 := [(0, .ref m), (1, .int y)]) RX11 (by decide) rfl rfl rfl (Nat.le_of_ble_eq_true rfl) (fun p__ e__ s__ m__ b__ t__ c__ X hr hn => ?_)
  have hln0 : (a1 s0).toInt = ((n s0 : Nat) : Int) ∧ n s0 ≤ 12 := hLN s0 hs0
  refine V_iload_n X 1 rfl dX11_isLine_0 ?_
  refine V_if_lt X rfl 34 dX11_isLine_1 (by decide) (fun c_1 => ?_) (fun c_1 => ?_)
  · refine V_iconst (v := (0 : Int32)) X (by decide) dX11_isLine_34 ?_
    exact V_zret X hr rfl dX11_isLine_35 (Or.inr (⟨rfl, rfl, (by omega)⟩))
  · refine V_iload_n X 1 rfl dX11_isLine_4 ?_
    refine V_bipush (v := (100 : Int32)) X (by decide) dX11_isLine_5 ?_
    refine V_idivZ X rfl (show (100 : Int32).toInt = 100 from by decide) (by omega) (by omega) dX11_isLine_7 (fun x_1 ex_1 tx_1 => ?_)
    refine V_callS (wr := [(m, .inr (10, mF R v0 v7 v8 v9 v15 v16 v17 v18 v19 v27 v31 v32 v33 v34 v38 v42 v44)), ((R 1), .inl (Y 0, 3, .inl a1))]) (st := []) X (c_X11_isSong l D Y x_1) 1 gX11_isLine_X11_isSong rfl (by decide +kernel) ⟨rfl, rfl⟩ ⟨Nat.le_of_ble_eq_true rfl, Nat.le_of_ble_eq_true rfl⟩ [] [0, 1] rfl rfl rfl rfl (by decide) rfl rfl (Nat.le_of_ble_eq_true rfl) ⟨Nat.le_of_ble_eq_true rfl, Nat.le_of_ble_eq_true rfl⟩ dX11_isLine_8 (fun v_8 w_8 h_8 => ?_)
    rcases h_8 with ⟨rfl, rfl, hhy_3⟩ | ⟨rfl, rfl, hhn_4⟩
    · refine V_to (pc' := 11) (ls' := [(0, .ref m), (1, .int y)]) (st' := [.int (1 : Int32)]) (ws' := [(m, .inr (10, mF R v0 v7 v8 v9 v15 v16 v17 v18 v19 v27 v31 v32 v33 v34 v38 v42 v44)), ((R 1), .inl (Y 0, 3, .inl a1))]) ?_ rfl rfl rfl rfl
      refine V_if_eq X (show (1 : Int32).toInt = 1 from by decide) 34 dX11_isLine_11 (by decide) (fun c_11 => absurd c_11 (by decide)) (fun _ => ?_)
      refine V_iload_n X 1 rfl dX11_isLine_14 ?_
      refine V_bipush (v := (100 : Int32)) X (by decide) dX11_isLine_15 ?_
      refine V_iremZ X rfl (show (100 : Int32).toInt = 100 from by decide) (by omega) (by omega) dX11_isLine_17 (fun x_5 ex_5 tx_5 => ?_)
      refine V_aload_n X 0 rfl dX11_isLine_18 ?_
      refine V_get (C := RX11) (T := TX11) (N := 50) (ci := 10) (v := .ref (R 1)) X in_X11_isLine_X11 0 rfl rfl 1 (by decide) (List.mem_of_getElem? (i := 1) rfl) rfl rfl dX11_isLine_19 ?_
      refine V_iload_n X 1 rfl dX11_isLine_22 ?_
      refine V_bipush (v := (100 : Int32)) X (by decide) dX11_isLine_23 ?_
      refine V_idivZ X rfl (show (100 : Int32).toInt = 100 from by decide) (by omega) (by omega) dX11_isLine_25 (fun x_6 ex_6 tx_6 => ?_)
      refine V_iald X 1 s0 rfl (by omega) (by omega) dX11_isLine_26 ?_
      refine V_icmp_ge X rfl rfl 34 dX11_isLine_27 (by decide) (fun c_27 => ?_) (fun c_27 => ?_)
      · refine V_iconst (v := (0 : Int32)) X (by decide) dX11_isLine_34 ?_
        exact V_zret X hr rfl dX11_isLine_35 (Or.inr (⟨rfl, rfl, (by omega)⟩))
      · refine V_iconst (v := (1 : Int32)) X (by decide) dX11_isLine_30 ?_
        refine V_goto X 35 (by decide) dX11_isLine_31 ?_
        exact V_zret X hr rfl dX11_isLine_35 (Or.inl ⟨rfl, rfl, (by omega)⟩)
    · refine V_to (pc' := 11) (ls' := [(0, .ref m), (1, .int y)]) (st' := [.int (0 : Int32)]) (ws' := [(m, .inr (10, mF R v0 v7 v8 v9 v15 v16 v17 v18 v19 v27 v31 v32 v33 v34 v38 v42 v44)), ((R 1), .inl (Y 0, 3, .inl a1))]) ?_ rfl rfl rfl rfl
      refine V_if_eq X (show (0 : Int32).toInt = 0 from by decide) 34 dX11_isLine_11 (by decide) (fun _ => ?_) (fun c_11 => absurd c_11 (by decide))
      refine V_iconst (v := (0 : Int32)) X (by decide) dX11_isLine_34 ?_
      exact V_zret X hr rfl dX11_isLine_35 (Or.inr (⟨rfl, rfl, (by omega)⟩))

set_option maxHeartbeats 4000000 in
set_option maxRecDepth 100000 in
theorem c_X11_spotAt (l : Launch) (D : va_G) (Y : Nat → ClassId) (s0 : Nat) (y : Int32) (ln : Nat) (h0 : 0 ≤ y.toInt) (hs3 : y.toInt / 100 = ((s0 : Nat) : Int)) (hs0 : s0 < 3) (hln : 0 ≤ y.toInt → y.toInt % 100 = ((ln : Nat) : Int)) : Mg l yX11_spotAt wsX11_spotAt ({ frames := 0, cells := 0, slots := 0, locals := 0 }) D Y [] [.int y] 0 0 (fun vv__ ww__ => (∃ (r : Int32), vv__ = some (.int r) ∧ ww__ = [] ∧ (r.toInt = ((12 * s0 + ln : Nat) : Int)))) := by
  refine Mg_of (cc := cX11_spotAt) (maxL := 1) (ret := (some .int)) (ls0 := [(0, .int y)]) RX11 (by decide) rfl rfl rfl (Nat.le_of_ble_eq_true rfl) (fun p__ e__ s__ m__ b__ t__ c__ X hr hn => ?_)
  refine V_bipush (v := (12 : Int32)) X (by decide) dX11_spotAt_0 ?_
  refine V_iload_n X 0 rfl dX11_spotAt_2 ?_
  refine V_bipush (v := (100 : Int32)) X (by decide) dX11_spotAt_3 ?_
  refine V_idivZ X rfl (show (100 : Int32).toInt = 100 from by decide) (by omega) (by omega) dX11_spotAt_5 (fun x_1 ex_1 tx_1 => ?_)
  refine V_imulZ X (show (12 : Int32).toInt = 12 from by decide) rfl (by omega) (by omega) dX11_spotAt_6 (fun x_2 ex_2 tx_2 => ?_)
  refine V_iload_n X 0 rfl dX11_spotAt_7 ?_
  refine V_bipush (v := (100 : Int32)) X (by decide) dX11_spotAt_8 ?_
  refine V_iremZ X rfl (show (100 : Int32).toInt = 100 from by decide) (by omega) (by omega) dX11_spotAt_10 (fun x_3 ex_3 tx_3 => ?_)
  refine V_iaddZ X rfl rfl (by omega) (by omega) dX11_spotAt_11 (fun x_4 ex_4 tx_4 => ?_)
  exact V_iret X hr dX11_spotAt_12 (⟨x_4, rfl, rfl, (by have h9 : x_4.toInt = x_4.toInt := rfl; omega)⟩)

theorem in_X11_addLine_X11 : ∀ w ∈ wsX110, w ∈ wsX11_addLine := fun w h => List.mem_cons_of_mem _ (List.mem_append_right _ h)
set_option maxHeartbeats 4000000 in
set_option maxRecDepth 100000 in
theorem c_X11_addLine (l : Launch) (D : va_G) (Y : Nat → ClassId) (m : Nat) (R : Nat → Nat) (v0 : Int32) (v7 : Int32) (v8 : Int32) (v9 : Int32) (v15 : Int32) (v16 : Int32) (v17 : Int32) (v18 : Int32) (v19 : Int32) (v27 : Int32) (v31 : Int32) (v32 : Int32) (v33 : Int32) (v34 : Int32) (v38 : Int32) (v42 : Int32) (v44 : Int32) (a1 : Nat → Int32) (a2 : Nat → Int32) (a3 : Nat → Int32) (a4 : Nat → Int32) (n : Nat → Nat) (s0 : Nat) (x : Int32) (t1 : Int32) (t2 : Int32) (t3 : Int32) (hLN : LNR a1 n) (hs0 : s0 < 3) (tx : x.toInt = ((s0 : Nat) : Int)) (hlt : n s0 < 12) : Mg l yX11_addLine wsX11_addLine ({ frames := 0, cells := 0, slots := 0, locals := 0 }) D Y [(m, .inr (10, mF R v0 v7 v8 v9 v15 v16 v17 v18 v19 v27 v31 v32 v33 v34 v38 v42 v44)), ((R 1), .inl (Y 0, 3, .inl a1)), ((R 2), .inl (Y 0, 36, .inl a2)), ((R 3), .inl (Y 0, 36, .inl a3)), ((R 4), .inl (Y 0, 36, .inl a4))] [.ref m, .int x, .int t1, .int t2, .int t3] 0 0 (fun vv__ ww__ => (∃ (r : Int32), ∃ (z2 : Int32), vv__ = some (.int r) ∧ ww__ = [(m, .inr (10, mF R v0 v7 v8 v9 v15 v16 v17 v18 v19 v27 v31 v32 v33 v34 v38 v42 v44)), ((R 1), .inl (Y 0, 3, .inl (upd a1 s0 z2))), ((R 2), .inl (Y 0, 36, .inl (upd a2 (12 * s0 + n s0) t1))), ((R 3), .inl (Y 0, 36, .inl (upd a3 (12 * s0 + n s0) t2))), ((R 4), .inl (Y 0, 36, .inl (upd a4 (12 * s0 + n s0) t3)))] ∧ (r.toInt = ((n s0 : Nat) : Int)) ∧ (z2.toInt = ((n s0 + 1 : Nat) : Int)))) := by
  refine Mg_of (cc := cX11_addLine) (maxL := 6) (ret := (some .int)) (ls0 := [(0, .ref m), (1, .int x), (2, .int t1), (3, .int t2), (4, .int t3)]) RX11 (by decide) rfl rfl rfl (Nat.le_of_ble_eq_true rfl) (fun p__ e__ s__ m__ b__ t__ c__ X hr hn => ?_)
  have hln0 : (a1 s0).toInt = ((n s0 : Nat) : Int) ∧ n s0 ≤ 12 := hLN s0 hs0
  refine V_bipush (v := (12 : Int32)) X (by decide) dX11_addLine_0 ?_
  refine V_iload_n X 1 rfl dX11_addLine_2 ?_
  refine V_imulZ X (show (12 : Int32).toInt = 12 from by decide) tx (by omega) (by omega) dX11_addLine_3 (fun x_1 ex_1 tx_1 => ?_)
  have tx_1 : x_1.toInt = (((12 * s0) : Nat) : Int) := by omega
  refine V_aload_n X 0 rfl dX11_addLine_4 ?_
  refine V_get (C := RX11) (T := TX11) (N := 50) (ci := 10) (v := .ref (R 1)) X in_X11_addLine_X11 0 rfl rfl 1 (by decide) (List.mem_of_getElem? (i := 1) rfl) rfl rfl dX11_addLine_5 ?_
  refine V_iload_n X 1 rfl dX11_addLine_8 ?_
  refine V_iald X 1 s0 rfl tx (by omega) dX11_addLine_9 ?_
  refine V_nm (fun x_2 ex_2 => ?_)
  have tx_2 : x_2.toInt = ((n s0 : Nat) : Int) := by rw [ex_2]; exact hln0.1
  refine V_iaddZ X tx_1 tx_2 (by omega) (by omega) dX11_addLine_10 (fun x_3 ex_3 tx_3 => ?_)
  have tx_3 : x_3.toInt = ((((12 * s0) + n s0) : Nat) : Int) := by omega
  refine V_istore (ls' := [(5, .int x_3), (0, .ref m), (1, .int x), (2, .int t1), (3, .int t2), (4, .int t3)]) X (by decide) rfl dX11_addLine_11 ?_
  refine V_aload_n X 1 rfl dX11_addLine_13 ?_
  refine V_get (C := RX11) (T := TX11) (N := 50) (ci := 10) (v := .ref (R 2)) X in_X11_addLine_X11 0 rfl rfl 2 (by decide) (List.mem_of_getElem? (i := 2) rfl) rfl rfl dX11_addLine_14 ?_
  refine V_iload X 0 rfl dX11_addLine_17 ?_
  refine V_iload_n X 3 rfl dX11_addLine_19 ?_
  refine V_iast (ws' := [(m, .inr (10, mF R v0 v7 v8 v9 v15 v16 v17 v18 v19 v27 v31 v32 v33 v34 v38 v42 v44)), ((R 1), .inl (Y 0, 3, .inl a1)), ((R 2), .inl (Y 0, 36, .inl (upd a2 ((12 * s0) + n s0) t1))), ((R 3), .inl (Y 0, 36, .inl a3)), ((R 4), .inl (Y 0, 36, .inl a4))]) X 2 ((12 * s0) + n s0) rfl tx_3 (by omega) rfl dX11_addLine_20 ?_
  refine V_aload_n X 1 rfl dX11_addLine_21 ?_
  refine V_get (C := RX11) (T := TX11) (N := 50) (ci := 10) (v := .ref (R 3)) X in_X11_addLine_X11 0 rfl rfl 3 (by decide) (List.mem_of_getElem? (i := 3) rfl) rfl rfl dX11_addLine_22 ?_
  refine V_iload X 0 rfl dX11_addLine_25 ?_
  refine V_iload_n X 4 rfl dX11_addLine_27 ?_
  refine V_iast (ws' := [(m, .inr (10, mF R v0 v7 v8 v9 v15 v16 v17 v18 v19 v27 v31 v32 v33 v34 v38 v42 v44)), ((R 1), .inl (Y 0, 3, .inl a1)), ((R 2), .inl (Y 0, 36, .inl (upd a2 ((12 * s0) + n s0) t1))), ((R 3), .inl (Y 0, 36, .inl (upd a3 ((12 * s0) + n s0) t2))), ((R 4), .inl (Y 0, 36, .inl a4))]) X 3 ((12 * s0) + n s0) rfl tx_3 (by omega) rfl dX11_addLine_28 ?_
  refine V_aload_n X 1 rfl dX11_addLine_29 ?_
  refine V_get (C := RX11) (T := TX11) (N := 50) (ci := 10) (v := .ref (R 4)) X in_X11_addLine_X11 0 rfl rfl 4 (by decide) (List.mem_of_getElem? (i := 4) rfl) rfl rfl dX11_addLine_30 ?_
  refine V_iload X 0 rfl dX11_addLine_33 ?_
  refine V_iload X 5 rfl dX11_addLine_35 ?_
  refine V_iast (ws' := [(m, .inr (10, mF R v0 v7 v8 v9 v15 v16 v17 v18 v19 v27 v31 v32 v33 v34 v38 v42 v44)), ((R 1), .inl (Y 0, 3, .inl a1)), ((R 2), .inl (Y 0, 36, .inl (upd a2 ((12 * s0) + n s0) t1))), ((R 3), .inl (Y 0, 36, .inl (upd a3 ((12 * s0) + n s0) t2))), ((R 4), .inl (Y 0, 36, .inl (upd a4 ((12 * s0) + n s0) t3)))]) X 4 ((12 * s0) + n s0) rfl tx_3 (by omega) rfl dX11_addLine_37 ?_
  refine V_aload_n X 1 rfl dX11_addLine_38 ?_
  refine V_get (C := RX11) (T := TX11) (N := 50) (ci := 10) (v := .ref (R 1)) X in_X11_addLine_X11 0 rfl rfl 1 (by decide) (List.mem_of_getElem? (i := 1) rfl) rfl rfl dX11_addLine_39 ?_
  refine V_iload_n X 2 rfl dX11_addLine_42 ?_
  refine V_dup2 X rfl rfl dX11_addLine_43 ?_
  refine V_iald X 1 s0 rfl tx (by omega) dX11_addLine_44 ?_
  refine V_nm (fun x_4 ex_4 => ?_)
  have tx_4 : x_4.toInt = ((n s0 : Nat) : Int) := by rw [ex_4]; exact hln0.1
  refine V_iconst (v := (1 : Int32)) X (by decide) dX11_addLine_45 ?_
  refine V_iaddZ X tx_4 (show (1 : Int32).toInt = 1 from by decide) (by omega) (by omega) dX11_addLine_46 (fun x_5 ex_5 tx_5 => ?_)
  have tx_5 : x_5.toInt = (((n s0 + 1) : Nat) : Int) := by omega
  refine V_iast (ws' := [(m, .inr (10, mF R v0 v7 v8 v9 v15 v16 v17 v18 v19 v27 v31 v32 v33 v34 v38 v42 v44)), ((R 1), .inl (Y 0, 3, .inl (upd a1 s0 x_5))), ((R 2), .inl (Y 0, 36, .inl (upd a2 ((12 * s0) + n s0) t1))), ((R 3), .inl (Y 0, 36, .inl (upd a3 ((12 * s0) + n s0) t2))), ((R 4), .inl (Y 0, 36, .inl (upd a4 ((12 * s0) + n s0) t3)))]) X 1 s0 rfl tx (by omega) rfl dX11_addLine_47 ?_
  refine V_aload_n X 1 rfl dX11_addLine_48 ?_
  refine V_get (C := RX11) (T := TX11) (N := 50) (ci := 10) (v := .ref (R 1)) X in_X11_addLine_X11 0 rfl rfl 1 (by decide) (List.mem_of_getElem? (i := 1) rfl) rfl rfl dX11_addLine_49 ?_
  refine V_iload_n X 2 rfl dX11_addLine_52 ?_
  refine V_iald X 1 s0 rfl tx (by omega) dX11_addLine_53 ?_
  refine V_nm (fun x_6 ex_6 => ?_)
  have tx_6 : x_6.toInt = ((n s0 + 1 : Nat) : Int) := by rw [ex_6]; exact (by show (upd _ s0 _ s0).toInt = _; unfold upd; rw [if_pos rfl]; omega)
  refine V_iconst (v := (1 : Int32)) X (by decide) dX11_addLine_54 ?_
  refine V_isubZ X tx_6 (show (1 : Int32).toInt = 1 from by decide) (by omega) (by omega) dX11_addLine_55 (fun x_7 ex_7 tx_7 => ?_)
  have tx_7 : x_7.toInt = ((n s0 : Nat) : Int) := by omega
  exact V_iret X hr dX11_addLine_56 (⟨x_7, x_5, rfl, rfl, (by have h9 : x_7.toInt = ((n s0 : Nat) : Int) := tx_7; omega), (by omega)⟩)

theorem in_X11_line_X11 : ∀ w ∈ wsX110, w ∈ wsX11_line := fun w h => List.mem_cons_of_mem _ (List.mem_append_right _ h)
set_option maxHeartbeats 4000000 in
set_option maxRecDepth 100000 in
theorem c_X11_line (l : Launch) (D : va_G) (Y : Nat → ClassId) (m : Nat) (R : Nat → Nat) (v0 : Int32) (v7 : Int32) (v8 : Int32) (v9 : Int32) (v15 : Int32) (v16 : Int32) (v17 : Int32) (v18 : Int32) (v19 : Int32) (v27 : Int32) (v31 : Int32) (v32 : Int32) (v33 : Int32) (v34 : Int32) (v38 : Int32) (v42 : Int32) (v44 : Int32) (a1 : Nat → Int32) (a2 : Nat → Int32) (a3 : Nat → Int32) (a4 : Nat → Int32) (n : Nat → Nat) (s0 : Nat) (i : Int32) (t : Int32) (hLN : LNR a1 n) (hs0 : s0 < 3) (hso : 0 ≤ i.toInt → i.toInt < 3 → i.toInt = ((s0 : Nat) : Int)) : Mg l yX11_line wsX11_line ({ frames := 2, cells := 0, slots := 0, locals := 42 }) D Y [(m, .inr (10, mF R v0 v7 v8 v9 v15 v16 v17 v18 v19 v27 v31 v32 v33 v34 v38 v42 v44)), ((R 1), .inl (Y 0, 3, .inl a1)), ((R 2), .inl (Y 0, 36, .inl a2)), ((R 3), .inl (Y 0, 36, .inl a3)), ((R 4), .inl (Y 0, 36, .inl a4))] [.ref m, .int i, .int t] 0 0 (fun vv__ ww__ => (vv__ = some (.int (-1 : Int32)) ∧ ww__ = [(m, .inr (10, mF R v0 v7 v8 v9 v15 v16 v17 v18 v19 v27 v31 v32 v33 v34 v38 v42 v44)), ((R 1), .inl (Y 0, 3, .inl a1)), ((R 2), .inl (Y 0, 36, .inl a2)), ((R 3), .inl (Y 0, 36, .inl a3)), ((R 4), .inl (Y 0, 36, .inl a4))] ∧ (¬ (0 ≤ i.toInt ∧ i.toInt < 3 ∧ 0 ≤ t.toInt ∧ t.toInt / 100 < 8 ∧ t.toInt / 10 % 10 < 8 ∧ t.toInt % 10 < 8))) ∨ (vv__ = some (.int (-3 : Int32)) ∧ ww__ = [(m, .inr (10, mF R v0 v7 v8 v9 v15 v16 v17 v18 v19 v27 v31 v32 v33 v34 v38 v42 v44)), ((R 1), .inl (Y 0, 3, .inl a1)), ((R 2), .inl (Y 0, 36, .inl a2)), ((R 3), .inl (Y 0, 36, .inl a3)), ((R 4), .inl (Y 0, 36, .inl a4))] ∧ (0 ≤ i.toInt ∧ i.toInt = ((s0 : Nat) : Int) ∧ 0 ≤ t.toInt ∧ t.toInt / 100 < 8 ∧ t.toInt / 10 % 10 < 8 ∧ t.toInt % 10 < 8) ∧ (n s0 = 12)) ∨ (∃ (r : Int32), ∃ (z2 : Int32), ∃ (t1 : Int32), ∃ (t2 : Int32), ∃ (t3 : Int32), vv__ = some (.int r) ∧ ww__ = [(m, .inr (10, mF R v0 v7 v8 v9 v15 v16 v17 v18 v19 v27 v31 v32 v33 v34 v38 v42 v44)), ((R 1), .inl (Y 0, 3, .inl (upd a1 s0 z2))), ((R 2), .inl (Y 0, 36, .inl (upd a2 (12 * s0 + n s0) t1))), ((R 3), .inl (Y 0, 36, .inl (upd a3 (12 * s0 + n s0) t2))), ((R 4), .inl (Y 0, 36, .inl (upd a4 (12 * s0 + n s0) t3)))] ∧ (0 ≤ i.toInt ∧ i.toInt = ((s0 : Nat) : Int) ∧ 0 ≤ t.toInt ∧ t.toInt / 100 < 8 ∧ t.toInt / 10 % 10 < 8 ∧ t.toInt % 10 < 8) ∧ (n s0 < 12) ∧ (r.toInt = ((n s0 : Nat) : Int)) ∧ (z2.toInt = ((n s0 + 1 : Nat) : Int)) ∧ (t1.toInt = t.toInt / 100) ∧ (t2.toInt = t.toInt / 10 % 10) ∧ (t3.toInt = t.toInt % 10))) := by
  refine Mg_of (cc := cX11_line) (maxL := 3) (ret := (some .int)) (ls0 := [(0, .ref m), (1, .int i), (2, .int t)]) RX11 (by decide) rfl rfl rfl (Nat.le_of_ble_eq_true rfl) (fun p__ e__ s__ m__ b__ t__ c__ X hr hn => ?_)
  have hln0 : (a1 s0).toInt = ((n s0 : Nat) : Int) ∧ n s0 ≤ 12 := hLN s0 hs0
  refine V_iload_n X 1 rfl dX11_line_0 ?_
  refine V_callS (wr := [(m, .inr (10, mF R v0 v7 v8 v9 v15 v16 v17 v18 v19 v27 v31 v32 v33 v34 v38 v42 v44)), ((R 1), .inl (Y 0, 3, .inl a1)), ((R 2), .inl (Y 0, 36, .inl a2)), ((R 3), .inl (Y 0, 36, .inl a3)), ((R 4), .inl (Y 0, 36, .inl a4))]) (st := []) X (c_X11_isSong l D Y i) 1 gX11_line_X11_isSong rfl (by decide +kernel) ⟨rfl, rfl⟩ ⟨Nat.le_of_ble_eq_true rfl, Nat.le_of_ble_eq_true rfl⟩ [] [0, 1, 2, 3, 4] rfl rfl rfl rfl (by decide) rfl rfl (Nat.le_of_ble_eq_true rfl) ⟨Nat.le_of_ble_eq_true rfl, Nat.le_of_ble_eq_true rfl⟩ dX11_line_1 (fun v_1 w_1 h_1 => ?_)
  rcases h_1 with ⟨rfl, rfl, hhy_2⟩ | ⟨rfl, rfl, hhn_3⟩
  · refine V_to (pc' := 4) (ls' := [(0, .ref m), (1, .int i), (2, .int t)]) (st' := [.int (1 : Int32)]) (ws' := [(m, .inr (10, mF R v0 v7 v8 v9 v15 v16 v17 v18 v19 v27 v31 v32 v33 v34 v38 v42 v44)), ((R 1), .inl (Y 0, 3, .inl a1)), ((R 2), .inl (Y 0, 36, .inl a2)), ((R 3), .inl (Y 0, 36, .inl a3)), ((R 4), .inl (Y 0, 36, .inl a4))]) ?_ rfl rfl rfl rfl
    refine V_if_eq X (show (1 : Int32).toInt = 1 from by decide) 41 dX11_line_4 (by decide) (fun c_4 => absurd c_4 (by decide)) (fun _ => ?_)
    refine V_iload_n X 2 rfl dX11_line_7 ?_
    refine V_if_lt X rfl 41 dX11_line_8 (by decide) (fun c_8 => ?_) (fun c_8 => ?_)
    · refine V_iconst (v := (-1 : Int32)) X (by decide) dX11_line_41 ?_
      exact V_iret X hr dX11_line_42 (Or.inl ⟨rfl, rfl, (by omega)⟩)
    · refine V_iload_n X 2 rfl dX11_line_11 ?_
      refine V_bipush (v := (100 : Int32)) X (by decide) dX11_line_12 ?_
      refine V_idivZ X rfl (show (100 : Int32).toInt = 100 from by decide) (by omega) (by omega) dX11_line_14 (fun x_4 ex_4 tx_4 => ?_)
      refine V_bipush (v := (7 : Int32)) X (by decide) dX11_line_15 ?_
      refine V_icmp_gt X rfl (show (7 : Int32).toInt = 7 from by decide) 41 dX11_line_17 (by decide) (fun c_17 => ?_) (fun c_17 => ?_)
      · refine V_iconst (v := (-1 : Int32)) X (by decide) dX11_line_41 ?_
        exact V_iret X hr dX11_line_42 (Or.inl ⟨rfl, rfl, (by omega)⟩)
      · refine V_iload_n X 2 rfl dX11_line_20 ?_
        refine V_bipush (v := (10 : Int32)) X (by decide) dX11_line_21 ?_
        refine V_idivZ X rfl (show (10 : Int32).toInt = 10 from by decide) (by omega) (by omega) dX11_line_23 (fun x_5 ex_5 tx_5 => ?_)
        refine V_bipush (v := (10 : Int32)) X (by decide) dX11_line_24 ?_
        refine V_iremZ X rfl (show (10 : Int32).toInt = 10 from by decide) (by omega) (by omega) dX11_line_26 (fun x_6 ex_6 tx_6 => ?_)
        refine V_bipush (v := (7 : Int32)) X (by decide) dX11_line_27 ?_
        refine V_icmp_gt X rfl (show (7 : Int32).toInt = 7 from by decide) 41 dX11_line_29 (by decide) (fun c_29 => ?_) (fun c_29 => ?_)
        · refine V_iconst (v := (-1 : Int32)) X (by decide) dX11_line_41 ?_
          exact V_iret X hr dX11_line_42 (Or.inl ⟨rfl, rfl, (by omega)⟩)
        · refine V_iload_n X 2 rfl dX11_line_32 ?_
          refine V_bipush (v := (10 : Int32)) X (by decide) dX11_line_33 ?_
          refine V_iremZ X rfl (show (10 : Int32).toInt = 10 from by decide) (by omega) (by omega) dX11_line_35 (fun x_7 ex_7 tx_7 => ?_)
          refine V_bipush (v := (7 : Int32)) X (by decide) dX11_line_36 ?_
          refine V_icmp_le X rfl (show (7 : Int32).toInt = 7 from by decide) 43 dX11_line_38 (by decide) (fun c_38 => ?_) (fun c_38 => ?_)
          · refine V_aload_n X 0 rfl dX11_line_43 ?_
            refine V_get (C := RX11) (T := TX11) (N := 50) (ci := 10) (v := .ref (R 1)) X in_X11_line_X11 0 rfl rfl 1 (by decide) (List.mem_of_getElem? (i := 1) rfl) rfl rfl dX11_line_44 ?_
            refine V_iload_n X 1 rfl dX11_line_47 ?_
            refine V_iald X 1 s0 rfl (by omega) (by omega) dX11_line_48 ?_
            refine V_nm (fun x_8 ex_8 => ?_)
            have tx_8 : x_8.toInt = ((n s0 : Nat) : Int) := by rw [ex_8]; exact hln0.1
            refine V_bipush (v := (12 : Int32)) X (by decide) dX11_line_49 ?_
            refine V_icmp_ne X tx_8 (show (12 : Int32).toInt = 12 from by decide) 59 dX11_line_51 (by decide) (fun c_51 => ?_) (fun c_51 => ?_)
            · refine V_aload_n X 0 rfl dX11_line_59 ?_
              refine V_iload_n X 1 rfl dX11_line_60 ?_
              refine V_iload_n X 2 rfl dX11_line_61 ?_
              refine V_bipush (v := (100 : Int32)) X (by decide) dX11_line_62 ?_
              refine V_idivZ X rfl (show (100 : Int32).toInt = 100 from by decide) (by omega) (by omega) dX11_line_64 (fun x_9 ex_9 tx_9 => ?_)
              refine V_iload_n X 2 rfl dX11_line_65 ?_
              refine V_bipush (v := (10 : Int32)) X (by decide) dX11_line_66 ?_
              refine V_idivZ X rfl (show (10 : Int32).toInt = 10 from by decide) (by omega) (by omega) dX11_line_68 (fun x_10 ex_10 tx_10 => ?_)
              refine V_bipush (v := (10 : Int32)) X (by decide) dX11_line_69 ?_
              refine V_iremZ X rfl (show (10 : Int32).toInt = 10 from by decide) (by omega) (by omega) dX11_line_71 (fun x_11 ex_11 tx_11 => ?_)
              refine V_iload_n X 2 rfl dX11_line_72 ?_
              refine V_bipush (v := (10 : Int32)) X (by decide) dX11_line_73 ?_
              refine V_iremZ X rfl (show (10 : Int32).toInt = 10 from by decide) (by omega) (by omega) dX11_line_75 (fun x_12 ex_12 tx_12 => ?_)
              refine V_callV (C := RX11) (wr := []) (st := []) X (c_X11_addLine l D Y m R v0 v7 v8 v9 v15 v16 v17 v18 v19 v27 v31 v32 v33 v34 v38 v42 v44 a1 a2 a3 a4 n s0 i x_9 x_11 x_12 hLN hs0 (by omega) (by omega)) 4 gX11_line_X11_addLine rfl (by decide +kernel) ⟨rfl, rfl⟩ ⟨Nat.le_of_ble_eq_true rfl, Nat.le_of_ble_eq_true rfl⟩ [0, 1, 2, 3, 4] [] rfl rfl rfl rfl (by decide) (ci := 10) rfl rfl 0 rfl rfl rfl (Nat.le_of_ble_eq_true rfl) ⟨Nat.le_of_ble_eq_true rfl, Nat.le_of_ble_eq_true rfl⟩ dX11_line_76 (fun v_76 w_76 h_76 => ?_)
              obtain ⟨r_14, z_q, rfl, rfl, htr_16, htz2_17⟩ := h_76
              refine V_to (pc' := 79) (ls' := [(0, .ref m), (1, .int i), (2, .int t)]) (st' := [.int r_14]) (ws' := [(m, .inr (10, mF R v0 v7 v8 v9 v15 v16 v17 v18 v19 v27 v31 v32 v33 v34 v38 v42 v44)), ((R 1), .inl (Y 0, 3, .inl (upd a1 s0 z_q))), ((R 2), .inl (Y 0, 36, .inl (upd a2 (12 * s0 + n s0) x_9))), ((R 3), .inl (Y 0, 36, .inl (upd a3 (12 * s0 + n s0) x_11))), ((R 4), .inl (Y 0, 36, .inl (upd a4 (12 * s0 + n s0) x_12)))]) ?_ rfl rfl rfl rfl
              exact V_iret X hr dX11_line_79 (Or.inr (Or.inr (⟨r_14, z_q, x_9, x_11, x_12, rfl, rfl, (by omega), (by omega), htr_16, htz2_17, (by omega), (by omega), (by omega)⟩)))
            · refine V_bipush (v := (-3 : Int32)) X (by decide) dX11_line_54 ?_
              refine V_goto X 79 (by decide) dX11_line_56 ?_
              exact V_iret X hr dX11_line_79 (Or.inr (Or.inl ⟨rfl, rfl, (by omega), (by omega)⟩))
          · refine V_iconst (v := (-1 : Int32)) X (by decide) dX11_line_41 ?_
            exact V_iret X hr dX11_line_42 (Or.inl ⟨rfl, rfl, (by omega)⟩)
  · refine V_to (pc' := 4) (ls' := [(0, .ref m), (1, .int i), (2, .int t)]) (st' := [.int (0 : Int32)]) (ws' := [(m, .inr (10, mF R v0 v7 v8 v9 v15 v16 v17 v18 v19 v27 v31 v32 v33 v34 v38 v42 v44)), ((R 1), .inl (Y 0, 3, .inl a1)), ((R 2), .inl (Y 0, 36, .inl a2)), ((R 3), .inl (Y 0, 36, .inl a3)), ((R 4), .inl (Y 0, 36, .inl a4))]) ?_ rfl rfl rfl rfl
    refine V_if_eq X (show (0 : Int32).toInt = 0 from by decide) 41 dX11_line_4 (by decide) (fun _ => ?_) (fun c_4 => absurd c_4 (by decide))
    refine V_iconst (v := (-1 : Int32)) X (by decide) dX11_line_41 ?_
    exact V_iret X hr dX11_line_42 (Or.inl ⟨rfl, rfl, (by omega)⟩)

set_option maxHeartbeats 4000000 in
set_option maxRecDepth 100000 in
theorem c_X11_rowOf (l : Launch) (D : va_G) (Y : Nat → ClassId) (s0 : Nat) (x : Int32) (p_ : Int32) (pn : Nat) (w_ : Int32) (w : Nat) (hs0 : s0 < 3) (tx : x.toInt = ((s0 : Nat) : Int)) (tp_ : p_.toInt = ((pn : Nat) : Int)) (hp : pn < 4) (tw_ : w_.toInt = ((w : Nat) : Int)) (hw : w < 2) : Mg l yX11_rowOf wsX11_rowOf ({ frames := 0, cells := 0, slots := 0, locals := 0 }) D Y [] [.int x, .int p_, .int w_] 0 0 (fun vv__ ww__ => (∃ (r : Int32), vv__ = some (.int r) ∧ ww__ = [] ∧ (r.toInt = ((8 * s0 + 2 * pn + w : Nat) : Int)))) := by
  refine Mg_of (cc := cX11_rowOf) (maxL := 3) (ret := (some .int)) (ls0 := [(0, .int x), (1, .int p_), (2, .int w_)]) RX11 (by decide) rfl rfl rfl (Nat.le_of_ble_eq_true rfl) (fun p__ e__ s__ m__ b__ t__ c__ X hr hn => ?_)
  refine V_bipush (v := (8 : Int32)) X (by decide) dX11_rowOf_0 ?_
  refine V_iload_n X 0 rfl dX11_rowOf_2 ?_
  refine V_imulZ X (show (8 : Int32).toInt = 8 from by decide) tx (by omega) (by omega) dX11_rowOf_3 (fun x_1 ex_1 tx_1 => ?_)
  have tx_1 : x_1.toInt = (((8 * s0) : Nat) : Int) := by omega
  refine V_iconst (v := (2 : Int32)) X (by decide) dX11_rowOf_4 ?_
  refine V_iload_n X 1 rfl dX11_rowOf_5 ?_
  refine V_imulZ X (show (2 : Int32).toInt = 2 from by decide) tp_ (by omega) (by omega) dX11_rowOf_6 (fun x_2 ex_2 tx_2 => ?_)
  have tx_2 : x_2.toInt = (((2 * pn) : Nat) : Int) := by omega
  refine V_iaddZ X tx_1 tx_2 (by omega) (by omega) dX11_rowOf_7 (fun x_3 ex_3 tx_3 => ?_)
  have tx_3 : x_3.toInt = ((((8 * s0) + (2 * pn)) : Nat) : Int) := by omega
  refine V_iload_n X 2 rfl dX11_rowOf_8 ?_
  refine V_iaddZ X tx_3 tw_ (by omega) (by omega) dX11_rowOf_9 (fun x_4 ex_4 tx_4 => ?_)
  have tx_4 : x_4.toInt = (((((8 * s0) + (2 * pn)) + w) : Nat) : Int) := by omega
  exact V_iret X hr dX11_rowOf_10 (⟨x_4, rfl, rfl, (by have h9 : x_4.toInt = (((((8 * s0) + (2 * pn)) + w) : Nat) : Int) := tx_4; omega)⟩)

theorem in_X11_bitAt_X11 : ∀ w ∈ wsX110, w ∈ wsX11_bitAt := fun w h => List.mem_cons_of_mem _ (List.mem_append_right _ h)
set_option maxHeartbeats 4000000 in
set_option maxRecDepth 100000 in
theorem c_X11_bitAt (l : Launch) (D : va_G) (Y : Nat → ClassId) (m : Nat) (R : Nat → Nat) (v0 : Int32) (v7 : Int32) (v8 : Int32) (v9 : Int32) (v15 : Int32) (v16 : Int32) (v17 : Int32) (v18 : Int32) (v19 : Int32) (v27 : Int32) (v31 : Int32) (v32 : Int32) (v33 : Int32) (v34 : Int32) (v38 : Int32) (v42 : Int32) (v44 : Int32) (a5 : Nat → Int32) (B : Nat → Nat → Bool) (s0 : Nat) (x : Int32) (p_ : Int32) (pn : Nat) (w_ : Int32) (w : Nat) (c_ : Int32) (ln : Nat) (hMH : MHV a5 B) (hs0 : s0 < 3) (tx : x.toInt = ((s0 : Nat) : Int)) (tp_ : p_.toInt = ((pn : Nat) : Int)) (hp : pn < 4) (tw_ : w_.toInt = ((w : Nat) : Int)) (hw : w < 2) (tc_ : c_.toInt = ((ln : Nat) : Int)) (hl : ln < 12) : Mg l yX11_bitAt wsX11_bitAt ({ frames := 1, cells := 0, slots := 0, locals := 22 }) D Y [(m, .inr (10, mF R v0 v7 v8 v9 v15 v16 v17 v18 v19 v27 v31 v32 v33 v34 v38 v42 v44)), ((R 5), .inl (Y 0, 24, .inl a5))] [.ref m, .int x, .int p_, .int c_, .int w_] 0 0 (fun vv__ ww__ => (∃ (r : Int32), vv__ = some (.int r) ∧ ww__ = [(m, .inr (10, mF R v0 v7 v8 v9 v15 v16 v17 v18 v19 v27 v31 v32 v33 v34 v38 v42 v44)), ((R 5), .inl (Y 0, 24, .inl a5))] ∧ (r.toInt = bz (B s0 (24 * pn + 2 * ln + w))))) := by
  refine Mg_of (cc := cX11_bitAt) (maxL := 5) (ret := (some .int)) (ls0 := [(0, .ref m), (1, .int x), (2, .int p_), (3, .int c_), (4, .int w_)]) RX11 (by decide) rfl rfl rfl (Nat.le_of_ble_eq_true rfl) (fun p__ e__ s__ m__ b__ t__ c__ X hr hn => ?_)
  refine V_aload_n X 0 rfl dX11_bitAt_0 ?_
  refine V_get (C := RX11) (T := TX11) (N := 50) (ci := 10) (v := .ref (R 5)) X in_X11_bitAt_X11 0 rfl rfl 5 (by decide) (List.mem_of_getElem? (i := 1) rfl) rfl rfl dX11_bitAt_1 ?_
  refine V_iload_n X 1 rfl dX11_bitAt_4 ?_
  refine V_iload_n X 2 rfl dX11_bitAt_5 ?_
  refine V_iload X 4 rfl dX11_bitAt_6 ?_
  refine V_callS (wr := [(m, .inr (10, mF R v0 v7 v8 v9 v15 v16 v17 v18 v19 v27 v31 v32 v33 v34 v38 v42 v44)), ((R 5), .inl (Y 0, 24, .inl a5))]) (st := [.ref (R 5)]) X (c_X11_rowOf l D Y s0 x p_ pn w_ w hs0 tx tp_ hp tw_ hw) 3 gX11_bitAt_X11_rowOf rfl (by decide +kernel) ⟨rfl, rfl⟩ ⟨Nat.le_of_ble_eq_true rfl, Nat.le_of_ble_eq_true rfl⟩ [] [0, 1] rfl rfl rfl rfl (by decide) rfl rfl (Nat.le_of_ble_eq_true rfl) ⟨Nat.le_of_ble_eq_true rfl, Nat.le_of_ble_eq_true rfl⟩ dX11_bitAt_8 (fun v_8 w_8 h_8 => ?_)
  obtain ⟨r_2, rfl, rfl, htr_3⟩ := h_8
  refine V_to (pc' := 11) (ls' := [(0, .ref m), (1, .int x), (2, .int p_), (3, .int c_), (4, .int w_)]) (st' := [.int r_2, .ref (R 5)]) (ws' := [(m, .inr (10, mF R v0 v7 v8 v9 v15 v16 v17 v18 v19 v27 v31 v32 v33 v34 v38 v42 v44)), ((R 5), .inl (Y 0, 24, .inl a5))]) ?_ rfl rfl rfl rfl
  refine V_iald X 1 (8 * s0 + 2 * pn + w) rfl htr_3 (by omega) dX11_bitAt_11 ?_
  refine V_iload_n X 3 rfl dX11_bitAt_12 ?_
  refine V_ishr X dX11_bitAt_13 (fun x_4 ex_4 => ?_)
  refine V_iconst (v := (1 : Int32)) X (by decide) dX11_bitAt_14 ?_
  refine V_iand X dX11_bitAt_15 (fun x_5 ex_5 => ?_)
  have tx_5 : x_5.toInt = bz (B s0 (24 * pn + 2 * ln + w)) := (MHV_at hMH hs0 hp hw hl) ▸ (b_pick ex_5 ex_4 tc_ (by omega))
  exact V_iret X hr dX11_bitAt_16 (⟨x_5, rfl, rfl, (by omega)⟩)

theorem in_X11_give_X11 : ∀ w ∈ wsX110, w ∈ wsX11_give := fun w h => List.mem_cons_of_mem _ (List.mem_append_right _ h)
set_option maxHeartbeats 4000000 in
set_option maxRecDepth 100000 in
theorem c_X11_give (l : Launch) (D : va_G) (Y : Nat → ClassId) (m : Nat) (R : Nat → Nat) (v0 : Int32) (v7 : Int32) (v8 : Int32) (v9 : Int32) (v15 : Int32) (v16 : Int32) (v17 : Int32) (v18 : Int32) (v19 : Int32) (v27 : Int32) (v31 : Int32) (v32 : Int32) (v33 : Int32) (v34 : Int32) (v38 : Int32) (v42 : Int32) (v44 : Int32) (a5 : Nat → Int32) (B : Nat → Nat → Bool) (s0 : Nat) (x : Int32) (p_ : Int32) (pn : Nat) (w_ : Int32) (w : Nat) (c_ : Int32) (ln : Nat) (hv : Int32) (vb : Bool) (hMH : MHV a5 B) (hs0 : s0 < 3) (tx : x.toInt = ((s0 : Nat) : Int)) (tp_ : p_.toInt = ((pn : Nat) : Int)) (hp : pn < 4) (tw_ : w_.toInt = ((w : Nat) : Int)) (hw : w < 2) (tc_ : c_.toInt = ((ln : Nat) : Int)) (hl : ln < 12) (thv : hv.toInt = bz vb) : Mg l yX11_give wsX11_give ({ frames := 1, cells := 0, slots := 0, locals := 22 }) D Y [(m, .inr (10, mF R v0 v7 v8 v9 v15 v16 v17 v18 v19 v27 v31 v32 v33 v34 v38 v42 v44)), ((R 5), .inl (Y 0, 24, .inl a5))] [.ref m, .int x, .int p_, .int c_, .int w_, .int hv] 0 0 (fun vv__ ww__ => (∃ (b5 : Nat → Int32), vv__ = none ∧ ww__ = [(m, .inr (10, mF R v0 v7 v8 v9 v15 v16 v17 v18 v19 v27 v31 v32 v33 v34 v38 v42 v44)), ((R 5), .inl (Y 0, 24, .inl b5))] ∧ (MHV b5 (upS B s0 (upB (B s0) (24 * pn + 2 * ln + w) vb))))) := by
  refine Mg_of (cc := cX11_give) (maxL := 7) (ret := none) (ls0 := [(0, .ref m), (1, .int x), (2, .int p_), (3, .int c_), (4, .int w_), (5, .int hv)]) RX11 (by decide) rfl rfl rfl (Nat.le_of_ble_eq_true rfl) (fun p__ e__ s__ m__ b__ t__ c__ X hr hn => ?_)
  refine V_iload_n X 1 rfl dX11_give_0 ?_
  refine V_iload_n X 2 rfl dX11_give_1 ?_
  refine V_iload X 4 rfl dX11_give_2 ?_
  refine V_callS (wr := [(m, .inr (10, mF R v0 v7 v8 v9 v15 v16 v17 v18 v19 v27 v31 v32 v33 v34 v38 v42 v44)), ((R 5), .inl (Y 0, 24, .inl a5))]) (st := []) X (c_X11_rowOf l D Y s0 x p_ pn w_ w hs0 tx tp_ hp tw_ hw) 3 gX11_give_X11_rowOf rfl (by decide +kernel) ⟨rfl, rfl⟩ ⟨Nat.le_of_ble_eq_true rfl, Nat.le_of_ble_eq_true rfl⟩ [] [0, 1] rfl rfl rfl rfl (by decide) rfl rfl (Nat.le_of_ble_eq_true rfl) ⟨Nat.le_of_ble_eq_true rfl, Nat.le_of_ble_eq_true rfl⟩ dX11_give_4 (fun v_4 w_4 h_4 => ?_)
  obtain ⟨r_2, rfl, rfl, htr_3⟩ := h_4
  refine V_to (pc' := 7) (ls' := [(0, .ref m), (1, .int x), (2, .int p_), (3, .int c_), (4, .int w_), (5, .int hv)]) (st' := [.int r_2]) (ws' := [(m, .inr (10, mF R v0 v7 v8 v9 v15 v16 v17 v18 v19 v27 v31 v32 v33 v34 v38 v42 v44)), ((R 5), .inl (Y 0, 24, .inl a5))]) ?_ rfl rfl rfl rfl
  refine V_istore (ls' := [(6, .int r_2), (0, .ref m), (1, .int x), (2, .int p_), (3, .int c_), (4, .int w_), (5, .int hv)]) X (by decide) rfl dX11_give_7 ?_
  refine V_aload_n X 1 rfl dX11_give_9 ?_
  refine V_get (C := RX11) (T := TX11) (N := 50) (ci := 10) (v := .ref (R 5)) X in_X11_give_X11 0 rfl rfl 5 (by decide) (List.mem_of_getElem? (i := 1) rfl) rfl rfl dX11_give_10 ?_
  refine V_iload X 0 rfl dX11_give_13 ?_
  refine V_iload X 6 rfl dX11_give_15 ?_
  refine V_iconst (v := (1 : Int32)) X (by decide) dX11_give_17 ?_
  refine V_icmp_ne X thv (show (1 : Int32).toInt = 1 from by decide) 35 dX11_give_18 (by decide) (fun c_18 => ?_) (fun c_18 => ?_)
  · refine V_aload_n X 1 rfl dX11_give_35 ?_
    refine V_get (C := RX11) (T := TX11) (N := 50) (ci := 10) (v := .ref (R 5)) X in_X11_give_X11 0 rfl rfl 5 (by decide) (List.mem_of_getElem? (i := 1) rfl) rfl rfl dX11_give_36 ?_
    refine V_iload X 0 rfl dX11_give_39 ?_
    refine V_iald X 1 (8 * s0 + 2 * pn + w) rfl htr_3 (by omega) dX11_give_41 ?_
    refine V_iconst (v := (1 : Int32)) X (by decide) dX11_give_42 ?_
    refine V_iload_n X 4 rfl dX11_give_43 ?_
    refine V_ishl X dX11_give_44 (fun x_4 ex_4 => ?_)
    have hone : ∀ i, i < 32 → bt x_4 i = decide (i = ln) := fun i hi => b_one ex_4 tc_ (by omega) hi
    refine V_iconst (v := (-1 : Int32)) X (by decide) dX11_give_45 ?_
    refine V_ixor X dX11_give_46 (fun x_5 ex_5 => ?_)
    refine V_iand X dX11_give_47 (fun x_6 ex_6 => ?_)
    have hclr : ∀ i, i < 32 → bt x_6 i = (bt (a5 (8 * s0 + 2 * pn + w)) i && !decide (i = ln)) := fun i hi => b_clear hone ex_5 ex_6 hi
    refine V_iast (ws' := [(m, .inr (10, mF R v0 v7 v8 v9 v15 v16 v17 v18 v19 v27 v31 v32 v33 v34 v38 v42 v44)), ((R 5), .inl (Y 0, 24, .inl (upd a5 (8 * s0 + 2 * pn + w) x_6)))]) X 1 (8 * s0 + 2 * pn + w) rfl htr_3 (by omega) rfl dX11_give_48 ?_
    exact V_vret X hr dX11_give_49 (⟨(upd a5 (8 * s0 + 2 * pn + w) x_6), rfl, rfl, MHV_set hMH hs0 hp hw hl (fun i hi => by rw [hclr i hi, bz_f (show bz vb ≠ 1 by omega)]; by_cases q : i = ln <;> simp [q])⟩)
  · refine V_aload_n X 1 rfl dX11_give_21 ?_
    refine V_get (C := RX11) (T := TX11) (N := 50) (ci := 10) (v := .ref (R 5)) X in_X11_give_X11 0 rfl rfl 5 (by decide) (List.mem_of_getElem? (i := 1) rfl) rfl rfl dX11_give_22 ?_
    refine V_iload X 0 rfl dX11_give_25 ?_
    refine V_iald X 1 (8 * s0 + 2 * pn + w) rfl htr_3 (by omega) dX11_give_27 ?_
    refine V_iconst (v := (1 : Int32)) X (by decide) dX11_give_28 ?_
    refine V_iload_n X 4 rfl dX11_give_29 ?_
    refine V_ishl X dX11_give_30 (fun x_7 ex_7 => ?_)
    have hone : ∀ i, i < 32 → bt x_7 i = decide (i = ln) := fun i hi => b_one ex_7 tc_ (by omega) hi
    refine V_ior X dX11_give_31 (fun x_8 ex_8 => ?_)
    have hor : ∀ i, i < 32 → bt x_8 i = (bt (a5 (8 * s0 + 2 * pn + w)) i || bt x_7 i) := fun i _ => by rw [ex_8, b_or]
    refine V_goto X 48 (by decide) dX11_give_32 ?_
    refine V_iast (ws' := [(m, .inr (10, mF R v0 v7 v8 v9 v15 v16 v17 v18 v19 v27 v31 v32 v33 v34 v38 v42 v44)), ((R 5), .inl (Y 0, 24, .inl (upd a5 (8 * s0 + 2 * pn + w) x_8)))]) X 1 (8 * s0 + 2 * pn + w) rfl htr_3 (by omega) rfl dX11_give_48 ?_
    exact V_vret X hr dX11_give_49 (⟨(upd a5 (8 * s0 + 2 * pn + w) x_8), rfl, rfl, MHV_set hMH hs0 hp hw hl (fun i hi => by rw [hor i hi, hone i hi, bz_t (show bz vb = 1 by omega)]; by_cases q : i = ln <;> simp [q])⟩)

set_option maxHeartbeats 4000000 in
set_option maxRecDepth 100000 in
theorem c_X11_has (l : Launch) (D : va_G) (Y : Nat → ClassId) (m : Nat) (R : Nat → Nat) (v0 : Int32) (v7 : Int32) (v8 : Int32) (v9 : Int32) (v15 : Int32) (v16 : Int32) (v17 : Int32) (v18 : Int32) (v19 : Int32) (v27 : Int32) (v31 : Int32) (v32 : Int32) (v33 : Int32) (v34 : Int32) (v38 : Int32) (v42 : Int32) (v44 : Int32) (a1 : Nat → Int32) (a5 : Nat → Int32) (n : Nat → Nat) (B : Nat → Nat → Bool) (s0 : Nat) (y : Int32) (ln : Nat) (q : Int32) (w_ : Int32) (v : Int32) (hLN : LNR a1 n) (hMH : MHV a5 B) (hs0 : s0 < 3) (hsl : 0 ≤ y.toInt → y.toInt / 100 < 3 → y.toInt / 100 = ((s0 : Nat) : Int)) (hln : 0 ≤ y.toInt → y.toInt % 100 = ((ln : Nat) : Int)) : Mg l yX11_has wsX11_has ({ frames := 3, cells := 0, slots := 0, locals := 63 }) D Y [(m, .inr (10, mF R v0 v7 v8 v9 v15 v16 v17 v18 v19 v27 v31 v32 v33 v34 v38 v42 v44)), ((R 1), .inl (Y 0, 3, .inl a1)), ((R 5), .inl (Y 0, 24, .inl a5))] [.ref m, .int q, .int y, .int w_, .int v] 0 0 (fun vv__ ww__ => (vv__ = some (.int (-1 : Int32)) ∧ ww__ = [(m, .inr (10, mF R v0 v7 v8 v9 v15 v16 v17 v18 v19 v27 v31 v32 v33 v34 v38 v42 v44)), ((R 1), .inl (Y 0, 3, .inl a1)), ((R 5), .inl (Y 0, 24, .inl a5))] ∧ (¬ (0 ≤ q.toInt ∧ q.toInt < 4 ∧ (0 ≤ y.toInt ∧ y.toInt / 100 < 3 ∧ ln < n s0) ∧ 0 ≤ w_.toInt ∧ w_.toInt < 2 ∧ 0 ≤ v.toInt ∧ v.toInt < 2))) ∨ (∃ (r : Int32), ∃ (b5 : Nat → Int32), ∃ (bn : Nat), ∃ (vb : Bool), vv__ = some (.int r) ∧ ww__ = [(m, .inr (10, mF R v0 v7 v8 v9 v15 v16 v17 v18 v19 v27 v31 v32 v33 v34 v38 v42 v44)), ((R 1), .inl (Y 0, 3, .inl a1)), ((R 5), .inl (Y 0, 24, .inl b5))] ∧ (0 ≤ q.toInt ∧ q.toInt < 4 ∧ (0 ≤ y.toInt ∧ y.toInt / 100 = ((s0 : Nat) : Int) ∧ ln < n s0) ∧ 0 ≤ w_.toInt ∧ w_.toInt < 2 ∧ v.toInt = bz vb) ∧ (((bn : Nat) : Int) = 24 * q.toInt + 2 * ((ln : Nat) : Int) + w_.toInt) ∧ (bn < 96) ∧ (r.toInt = bz (B s0 bn)) ∧ (MHV b5 (upS B s0 (upB (B s0) bn vb))))) := by
  refine Mg_of (cc := cX11_has) (maxL := 6) (ret := (some .int)) (ls0 := [(0, .ref m), (1, .int q), (2, .int y), (3, .int w_), (4, .int v)]) RX11 (by decide) rfl rfl rfl (Nat.le_of_ble_eq_true rfl) (fun p__ e__ s__ m__ b__ t__ c__ X hr hn => ?_)
  have hln0 : (a1 s0).toInt = ((n s0 : Nat) : Int) ∧ n s0 ≤ 12 := hLN s0 hs0
  refine V_iload_n X 1 rfl dX11_has_0 ?_
  refine V_callS (wr := [(m, .inr (10, mF R v0 v7 v8 v9 v15 v16 v17 v18 v19 v27 v31 v32 v33 v34 v38 v42 v44)), ((R 1), .inl (Y 0, 3, .inl a1)), ((R 5), .inl (Y 0, 24, .inl a5))]) (st := []) X (c_X11_isSinger l D Y q) 1 gX11_has_X11_isSinger rfl (by decide +kernel) ⟨rfl, rfl⟩ ⟨Nat.le_of_ble_eq_true rfl, Nat.le_of_ble_eq_true rfl⟩ [] [0, 1, 2] rfl rfl rfl rfl (by decide) rfl rfl (Nat.le_of_ble_eq_true rfl) ⟨Nat.le_of_ble_eq_true rfl, Nat.le_of_ble_eq_true rfl⟩ dX11_has_1 (fun v_1 w_1 h_1 => ?_)
  rcases h_1 with ⟨rfl, rfl, hhy_2⟩ | ⟨rfl, rfl, hhn_3⟩
  · refine V_to (pc' := 4) (ls' := [(0, .ref m), (1, .int q), (2, .int y), (3, .int w_), (4, .int v)]) (st' := [.int (1 : Int32)]) (ws' := [(m, .inr (10, mF R v0 v7 v8 v9 v15 v16 v17 v18 v19 v27 v31 v32 v33 v34 v38 v42 v44)), ((R 1), .inl (Y 0, 3, .inl a1)), ((R 5), .inl (Y 0, 24, .inl a5))]) ?_ rfl rfl rfl rfl
    refine V_if_eq X (show (1 : Int32).toInt = 1 from by decide) 34 dX11_has_4 (by decide) (fun c_4 => absurd c_4 (by decide)) (fun _ => ?_)
    refine V_aload_n X 0 rfl dX11_has_7 ?_
    refine V_iload_n X 2 rfl dX11_has_8 ?_
    refine V_callV (C := RX11) (wr := [((R 5), .inl (Y 0, 24, .inl a5))]) (st := []) X (c_X11_isLine l D Y m R v0 v7 v8 v9 v15 v16 v17 v18 v19 v27 v31 v32 v33 v34 v38 v42 v44 a1 n s0 y ln hLN hs0 hsl hln) 1 gX11_has_X11_isLine rfl (by decide +kernel) ⟨rfl, rfl⟩ ⟨Nat.le_of_ble_eq_true rfl, Nat.le_of_ble_eq_true rfl⟩ [0, 1] [2] rfl rfl rfl rfl (by decide) (ci := 10) rfl rfl 0 rfl rfl rfl (Nat.le_of_ble_eq_true rfl) ⟨Nat.le_of_ble_eq_true rfl, Nat.le_of_ble_eq_true rfl⟩ dX11_has_9 (fun v_9 w_9 h_9 => ?_)
    rcases h_9 with ⟨rfl, rfl, hhy_5⟩ | ⟨rfl, rfl, hhn_6⟩
    · refine V_to (pc' := 12) (ls' := [(0, .ref m), (1, .int q), (2, .int y), (3, .int w_), (4, .int v)]) (st' := [.int (1 : Int32)]) (ws' := [((R 5), .inl (Y 0, 24, .inl a5)), (m, .inr (10, mF R v0 v7 v8 v9 v15 v16 v17 v18 v19 v27 v31 v32 v33 v34 v38 v42 v44)), ((R 1), .inl (Y 0, 3, .inl a1))]) ?_ rfl rfl rfl rfl
      refine V_if_eq X (show (1 : Int32).toInt = 1 from by decide) 34 dX11_has_12 (by decide) (fun c_12 => absurd c_12 (by decide)) (fun _ => ?_)
      refine V_iload_n X 3 rfl dX11_has_15 ?_
      refine V_iconst (v := (0 : Int32)) X (by decide) dX11_has_16 ?_
      refine V_iconst (v := (1 : Int32)) X (by decide) dX11_has_17 ?_
      refine V_callS (wr := [((R 5), .inl (Y 0, 24, .inl a5)), (m, .inr (10, mF R v0 v7 v8 v9 v15 v16 v17 v18 v19 v27 v31 v32 v33 v34 v38 v42 v44)), ((R 1), .inl (Y 0, 3, .inl a1))]) (st := []) X (c_X11_in l D Y w_ (0 : Int32) (1 : Int32)) 3 gX11_has_X11_in rfl (by decide +kernel) ⟨rfl, rfl⟩ ⟨Nat.le_of_ble_eq_true rfl, Nat.le_of_ble_eq_true rfl⟩ [] [0, 1, 2] rfl rfl rfl rfl (by decide) rfl rfl (Nat.le_of_ble_eq_true rfl) ⟨Nat.le_of_ble_eq_true rfl, Nat.le_of_ble_eq_true rfl⟩ dX11_has_18 (fun v_18 w_18 h_18 => ?_)
      rcases h_18 with ⟨rfl, rfl, hhy_8⟩ | ⟨rfl, rfl, hhn_9⟩
      · refine V_to (pc' := 21) (ls' := [(0, .ref m), (1, .int q), (2, .int y), (3, .int w_), (4, .int v)]) (st' := [.int (1 : Int32)]) (ws' := [((R 5), .inl (Y 0, 24, .inl a5)), (m, .inr (10, mF R v0 v7 v8 v9 v15 v16 v17 v18 v19 v27 v31 v32 v33 v34 v38 v42 v44)), ((R 1), .inl (Y 0, 3, .inl a1))]) ?_ rfl rfl rfl rfl
        have hc_0 : (0 : Int32).toInt = 0 := by decide
        have hc_1 : (1 : Int32).toInt = 1 := by decide
        refine V_if_eq X (show (1 : Int32).toInt = 1 from by decide) 34 dX11_has_21 (by decide) (fun c_21 => absurd c_21 (by decide)) (fun _ => ?_)
        refine V_iload X 4 rfl dX11_has_24 ?_
        refine V_iconst (v := (0 : Int32)) X (by decide) dX11_has_26 ?_
        refine V_iconst (v := (1 : Int32)) X (by decide) dX11_has_27 ?_
        refine V_callS (wr := [((R 5), .inl (Y 0, 24, .inl a5)), (m, .inr (10, mF R v0 v7 v8 v9 v15 v16 v17 v18 v19 v27 v31 v32 v33 v34 v38 v42 v44)), ((R 1), .inl (Y 0, 3, .inl a1))]) (st := []) X (c_X11_in l D Y v (0 : Int32) (1 : Int32)) 3 gX11_has_X11_in rfl (by decide +kernel) ⟨rfl, rfl⟩ ⟨Nat.le_of_ble_eq_true rfl, Nat.le_of_ble_eq_true rfl⟩ [] [0, 1, 2] rfl rfl rfl rfl (by decide) rfl rfl (Nat.le_of_ble_eq_true rfl) ⟨Nat.le_of_ble_eq_true rfl, Nat.le_of_ble_eq_true rfl⟩ dX11_has_28 (fun v_28 w_28 h_28 => ?_)
        rcases h_28 with ⟨rfl, rfl, hhy_11⟩ | ⟨rfl, rfl, hhn_12⟩
        · refine V_to (pc' := 31) (ls' := [(0, .ref m), (1, .int q), (2, .int y), (3, .int w_), (4, .int v)]) (st' := [.int (1 : Int32)]) (ws' := [((R 5), .inl (Y 0, 24, .inl a5)), (m, .inr (10, mF R v0 v7 v8 v9 v15 v16 v17 v18 v19 v27 v31 v32 v33 v34 v38 v42 v44)), ((R 1), .inl (Y 0, 3, .inl a1))]) ?_ rfl rfl rfl rfl
          refine V_if_ne X (show (1 : Int32).toInt = 1 from by decide) 36 dX11_has_31 (by decide) (fun _ => ?_) (fun c_31 => absurd c_31 (by decide))
          obtain ⟨pn, tq⟩ : ∃ pn : Nat, q.toInt = ((pn : Nat) : Int) := ⟨q.toInt.toNat, by omega⟩; obtain ⟨w, tw⟩ : ∃ w : Nat, w_.toInt = ((w : Nat) : Int) := ⟨w_.toInt.toNat, by omega⟩
          · refine V_aload_n X 0 rfl dX11_has_36 ?_
            refine V_iload_n X 2 rfl dX11_has_37 ?_
            refine V_bipush (v := (100 : Int32)) X (by decide) dX11_has_38 ?_
            refine V_idivZ X rfl (show (100 : Int32).toInt = 100 from by decide) (by omega) (by omega) dX11_has_40 (fun x_13 ex_13 tx_13 => ?_)
            have tx_13 : x_13.toInt = ((s0 : Nat) : Int) := by omega
            refine V_iload_n X 1 rfl dX11_has_41 ?_
            refine V_iload_n X 2 rfl dX11_has_42 ?_
            refine V_bipush (v := (100 : Int32)) X (by decide) dX11_has_43 ?_
            refine V_iremZ X rfl (show (100 : Int32).toInt = 100 from by decide) (by omega) (by omega) dX11_has_45 (fun x_14 ex_14 tx_14 => ?_)
            have tx_14 : x_14.toInt = ((ln : Nat) : Int) := by omega
            refine V_iload_n X 3 rfl dX11_has_46 ?_
            refine V_callV (C := RX11) (wr := [((R 1), .inl (Y 0, 3, .inl a1))]) (st := []) X (c_X11_bitAt l D Y m R v0 v7 v8 v9 v15 v16 v17 v18 v19 v27 v31 v32 v33 v34 v38 v42 v44 a5 B s0 x_13 q pn w_ w x_14 ln hMH hs0 tx_13 tq (by omega) tw (by omega) tx_14 (by omega)) 4 gX11_has_X11_bitAt rfl (by decide +kernel) ⟨rfl, rfl⟩ ⟨Nat.le_of_ble_eq_true rfl, Nat.le_of_ble_eq_true rfl⟩ [1, 0] [2] rfl rfl rfl rfl (by decide) (ci := 10) rfl rfl 0 rfl rfl rfl (Nat.le_of_ble_eq_true rfl) ⟨Nat.le_of_ble_eq_true rfl, Nat.le_of_ble_eq_true rfl⟩ dX11_has_47 (fun v_47 w_47 h_47 => ?_)
            obtain ⟨r_16, rfl, rfl, htr_17⟩ := h_47
            refine V_to (pc' := 50) (ls' := [(0, .ref m), (1, .int q), (2, .int y), (3, .int w_), (4, .int v)]) (st' := [.int r_16]) (ws' := [((R 1), .inl (Y 0, 3, .inl a1)), (m, .inr (10, mF R v0 v7 v8 v9 v15 v16 v17 v18 v19 v27 v31 v32 v33 v34 v38 v42 v44)), ((R 5), .inl (Y 0, 24, .inl a5))]) ?_ rfl rfl rfl rfl
            refine V_istore (ls' := [(5, .int r_16), (0, .ref m), (1, .int q), (2, .int y), (3, .int w_), (4, .int v)]) X (by decide) rfl dX11_has_50 ?_
            refine V_aload_n X 1 rfl dX11_has_52 ?_
            refine V_iload_n X 3 rfl dX11_has_53 ?_
            refine V_bipush (v := (100 : Int32)) X (by decide) dX11_has_54 ?_
            refine V_idivZ X rfl (show (100 : Int32).toInt = 100 from by decide) (by omega) (by omega) dX11_has_56 (fun x_18 ex_18 tx_18 => ?_)
            have tx_18 : x_18.toInt = ((s0 : Nat) : Int) := by omega
            refine V_iload_n X 2 rfl dX11_has_57 ?_
            refine V_iload_n X 3 rfl dX11_has_58 ?_
            refine V_bipush (v := (100 : Int32)) X (by decide) dX11_has_59 ?_
            refine V_iremZ X rfl (show (100 : Int32).toInt = 100 from by decide) (by omega) (by omega) dX11_has_61 (fun x_19 ex_19 tx_19 => ?_)
            have tx_19 : x_19.toInt = ((ln : Nat) : Int) := by omega
            refine V_iload_n X 4 rfl dX11_has_62 ?_
            refine V_iload X 5 rfl dX11_has_63 ?_
            refine V_callV (C := RX11) (wr := [((R 1), .inl (Y 0, 3, .inl a1))]) (st := []) X (c_X11_give l D Y m R v0 v7 v8 v9 v15 v16 v17 v18 v19 v27 v31 v32 v33 v34 v38 v42 v44 a5 B s0 x_18 q pn w_ w x_19 ln v (decide (v.toInt = 1)) hMH hs0 tx_18 tq (by omega) tw (by omega) tx_19 (by omega) (bz_dec (by omega) (by omega))) 5 gX11_has_X11_give rfl (by decide +kernel) ⟨rfl, rfl⟩ ⟨Nat.le_of_ble_eq_true rfl, Nat.le_of_ble_eq_true rfl⟩ [1, 2] [0] rfl rfl rfl rfl (by decide) (ci := 10) rfl rfl 0 rfl rfl rfl (Nat.le_of_ble_eq_true rfl) ⟨Nat.le_of_ble_eq_true rfl, Nat.le_of_ble_eq_true rfl⟩ dX11_has_65 (fun v_65 w_65 h_65 => ?_)
            obtain ⟨b5_21, rfl, rfl, hhM2_22⟩ := h_65
            refine V_to (pc' := 68) (ls' := [(5, .int r_16), (0, .ref m), (1, .int q), (2, .int y), (3, .int w_), (4, .int v)]) (st' := []) (ws' := [((R 1), .inl (Y 0, 3, .inl a1)), (m, .inr (10, mF R v0 v7 v8 v9 v15 v16 v17 v18 v19 v27 v31 v32 v33 v34 v38 v42 v44)), ((R 5), .inl (Y 0, 24, .inl b5_21))]) ?_ rfl rfl rfl rfl
            refine V_iload X 0 rfl dX11_has_68 ?_
            refine V_ws (ws' := [(m, .inr (10, mF R v0 v7 v8 v9 v15 v16 v17 v18 v19 v27 v31 v32 v33 v34 v38 v42 v44)), ((R 1), .inl (Y 0, 3, .inl a1)), ((R 5), .inl (Y 0, 24, .inl b5_21))]) [1, 0, 2] rfl rfl rfl ?_
            exact V_iret X hr dX11_has_70 (Or.inr (⟨r_16, b5_21, (24 * pn + 2 * ln + w), (decide (v.toInt = 1)), rfl, rfl, ⟨by omega, by omega, ⟨by omega, by omega, by omega⟩, by omega, by omega, bz_dec (by omega) (by omega)⟩, (by omega), (by omega), htr_17, hhM2_22⟩))
        · refine V_to (pc' := 31) (ls' := [(0, .ref m), (1, .int q), (2, .int y), (3, .int w_), (4, .int v)]) (st' := [.int (0 : Int32)]) (ws' := [((R 5), .inl (Y 0, 24, .inl a5)), (m, .inr (10, mF R v0 v7 v8 v9 v15 v16 v17 v18 v19 v27 v31 v32 v33 v34 v38 v42 v44)), ((R 1), .inl (Y 0, 3, .inl a1))]) ?_ rfl rfl rfl rfl
          refine V_if_ne X (show (0 : Int32).toInt = 0 from by decide) 36 dX11_has_31 (by decide) (fun c_31 => absurd c_31 (by decide)) (fun _ => ?_)
          refine V_iconst (v := (-1 : Int32)) X (by decide) dX11_has_34 ?_
          refine V_ws (ws' := [(m, .inr (10, mF R v0 v7 v8 v9 v15 v16 v17 v18 v19 v27 v31 v32 v33 v34 v38 v42 v44)), ((R 1), .inl (Y 0, 3, .inl a1)), ((R 5), .inl (Y 0, 24, .inl a5))]) [1, 2, 0] rfl rfl rfl ?_
          exact V_iret X hr dX11_has_35 (Or.inl ⟨rfl, rfl, (by omega)⟩)
      · refine V_to (pc' := 21) (ls' := [(0, .ref m), (1, .int q), (2, .int y), (3, .int w_), (4, .int v)]) (st' := [.int (0 : Int32)]) (ws' := [((R 5), .inl (Y 0, 24, .inl a5)), (m, .inr (10, mF R v0 v7 v8 v9 v15 v16 v17 v18 v19 v27 v31 v32 v33 v34 v38 v42 v44)), ((R 1), .inl (Y 0, 3, .inl a1))]) ?_ rfl rfl rfl rfl
        have hc_0 : (0 : Int32).toInt = 0 := by decide
        have hc_1 : (1 : Int32).toInt = 1 := by decide
        refine V_if_eq X (show (0 : Int32).toInt = 0 from by decide) 34 dX11_has_21 (by decide) (fun _ => ?_) (fun c_21 => absurd c_21 (by decide))
        refine V_iconst (v := (-1 : Int32)) X (by decide) dX11_has_34 ?_
        refine V_ws (ws' := [(m, .inr (10, mF R v0 v7 v8 v9 v15 v16 v17 v18 v19 v27 v31 v32 v33 v34 v38 v42 v44)), ((R 1), .inl (Y 0, 3, .inl a1)), ((R 5), .inl (Y 0, 24, .inl a5))]) [1, 2, 0] rfl rfl rfl ?_
        exact V_iret X hr dX11_has_35 (Or.inl ⟨rfl, rfl, (by omega)⟩)
    · refine V_to (pc' := 12) (ls' := [(0, .ref m), (1, .int q), (2, .int y), (3, .int w_), (4, .int v)]) (st' := [.int (0 : Int32)]) (ws' := [((R 5), .inl (Y 0, 24, .inl a5)), (m, .inr (10, mF R v0 v7 v8 v9 v15 v16 v17 v18 v19 v27 v31 v32 v33 v34 v38 v42 v44)), ((R 1), .inl (Y 0, 3, .inl a1))]) ?_ rfl rfl rfl rfl
      refine V_if_eq X (show (0 : Int32).toInt = 0 from by decide) 34 dX11_has_12 (by decide) (fun _ => ?_) (fun c_12 => absurd c_12 (by decide))
      refine V_iconst (v := (-1 : Int32)) X (by decide) dX11_has_34 ?_
      refine V_ws (ws' := [(m, .inr (10, mF R v0 v7 v8 v9 v15 v16 v17 v18 v19 v27 v31 v32 v33 v34 v38 v42 v44)), ((R 1), .inl (Y 0, 3, .inl a1)), ((R 5), .inl (Y 0, 24, .inl a5))]) [1, 2, 0] rfl rfl rfl ?_
      exact V_iret X hr dX11_has_35 (Or.inl ⟨rfl, rfl, (by omega)⟩)
  · refine V_to (pc' := 4) (ls' := [(0, .ref m), (1, .int q), (2, .int y), (3, .int w_), (4, .int v)]) (st' := [.int (0 : Int32)]) (ws' := [(m, .inr (10, mF R v0 v7 v8 v9 v15 v16 v17 v18 v19 v27 v31 v32 v33 v34 v38 v42 v44)), ((R 1), .inl (Y 0, 3, .inl a1)), ((R 5), .inl (Y 0, 24, .inl a5))]) ?_ rfl rfl rfl rfl
    refine V_if_eq X (show (0 : Int32).toInt = 0 from by decide) 34 dX11_has_4 (by decide) (fun _ => ?_) (fun c_4 => absurd c_4 (by decide))
    refine V_iconst (v := (-1 : Int32)) X (by decide) dX11_has_34 ?_
    exact V_iret X hr dX11_has_35 (Or.inl ⟨rfl, rfl, (by omega)⟩)

theorem in_X11_valueAt_X11 : ∀ w ∈ wsX110, w ∈ wsX11_valueAt := fun w h => List.mem_cons_of_mem _ (List.mem_append_right _ h)
set_option maxHeartbeats 4000000 in
set_option maxRecDepth 100000 in
theorem c_X11_valueAt (l : Launch) (D : va_G) (Y : Nat → ClassId) (m : Nat) (R : Nat → Nat) (v0 : Int32) (v7 : Int32) (v8 : Int32) (v9 : Int32) (v15 : Int32) (v16 : Int32) (v17 : Int32) (v18 : Int32) (v19 : Int32) (v27 : Int32) (v31 : Int32) (v32 : Int32) (v33 : Int32) (v34 : Int32) (v38 : Int32) (v42 : Int32) (v44 : Int32) (a2 : Nat → Int32) (a3 : Nat → Int32) (a4 : Nat → Int32) (a6 : Nat → Int32) (n : Nat → Nat) (T : Nat → Nat → Nat) (S : Nat → Nat) (s0 : Nat) (y : Int32) (ln : Nat) (w_ : Int32) (hMT : MTR a2 a3 a4 T) (hSU : SUR a6 S) (hs0 : s0 < 3) (hln : 0 ≤ y.toInt → y.toInt % 100 = ((ln : Nat) : Int)) (hn12 : n s0 ≤ 12) (hm : ((0 ≤ w_.toInt ∧ w_.toInt < 3 ∧ (0 ≤ y.toInt ∧ y.toInt / 100 = ((s0 : Nat) : Int) ∧ ln < n s0)) ∨ (w_.toInt = 3 ∧ 0 ≤ y.toInt ∧ y.toInt < 4) ∨ (w_.toInt = 4 ∧ y.toInt = 0))) : Mg l yX11_valueAt wsX11_valueAt ({ frames := 1, cells := 0, slots := 0, locals := 20 }) D Y [(m, .inr (10, mF R v0 v7 v8 v9 v15 v16 v17 v18 v19 v27 v31 v32 v33 v34 v38 v42 v44)), ((R 2), .inl (Y 0, 36, .inl a2)), ((R 3), .inl (Y 0, 36, .inl a3)), ((R 4), .inl (Y 0, 36, .inl a4)), ((R 6), .inl (Y 0, 4, .inl a6))] [.ref m, .int w_, .int y] 0 0 (fun vv__ ww__ => (∃ (r : Int32), ∃ (w : Nat), vv__ = some (.int r) ∧ ww__ = [(m, .inr (10, mF R v0 v7 v8 v9 v15 v16 v17 v18 v19 v27 v31 v32 v33 v34 v38 v42 v44)), ((R 2), .inl (Y 0, 36, .inl a2)), ((R 3), .inl (Y 0, 36, .inl a3)), ((R 4), .inl (Y 0, 36, .inl a4)), ((R 6), .inl (Y 0, 4, .inl a6))] ∧ (w_.toInt = ((w : Nat) : Int)) ∧ (w < 3) ∧ (0 ≤ y.toInt ∧ y.toInt / 100 = ((s0 : Nat) : Int) ∧ ln < n s0) ∧ (r.toInt = ((T s0 (3 * ln + w) : Nat) : Int))) ∨ (∃ (r : Int32), ∃ (yn : Nat), vv__ = some (.int r) ∧ ww__ = [(m, .inr (10, mF R v0 v7 v8 v9 v15 v16 v17 v18 v19 v27 v31 v32 v33 v34 v38 v42 v44)), ((R 2), .inl (Y 0, 36, .inl a2)), ((R 3), .inl (Y 0, 36, .inl a3)), ((R 4), .inl (Y 0, 36, .inl a4)), ((R 6), .inl (Y 0, 4, .inl a6))] ∧ (w_.toInt = 3) ∧ (y.toInt = ((yn : Nat) : Int)) ∧ (yn < 4) ∧ (r.toInt = ((S yn : Nat) : Int))) ∨ (vv__ = some (.int v7) ∧ ww__ = [(m, .inr (10, mF R v0 v7 v8 v9 v15 v16 v17 v18 v19 v27 v31 v32 v33 v34 v38 v42 v44)), ((R 2), .inl (Y 0, 36, .inl a2)), ((R 3), .inl (Y 0, 36, .inl a3)), ((R 4), .inl (Y 0, 36, .inl a4)), ((R 6), .inl (Y 0, 4, .inl a6))] ∧ (w_.toInt = 4))) := by
  refine Mg_of (cc := cX11_valueAt) (maxL := 3) (ret := (some .int)) (ls0 := [(0, .ref m), (1, .int w_), (2, .int y)]) RX11 (by decide) rfl rfl rfl (Nat.le_of_ble_eq_true rfl) (fun p__ e__ s__ m__ b__ t__ c__ X hr hn => ?_)
  refine V_iload_n X 1 rfl dX11_valueAt_0 ?_
  have t_1 : w_.toInt = w_.toInt := rfl
  rcases (by omega : w_.toInt = 0 ∨ w_.toInt = 1 ∨ w_.toInt = 2 ∨ w_.toInt = 3 ∨ (w_.toInt < 0 ∨ 3 < w_.toInt)) with c_1 | c_1 | c_1 | c_1 | c_1
  · refine V_tableIn X 32 0 dX11_valueAt_1 (by omega) (by decide) rfl (by decide) ?_
    have hmt := hMT s0 hs0 ln (by omega)
    refine V_aload_n X 0 rfl dX11_valueAt_32 ?_
    refine V_get (C := RX11) (T := TX11) (N := 50) (ci := 10) (v := .ref (R 2)) X in_X11_valueAt_X11 0 rfl rfl 2 (by decide) (List.mem_of_getElem? (i := 1) rfl) rfl rfl dX11_valueAt_33 ?_
    refine V_iload_n X 2 rfl dX11_valueAt_36 ?_
    refine V_callS (wr := [(m, .inr (10, mF R v0 v7 v8 v9 v15 v16 v17 v18 v19 v27 v31 v32 v33 v34 v38 v42 v44)), ((R 2), .inl (Y 0, 36, .inl a2)), ((R 3), .inl (Y 0, 36, .inl a3)), ((R 4), .inl (Y 0, 36, .inl a4)), ((R 6), .inl (Y 0, 4, .inl a6))]) (st := [.ref (R 2)]) X (c_X11_spotAt l D Y s0 y ln (by omega) (by omega) hs0 hln) 1 gX11_valueAt_X11_spotAt rfl (by decide +kernel) ⟨rfl, rfl⟩ ⟨Nat.le_of_ble_eq_true rfl, Nat.le_of_ble_eq_true rfl⟩ [] [0, 1, 2, 3, 4] rfl rfl rfl rfl (by decide) rfl rfl (Nat.le_of_ble_eq_true rfl) ⟨Nat.le_of_ble_eq_true rfl, Nat.le_of_ble_eq_true rfl⟩ dX11_valueAt_37 (fun v_37 w_37 h_37 => ?_)
    obtain ⟨r_2, rfl, rfl, htr_3⟩ := h_37
    refine V_to (pc' := 40) (ls' := [(0, .ref m), (1, .int w_), (2, .int y)]) (st' := [.int r_2, .ref (R 2)]) (ws' := [(m, .inr (10, mF R v0 v7 v8 v9 v15 v16 v17 v18 v19 v27 v31 v32 v33 v34 v38 v42 v44)), ((R 2), .inl (Y 0, 36, .inl a2)), ((R 3), .inl (Y 0, 36, .inl a3)), ((R 4), .inl (Y 0, 36, .inl a4)), ((R 6), .inl (Y 0, 4, .inl a6))]) ?_ rfl rfl rfl rfl
    refine V_iald X 1 (12 * s0 + ln) rfl htr_3 (by omega) dX11_valueAt_40 ?_
    exact V_iret X hr dX11_valueAt_41 (Or.inl ⟨(a2 (12 * s0 + ln)), 0, rfl, rfl, (by omega), (by omega), (by omega), hmt.1.1⟩)
  · refine V_tableIn X 42 1 dX11_valueAt_1 (by omega) (by decide) rfl (by decide) ?_
    have hmt := hMT s0 hs0 ln (by omega)
    refine V_aload_n X 0 rfl dX11_valueAt_42 ?_
    refine V_get (C := RX11) (T := TX11) (N := 50) (ci := 10) (v := .ref (R 3)) X in_X11_valueAt_X11 0 rfl rfl 3 (by decide) (List.mem_of_getElem? (i := 2) rfl) rfl rfl dX11_valueAt_43 ?_
    refine V_iload_n X 2 rfl dX11_valueAt_46 ?_
    refine V_callS (wr := [(m, .inr (10, mF R v0 v7 v8 v9 v15 v16 v17 v18 v19 v27 v31 v32 v33 v34 v38 v42 v44)), ((R 2), .inl (Y 0, 36, .inl a2)), ((R 3), .inl (Y 0, 36, .inl a3)), ((R 4), .inl (Y 0, 36, .inl a4)), ((R 6), .inl (Y 0, 4, .inl a6))]) (st := [.ref (R 3)]) X (c_X11_spotAt l D Y s0 y ln (by omega) (by omega) hs0 hln) 1 gX11_valueAt_X11_spotAt rfl (by decide +kernel) ⟨rfl, rfl⟩ ⟨Nat.le_of_ble_eq_true rfl, Nat.le_of_ble_eq_true rfl⟩ [] [0, 1, 2, 3, 4] rfl rfl rfl rfl (by decide) rfl rfl (Nat.le_of_ble_eq_true rfl) ⟨Nat.le_of_ble_eq_true rfl, Nat.le_of_ble_eq_true rfl⟩ dX11_valueAt_47 (fun v_47 w_47 h_47 => ?_)
    obtain ⟨r_5, rfl, rfl, htr_6⟩ := h_47
    refine V_to (pc' := 50) (ls' := [(0, .ref m), (1, .int w_), (2, .int y)]) (st' := [.int r_5, .ref (R 3)]) (ws' := [(m, .inr (10, mF R v0 v7 v8 v9 v15 v16 v17 v18 v19 v27 v31 v32 v33 v34 v38 v42 v44)), ((R 2), .inl (Y 0, 36, .inl a2)), ((R 3), .inl (Y 0, 36, .inl a3)), ((R 4), .inl (Y 0, 36, .inl a4)), ((R 6), .inl (Y 0, 4, .inl a6))]) ?_ rfl rfl rfl rfl
    refine V_iald X 2 (12 * s0 + ln) rfl htr_6 (by omega) dX11_valueAt_50 ?_
    exact V_iret X hr dX11_valueAt_51 (Or.inl ⟨(a3 (12 * s0 + ln)), 1, rfl, rfl, (by omega), (by omega), (by omega), hmt.2.1.1⟩)
  · refine V_tableIn X 52 2 dX11_valueAt_1 (by omega) (by decide) rfl (by decide) ?_
    have hmt := hMT s0 hs0 ln (by omega)
    refine V_aload_n X 0 rfl dX11_valueAt_52 ?_
    refine V_get (C := RX11) (T := TX11) (N := 50) (ci := 10) (v := .ref (R 4)) X in_X11_valueAt_X11 0 rfl rfl 4 (by decide) (List.mem_of_getElem? (i := 3) rfl) rfl rfl dX11_valueAt_53 ?_
    refine V_iload_n X 2 rfl dX11_valueAt_56 ?_
    refine V_callS (wr := [(m, .inr (10, mF R v0 v7 v8 v9 v15 v16 v17 v18 v19 v27 v31 v32 v33 v34 v38 v42 v44)), ((R 2), .inl (Y 0, 36, .inl a2)), ((R 3), .inl (Y 0, 36, .inl a3)), ((R 4), .inl (Y 0, 36, .inl a4)), ((R 6), .inl (Y 0, 4, .inl a6))]) (st := [.ref (R 4)]) X (c_X11_spotAt l D Y s0 y ln (by omega) (by omega) hs0 hln) 1 gX11_valueAt_X11_spotAt rfl (by decide +kernel) ⟨rfl, rfl⟩ ⟨Nat.le_of_ble_eq_true rfl, Nat.le_of_ble_eq_true rfl⟩ [] [0, 1, 2, 3, 4] rfl rfl rfl rfl (by decide) rfl rfl (Nat.le_of_ble_eq_true rfl) ⟨Nat.le_of_ble_eq_true rfl, Nat.le_of_ble_eq_true rfl⟩ dX11_valueAt_57 (fun v_57 w_57 h_57 => ?_)
    obtain ⟨r_8, rfl, rfl, htr_9⟩ := h_57
    refine V_to (pc' := 60) (ls' := [(0, .ref m), (1, .int w_), (2, .int y)]) (st' := [.int r_8, .ref (R 4)]) (ws' := [(m, .inr (10, mF R v0 v7 v8 v9 v15 v16 v17 v18 v19 v27 v31 v32 v33 v34 v38 v42 v44)), ((R 2), .inl (Y 0, 36, .inl a2)), ((R 3), .inl (Y 0, 36, .inl a3)), ((R 4), .inl (Y 0, 36, .inl a4)), ((R 6), .inl (Y 0, 4, .inl a6))]) ?_ rfl rfl rfl rfl
    refine V_iald X 3 (12 * s0 + ln) rfl htr_9 (by omega) dX11_valueAt_60 ?_
    exact V_iret X hr dX11_valueAt_61 (Or.inl ⟨(a4 (12 * s0 + ln)), 2, rfl, rfl, (by omega), (by omega), (by omega), hmt.2.2.1⟩)
  · refine V_tableIn X 62 3 dX11_valueAt_1 (by omega) (by decide) rfl (by decide) ?_
    obtain ⟨yn, tyn⟩ : ∃ yn : Nat, y.toInt = ((yn : Nat) : Int) := ⟨y.toInt.toNat, by omega⟩
    · refine V_aload_n X 0 rfl dX11_valueAt_62 ?_
      refine V_get (C := RX11) (T := TX11) (N := 50) (ci := 10) (v := .ref (R 6)) X in_X11_valueAt_X11 0 rfl rfl 6 (by decide) (List.mem_of_getElem? (i := 4) rfl) rfl rfl dX11_valueAt_63 ?_
      refine V_iload_n X 2 rfl dX11_valueAt_66 ?_
      refine V_iald X 4 yn rfl tyn (by omega) dX11_valueAt_67 ?_
      exact V_iret X hr dX11_valueAt_68 (Or.inr (Or.inl ⟨(a6 yn), yn, rfl, rfl, c_1, tyn, (by omega), (hSU yn (by omega)).1⟩))
  · refine V_tableOut X 69 dX11_valueAt_1 (by omega) (by decide) ?_
    refine V_aload_n X 0 rfl dX11_valueAt_69 ?_
    refine V_get (C := RX11) (T := TX11) (N := 50) (ci := 10) (v := .int v7) X in_X11_valueAt_X11 0 rfl rfl 7 (by decide) (List.mem_of_getElem? (i := 5) rfl) rfl rfl dX11_valueAt_70 ?_
    exact V_iret X hr dX11_valueAt_73 (Or.inr (Or.inr (⟨rfl, rfl, (by omega)⟩)))

theorem in_X11_lays_X11 : ∀ w ∈ wsX110, w ∈ wsX11_lays := fun w h => List.mem_cons_of_mem _ (List.mem_append_right _ h)
set_option maxHeartbeats 4000000 in
set_option maxRecDepth 100000 in
theorem c_X11_lays (l : Launch) (D : va_G) (Y : Nat → ClassId) (m : Nat) (R : Nat → Nat) (v0 : Int32) (v7 : Int32) (v8 : Int32) (v9 : Int32) (v15 : Int32) (v16 : Int32) (v17 : Int32) (v18 : Int32) (v19 : Int32) (v27 : Int32) (v31 : Int32) (v32 : Int32) (v33 : Int32) (v34 : Int32) (v38 : Int32) (v42 : Int32) (v44 : Int32) (a2 : Nat → Int32) (a3 : Nat → Int32) (a4 : Nat → Int32) (a6 : Nat → Int32) (n : Nat → Nat) (s0 : Nat) (y : Int32) (ln : Nat) (w_ : Int32) (v : Int32) (hs0 : s0 < 3) (hln : 0 ≤ y.toInt → y.toInt % 100 = ((ln : Nat) : Int)) (hn12 : n s0 ≤ 12) (hm : ((0 ≤ w_.toInt ∧ w_.toInt < 3 ∧ (0 ≤ y.toInt ∧ y.toInt / 100 = ((s0 : Nat) : Int) ∧ ln < n s0)) ∨ (w_.toInt = 3 ∧ 0 ≤ y.toInt ∧ y.toInt < 4) ∨ (w_.toInt = 4 ∧ y.toInt = 0))) : Mg l yX11_lays wsX11_lays ({ frames := 1, cells := 0, slots := 0, locals := 20 }) D Y [(m, .inr (10, mF R v0 v7 v8 v9 v15 v16 v17 v18 v19 v27 v31 v32 v33 v34 v38 v42 v44)), ((R 2), .inl (Y 0, 36, .inl a2)), ((R 3), .inl (Y 0, 36, .inl a3)), ((R 4), .inl (Y 0, 36, .inl a4)), ((R 6), .inl (Y 0, 4, .inl a6))] [.ref m, .int w_, .int y, .int v] 0 0 (fun vv__ ww__ => (vv__ = none ∧ ww__ = [(m, .inr (10, mF R v0 v7 v8 v9 v15 v16 v17 v18 v19 v27 v31 v32 v33 v34 v38 v42 v44)), ((R 2), .inl (Y 0, 36, .inl (upd a2 (12 * s0 + ln) v))), ((R 3), .inl (Y 0, 36, .inl a3)), ((R 4), .inl (Y 0, 36, .inl a4)), ((R 6), .inl (Y 0, 4, .inl a6))] ∧ (w_.toInt = 0) ∧ (0 ≤ y.toInt ∧ y.toInt / 100 = ((s0 : Nat) : Int) ∧ ln < n s0)) ∨ (vv__ = none ∧ ww__ = [(m, .inr (10, mF R v0 v7 v8 v9 v15 v16 v17 v18 v19 v27 v31 v32 v33 v34 v38 v42 v44)), ((R 2), .inl (Y 0, 36, .inl a2)), ((R 3), .inl (Y 0, 36, .inl (upd a3 (12 * s0 + ln) v))), ((R 4), .inl (Y 0, 36, .inl a4)), ((R 6), .inl (Y 0, 4, .inl a6))] ∧ (w_.toInt = 1) ∧ (0 ≤ y.toInt ∧ y.toInt / 100 = ((s0 : Nat) : Int) ∧ ln < n s0)) ∨ (vv__ = none ∧ ww__ = [(m, .inr (10, mF R v0 v7 v8 v9 v15 v16 v17 v18 v19 v27 v31 v32 v33 v34 v38 v42 v44)), ((R 2), .inl (Y 0, 36, .inl a2)), ((R 3), .inl (Y 0, 36, .inl a3)), ((R 4), .inl (Y 0, 36, .inl (upd a4 (12 * s0 + ln) v))), ((R 6), .inl (Y 0, 4, .inl a6))] ∧ (w_.toInt = 2) ∧ (0 ≤ y.toInt ∧ y.toInt / 100 = ((s0 : Nat) : Int) ∧ ln < n s0)) ∨ (∃ (yn : Nat), vv__ = none ∧ ww__ = [(m, .inr (10, mF R v0 v7 v8 v9 v15 v16 v17 v18 v19 v27 v31 v32 v33 v34 v38 v42 v44)), ((R 2), .inl (Y 0, 36, .inl a2)), ((R 3), .inl (Y 0, 36, .inl a3)), ((R 4), .inl (Y 0, 36, .inl a4)), ((R 6), .inl (Y 0, 4, .inl (upd a6 yn v)))] ∧ (w_.toInt = 3) ∧ (y.toInt = ((yn : Nat) : Int)) ∧ (yn < 4)) ∨ (vv__ = none ∧ ww__ = [(m, .inr (10, mF R v0 v v8 v9 v15 v16 v17 v18 v19 v27 v31 v32 v33 v34 v38 v42 v44)), ((R 2), .inl (Y 0, 36, .inl a2)), ((R 3), .inl (Y 0, 36, .inl a3)), ((R 4), .inl (Y 0, 36, .inl a4)), ((R 6), .inl (Y 0, 4, .inl a6))] ∧ (w_.toInt = 4))) := by
  refine Mg_of (cc := cX11_lays) (maxL := 4) (ret := none) (ls0 := [(0, .ref m), (1, .int w_), (2, .int y), (3, .int v)]) RX11 (by decide) rfl rfl rfl (Nat.le_of_ble_eq_true rfl) (fun p__ e__ s__ m__ b__ t__ c__ X hr hn => ?_)
  refine V_iload_n X 1 rfl dX11_lays_0 ?_
  have t_1 : w_.toInt = w_.toInt := rfl
  rcases (by omega : w_.toInt = 0 ∨ w_.toInt = 1 ∨ w_.toInt = 2 ∨ w_.toInt = 3 ∨ (w_.toInt < 0 ∨ 3 < w_.toInt)) with c_1 | c_1 | c_1 | c_1 | c_1
  · refine V_tableIn X 32 0 dX11_lays_1 (by omega) (by decide) rfl (by decide) ?_
    refine V_aload_n X 0 rfl dX11_lays_32 ?_
    refine V_get (C := RX11) (T := TX11) (N := 50) (ci := 10) (v := .ref (R 2)) X in_X11_lays_X11 0 rfl rfl 2 (by decide) (List.mem_of_getElem? (i := 1) rfl) rfl rfl dX11_lays_33 ?_
    refine V_iload_n X 2 rfl dX11_lays_36 ?_
    refine V_callS (wr := [(m, .inr (10, mF R v0 v7 v8 v9 v15 v16 v17 v18 v19 v27 v31 v32 v33 v34 v38 v42 v44)), ((R 2), .inl (Y 0, 36, .inl a2)), ((R 3), .inl (Y 0, 36, .inl a3)), ((R 4), .inl (Y 0, 36, .inl a4)), ((R 6), .inl (Y 0, 4, .inl a6))]) (st := [.ref (R 2)]) X (c_X11_spotAt l D Y s0 y ln (by omega) (by omega) hs0 hln) 1 gX11_lays_X11_spotAt rfl (by decide +kernel) ⟨rfl, rfl⟩ ⟨Nat.le_of_ble_eq_true rfl, Nat.le_of_ble_eq_true rfl⟩ [] [0, 1, 2, 3, 4] rfl rfl rfl rfl (by decide) rfl rfl (Nat.le_of_ble_eq_true rfl) ⟨Nat.le_of_ble_eq_true rfl, Nat.le_of_ble_eq_true rfl⟩ dX11_lays_37 (fun v_37 w_37 h_37 => ?_)
    obtain ⟨r_2, rfl, rfl, htr_3⟩ := h_37
    refine V_to (pc' := 40) (ls' := [(0, .ref m), (1, .int w_), (2, .int y), (3, .int v)]) (st' := [.int r_2, .ref (R 2)]) (ws' := [(m, .inr (10, mF R v0 v7 v8 v9 v15 v16 v17 v18 v19 v27 v31 v32 v33 v34 v38 v42 v44)), ((R 2), .inl (Y 0, 36, .inl a2)), ((R 3), .inl (Y 0, 36, .inl a3)), ((R 4), .inl (Y 0, 36, .inl a4)), ((R 6), .inl (Y 0, 4, .inl a6))]) ?_ rfl rfl rfl rfl
    refine V_iload_n X 3 rfl dX11_lays_40 ?_
    refine V_iast (ws' := [(m, .inr (10, mF R v0 v7 v8 v9 v15 v16 v17 v18 v19 v27 v31 v32 v33 v34 v38 v42 v44)), ((R 2), .inl (Y 0, 36, .inl (upd a2 (12 * s0 + ln) v))), ((R 3), .inl (Y 0, 36, .inl a3)), ((R 4), .inl (Y 0, 36, .inl a4)), ((R 6), .inl (Y 0, 4, .inl a6))]) X 1 (12 * s0 + ln) rfl htr_3 (by omega) rfl dX11_lays_41 ?_
    refine V_goto X 86 (by decide) dX11_lays_42 ?_
    exact V_vret X hr dX11_lays_86 (Or.inl ⟨rfl, rfl, c_1, (by omega)⟩)
  · refine V_tableIn X 45 1 dX11_lays_1 (by omega) (by decide) rfl (by decide) ?_
    refine V_aload_n X 0 rfl dX11_lays_45 ?_
    refine V_get (C := RX11) (T := TX11) (N := 50) (ci := 10) (v := .ref (R 3)) X in_X11_lays_X11 0 rfl rfl 3 (by decide) (List.mem_of_getElem? (i := 2) rfl) rfl rfl dX11_lays_46 ?_
    refine V_iload_n X 2 rfl dX11_lays_49 ?_
    refine V_callS (wr := [(m, .inr (10, mF R v0 v7 v8 v9 v15 v16 v17 v18 v19 v27 v31 v32 v33 v34 v38 v42 v44)), ((R 2), .inl (Y 0, 36, .inl a2)), ((R 3), .inl (Y 0, 36, .inl a3)), ((R 4), .inl (Y 0, 36, .inl a4)), ((R 6), .inl (Y 0, 4, .inl a6))]) (st := [.ref (R 3)]) X (c_X11_spotAt l D Y s0 y ln (by omega) (by omega) hs0 hln) 1 gX11_lays_X11_spotAt rfl (by decide +kernel) ⟨rfl, rfl⟩ ⟨Nat.le_of_ble_eq_true rfl, Nat.le_of_ble_eq_true rfl⟩ [] [0, 1, 2, 3, 4] rfl rfl rfl rfl (by decide) rfl rfl (Nat.le_of_ble_eq_true rfl) ⟨Nat.le_of_ble_eq_true rfl, Nat.le_of_ble_eq_true rfl⟩ dX11_lays_50 (fun v_50 w_50 h_50 => ?_)
    obtain ⟨r_5, rfl, rfl, htr_6⟩ := h_50
    refine V_to (pc' := 53) (ls' := [(0, .ref m), (1, .int w_), (2, .int y), (3, .int v)]) (st' := [.int r_5, .ref (R 3)]) (ws' := [(m, .inr (10, mF R v0 v7 v8 v9 v15 v16 v17 v18 v19 v27 v31 v32 v33 v34 v38 v42 v44)), ((R 2), .inl (Y 0, 36, .inl a2)), ((R 3), .inl (Y 0, 36, .inl a3)), ((R 4), .inl (Y 0, 36, .inl a4)), ((R 6), .inl (Y 0, 4, .inl a6))]) ?_ rfl rfl rfl rfl
    refine V_iload_n X 3 rfl dX11_lays_53 ?_
    refine V_iast (ws' := [(m, .inr (10, mF R v0 v7 v8 v9 v15 v16 v17 v18 v19 v27 v31 v32 v33 v34 v38 v42 v44)), ((R 2), .inl (Y 0, 36, .inl a2)), ((R 3), .inl (Y 0, 36, .inl (upd a3 (12 * s0 + ln) v))), ((R 4), .inl (Y 0, 36, .inl a4)), ((R 6), .inl (Y 0, 4, .inl a6))]) X 2 (12 * s0 + ln) rfl htr_6 (by omega) rfl dX11_lays_54 ?_
    refine V_goto X 86 (by decide) dX11_lays_55 ?_
    exact V_vret X hr dX11_lays_86 (Or.inr (Or.inl ⟨rfl, rfl, c_1, (by omega)⟩))
  · refine V_tableIn X 58 2 dX11_lays_1 (by omega) (by decide) rfl (by decide) ?_
    refine V_aload_n X 0 rfl dX11_lays_58 ?_
    refine V_get (C := RX11) (T := TX11) (N := 50) (ci := 10) (v := .ref (R 4)) X in_X11_lays_X11 0 rfl rfl 4 (by decide) (List.mem_of_getElem? (i := 3) rfl) rfl rfl dX11_lays_59 ?_
    refine V_iload_n X 2 rfl dX11_lays_62 ?_
    refine V_callS (wr := [(m, .inr (10, mF R v0 v7 v8 v9 v15 v16 v17 v18 v19 v27 v31 v32 v33 v34 v38 v42 v44)), ((R 2), .inl (Y 0, 36, .inl a2)), ((R 3), .inl (Y 0, 36, .inl a3)), ((R 4), .inl (Y 0, 36, .inl a4)), ((R 6), .inl (Y 0, 4, .inl a6))]) (st := [.ref (R 4)]) X (c_X11_spotAt l D Y s0 y ln (by omega) (by omega) hs0 hln) 1 gX11_lays_X11_spotAt rfl (by decide +kernel) ⟨rfl, rfl⟩ ⟨Nat.le_of_ble_eq_true rfl, Nat.le_of_ble_eq_true rfl⟩ [] [0, 1, 2, 3, 4] rfl rfl rfl rfl (by decide) rfl rfl (Nat.le_of_ble_eq_true rfl) ⟨Nat.le_of_ble_eq_true rfl, Nat.le_of_ble_eq_true rfl⟩ dX11_lays_63 (fun v_63 w_63 h_63 => ?_)
    obtain ⟨r_8, rfl, rfl, htr_9⟩ := h_63
    refine V_to (pc' := 66) (ls' := [(0, .ref m), (1, .int w_), (2, .int y), (3, .int v)]) (st' := [.int r_8, .ref (R 4)]) (ws' := [(m, .inr (10, mF R v0 v7 v8 v9 v15 v16 v17 v18 v19 v27 v31 v32 v33 v34 v38 v42 v44)), ((R 2), .inl (Y 0, 36, .inl a2)), ((R 3), .inl (Y 0, 36, .inl a3)), ((R 4), .inl (Y 0, 36, .inl a4)), ((R 6), .inl (Y 0, 4, .inl a6))]) ?_ rfl rfl rfl rfl
    refine V_iload_n X 3 rfl dX11_lays_66 ?_
    refine V_iast (ws' := [(m, .inr (10, mF R v0 v7 v8 v9 v15 v16 v17 v18 v19 v27 v31 v32 v33 v34 v38 v42 v44)), ((R 2), .inl (Y 0, 36, .inl a2)), ((R 3), .inl (Y 0, 36, .inl a3)), ((R 4), .inl (Y 0, 36, .inl (upd a4 (12 * s0 + ln) v))), ((R 6), .inl (Y 0, 4, .inl a6))]) X 3 (12 * s0 + ln) rfl htr_9 (by omega) rfl dX11_lays_67 ?_
    refine V_goto X 86 (by decide) dX11_lays_68 ?_
    exact V_vret X hr dX11_lays_86 (Or.inr (Or.inr (Or.inl ⟨rfl, rfl, c_1, (by omega)⟩)))
  · refine V_tableIn X 71 3 dX11_lays_1 (by omega) (by decide) rfl (by decide) ?_
    obtain ⟨yn, tyn⟩ : ∃ yn : Nat, y.toInt = ((yn : Nat) : Int) := ⟨y.toInt.toNat, by omega⟩
    · refine V_aload_n X 0 rfl dX11_lays_71 ?_
      refine V_get (C := RX11) (T := TX11) (N := 50) (ci := 10) (v := .ref (R 6)) X in_X11_lays_X11 0 rfl rfl 6 (by decide) (List.mem_of_getElem? (i := 4) rfl) rfl rfl dX11_lays_72 ?_
      refine V_iload_n X 2 rfl dX11_lays_75 ?_
      refine V_iload_n X 3 rfl dX11_lays_76 ?_
      refine V_iast (ws' := [(m, .inr (10, mF R v0 v7 v8 v9 v15 v16 v17 v18 v19 v27 v31 v32 v33 v34 v38 v42 v44)), ((R 2), .inl (Y 0, 36, .inl a2)), ((R 3), .inl (Y 0, 36, .inl a3)), ((R 4), .inl (Y 0, 36, .inl a4)), ((R 6), .inl (Y 0, 4, .inl (upd a6 yn v)))]) X 4 yn rfl tyn (by omega) rfl dX11_lays_77 ?_
      refine V_goto X 86 (by decide) dX11_lays_78 ?_
      exact V_vret X hr dX11_lays_86 (Or.inr (Or.inr (Or.inr (Or.inl ⟨yn, rfl, rfl, c_1, tyn, (by omega)⟩))))
  · refine V_tableOut X 81 dX11_lays_1 (by omega) (by decide) ?_
    refine V_aload_n X 0 rfl dX11_lays_81 ?_
    refine V_iload_n X 3 rfl dX11_lays_82 ?_
    refine V_put (C := RX11) (T := TX11) (N := 50) (ci := 10) (v := .int v) (ty := tyX11 7) (ws' := [(m, .inr (10, mF R v0 v v8 v9 v15 v16 v17 v18 v19 v27 v31 v32 v33 v34 v38 v42 v44)), ((R 2), .inl (Y 0, 36, .inl a2)), ((R 3), .inl (Y 0, 36, .inl a3)), ((R 4), .inl (Y 0, 36, .inl a4)), ((R 6), .inl (Y 0, 4, .inl a6))]) X in_X11_lays_X11 0 rfl rfl 7 (by decide) (List.mem_of_getElem? (i := 5) rfl) rfl tyX11 tyX11_ok nmX11 rfl (tyX11_ok 7 (by decide)) rfl rfl (Nat.le_of_ble_eq_true rfl) rfl dX11_lays_83 ?_
    exact V_vret X hr dX11_lays_86 (Or.inr (Or.inr (Or.inr (Or.inr (⟨rfl, rfl, (by omega)⟩)))))

theorem in_X11_changes_X11 : ∀ w ∈ wsX110, w ∈ wsX11_changes := fun w h => List.mem_cons_of_mem _ (List.mem_append_right _ h)
set_option maxHeartbeats 4000000 in
set_option maxRecDepth 100000 in
theorem c_X11_changes (l : Launch) (D : va_G) (Y : Nat → ClassId) (m : Nat) (R : Nat → Nat) (v0 : Int32) (v7 : Int32) (v8 : Int32) (v9 : Int32) (v15 : Int32) (v16 : Int32) (v17 : Int32) (v18 : Int32) (v19 : Int32) (v27 : Int32) (v31 : Int32) (v32 : Int32) (v33 : Int32) (v34 : Int32) (v38 : Int32) (v42 : Int32) (v44 : Int32) (a2 : Nat → Int32) (a3 : Nat → Int32) (a4 : Nat → Int32) (a6 : Nat → Int32) (n : Nat → Nat) (T : Nat → Nat → Nat) (S : Nat → Nat) (s0 : Nat) (y : Int32) (ln : Nat) (w_ : Int32) (v : Int32) (a10 : Nat → Int32) (a11 : Nat → Int32) (a12 : Nat → Int32) (a13 : Nat → Int32) (d_ : Nat) (u_ : Nat) (hMT : MTR a2 a3 a4 T) (hSU : SUR a6 S) (hs0 : s0 < 3) (hln : 0 ≤ y.toInt → y.toInt % 100 = ((ln : Nat) : Int)) (hn12 : n s0 ≤ 12) (hm : ((0 ≤ w_.toInt ∧ w_.toInt < 3 ∧ (0 ≤ y.toInt ∧ y.toInt / 100 = ((s0 : Nat) : Int) ∧ ln < n s0)) ∨ (w_.toInt = 3 ∧ 0 ≤ y.toInt ∧ y.toInt < 4) ∨ (w_.toInt = 4 ∧ y.toInt = 0))) (tv8 : v8.toInt = ((d_ : Nat) : Int)) (tv9 : v9.toInt = ((u_ : Nat) : Int)) (hdu : d_ + u_ ≤ 40) : Mg l yX11_changes wsX11_changes ({ frames := 2, cells := 0, slots := 0, locals := 43 }) D Y [(m, .inr (10, mF R v0 v7 v8 v9 v15 v16 v17 v18 v19 v27 v31 v32 v33 v34 v38 v42 v44)), ((R 2), .inl (Y 0, 36, .inl a2)), ((R 3), .inl (Y 0, 36, .inl a3)), ((R 4), .inl (Y 0, 36, .inl a4)), ((R 6), .inl (Y 0, 4, .inl a6)), ((R 10), .inl (Y 0, 40, .inl a10)), ((R 11), .inl (Y 0, 40, .inl a11)), ((R 12), .inl (Y 0, 40, .inl a12)), ((R 13), .inl (Y 0, 40, .inl a13))] [.ref m, .int w_, .int y, .int v] 0 0 (fun vv__ ww__ => (∃ (r : Int32), ∃ (w : Nat), vv__ = some (.int r) ∧ ww__ = [(m, .inr (10, mF R v0 v7 v8 v9 v15 v16 v17 v18 v19 v27 v31 v32 v33 v34 v38 v42 v44)), ((R 2), .inl (Y 0, 36, .inl a2)), ((R 3), .inl (Y 0, 36, .inl a3)), ((R 4), .inl (Y 0, 36, .inl a4)), ((R 6), .inl (Y 0, 4, .inl a6)), ((R 10), .inl (Y 0, 40, .inl a10)), ((R 11), .inl (Y 0, 40, .inl a11)), ((R 12), .inl (Y 0, 40, .inl a12)), ((R 13), .inl (Y 0, 40, .inl a13))] ∧ (w_.toInt = ((w : Nat) : Int)) ∧ (w < 3) ∧ (0 ≤ y.toInt ∧ y.toInt / 100 = ((s0 : Nat) : Int) ∧ ln < n s0) ∧ (r.toInt = ((T s0 (3 * ln + w) : Nat) : Int)) ∧ (v.toInt = ((T s0 (3 * ln + w) : Nat) : Int))) ∨ (∃ (r : Int32), ∃ (yn : Nat), vv__ = some (.int r) ∧ ww__ = [(m, .inr (10, mF R v0 v7 v8 v9 v15 v16 v17 v18 v19 v27 v31 v32 v33 v34 v38 v42 v44)), ((R 2), .inl (Y 0, 36, .inl a2)), ((R 3), .inl (Y 0, 36, .inl a3)), ((R 4), .inl (Y 0, 36, .inl a4)), ((R 6), .inl (Y 0, 4, .inl a6)), ((R 10), .inl (Y 0, 40, .inl a10)), ((R 11), .inl (Y 0, 40, .inl a11)), ((R 12), .inl (Y 0, 40, .inl a12)), ((R 13), .inl (Y 0, 40, .inl a13))] ∧ (w_.toInt = 3) ∧ (y.toInt = ((yn : Nat) : Int)) ∧ (yn < 4) ∧ (r.toInt = ((S yn : Nat) : Int)) ∧ (v.toInt = ((S yn : Nat) : Int))) ∨ (vv__ = some (.int v7) ∧ ww__ = [(m, .inr (10, mF R v0 v7 v8 v9 v15 v16 v17 v18 v19 v27 v31 v32 v33 v34 v38 v42 v44)), ((R 2), .inl (Y 0, 36, .inl a2)), ((R 3), .inl (Y 0, 36, .inl a3)), ((R 4), .inl (Y 0, 36, .inl a4)), ((R 6), .inl (Y 0, 4, .inl a6)), ((R 10), .inl (Y 0, 40, .inl a10)), ((R 11), .inl (Y 0, 40, .inl a11)), ((R 12), .inl (Y 0, 40, .inl a12)), ((R 13), .inl (Y 0, 40, .inl a13))] ∧ (w_.toInt = 4) ∧ (v.toInt = v7.toInt)) ∨ (∃ (r : Int32), ∃ (g10 : Nat → Int32), ∃ (g11 : Nat → Int32), ∃ (g12 : Nat → Int32), ∃ (g13 : Nat → Int32), ∃ (z8 : Int32), vv__ = some (.int r) ∧ ww__ = [(m, .inr (10, mF R v0 v7 z8 (0 : Int32) v15 v16 v17 v18 v19 v27 v31 v32 v33 v34 v38 v42 v44)), ((R 2), .inl (Y 0, 36, .inl (upd a2 (12 * s0 + ln) v))), ((R 3), .inl (Y 0, 36, .inl a3)), ((R 4), .inl (Y 0, 36, .inl a4)), ((R 6), .inl (Y 0, 4, .inl a6)), ((R 10), .inl (Y 0, 40, .inl g10)), ((R 11), .inl (Y 0, 40, .inl g11)), ((R 12), .inl (Y 0, 40, .inl g12)), ((R 13), .inl (Y 0, 40, .inl g13))] ∧ (w_.toInt = ((0 : Nat) : Int)) ∧ (0 < 3) ∧ (0 ≤ y.toInt ∧ y.toInt / 100 = ((s0 : Nat) : Int) ∧ ln < n s0) ∧ (r.toInt = ((T s0 (3 * ln + 0) : Nat) : Int)) ∧ (z8.toInt = ((chD d_ : Nat) : Int)) ∧ (∀ j, j < chD d_ → g10 j = chg d_ a10 w_ j) ∧ (∀ j, j < chD d_ → g11 j = chg d_ a11 y j) ∧ (∀ j, j < chD d_ → g12 j = chg d_ a12 r j) ∧ (∀ j, j < chD d_ → g13 j = chg d_ a13 v j) ∧ (v.toInt ≠ ((T s0 (3 * ln + 0) : Nat) : Int))) ∨ (∃ (r : Int32), ∃ (g10 : Nat → Int32), ∃ (g11 : Nat → Int32), ∃ (g12 : Nat → Int32), ∃ (g13 : Nat → Int32), ∃ (z8 : Int32), vv__ = some (.int r) ∧ ww__ = [(m, .inr (10, mF R v0 v7 z8 (0 : Int32) v15 v16 v17 v18 v19 v27 v31 v32 v33 v34 v38 v42 v44)), ((R 2), .inl (Y 0, 36, .inl a2)), ((R 3), .inl (Y 0, 36, .inl (upd a3 (12 * s0 + ln) v))), ((R 4), .inl (Y 0, 36, .inl a4)), ((R 6), .inl (Y 0, 4, .inl a6)), ((R 10), .inl (Y 0, 40, .inl g10)), ((R 11), .inl (Y 0, 40, .inl g11)), ((R 12), .inl (Y 0, 40, .inl g12)), ((R 13), .inl (Y 0, 40, .inl g13))] ∧ (w_.toInt = ((1 : Nat) : Int)) ∧ (1 < 3) ∧ (0 ≤ y.toInt ∧ y.toInt / 100 = ((s0 : Nat) : Int) ∧ ln < n s0) ∧ (r.toInt = ((T s0 (3 * ln + 1) : Nat) : Int)) ∧ (z8.toInt = ((chD d_ : Nat) : Int)) ∧ (∀ j, j < chD d_ → g10 j = chg d_ a10 w_ j) ∧ (∀ j, j < chD d_ → g11 j = chg d_ a11 y j) ∧ (∀ j, j < chD d_ → g12 j = chg d_ a12 r j) ∧ (∀ j, j < chD d_ → g13 j = chg d_ a13 v j) ∧ (v.toInt ≠ ((T s0 (3 * ln + 1) : Nat) : Int))) ∨ (∃ (r : Int32), ∃ (g10 : Nat → Int32), ∃ (g11 : Nat → Int32), ∃ (g12 : Nat → Int32), ∃ (g13 : Nat → Int32), ∃ (z8 : Int32), vv__ = some (.int r) ∧ ww__ = [(m, .inr (10, mF R v0 v7 z8 (0 : Int32) v15 v16 v17 v18 v19 v27 v31 v32 v33 v34 v38 v42 v44)), ((R 2), .inl (Y 0, 36, .inl a2)), ((R 3), .inl (Y 0, 36, .inl a3)), ((R 4), .inl (Y 0, 36, .inl (upd a4 (12 * s0 + ln) v))), ((R 6), .inl (Y 0, 4, .inl a6)), ((R 10), .inl (Y 0, 40, .inl g10)), ((R 11), .inl (Y 0, 40, .inl g11)), ((R 12), .inl (Y 0, 40, .inl g12)), ((R 13), .inl (Y 0, 40, .inl g13))] ∧ (w_.toInt = ((2 : Nat) : Int)) ∧ (2 < 3) ∧ (0 ≤ y.toInt ∧ y.toInt / 100 = ((s0 : Nat) : Int) ∧ ln < n s0) ∧ (r.toInt = ((T s0 (3 * ln + 2) : Nat) : Int)) ∧ (z8.toInt = ((chD d_ : Nat) : Int)) ∧ (∀ j, j < chD d_ → g10 j = chg d_ a10 w_ j) ∧ (∀ j, j < chD d_ → g11 j = chg d_ a11 y j) ∧ (∀ j, j < chD d_ → g12 j = chg d_ a12 r j) ∧ (∀ j, j < chD d_ → g13 j = chg d_ a13 v j) ∧ (v.toInt ≠ ((T s0 (3 * ln + 2) : Nat) : Int))) ∨ (∃ (r : Int32), ∃ (yn : Nat), ∃ (g10 : Nat → Int32), ∃ (g11 : Nat → Int32), ∃ (g12 : Nat → Int32), ∃ (g13 : Nat → Int32), ∃ (z8 : Int32), vv__ = some (.int r) ∧ ww__ = [(m, .inr (10, mF R v0 v7 z8 (0 : Int32) v15 v16 v17 v18 v19 v27 v31 v32 v33 v34 v38 v42 v44)), ((R 2), .inl (Y 0, 36, .inl a2)), ((R 3), .inl (Y 0, 36, .inl a3)), ((R 4), .inl (Y 0, 36, .inl a4)), ((R 6), .inl (Y 0, 4, .inl (upd a6 yn v))), ((R 10), .inl (Y 0, 40, .inl g10)), ((R 11), .inl (Y 0, 40, .inl g11)), ((R 12), .inl (Y 0, 40, .inl g12)), ((R 13), .inl (Y 0, 40, .inl g13))] ∧ (w_.toInt = 3) ∧ (y.toInt = ((yn : Nat) : Int)) ∧ (yn < 4) ∧ (r.toInt = ((S yn : Nat) : Int)) ∧ (z8.toInt = ((chD d_ : Nat) : Int)) ∧ (∀ j, j < chD d_ → g10 j = chg d_ a10 w_ j) ∧ (∀ j, j < chD d_ → g11 j = chg d_ a11 y j) ∧ (∀ j, j < chD d_ → g12 j = chg d_ a12 r j) ∧ (∀ j, j < chD d_ → g13 j = chg d_ a13 v j) ∧ (v.toInt ≠ ((S yn : Nat) : Int))) ∨ (∃ (g10 : Nat → Int32), ∃ (g11 : Nat → Int32), ∃ (g12 : Nat → Int32), ∃ (g13 : Nat → Int32), ∃ (z8 : Int32), vv__ = some (.int v7) ∧ ww__ = [(m, .inr (10, mF R v0 v z8 (0 : Int32) v15 v16 v17 v18 v19 v27 v31 v32 v33 v34 v38 v42 v44)), ((R 2), .inl (Y 0, 36, .inl a2)), ((R 3), .inl (Y 0, 36, .inl a3)), ((R 4), .inl (Y 0, 36, .inl a4)), ((R 6), .inl (Y 0, 4, .inl a6)), ((R 10), .inl (Y 0, 40, .inl g10)), ((R 11), .inl (Y 0, 40, .inl g11)), ((R 12), .inl (Y 0, 40, .inl g12)), ((R 13), .inl (Y 0, 40, .inl g13))] ∧ (w_.toInt = 4) ∧ (z8.toInt = ((chD d_ : Nat) : Int)) ∧ (∀ j, j < chD d_ → g10 j = chg d_ a10 w_ j) ∧ (∀ j, j < chD d_ → g11 j = chg d_ a11 y j) ∧ (∀ j, j < chD d_ → g12 j = chg d_ a12 v7 j) ∧ (∀ j, j < chD d_ → g13 j = chg d_ a13 v j) ∧ (v.toInt ≠ v7.toInt))) := by
  refine Mg_of (cc := cX11_changes) (maxL := 6) (ret := (some .int)) (ls0 := [(0, .ref m), (1, .int w_), (2, .int y), (3, .int v)]) RX11 (by decide) rfl rfl rfl (Nat.le_of_ble_eq_true rfl) (fun p__ e__ s__ m__ b__ t__ c__ X hr hn => ?_)
  refine V_aload_n X 0 rfl dX11_changes_0 ?_
  refine V_iload_n X 1 rfl dX11_changes_1 ?_
  refine V_iload_n X 2 rfl dX11_changes_2 ?_
  refine V_callV (C := RX11) (wr := [((R 10), .inl (Y 0, 40, .inl a10)), ((R 11), .inl (Y 0, 40, .inl a11)), ((R 12), .inl (Y 0, 40, .inl a12)), ((R 13), .inl (Y 0, 40, .inl a13))]) (st := []) X (c_X11_valueAt l D Y m R v0 v7 v8 v9 v15 v16 v17 v18 v19 v27 v31 v32 v33 v34 v38 v42 v44 a2 a3 a4 a6 n T S s0 y ln w_ hMT hSU hs0 hln hn12 hm) 2 gX11_changes_X11_valueAt rfl (by decide +kernel) ⟨rfl, rfl⟩ ⟨Nat.le_of_ble_eq_true rfl, Nat.le_of_ble_eq_true rfl⟩ [0, 1, 2, 3, 4] [5, 6, 7, 8] rfl rfl rfl rfl (by decide) (ci := 10) rfl rfl 0 rfl rfl rfl (Nat.le_of_ble_eq_true rfl) ⟨Nat.le_of_ble_eq_true rfl, Nat.le_of_ble_eq_true rfl⟩ dX11_changes_3 (fun v_3 w_3 h_3 => ?_)
  rcases h_3 with ⟨r_2, w0, rfl, rfl, htw_4, hhw_5, hhv_6, htr_7⟩ | ⟨r_8, y0, rfl, rfl, hh3_10, htyn_11, hhy4_12, htr_13⟩ | ⟨rfl, rfl, hh4_14⟩
  · refine V_to (pc' := 6) (ls' := [(0, .ref m), (1, .int w_), (2, .int y), (3, .int v)]) (st' := [.int r_2]) (ws' := [((R 10), .inl (Y 0, 40, .inl a10)), ((R 11), .inl (Y 0, 40, .inl a11)), ((R 12), .inl (Y 0, 40, .inl a12)), ((R 13), .inl (Y 0, 40, .inl a13)), (m, .inr (10, mF R v0 v7 v8 v9 v15 v16 v17 v18 v19 v27 v31 v32 v33 v34 v38 v42 v44)), ((R 2), .inl (Y 0, 36, .inl a2)), ((R 3), .inl (Y 0, 36, .inl a3)), ((R 4), .inl (Y 0, 36, .inl a4)), ((R 6), .inl (Y 0, 4, .inl a6))]) ?_ rfl rfl rfl rfl
    refine V_istore (ls' := [(4, .int r_2), (0, .ref m), (1, .int w_), (2, .int y), (3, .int v)]) X (by decide) rfl dX11_changes_6 ?_
    refine V_iload X 0 rfl dX11_changes_8 ?_
    refine V_iload_n X 4 rfl dX11_changes_10 ?_
    refine V_icmp_ne X htr_7 rfl 17 dX11_changes_11 (by decide) (fun c_11 => ?_) (fun c_11 => ?_)
    · refine V_aload_n X 1 rfl dX11_changes_17 ?_
      refine V_iconst (v := (0 : Int32)) X (by decide) dX11_changes_18 ?_
      refine V_put (C := RX11) (T := TX11) (N := 50) (ci := 10) (v := .int (0 : Int32)) (ty := tyX11 9) (ws' := [((R 10), .inl (Y 0, 40, .inl a10)), ((R 11), .inl (Y 0, 40, .inl a11)), ((R 12), .inl (Y 0, 40, .inl a12)), ((R 13), .inl (Y 0, 40, .inl a13)), (m, .inr (10, mF R v0 v7 v8 (0 : Int32) v15 v16 v17 v18 v19 v27 v31 v32 v33 v34 v38 v42 v44)), ((R 2), .inl (Y 0, 36, .inl a2)), ((R 3), .inl (Y 0, 36, .inl a3)), ((R 4), .inl (Y 0, 36, .inl a4)), ((R 6), .inl (Y 0, 4, .inl a6))]) X in_X11_changes_X11 4 rfl rfl 9 (by decide) (List.mem_of_getElem? (i := 1) rfl) rfl tyX11 tyX11_ok nmX11 rfl (tyX11_ok 9 (by decide)) rfl rfl (Nat.le_of_ble_eq_true rfl) rfl dX11_changes_19 ?_
      refine V_aload_n X 1 rfl dX11_changes_22 ?_
      refine V_get (C := RX11) (T := TX11) (N := 50) (ci := 10) (v := .int v8) X in_X11_changes_X11 4 rfl rfl 8 (by decide) (List.mem_of_getElem? (i := 2) rfl) rfl rfl dX11_changes_23 ?_
      refine V_bipush (v := (40 : Int32)) X (by decide) dX11_changes_26 ?_
      refine V_icmp_ne X tv8 (show (40 : Int32).toInt = 40 from by decide) 121 dX11_changes_28 (by decide) (fun c_28 => ?_) (fun c_28 => ?_)
      · refine V_aload_n X 1 rfl dX11_changes_121 ?_
        refine V_get (C := RX11) (T := TX11) (N := 50) (ci := 10) (v := .ref (R 10)) X in_X11_changes_X11 4 rfl rfl 10 (by decide) (List.mem_of_getElem? (i := 3) rfl) rfl rfl dX11_changes_122 ?_
        refine V_aload_n X 1 rfl dX11_changes_125 ?_
        refine V_get (C := RX11) (T := TX11) (N := 50) (ci := 10) (v := .int v8) X in_X11_changes_X11 4 rfl rfl 8 (by decide) (List.mem_of_getElem? (i := 2) rfl) rfl rfl dX11_changes_126 ?_
        refine V_iload_n X 2 rfl dX11_changes_129 ?_
        refine V_iast (ws' := [((R 10), .inl (Y 0, 40, .inl (upd a10 d_ w_))), ((R 11), .inl (Y 0, 40, .inl a11)), ((R 12), .inl (Y 0, 40, .inl a12)), ((R 13), .inl (Y 0, 40, .inl a13)), (m, .inr (10, mF R v0 v7 v8 (0 : Int32) v15 v16 v17 v18 v19 v27 v31 v32 v33 v34 v38 v42 v44)), ((R 2), .inl (Y 0, 36, .inl a2)), ((R 3), .inl (Y 0, 36, .inl a3)), ((R 4), .inl (Y 0, 36, .inl a4)), ((R 6), .inl (Y 0, 4, .inl a6))]) X 0 d_ rfl tv8 (by omega) rfl dX11_changes_130 ?_
        refine V_aload_n X 1 rfl dX11_changes_131 ?_
        refine V_get (C := RX11) (T := TX11) (N := 50) (ci := 10) (v := .ref (R 11)) X in_X11_changes_X11 4 rfl rfl 11 (by decide) (List.mem_of_getElem? (i := 4) rfl) rfl rfl dX11_changes_132 ?_
        refine V_aload_n X 1 rfl dX11_changes_135 ?_
        refine V_get (C := RX11) (T := TX11) (N := 50) (ci := 10) (v := .int v8) X in_X11_changes_X11 4 rfl rfl 8 (by decide) (List.mem_of_getElem? (i := 2) rfl) rfl rfl dX11_changes_136 ?_
        refine V_iload_n X 3 rfl dX11_changes_139 ?_
        refine V_iast (ws' := [((R 10), .inl (Y 0, 40, .inl (upd a10 d_ w_))), ((R 11), .inl (Y 0, 40, .inl (upd a11 d_ y))), ((R 12), .inl (Y 0, 40, .inl a12)), ((R 13), .inl (Y 0, 40, .inl a13)), (m, .inr (10, mF R v0 v7 v8 (0 : Int32) v15 v16 v17 v18 v19 v27 v31 v32 v33 v34 v38 v42 v44)), ((R 2), .inl (Y 0, 36, .inl a2)), ((R 3), .inl (Y 0, 36, .inl a3)), ((R 4), .inl (Y 0, 36, .inl a4)), ((R 6), .inl (Y 0, 4, .inl a6))]) X 1 d_ rfl tv8 (by omega) rfl dX11_changes_140 ?_
        refine V_aload_n X 1 rfl dX11_changes_141 ?_
        refine V_get (C := RX11) (T := TX11) (N := 50) (ci := 10) (v := .ref (R 12)) X in_X11_changes_X11 4 rfl rfl 12 (by decide) (List.mem_of_getElem? (i := 5) rfl) rfl rfl dX11_changes_142 ?_
        refine V_aload_n X 1 rfl dX11_changes_145 ?_
        refine V_get (C := RX11) (T := TX11) (N := 50) (ci := 10) (v := .int v8) X in_X11_changes_X11 4 rfl rfl 8 (by decide) (List.mem_of_getElem? (i := 2) rfl) rfl rfl dX11_changes_146 ?_
        refine V_iload X 0 rfl dX11_changes_149 ?_
        refine V_iast (ws' := [((R 10), .inl (Y 0, 40, .inl (upd a10 d_ w_))), ((R 11), .inl (Y 0, 40, .inl (upd a11 d_ y))), ((R 12), .inl (Y 0, 40, .inl (upd a12 d_ r_2))), ((R 13), .inl (Y 0, 40, .inl a13)), (m, .inr (10, mF R v0 v7 v8 (0 : Int32) v15 v16 v17 v18 v19 v27 v31 v32 v33 v34 v38 v42 v44)), ((R 2), .inl (Y 0, 36, .inl a2)), ((R 3), .inl (Y 0, 36, .inl a3)), ((R 4), .inl (Y 0, 36, .inl a4)), ((R 6), .inl (Y 0, 4, .inl a6))]) X 2 d_ rfl tv8 (by omega) rfl dX11_changes_151 ?_
        refine V_aload_n X 1 rfl dX11_changes_152 ?_
        refine V_get (C := RX11) (T := TX11) (N := 50) (ci := 10) (v := .ref (R 13)) X in_X11_changes_X11 4 rfl rfl 13 (by decide) (List.mem_of_getElem? (i := 6) rfl) rfl rfl dX11_changes_153 ?_
        refine V_aload_n X 1 rfl dX11_changes_156 ?_
        refine V_get (C := RX11) (T := TX11) (N := 50) (ci := 10) (v := .int v8) X in_X11_changes_X11 4 rfl rfl 8 (by decide) (List.mem_of_getElem? (i := 2) rfl) rfl rfl dX11_changes_157 ?_
        refine V_iload_n X 4 rfl dX11_changes_160 ?_
        refine V_iast (ws' := [((R 10), .inl (Y 0, 40, .inl (upd a10 d_ w_))), ((R 11), .inl (Y 0, 40, .inl (upd a11 d_ y))), ((R 12), .inl (Y 0, 40, .inl (upd a12 d_ r_2))), ((R 13), .inl (Y 0, 40, .inl (upd a13 d_ v))), (m, .inr (10, mF R v0 v7 v8 (0 : Int32) v15 v16 v17 v18 v19 v27 v31 v32 v33 v34 v38 v42 v44)), ((R 2), .inl (Y 0, 36, .inl a2)), ((R 3), .inl (Y 0, 36, .inl a3)), ((R 4), .inl (Y 0, 36, .inl a4)), ((R 6), .inl (Y 0, 4, .inl a6))]) X 3 d_ rfl tv8 (by omega) rfl dX11_changes_161 ?_
        refine V_aload_n X 1 rfl dX11_changes_162 ?_
        refine V_dup X rfl dX11_changes_163 ?_
        refine V_get (C := RX11) (T := TX11) (N := 50) (ci := 10) (v := .int v8) X in_X11_changes_X11 4 rfl rfl 8 (by decide) (List.mem_of_getElem? (i := 2) rfl) rfl rfl dX11_changes_164 ?_
        refine V_iconst (v := (1 : Int32)) X (by decide) dX11_changes_167 ?_
        refine V_iaddZ X tv8 (show (1 : Int32).toInt = 1 from by decide) (by omega) (by omega) dX11_changes_168 (fun x_15 ex_15 tx_15 => ?_)
        have tx_15 : x_15.toInt = (((d_ + 1) : Nat) : Int) := by omega
        refine V_put (C := RX11) (T := TX11) (N := 50) (ci := 10) (v := .int x_15) (ty := tyX11 8) (ws' := [((R 10), .inl (Y 0, 40, .inl (upd a10 d_ w_))), ((R 11), .inl (Y 0, 40, .inl (upd a11 d_ y))), ((R 12), .inl (Y 0, 40, .inl (upd a12 d_ r_2))), ((R 13), .inl (Y 0, 40, .inl (upd a13 d_ v))), (m, .inr (10, mF R v0 v7 x_15 (0 : Int32) v15 v16 v17 v18 v19 v27 v31 v32 v33 v34 v38 v42 v44)), ((R 2), .inl (Y 0, 36, .inl a2)), ((R 3), .inl (Y 0, 36, .inl a3)), ((R 4), .inl (Y 0, 36, .inl a4)), ((R 6), .inl (Y 0, 4, .inl a6))]) X in_X11_changes_X11 4 rfl rfl 8 (by decide) (List.mem_of_getElem? (i := 2) rfl) rfl tyX11 tyX11_ok nmX11 rfl (tyX11_ok 8 (by decide)) rfl rfl (Nat.le_of_ble_eq_true rfl) rfl dX11_changes_169 ?_
        refine V_aload_n X 1 rfl dX11_changes_172 ?_
        refine V_iload_n X 2 rfl dX11_changes_173 ?_
        refine V_iload_n X 3 rfl dX11_changes_174 ?_
        refine V_iload_n X 4 rfl dX11_changes_175 ?_
        refine V_callV (C := RX11) (wr := [((R 10), .inl (Y 0, 40, .inl (upd a10 d_ w_))), ((R 11), .inl (Y 0, 40, .inl (upd a11 d_ y))), ((R 12), .inl (Y 0, 40, .inl (upd a12 d_ r_2))), ((R 13), .inl (Y 0, 40, .inl (upd a13 d_ v)))]) (st := []) X (c_X11_lays l D Y m R v0 v7 x_15 (0 : Int32) v15 v16 v17 v18 v19 v27 v31 v32 v33 v34 v38 v42 v44 a2 a3 a4 a6 n s0 y ln w_ v hs0 hln hn12 hm) 3 gX11_changes_X11_lays rfl (by decide +kernel) ⟨rfl, rfl⟩ ⟨Nat.le_of_ble_eq_true rfl, Nat.le_of_ble_eq_true rfl⟩ [4, 5, 6, 7, 8] [0, 1, 2, 3] rfl rfl rfl rfl (by decide) (ci := 10) rfl rfl 0 rfl rfl rfl (Nat.le_of_ble_eq_true rfl) ⟨Nat.le_of_ble_eq_true rfl, Nat.le_of_ble_eq_true rfl⟩ dX11_changes_176 (fun v_176 w_176 h_176 => ?_)
        rcases h_176 with ⟨rfl, rfl, hh__17, hhv_18⟩ | ⟨rfl, rfl, hh__19, hhv_20⟩ | ⟨rfl, rfl, hh__21, hhv_22⟩ | ⟨y1, rfl, rfl, hh3_24, htyn_25, hhy4_26⟩ | ⟨rfl, rfl, hh4_27⟩
        · refine V_to (pc' := 179) (ls' := [(4, .int r_2), (0, .ref m), (1, .int w_), (2, .int y), (3, .int v)]) (st' := []) (ws' := [((R 10), .inl (Y 0, 40, .inl (upd a10 d_ w_))), ((R 11), .inl (Y 0, 40, .inl (upd a11 d_ y))), ((R 12), .inl (Y 0, 40, .inl (upd a12 d_ r_2))), ((R 13), .inl (Y 0, 40, .inl (upd a13 d_ v))), (m, .inr (10, mF R v0 v7 x_15 (0 : Int32) v15 v16 v17 v18 v19 v27 v31 v32 v33 v34 v38 v42 v44)), ((R 2), .inl (Y 0, 36, .inl (upd a2 (12 * s0 + ln) v))), ((R 3), .inl (Y 0, 36, .inl a3)), ((R 4), .inl (Y 0, 36, .inl a4)), ((R 6), .inl (Y 0, 4, .inl a6))]) ?_ rfl rfl rfl rfl
          obtain rfl : w0 = 0 := by omega
          refine V_iload X 0 rfl dX11_changes_179 ?_
          refine V_ws (ws' := [(m, .inr (10, mF R v0 v7 x_15 (0 : Int32) v15 v16 v17 v18 v19 v27 v31 v32 v33 v34 v38 v42 v44)), ((R 2), .inl (Y 0, 36, .inl (upd a2 (12 * s0 + ln) v))), ((R 3), .inl (Y 0, 36, .inl a3)), ((R 4), .inl (Y 0, 36, .inl a4)), ((R 6), .inl (Y 0, 4, .inl a6)), ((R 10), .inl (Y 0, 40, .inl (upd a10 d_ w_))), ((R 11), .inl (Y 0, 40, .inl (upd a11 d_ y))), ((R 12), .inl (Y 0, 40, .inl (upd a12 d_ r_2))), ((R 13), .inl (Y 0, 40, .inl (upd a13 d_ v)))]) [4, 5, 6, 7, 8, 0, 1, 2, 3] rfl rfl rfl ?_
          exact V_iret X hr dX11_changes_181 (Or.inr (Or.inr (Or.inr (Or.inl ⟨r_2, (upd a10 d_ w_), (upd a11 d_ y), (upd a12 d_ r_2), (upd a13 d_ v), x_15, rfl, rfl, (by omega), (by omega), hhv_18, htr_7, (by unfold chD; rw [if_pos (by omega)]; omega), (chg_lt (by omega)), (chg_lt (by omega)), (chg_lt (by omega)), (chg_lt (by omega)), (by omega)⟩))))
        · refine V_to (pc' := 179) (ls' := [(4, .int r_2), (0, .ref m), (1, .int w_), (2, .int y), (3, .int v)]) (st' := []) (ws' := [((R 10), .inl (Y 0, 40, .inl (upd a10 d_ w_))), ((R 11), .inl (Y 0, 40, .inl (upd a11 d_ y))), ((R 12), .inl (Y 0, 40, .inl (upd a12 d_ r_2))), ((R 13), .inl (Y 0, 40, .inl (upd a13 d_ v))), (m, .inr (10, mF R v0 v7 x_15 (0 : Int32) v15 v16 v17 v18 v19 v27 v31 v32 v33 v34 v38 v42 v44)), ((R 2), .inl (Y 0, 36, .inl a2)), ((R 3), .inl (Y 0, 36, .inl (upd a3 (12 * s0 + ln) v))), ((R 4), .inl (Y 0, 36, .inl a4)), ((R 6), .inl (Y 0, 4, .inl a6))]) ?_ rfl rfl rfl rfl
          obtain rfl : w0 = 1 := by omega
          refine V_iload X 0 rfl dX11_changes_179 ?_
          refine V_ws (ws' := [(m, .inr (10, mF R v0 v7 x_15 (0 : Int32) v15 v16 v17 v18 v19 v27 v31 v32 v33 v34 v38 v42 v44)), ((R 2), .inl (Y 0, 36, .inl a2)), ((R 3), .inl (Y 0, 36, .inl (upd a3 (12 * s0 + ln) v))), ((R 4), .inl (Y 0, 36, .inl a4)), ((R 6), .inl (Y 0, 4, .inl a6)), ((R 10), .inl (Y 0, 40, .inl (upd a10 d_ w_))), ((R 11), .inl (Y 0, 40, .inl (upd a11 d_ y))), ((R 12), .inl (Y 0, 40, .inl (upd a12 d_ r_2))), ((R 13), .inl (Y 0, 40, .inl (upd a13 d_ v)))]) [4, 5, 6, 7, 8, 0, 1, 2, 3] rfl rfl rfl ?_
          exact V_iret X hr dX11_changes_181 (Or.inr (Or.inr (Or.inr (Or.inr (Or.inl ⟨r_2, (upd a10 d_ w_), (upd a11 d_ y), (upd a12 d_ r_2), (upd a13 d_ v), x_15, rfl, rfl, (by omega), (by omega), hhv_20, htr_7, (by unfold chD; rw [if_pos (by omega)]; omega), (chg_lt (by omega)), (chg_lt (by omega)), (chg_lt (by omega)), (chg_lt (by omega)), (by omega)⟩)))))
        · refine V_to (pc' := 179) (ls' := [(4, .int r_2), (0, .ref m), (1, .int w_), (2, .int y), (3, .int v)]) (st' := []) (ws' := [((R 10), .inl (Y 0, 40, .inl (upd a10 d_ w_))), ((R 11), .inl (Y 0, 40, .inl (upd a11 d_ y))), ((R 12), .inl (Y 0, 40, .inl (upd a12 d_ r_2))), ((R 13), .inl (Y 0, 40, .inl (upd a13 d_ v))), (m, .inr (10, mF R v0 v7 x_15 (0 : Int32) v15 v16 v17 v18 v19 v27 v31 v32 v33 v34 v38 v42 v44)), ((R 2), .inl (Y 0, 36, .inl a2)), ((R 3), .inl (Y 0, 36, .inl a3)), ((R 4), .inl (Y 0, 36, .inl (upd a4 (12 * s0 + ln) v))), ((R 6), .inl (Y 0, 4, .inl a6))]) ?_ rfl rfl rfl rfl
          obtain rfl : w0 = 2 := by omega
          refine V_iload X 0 rfl dX11_changes_179 ?_
          refine V_ws (ws' := [(m, .inr (10, mF R v0 v7 x_15 (0 : Int32) v15 v16 v17 v18 v19 v27 v31 v32 v33 v34 v38 v42 v44)), ((R 2), .inl (Y 0, 36, .inl a2)), ((R 3), .inl (Y 0, 36, .inl a3)), ((R 4), .inl (Y 0, 36, .inl (upd a4 (12 * s0 + ln) v))), ((R 6), .inl (Y 0, 4, .inl a6)), ((R 10), .inl (Y 0, 40, .inl (upd a10 d_ w_))), ((R 11), .inl (Y 0, 40, .inl (upd a11 d_ y))), ((R 12), .inl (Y 0, 40, .inl (upd a12 d_ r_2))), ((R 13), .inl (Y 0, 40, .inl (upd a13 d_ v)))]) [4, 5, 6, 7, 8, 0, 1, 2, 3] rfl rfl rfl ?_
          exact V_iret X hr dX11_changes_181 (Or.inr (Or.inr (Or.inr (Or.inr (Or.inr (Or.inl ⟨r_2, (upd a10 d_ w_), (upd a11 d_ y), (upd a12 d_ r_2), (upd a13 d_ v), x_15, rfl, rfl, (by omega), (by omega), hhv_22, htr_7, (by unfold chD; rw [if_pos (by omega)]; omega), (chg_lt (by omega)), (chg_lt (by omega)), (chg_lt (by omega)), (chg_lt (by omega)), (by omega)⟩))))))
        · exfalso; omega
        · exfalso; omega
      · refine V_iconst (v := (1 : Int32)) X (by decide) dX11_changes_31 ?_
        refine V_istore (ls' := [(5, .int (1 : Int32)), (4, .int r_2), (0, .ref m), (1, .int w_), (2, .int y), (3, .int v)]) X (by decide) rfl dX11_changes_32 ?_
        refine V_ls (ls' := [(0, .ref m), (1, .int w_), (2, .int y), (3, .int v), (4, .int r_2), (5, .int (1 : Int32))]) [2, 3, 4, 5, 1, 0] rfl ?_
        refine V_ws (ws' := [(m, .inr (10, mF R v0 v7 v8 (0 : Int32) v15 v16 v17 v18 v19 v27 v31 v32 v33 v34 v38 v42 v44)), ((R 2), .inl (Y 0, 36, .inl a2)), ((R 3), .inl (Y 0, 36, .inl a3)), ((R 4), .inl (Y 0, 36, .inl a4)), ((R 6), .inl (Y 0, 4, .inl a6)), ((R 10), .inl (Y 0, 40, .inl a10)), ((R 11), .inl (Y 0, 40, .inl a11)), ((R 12), .inl (Y 0, 40, .inl a12)), ((R 13), .inl (Y 0, 40, .inl a13))]) [4, 5, 6, 7, 8, 0, 1, 2, 3] rfl rfl rfl ?_
        refine V_to (V_ind6 (fun (i5 : Int32) (k : Nat) (b10 : Nat → Int32) (b11 : Nat → Int32) (b12 : Nat → Int32) (b13 : Nat → Int32) => (i5.toInt = ((k : Nat) : Int)) ∧ (1 ≤ k ∧ k ≤ 40) ∧ (SHf a10 b10 k) ∧ (SHf a11 b11 k) ∧ (SHf a12 b12 k) ∧ (SHf a13 b13 k)) (fun (i5 : Int32) (k : Nat) (b10 : Nat → Int32) (b11 : Nat → Int32) (b12 : Nat → Int32) (b13 : Nat → Int32) => 40 - k) (fun (i5 : Int32) (k : Nat) (b10 : Nat → Int32) (b11 : Nat → Int32) (b12 : Nat → Int32) (b13 : Nat → Int32) => [(0, .ref m), (1, .int w_), (2, .int y), (3, .int v), (4, .int r_2), (5, .int i5)]) (fun (i5 : Int32) (k : Nat) (b10 : Nat → Int32) (b11 : Nat → Int32) (b12 : Nat → Int32) (b13 : Nat → Int32) => [(m, .inr (10, mF R v0 v7 v8 (0 : Int32) v15 v16 v17 v18 v19 v27 v31 v32 v33 v34 v38 v42 v44)), ((R 2), .inl (Y 0, 36, .inl a2)), ((R 3), .inl (Y 0, 36, .inl a3)), ((R 4), .inl (Y 0, 36, .inl a4)), ((R 6), .inl (Y 0, 4, .inl a6)), ((R 10), .inl (Y 0, 40, .inl b10)), ((R 11), .inl (Y 0, 40, .inl b11)), ((R 12), .inl (Y 0, 40, .inl b12)), ((R 13), .inl (Y 0, 40, .inl b13))]) (fun i5 k b10 b11 b12 b13 hI_34 ih_34 => ?_) (1 : Int32) 1 a10 a11 a12 a13 ?_) rfl rfl rfl rfl
        · obtain ⟨ti5, hk, hsh10, hsh11, hsh12, hsh13⟩ := hI_34
          refine V_to (ls' := [(0, .ref m), (1, .int w_), (2, .int y), (3, .int v), (4, .int r_2), (5, .int i5)]) (ws' := [(m, .inr (10, mF R v0 v7 v8 (0 : Int32) v15 v16 v17 v18 v19 v27 v31 v32 v33 v34 v38 v42 v44)), ((R 2), .inl (Y 0, 36, .inl a2)), ((R 3), .inl (Y 0, 36, .inl a3)), ((R 4), .inl (Y 0, 36, .inl a4)), ((R 6), .inl (Y 0, 4, .inl a6)), ((R 10), .inl (Y 0, 40, .inl b10)), ((R 11), .inl (Y 0, 40, .inl b11)), ((R 12), .inl (Y 0, 40, .inl b12)), ((R 13), .inl (Y 0, 40, .inl b13))]) ?_ rfl rfl rfl rfl
          refine V_iload X 5 rfl dX11_changes_34 ?_
          refine V_bipush (v := (40 : Int32)) X (by decide) dX11_changes_36 ?_
          refine V_icmp_ge X ti5 (show (40 : Int32).toInt = 40 from by decide) 111 dX11_changes_38 (by decide) (fun c_38 => ?_) (fun c_38 => ?_)
          · refine V_aload_n X 0 rfl dX11_changes_111 ?_
            refine V_dup X rfl dX11_changes_112 ?_
            refine V_get (C := RX11) (T := TX11) (N := 50) (ci := 10) (v := .int v8) X in_X11_changes_X11 0 rfl rfl 8 (by decide) (List.mem_of_getElem? (i := 2) rfl) rfl rfl dX11_changes_113 ?_
            refine V_iconst (v := (1 : Int32)) X (by decide) dX11_changes_116 ?_
            refine V_isubZ X tv8 (show (1 : Int32).toInt = 1 from by decide) (by omega) (by omega) dX11_changes_117 (fun x_28 ex_28 tx_28 => ?_)
            have tx_28 : x_28.toInt = ((39 : Nat) : Int) := by omega
            refine V_put (C := RX11) (T := TX11) (N := 50) (ci := 10) (v := .int x_28) (ty := tyX11 8) (ws' := [(m, .inr (10, mF R v0 v7 x_28 (0 : Int32) v15 v16 v17 v18 v19 v27 v31 v32 v33 v34 v38 v42 v44)), ((R 2), .inl (Y 0, 36, .inl a2)), ((R 3), .inl (Y 0, 36, .inl a3)), ((R 4), .inl (Y 0, 36, .inl a4)), ((R 6), .inl (Y 0, 4, .inl a6)), ((R 10), .inl (Y 0, 40, .inl b10)), ((R 11), .inl (Y 0, 40, .inl b11)), ((R 12), .inl (Y 0, 40, .inl b12)), ((R 13), .inl (Y 0, 40, .inl b13))]) X in_X11_changes_X11 0 rfl rfl 8 (by decide) (List.mem_of_getElem? (i := 2) rfl) rfl tyX11 tyX11_ok nmX11 rfl (tyX11_ok 8 (by decide)) rfl rfl (Nat.le_of_ble_eq_true rfl) rfl dX11_changes_118 ?_
            refine V_aload_n X 0 rfl dX11_changes_121 ?_
            refine V_get (C := RX11) (T := TX11) (N := 50) (ci := 10) (v := .ref (R 10)) X in_X11_changes_X11 0 rfl rfl 10 (by decide) (List.mem_of_getElem? (i := 3) rfl) rfl rfl dX11_changes_122 ?_
            refine V_aload_n X 0 rfl dX11_changes_125 ?_
            refine V_get (C := RX11) (T := TX11) (N := 50) (ci := 10) (v := .int x_28) X in_X11_changes_X11 0 rfl rfl 8 (by decide) (List.mem_of_getElem? (i := 2) rfl) rfl rfl dX11_changes_126 ?_
            refine V_iload_n X 1 rfl dX11_changes_129 ?_
            refine V_iast (ws' := [(m, .inr (10, mF R v0 v7 x_28 (0 : Int32) v15 v16 v17 v18 v19 v27 v31 v32 v33 v34 v38 v42 v44)), ((R 2), .inl (Y 0, 36, .inl a2)), ((R 3), .inl (Y 0, 36, .inl a3)), ((R 4), .inl (Y 0, 36, .inl a4)), ((R 6), .inl (Y 0, 4, .inl a6)), ((R 10), .inl (Y 0, 40, .inl (upd b10 39 w_))), ((R 11), .inl (Y 0, 40, .inl b11)), ((R 12), .inl (Y 0, 40, .inl b12)), ((R 13), .inl (Y 0, 40, .inl b13))]) X 5 39 rfl tx_28 (by omega) rfl dX11_changes_130 ?_
            refine V_aload_n X 0 rfl dX11_changes_131 ?_
            refine V_get (C := RX11) (T := TX11) (N := 50) (ci := 10) (v := .ref (R 11)) X in_X11_changes_X11 0 rfl rfl 11 (by decide) (List.mem_of_getElem? (i := 4) rfl) rfl rfl dX11_changes_132 ?_
            refine V_aload_n X 0 rfl dX11_changes_135 ?_
            refine V_get (C := RX11) (T := TX11) (N := 50) (ci := 10) (v := .int x_28) X in_X11_changes_X11 0 rfl rfl 8 (by decide) (List.mem_of_getElem? (i := 2) rfl) rfl rfl dX11_changes_136 ?_
            refine V_iload_n X 2 rfl dX11_changes_139 ?_
            refine V_iast (ws' := [(m, .inr (10, mF R v0 v7 x_28 (0 : Int32) v15 v16 v17 v18 v19 v27 v31 v32 v33 v34 v38 v42 v44)), ((R 2), .inl (Y 0, 36, .inl a2)), ((R 3), .inl (Y 0, 36, .inl a3)), ((R 4), .inl (Y 0, 36, .inl a4)), ((R 6), .inl (Y 0, 4, .inl a6)), ((R 10), .inl (Y 0, 40, .inl (upd b10 39 w_))), ((R 11), .inl (Y 0, 40, .inl (upd b11 39 y))), ((R 12), .inl (Y 0, 40, .inl b12)), ((R 13), .inl (Y 0, 40, .inl b13))]) X 6 39 rfl tx_28 (by omega) rfl dX11_changes_140 ?_
            refine V_aload_n X 0 rfl dX11_changes_141 ?_
            refine V_get (C := RX11) (T := TX11) (N := 50) (ci := 10) (v := .ref (R 12)) X in_X11_changes_X11 0 rfl rfl 12 (by decide) (List.mem_of_getElem? (i := 5) rfl) rfl rfl dX11_changes_142 ?_
            refine V_aload_n X 0 rfl dX11_changes_145 ?_
            refine V_get (C := RX11) (T := TX11) (N := 50) (ci := 10) (v := .int x_28) X in_X11_changes_X11 0 rfl rfl 8 (by decide) (List.mem_of_getElem? (i := 2) rfl) rfl rfl dX11_changes_146 ?_
            refine V_iload X 4 rfl dX11_changes_149 ?_
            refine V_iast (ws' := [(m, .inr (10, mF R v0 v7 x_28 (0 : Int32) v15 v16 v17 v18 v19 v27 v31 v32 v33 v34 v38 v42 v44)), ((R 2), .inl (Y 0, 36, .inl a2)), ((R 3), .inl (Y 0, 36, .inl a3)), ((R 4), .inl (Y 0, 36, .inl a4)), ((R 6), .inl (Y 0, 4, .inl a6)), ((R 10), .inl (Y 0, 40, .inl (upd b10 39 w_))), ((R 11), .inl (Y 0, 40, .inl (upd b11 39 y))), ((R 12), .inl (Y 0, 40, .inl (upd b12 39 r_2))), ((R 13), .inl (Y 0, 40, .inl b13))]) X 7 39 rfl tx_28 (by omega) rfl dX11_changes_151 ?_
            refine V_aload_n X 0 rfl dX11_changes_152 ?_
            refine V_get (C := RX11) (T := TX11) (N := 50) (ci := 10) (v := .ref (R 13)) X in_X11_changes_X11 0 rfl rfl 13 (by decide) (List.mem_of_getElem? (i := 6) rfl) rfl rfl dX11_changes_153 ?_
            refine V_aload_n X 0 rfl dX11_changes_156 ?_
            refine V_get (C := RX11) (T := TX11) (N := 50) (ci := 10) (v := .int x_28) X in_X11_changes_X11 0 rfl rfl 8 (by decide) (List.mem_of_getElem? (i := 2) rfl) rfl rfl dX11_changes_157 ?_
            refine V_iload_n X 3 rfl dX11_changes_160 ?_
            refine V_iast (ws' := [(m, .inr (10, mF R v0 v7 x_28 (0 : Int32) v15 v16 v17 v18 v19 v27 v31 v32 v33 v34 v38 v42 v44)), ((R 2), .inl (Y 0, 36, .inl a2)), ((R 3), .inl (Y 0, 36, .inl a3)), ((R 4), .inl (Y 0, 36, .inl a4)), ((R 6), .inl (Y 0, 4, .inl a6)), ((R 10), .inl (Y 0, 40, .inl (upd b10 39 w_))), ((R 11), .inl (Y 0, 40, .inl (upd b11 39 y))), ((R 12), .inl (Y 0, 40, .inl (upd b12 39 r_2))), ((R 13), .inl (Y 0, 40, .inl (upd b13 39 v)))]) X 8 39 rfl tx_28 (by omega) rfl dX11_changes_161 ?_
            refine V_aload_n X 0 rfl dX11_changes_162 ?_
            refine V_dup X rfl dX11_changes_163 ?_
            refine V_get (C := RX11) (T := TX11) (N := 50) (ci := 10) (v := .int x_28) X in_X11_changes_X11 0 rfl rfl 8 (by decide) (List.mem_of_getElem? (i := 2) rfl) rfl rfl dX11_changes_164 ?_
            refine V_iconst (v := (1 : Int32)) X (by decide) dX11_changes_167 ?_
            refine V_iaddZ X tx_28 (show (1 : Int32).toInt = 1 from by decide) (by omega) (by omega) dX11_changes_168 (fun x_29 ex_29 tx_29 => ?_)
            have tx_29 : x_29.toInt = (((39 + 1) : Nat) : Int) := by omega
            refine V_put (C := RX11) (T := TX11) (N := 50) (ci := 10) (v := .int x_29) (ty := tyX11 8) (ws' := [(m, .inr (10, mF R v0 v7 x_29 (0 : Int32) v15 v16 v17 v18 v19 v27 v31 v32 v33 v34 v38 v42 v44)), ((R 2), .inl (Y 0, 36, .inl a2)), ((R 3), .inl (Y 0, 36, .inl a3)), ((R 4), .inl (Y 0, 36, .inl a4)), ((R 6), .inl (Y 0, 4, .inl a6)), ((R 10), .inl (Y 0, 40, .inl (upd b10 39 w_))), ((R 11), .inl (Y 0, 40, .inl (upd b11 39 y))), ((R 12), .inl (Y 0, 40, .inl (upd b12 39 r_2))), ((R 13), .inl (Y 0, 40, .inl (upd b13 39 v)))]) X in_X11_changes_X11 0 rfl rfl 8 (by decide) (List.mem_of_getElem? (i := 2) rfl) rfl tyX11 tyX11_ok nmX11 rfl (tyX11_ok 8 (by decide)) rfl rfl (Nat.le_of_ble_eq_true rfl) rfl dX11_changes_169 ?_
            refine V_aload_n X 0 rfl dX11_changes_172 ?_
            refine V_iload_n X 1 rfl dX11_changes_173 ?_
            refine V_iload_n X 2 rfl dX11_changes_174 ?_
            refine V_iload_n X 3 rfl dX11_changes_175 ?_
            refine V_callV (C := RX11) (wr := [((R 10), .inl (Y 0, 40, .inl (upd b10 39 w_))), ((R 11), .inl (Y 0, 40, .inl (upd b11 39 y))), ((R 12), .inl (Y 0, 40, .inl (upd b12 39 r_2))), ((R 13), .inl (Y 0, 40, .inl (upd b13 39 v)))]) (st := []) X (c_X11_lays l D Y m R v0 v7 x_29 (0 : Int32) v15 v16 v17 v18 v19 v27 v31 v32 v33 v34 v38 v42 v44 a2 a3 a4 a6 n s0 y ln w_ v hs0 hln hn12 hm) 3 gX11_changes_X11_lays rfl (by decide +kernel) ⟨rfl, rfl⟩ ⟨Nat.le_of_ble_eq_true rfl, Nat.le_of_ble_eq_true rfl⟩ [0, 1, 2, 3, 4] [5, 6, 7, 8] rfl rfl rfl rfl (by decide) (ci := 10) rfl rfl 0 rfl rfl rfl (Nat.le_of_ble_eq_true rfl) ⟨Nat.le_of_ble_eq_true rfl, Nat.le_of_ble_eq_true rfl⟩ dX11_changes_176 (fun v_176 w_176 h_176 => ?_)
            rcases h_176 with ⟨rfl, rfl, hh__31, hhv_32⟩ | ⟨rfl, rfl, hh__33, hhv_34⟩ | ⟨rfl, rfl, hh__35, hhv_36⟩ | ⟨y1, rfl, rfl, hh3_38, htyn_39, hhy4_40⟩ | ⟨rfl, rfl, hh4_41⟩
            · refine V_to (pc' := 179) (ls' := [(0, .ref m), (1, .int w_), (2, .int y), (3, .int v), (4, .int r_2), (5, .int i5)]) (st' := []) (ws' := [((R 10), .inl (Y 0, 40, .inl (upd b10 39 w_))), ((R 11), .inl (Y 0, 40, .inl (upd b11 39 y))), ((R 12), .inl (Y 0, 40, .inl (upd b12 39 r_2))), ((R 13), .inl (Y 0, 40, .inl (upd b13 39 v))), (m, .inr (10, mF R v0 v7 x_29 (0 : Int32) v15 v16 v17 v18 v19 v27 v31 v32 v33 v34 v38 v42 v44)), ((R 2), .inl (Y 0, 36, .inl (upd a2 (12 * s0 + ln) v))), ((R 3), .inl (Y 0, 36, .inl a3)), ((R 4), .inl (Y 0, 36, .inl a4)), ((R 6), .inl (Y 0, 4, .inl a6))]) ?_ rfl rfl rfl rfl
              obtain rfl : w0 = 0 := by omega
              refine V_iload X 4 rfl dX11_changes_179 ?_
              refine V_ws (ws' := [(m, .inr (10, mF R v0 v7 x_29 (0 : Int32) v15 v16 v17 v18 v19 v27 v31 v32 v33 v34 v38 v42 v44)), ((R 2), .inl (Y 0, 36, .inl (upd a2 (12 * s0 + ln) v))), ((R 3), .inl (Y 0, 36, .inl a3)), ((R 4), .inl (Y 0, 36, .inl a4)), ((R 6), .inl (Y 0, 4, .inl a6)), ((R 10), .inl (Y 0, 40, .inl (upd b10 39 w_))), ((R 11), .inl (Y 0, 40, .inl (upd b11 39 y))), ((R 12), .inl (Y 0, 40, .inl (upd b12 39 r_2))), ((R 13), .inl (Y 0, 40, .inl (upd b13 39 v)))]) [4, 5, 6, 7, 8, 0, 1, 2, 3] rfl rfl rfl ?_
              exact V_iret X hr dX11_changes_181 (Or.inr (Or.inr (Or.inr (Or.inl ⟨r_2, (upd b10 39 w_), (upd b11 39 y), (upd b12 39 r_2), (upd b13 39 v), x_29, rfl, rfl, (by omega), (by omega), hhv_32, htr_7, (by unfold chD; rw [if_neg (by omega)]; omega), (chg_sh hsh10 (by omega) (by omega) rfl), (chg_sh hsh11 (by omega) (by omega) rfl), (chg_sh hsh12 (by omega) (by omega) rfl), (chg_sh hsh13 (by omega) (by omega) rfl), (by omega)⟩))))
            · refine V_to (pc' := 179) (ls' := [(0, .ref m), (1, .int w_), (2, .int y), (3, .int v), (4, .int r_2), (5, .int i5)]) (st' := []) (ws' := [((R 10), .inl (Y 0, 40, .inl (upd b10 39 w_))), ((R 11), .inl (Y 0, 40, .inl (upd b11 39 y))), ((R 12), .inl (Y 0, 40, .inl (upd b12 39 r_2))), ((R 13), .inl (Y 0, 40, .inl (upd b13 39 v))), (m, .inr (10, mF R v0 v7 x_29 (0 : Int32) v15 v16 v17 v18 v19 v27 v31 v32 v33 v34 v38 v42 v44)), ((R 2), .inl (Y 0, 36, .inl a2)), ((R 3), .inl (Y 0, 36, .inl (upd a3 (12 * s0 + ln) v))), ((R 4), .inl (Y 0, 36, .inl a4)), ((R 6), .inl (Y 0, 4, .inl a6))]) ?_ rfl rfl rfl rfl
              obtain rfl : w0 = 1 := by omega
              refine V_iload X 4 rfl dX11_changes_179 ?_
              refine V_ws (ws' := [(m, .inr (10, mF R v0 v7 x_29 (0 : Int32) v15 v16 v17 v18 v19 v27 v31 v32 v33 v34 v38 v42 v44)), ((R 2), .inl (Y 0, 36, .inl a2)), ((R 3), .inl (Y 0, 36, .inl (upd a3 (12 * s0 + ln) v))), ((R 4), .inl (Y 0, 36, .inl a4)), ((R 6), .inl (Y 0, 4, .inl a6)), ((R 10), .inl (Y 0, 40, .inl (upd b10 39 w_))), ((R 11), .inl (Y 0, 40, .inl (upd b11 39 y))), ((R 12), .inl (Y 0, 40, .inl (upd b12 39 r_2))), ((R 13), .inl (Y 0, 40, .inl (upd b13 39 v)))]) [4, 5, 6, 7, 8, 0, 1, 2, 3] rfl rfl rfl ?_
              exact V_iret X hr dX11_changes_181 (Or.inr (Or.inr (Or.inr (Or.inr (Or.inl ⟨r_2, (upd b10 39 w_), (upd b11 39 y), (upd b12 39 r_2), (upd b13 39 v), x_29, rfl, rfl, (by omega), (by omega), hhv_34, htr_7, (by unfold chD; rw [if_neg (by omega)]; omega), (chg_sh hsh10 (by omega) (by omega) rfl), (chg_sh hsh11 (by omega) (by omega) rfl), (chg_sh hsh12 (by omega) (by omega) rfl), (chg_sh hsh13 (by omega) (by omega) rfl), (by omega)⟩)))))
            · refine V_to (pc' := 179) (ls' := [(0, .ref m), (1, .int w_), (2, .int y), (3, .int v), (4, .int r_2), (5, .int i5)]) (st' := []) (ws' := [((R 10), .inl (Y 0, 40, .inl (upd b10 39 w_))), ((R 11), .inl (Y 0, 40, .inl (upd b11 39 y))), ((R 12), .inl (Y 0, 40, .inl (upd b12 39 r_2))), ((R 13), .inl (Y 0, 40, .inl (upd b13 39 v))), (m, .inr (10, mF R v0 v7 x_29 (0 : Int32) v15 v16 v17 v18 v19 v27 v31 v32 v33 v34 v38 v42 v44)), ((R 2), .inl (Y 0, 36, .inl a2)), ((R 3), .inl (Y 0, 36, .inl a3)), ((R 4), .inl (Y 0, 36, .inl (upd a4 (12 * s0 + ln) v))), ((R 6), .inl (Y 0, 4, .inl a6))]) ?_ rfl rfl rfl rfl
              obtain rfl : w0 = 2 := by omega
              refine V_iload X 4 rfl dX11_changes_179 ?_
              refine V_ws (ws' := [(m, .inr (10, mF R v0 v7 x_29 (0 : Int32) v15 v16 v17 v18 v19 v27 v31 v32 v33 v34 v38 v42 v44)), ((R 2), .inl (Y 0, 36, .inl a2)), ((R 3), .inl (Y 0, 36, .inl a3)), ((R 4), .inl (Y 0, 36, .inl (upd a4 (12 * s0 + ln) v))), ((R 6), .inl (Y 0, 4, .inl a6)), ((R 10), .inl (Y 0, 40, .inl (upd b10 39 w_))), ((R 11), .inl (Y 0, 40, .inl (upd b11 39 y))), ((R 12), .inl (Y 0, 40, .inl (upd b12 39 r_2))), ((R 13), .inl (Y 0, 40, .inl (upd b13 39 v)))]) [4, 5, 6, 7, 8, 0, 1, 2, 3] rfl rfl rfl ?_
              exact V_iret X hr dX11_changes_181 (Or.inr (Or.inr (Or.inr (Or.inr (Or.inr (Or.inl ⟨r_2, (upd b10 39 w_), (upd b11 39 y), (upd b12 39 r_2), (upd b13 39 v), x_29, rfl, rfl, (by omega), (by omega), hhv_36, htr_7, (by unfold chD; rw [if_neg (by omega)]; omega), (chg_sh hsh10 (by omega) (by omega) rfl), (chg_sh hsh11 (by omega) (by omega) rfl), (chg_sh hsh12 (by omega) (by omega) rfl), (chg_sh hsh13 (by omega) (by omega) rfl), (by omega)⟩))))))
            · exfalso; omega
            · exfalso; omega
          · refine V_aload_n X 0 rfl dX11_changes_41 ?_
            refine V_get (C := RX11) (T := TX11) (N := 50) (ci := 10) (v := .ref (R 10)) X in_X11_changes_X11 0 rfl rfl 10 (by decide) (List.mem_of_getElem? (i := 3) rfl) rfl rfl dX11_changes_42 ?_
            refine V_iload X 5 rfl dX11_changes_45 ?_
            refine V_iconst (v := (1 : Int32)) X (by decide) dX11_changes_47 ?_
            refine V_isubZ X ti5 (show (1 : Int32).toInt = 1 from by decide) (by omega) (by omega) dX11_changes_48 (fun x_42 ex_42 tx_42 => ?_)
            have tx_42 : x_42.toInt = (((k - 1) : Nat) : Int) := by omega
            refine V_aload_n X 0 rfl dX11_changes_49 ?_
            refine V_get (C := RX11) (T := TX11) (N := 50) (ci := 10) (v := .ref (R 10)) X in_X11_changes_X11 0 rfl rfl 10 (by decide) (List.mem_of_getElem? (i := 3) rfl) rfl rfl dX11_changes_50 ?_
            refine V_iload X 5 rfl dX11_changes_53 ?_
            refine V_iald X 5 k rfl ti5 (by omega) dX11_changes_55 ?_
            refine V_iast (ws' := [(m, .inr (10, mF R v0 v7 v8 (0 : Int32) v15 v16 v17 v18 v19 v27 v31 v32 v33 v34 v38 v42 v44)), ((R 2), .inl (Y 0, 36, .inl a2)), ((R 3), .inl (Y 0, 36, .inl a3)), ((R 4), .inl (Y 0, 36, .inl a4)), ((R 6), .inl (Y 0, 4, .inl a6)), ((R 10), .inl (Y 0, 40, .inl (upd b10 (k - 1) (b10 k)))), ((R 11), .inl (Y 0, 40, .inl b11)), ((R 12), .inl (Y 0, 40, .inl b12)), ((R 13), .inl (Y 0, 40, .inl b13))]) X 5 (k - 1) rfl tx_42 (by omega) rfl dX11_changes_56 ?_
            refine V_aload_n X 0 rfl dX11_changes_57 ?_
            refine V_get (C := RX11) (T := TX11) (N := 50) (ci := 10) (v := .ref (R 11)) X in_X11_changes_X11 0 rfl rfl 11 (by decide) (List.mem_of_getElem? (i := 4) rfl) rfl rfl dX11_changes_58 ?_
            refine V_iload X 5 rfl dX11_changes_61 ?_
            refine V_iconst (v := (1 : Int32)) X (by decide) dX11_changes_63 ?_
            refine V_isubZ X ti5 (show (1 : Int32).toInt = 1 from by decide) (by omega) (by omega) dX11_changes_64 (fun x_43 ex_43 tx_43 => ?_)
            have tx_43 : x_43.toInt = (((k - 1) : Nat) : Int) := by omega
            refine V_aload_n X 0 rfl dX11_changes_65 ?_
            refine V_get (C := RX11) (T := TX11) (N := 50) (ci := 10) (v := .ref (R 11)) X in_X11_changes_X11 0 rfl rfl 11 (by decide) (List.mem_of_getElem? (i := 4) rfl) rfl rfl dX11_changes_66 ?_
            refine V_iload X 5 rfl dX11_changes_69 ?_
            refine V_iald X 6 k rfl ti5 (by omega) dX11_changes_71 ?_
            refine V_iast (ws' := [(m, .inr (10, mF R v0 v7 v8 (0 : Int32) v15 v16 v17 v18 v19 v27 v31 v32 v33 v34 v38 v42 v44)), ((R 2), .inl (Y 0, 36, .inl a2)), ((R 3), .inl (Y 0, 36, .inl a3)), ((R 4), .inl (Y 0, 36, .inl a4)), ((R 6), .inl (Y 0, 4, .inl a6)), ((R 10), .inl (Y 0, 40, .inl (upd b10 (k - 1) (b10 k)))), ((R 11), .inl (Y 0, 40, .inl (upd b11 (k - 1) (b11 k)))), ((R 12), .inl (Y 0, 40, .inl b12)), ((R 13), .inl (Y 0, 40, .inl b13))]) X 6 (k - 1) rfl tx_43 (by omega) rfl dX11_changes_72 ?_
            refine V_aload_n X 0 rfl dX11_changes_73 ?_
            refine V_get (C := RX11) (T := TX11) (N := 50) (ci := 10) (v := .ref (R 12)) X in_X11_changes_X11 0 rfl rfl 12 (by decide) (List.mem_of_getElem? (i := 5) rfl) rfl rfl dX11_changes_74 ?_
            refine V_iload X 5 rfl dX11_changes_77 ?_
            refine V_iconst (v := (1 : Int32)) X (by decide) dX11_changes_79 ?_
            refine V_isubZ X ti5 (show (1 : Int32).toInt = 1 from by decide) (by omega) (by omega) dX11_changes_80 (fun x_44 ex_44 tx_44 => ?_)
            have tx_44 : x_44.toInt = (((k - 1) : Nat) : Int) := by omega
            refine V_aload_n X 0 rfl dX11_changes_81 ?_
            refine V_get (C := RX11) (T := TX11) (N := 50) (ci := 10) (v := .ref (R 12)) X in_X11_changes_X11 0 rfl rfl 12 (by decide) (List.mem_of_getElem? (i := 5) rfl) rfl rfl dX11_changes_82 ?_
            refine V_iload X 5 rfl dX11_changes_85 ?_
            refine V_iald X 7 k rfl ti5 (by omega) dX11_changes_87 ?_
            refine V_iast (ws' := [(m, .inr (10, mF R v0 v7 v8 (0 : Int32) v15 v16 v17 v18 v19 v27 v31 v32 v33 v34 v38 v42 v44)), ((R 2), .inl (Y 0, 36, .inl a2)), ((R 3), .inl (Y 0, 36, .inl a3)), ((R 4), .inl (Y 0, 36, .inl a4)), ((R 6), .inl (Y 0, 4, .inl a6)), ((R 10), .inl (Y 0, 40, .inl (upd b10 (k - 1) (b10 k)))), ((R 11), .inl (Y 0, 40, .inl (upd b11 (k - 1) (b11 k)))), ((R 12), .inl (Y 0, 40, .inl (upd b12 (k - 1) (b12 k)))), ((R 13), .inl (Y 0, 40, .inl b13))]) X 7 (k - 1) rfl tx_44 (by omega) rfl dX11_changes_88 ?_
            refine V_aload_n X 0 rfl dX11_changes_89 ?_
            refine V_get (C := RX11) (T := TX11) (N := 50) (ci := 10) (v := .ref (R 13)) X in_X11_changes_X11 0 rfl rfl 13 (by decide) (List.mem_of_getElem? (i := 6) rfl) rfl rfl dX11_changes_90 ?_
            refine V_iload X 5 rfl dX11_changes_93 ?_
            refine V_iconst (v := (1 : Int32)) X (by decide) dX11_changes_95 ?_
            refine V_isubZ X ti5 (show (1 : Int32).toInt = 1 from by decide) (by omega) (by omega) dX11_changes_96 (fun x_45 ex_45 tx_45 => ?_)
            have tx_45 : x_45.toInt = (((k - 1) : Nat) : Int) := by omega
            refine V_aload_n X 0 rfl dX11_changes_97 ?_
            refine V_get (C := RX11) (T := TX11) (N := 50) (ci := 10) (v := .ref (R 13)) X in_X11_changes_X11 0 rfl rfl 13 (by decide) (List.mem_of_getElem? (i := 6) rfl) rfl rfl dX11_changes_98 ?_
            refine V_iload X 5 rfl dX11_changes_101 ?_
            refine V_iald X 8 k rfl ti5 (by omega) dX11_changes_103 ?_
            refine V_iast (ws' := [(m, .inr (10, mF R v0 v7 v8 (0 : Int32) v15 v16 v17 v18 v19 v27 v31 v32 v33 v34 v38 v42 v44)), ((R 2), .inl (Y 0, 36, .inl a2)), ((R 3), .inl (Y 0, 36, .inl a3)), ((R 4), .inl (Y 0, 36, .inl a4)), ((R 6), .inl (Y 0, 4, .inl a6)), ((R 10), .inl (Y 0, 40, .inl (upd b10 (k - 1) (b10 k)))), ((R 11), .inl (Y 0, 40, .inl (upd b11 (k - 1) (b11 k)))), ((R 12), .inl (Y 0, 40, .inl (upd b12 (k - 1) (b12 k)))), ((R 13), .inl (Y 0, 40, .inl (upd b13 (k - 1) (b13 k))))]) X 8 (k - 1) rfl tx_45 (by omega) rfl dX11_changes_104 ?_
            refine V_iincZ X (fun vv_ => [(5, .int vv_), (0, .ref m), (1, .int w_), (2, .int y), (3, .int v), (4, .int r_2)]) ti5 (by omega) (by omega) (by decide) 5 rfl (by decide) (fun _ => rfl) dX11_changes_105 (fun x_46 ex_46 tx_46 => ?_)
            have tx_46 : x_46.toInt = (((k + 1) : Nat) : Int) := by omega
            refine V_goto X 34 (by decide) dX11_changes_108 ?_
            refine V_ls (ls' := [(0, .ref m), (1, .int w_), (2, .int y), (3, .int v), (4, .int r_2), (5, .int x_46)]) [1, 2, 3, 4, 5, 0] rfl ?_
            exact V_to (ih_34 x_46 (k + 1) (upd b10 (k - 1) (b10 k)) (upd b11 (k - 1) (b11 k)) (upd b12 (k - 1) (b12 k)) (upd b13 (k - 1) (b13 k)) ⟨(by omega), (by omega), (SHf_s hsh10 hk.1 (by omega)), (SHf_s hsh11 hk.1 (by omega)), (SHf_s hsh12 hk.1 (by omega)), (SHf_s hsh13 hk.1 (by omega))⟩ (by omega)) rfl rfl rfl rfl
        · exact ⟨(by have h9 : (1 : Int32).toInt = 1 := (show (1 : Int32).toInt = 1 from by decide); omega), (by omega), (SHf_0 a10), (SHf_0 a11), (SHf_0 a12), (SHf_0 a13)⟩
    · refine V_iload X 0 rfl dX11_changes_14 ?_
      refine V_ws (ws' := [(m, .inr (10, mF R v0 v7 v8 v9 v15 v16 v17 v18 v19 v27 v31 v32 v33 v34 v38 v42 v44)), ((R 2), .inl (Y 0, 36, .inl a2)), ((R 3), .inl (Y 0, 36, .inl a3)), ((R 4), .inl (Y 0, 36, .inl a4)), ((R 6), .inl (Y 0, 4, .inl a6)), ((R 10), .inl (Y 0, 40, .inl a10)), ((R 11), .inl (Y 0, 40, .inl a11)), ((R 12), .inl (Y 0, 40, .inl a12)), ((R 13), .inl (Y 0, 40, .inl a13))]) [4, 5, 6, 7, 8, 0, 1, 2, 3] rfl rfl rfl ?_
      exact V_iret X hr dX11_changes_16 (Or.inl ⟨r_2, w0, rfl, rfl, htw_4, hhw_5, hhv_6, htr_7, (by omega)⟩)
  · refine V_to (pc' := 6) (ls' := [(0, .ref m), (1, .int w_), (2, .int y), (3, .int v)]) (st' := [.int r_8]) (ws' := [((R 10), .inl (Y 0, 40, .inl a10)), ((R 11), .inl (Y 0, 40, .inl a11)), ((R 12), .inl (Y 0, 40, .inl a12)), ((R 13), .inl (Y 0, 40, .inl a13)), (m, .inr (10, mF R v0 v7 v8 v9 v15 v16 v17 v18 v19 v27 v31 v32 v33 v34 v38 v42 v44)), ((R 2), .inl (Y 0, 36, .inl a2)), ((R 3), .inl (Y 0, 36, .inl a3)), ((R 4), .inl (Y 0, 36, .inl a4)), ((R 6), .inl (Y 0, 4, .inl a6))]) ?_ rfl rfl rfl rfl
    refine V_istore (ls' := [(4, .int r_8), (0, .ref m), (1, .int w_), (2, .int y), (3, .int v)]) X (by decide) rfl dX11_changes_6 ?_
    refine V_iload X 0 rfl dX11_changes_8 ?_
    refine V_iload_n X 4 rfl dX11_changes_10 ?_
    refine V_icmp_ne X htr_13 rfl 17 dX11_changes_11 (by decide) (fun c_11 => ?_) (fun c_11 => ?_)
    · refine V_aload_n X 1 rfl dX11_changes_17 ?_
      refine V_iconst (v := (0 : Int32)) X (by decide) dX11_changes_18 ?_
      refine V_put (C := RX11) (T := TX11) (N := 50) (ci := 10) (v := .int (0 : Int32)) (ty := tyX11 9) (ws' := [((R 10), .inl (Y 0, 40, .inl a10)), ((R 11), .inl (Y 0, 40, .inl a11)), ((R 12), .inl (Y 0, 40, .inl a12)), ((R 13), .inl (Y 0, 40, .inl a13)), (m, .inr (10, mF R v0 v7 v8 (0 : Int32) v15 v16 v17 v18 v19 v27 v31 v32 v33 v34 v38 v42 v44)), ((R 2), .inl (Y 0, 36, .inl a2)), ((R 3), .inl (Y 0, 36, .inl a3)), ((R 4), .inl (Y 0, 36, .inl a4)), ((R 6), .inl (Y 0, 4, .inl a6))]) X in_X11_changes_X11 4 rfl rfl 9 (by decide) (List.mem_of_getElem? (i := 1) rfl) rfl tyX11 tyX11_ok nmX11 rfl (tyX11_ok 9 (by decide)) rfl rfl (Nat.le_of_ble_eq_true rfl) rfl dX11_changes_19 ?_
      refine V_aload_n X 1 rfl dX11_changes_22 ?_
      refine V_get (C := RX11) (T := TX11) (N := 50) (ci := 10) (v := .int v8) X in_X11_changes_X11 4 rfl rfl 8 (by decide) (List.mem_of_getElem? (i := 2) rfl) rfl rfl dX11_changes_23 ?_
      refine V_bipush (v := (40 : Int32)) X (by decide) dX11_changes_26 ?_
      refine V_icmp_ne X tv8 (show (40 : Int32).toInt = 40 from by decide) 121 dX11_changes_28 (by decide) (fun c_28 => ?_) (fun c_28 => ?_)
      · refine V_aload_n X 1 rfl dX11_changes_121 ?_
        refine V_get (C := RX11) (T := TX11) (N := 50) (ci := 10) (v := .ref (R 10)) X in_X11_changes_X11 4 rfl rfl 10 (by decide) (List.mem_of_getElem? (i := 3) rfl) rfl rfl dX11_changes_122 ?_
        refine V_aload_n X 1 rfl dX11_changes_125 ?_
        refine V_get (C := RX11) (T := TX11) (N := 50) (ci := 10) (v := .int v8) X in_X11_changes_X11 4 rfl rfl 8 (by decide) (List.mem_of_getElem? (i := 2) rfl) rfl rfl dX11_changes_126 ?_
        refine V_iload_n X 2 rfl dX11_changes_129 ?_
        refine V_iast (ws' := [((R 10), .inl (Y 0, 40, .inl (upd a10 d_ w_))), ((R 11), .inl (Y 0, 40, .inl a11)), ((R 12), .inl (Y 0, 40, .inl a12)), ((R 13), .inl (Y 0, 40, .inl a13)), (m, .inr (10, mF R v0 v7 v8 (0 : Int32) v15 v16 v17 v18 v19 v27 v31 v32 v33 v34 v38 v42 v44)), ((R 2), .inl (Y 0, 36, .inl a2)), ((R 3), .inl (Y 0, 36, .inl a3)), ((R 4), .inl (Y 0, 36, .inl a4)), ((R 6), .inl (Y 0, 4, .inl a6))]) X 0 d_ rfl tv8 (by omega) rfl dX11_changes_130 ?_
        refine V_aload_n X 1 rfl dX11_changes_131 ?_
        refine V_get (C := RX11) (T := TX11) (N := 50) (ci := 10) (v := .ref (R 11)) X in_X11_changes_X11 4 rfl rfl 11 (by decide) (List.mem_of_getElem? (i := 4) rfl) rfl rfl dX11_changes_132 ?_
        refine V_aload_n X 1 rfl dX11_changes_135 ?_
        refine V_get (C := RX11) (T := TX11) (N := 50) (ci := 10) (v := .int v8) X in_X11_changes_X11 4 rfl rfl 8 (by decide) (List.mem_of_getElem? (i := 2) rfl) rfl rfl dX11_changes_136 ?_
        refine V_iload_n X 3 rfl dX11_changes_139 ?_
        refine V_iast (ws' := [((R 10), .inl (Y 0, 40, .inl (upd a10 d_ w_))), ((R 11), .inl (Y 0, 40, .inl (upd a11 d_ y))), ((R 12), .inl (Y 0, 40, .inl a12)), ((R 13), .inl (Y 0, 40, .inl a13)), (m, .inr (10, mF R v0 v7 v8 (0 : Int32) v15 v16 v17 v18 v19 v27 v31 v32 v33 v34 v38 v42 v44)), ((R 2), .inl (Y 0, 36, .inl a2)), ((R 3), .inl (Y 0, 36, .inl a3)), ((R 4), .inl (Y 0, 36, .inl a4)), ((R 6), .inl (Y 0, 4, .inl a6))]) X 1 d_ rfl tv8 (by omega) rfl dX11_changes_140 ?_
        refine V_aload_n X 1 rfl dX11_changes_141 ?_
        refine V_get (C := RX11) (T := TX11) (N := 50) (ci := 10) (v := .ref (R 12)) X in_X11_changes_X11 4 rfl rfl 12 (by decide) (List.mem_of_getElem? (i := 5) rfl) rfl rfl dX11_changes_142 ?_
        refine V_aload_n X 1 rfl dX11_changes_145 ?_
        refine V_get (C := RX11) (T := TX11) (N := 50) (ci := 10) (v := .int v8) X in_X11_changes_X11 4 rfl rfl 8 (by decide) (List.mem_of_getElem? (i := 2) rfl) rfl rfl dX11_changes_146 ?_
        refine V_iload X 0 rfl dX11_changes_149 ?_
        refine V_iast (ws' := [((R 10), .inl (Y 0, 40, .inl (upd a10 d_ w_))), ((R 11), .inl (Y 0, 40, .inl (upd a11 d_ y))), ((R 12), .inl (Y 0, 40, .inl (upd a12 d_ r_8))), ((R 13), .inl (Y 0, 40, .inl a13)), (m, .inr (10, mF R v0 v7 v8 (0 : Int32) v15 v16 v17 v18 v19 v27 v31 v32 v33 v34 v38 v42 v44)), ((R 2), .inl (Y 0, 36, .inl a2)), ((R 3), .inl (Y 0, 36, .inl a3)), ((R 4), .inl (Y 0, 36, .inl a4)), ((R 6), .inl (Y 0, 4, .inl a6))]) X 2 d_ rfl tv8 (by omega) rfl dX11_changes_151 ?_
        refine V_aload_n X 1 rfl dX11_changes_152 ?_
        refine V_get (C := RX11) (T := TX11) (N := 50) (ci := 10) (v := .ref (R 13)) X in_X11_changes_X11 4 rfl rfl 13 (by decide) (List.mem_of_getElem? (i := 6) rfl) rfl rfl dX11_changes_153 ?_
        refine V_aload_n X 1 rfl dX11_changes_156 ?_
        refine V_get (C := RX11) (T := TX11) (N := 50) (ci := 10) (v := .int v8) X in_X11_changes_X11 4 rfl rfl 8 (by decide) (List.mem_of_getElem? (i := 2) rfl) rfl rfl dX11_changes_157 ?_
        refine V_iload_n X 4 rfl dX11_changes_160 ?_
        refine V_iast (ws' := [((R 10), .inl (Y 0, 40, .inl (upd a10 d_ w_))), ((R 11), .inl (Y 0, 40, .inl (upd a11 d_ y))), ((R 12), .inl (Y 0, 40, .inl (upd a12 d_ r_8))), ((R 13), .inl (Y 0, 40, .inl (upd a13 d_ v))), (m, .inr (10, mF R v0 v7 v8 (0 : Int32) v15 v16 v17 v18 v19 v27 v31 v32 v33 v34 v38 v42 v44)), ((R 2), .inl (Y 0, 36, .inl a2)), ((R 3), .inl (Y 0, 36, .inl a3)), ((R 4), .inl (Y 0, 36, .inl a4)), ((R 6), .inl (Y 0, 4, .inl a6))]) X 3 d_ rfl tv8 (by omega) rfl dX11_changes_161 ?_
        refine V_aload_n X 1 rfl dX11_changes_162 ?_
        refine V_dup X rfl dX11_changes_163 ?_
        refine V_get (C := RX11) (T := TX11) (N := 50) (ci := 10) (v := .int v8) X in_X11_changes_X11 4 rfl rfl 8 (by decide) (List.mem_of_getElem? (i := 2) rfl) rfl rfl dX11_changes_164 ?_
        refine V_iconst (v := (1 : Int32)) X (by decide) dX11_changes_167 ?_
        refine V_iaddZ X tv8 (show (1 : Int32).toInt = 1 from by decide) (by omega) (by omega) dX11_changes_168 (fun x_47 ex_47 tx_47 => ?_)
        have tx_47 : x_47.toInt = (((d_ + 1) : Nat) : Int) := by omega
        refine V_put (C := RX11) (T := TX11) (N := 50) (ci := 10) (v := .int x_47) (ty := tyX11 8) (ws' := [((R 10), .inl (Y 0, 40, .inl (upd a10 d_ w_))), ((R 11), .inl (Y 0, 40, .inl (upd a11 d_ y))), ((R 12), .inl (Y 0, 40, .inl (upd a12 d_ r_8))), ((R 13), .inl (Y 0, 40, .inl (upd a13 d_ v))), (m, .inr (10, mF R v0 v7 x_47 (0 : Int32) v15 v16 v17 v18 v19 v27 v31 v32 v33 v34 v38 v42 v44)), ((R 2), .inl (Y 0, 36, .inl a2)), ((R 3), .inl (Y 0, 36, .inl a3)), ((R 4), .inl (Y 0, 36, .inl a4)), ((R 6), .inl (Y 0, 4, .inl a6))]) X in_X11_changes_X11 4 rfl rfl 8 (by decide) (List.mem_of_getElem? (i := 2) rfl) rfl tyX11 tyX11_ok nmX11 rfl (tyX11_ok 8 (by decide)) rfl rfl (Nat.le_of_ble_eq_true rfl) rfl dX11_changes_169 ?_
        refine V_aload_n X 1 rfl dX11_changes_172 ?_
        refine V_iload_n X 2 rfl dX11_changes_173 ?_
        refine V_iload_n X 3 rfl dX11_changes_174 ?_
        refine V_iload_n X 4 rfl dX11_changes_175 ?_
        refine V_callV (C := RX11) (wr := [((R 10), .inl (Y 0, 40, .inl (upd a10 d_ w_))), ((R 11), .inl (Y 0, 40, .inl (upd a11 d_ y))), ((R 12), .inl (Y 0, 40, .inl (upd a12 d_ r_8))), ((R 13), .inl (Y 0, 40, .inl (upd a13 d_ v)))]) (st := []) X (c_X11_lays l D Y m R v0 v7 x_47 (0 : Int32) v15 v16 v17 v18 v19 v27 v31 v32 v33 v34 v38 v42 v44 a2 a3 a4 a6 n s0 y ln w_ v hs0 hln hn12 hm) 3 gX11_changes_X11_lays rfl (by decide +kernel) ⟨rfl, rfl⟩ ⟨Nat.le_of_ble_eq_true rfl, Nat.le_of_ble_eq_true rfl⟩ [4, 5, 6, 7, 8] [0, 1, 2, 3] rfl rfl rfl rfl (by decide) (ci := 10) rfl rfl 0 rfl rfl rfl (Nat.le_of_ble_eq_true rfl) ⟨Nat.le_of_ble_eq_true rfl, Nat.le_of_ble_eq_true rfl⟩ dX11_changes_176 (fun v_176 w_176 h_176 => ?_)
        rcases h_176 with ⟨rfl, rfl, hh__49, hhv_50⟩ | ⟨rfl, rfl, hh__51, hhv_52⟩ | ⟨rfl, rfl, hh__53, hhv_54⟩ | ⟨y1, rfl, rfl, hh3_56, htyn_57, hhy4_58⟩ | ⟨rfl, rfl, hh4_59⟩
        · exfalso; omega
        · exfalso; omega
        · exfalso; omega
        · refine V_to (pc' := 179) (ls' := [(4, .int r_8), (0, .ref m), (1, .int w_), (2, .int y), (3, .int v)]) (st' := []) (ws' := [((R 10), .inl (Y 0, 40, .inl (upd a10 d_ w_))), ((R 11), .inl (Y 0, 40, .inl (upd a11 d_ y))), ((R 12), .inl (Y 0, 40, .inl (upd a12 d_ r_8))), ((R 13), .inl (Y 0, 40, .inl (upd a13 d_ v))), (m, .inr (10, mF R v0 v7 x_47 (0 : Int32) v15 v16 v17 v18 v19 v27 v31 v32 v33 v34 v38 v42 v44)), ((R 2), .inl (Y 0, 36, .inl a2)), ((R 3), .inl (Y 0, 36, .inl a3)), ((R 4), .inl (Y 0, 36, .inl a4)), ((R 6), .inl (Y 0, 4, .inl (upd a6 y1 v)))]) ?_ rfl rfl rfl rfl
          obtain rfl : y0 = y1 := by omega
          refine V_iload X 0 rfl dX11_changes_179 ?_
          refine V_ws (ws' := [(m, .inr (10, mF R v0 v7 x_47 (0 : Int32) v15 v16 v17 v18 v19 v27 v31 v32 v33 v34 v38 v42 v44)), ((R 2), .inl (Y 0, 36, .inl a2)), ((R 3), .inl (Y 0, 36, .inl a3)), ((R 4), .inl (Y 0, 36, .inl a4)), ((R 6), .inl (Y 0, 4, .inl (upd a6 y0 v))), ((R 10), .inl (Y 0, 40, .inl (upd a10 d_ w_))), ((R 11), .inl (Y 0, 40, .inl (upd a11 d_ y))), ((R 12), .inl (Y 0, 40, .inl (upd a12 d_ r_8))), ((R 13), .inl (Y 0, 40, .inl (upd a13 d_ v)))]) [4, 5, 6, 7, 8, 0, 1, 2, 3] rfl rfl rfl ?_
          exact V_iret X hr dX11_changes_181 (Or.inr (Or.inr (Or.inr (Or.inr (Or.inr (Or.inr (Or.inl ⟨r_8, y0, (upd a10 d_ w_), (upd a11 d_ y), (upd a12 d_ r_8), (upd a13 d_ v), x_47, rfl, rfl, hh3_56, htyn_11, hhy4_12, htr_13, (by unfold chD; rw [if_pos (by omega)]; omega), (chg_lt (by omega)), (chg_lt (by omega)), (chg_lt (by omega)), (chg_lt (by omega)), (by omega)⟩)))))))
        · exfalso; omega
      · refine V_iconst (v := (1 : Int32)) X (by decide) dX11_changes_31 ?_
        refine V_istore (ls' := [(5, .int (1 : Int32)), (4, .int r_8), (0, .ref m), (1, .int w_), (2, .int y), (3, .int v)]) X (by decide) rfl dX11_changes_32 ?_
        refine V_ls (ls' := [(0, .ref m), (1, .int w_), (2, .int y), (3, .int v), (4, .int r_8), (5, .int (1 : Int32))]) [2, 3, 4, 5, 1, 0] rfl ?_
        refine V_ws (ws' := [(m, .inr (10, mF R v0 v7 v8 (0 : Int32) v15 v16 v17 v18 v19 v27 v31 v32 v33 v34 v38 v42 v44)), ((R 2), .inl (Y 0, 36, .inl a2)), ((R 3), .inl (Y 0, 36, .inl a3)), ((R 4), .inl (Y 0, 36, .inl a4)), ((R 6), .inl (Y 0, 4, .inl a6)), ((R 10), .inl (Y 0, 40, .inl a10)), ((R 11), .inl (Y 0, 40, .inl a11)), ((R 12), .inl (Y 0, 40, .inl a12)), ((R 13), .inl (Y 0, 40, .inl a13))]) [4, 5, 6, 7, 8, 0, 1, 2, 3] rfl rfl rfl ?_
        refine V_to (V_ind6 (fun (i5 : Int32) (k : Nat) (b10 : Nat → Int32) (b11 : Nat → Int32) (b12 : Nat → Int32) (b13 : Nat → Int32) => (i5.toInt = ((k : Nat) : Int)) ∧ (1 ≤ k ∧ k ≤ 40) ∧ (SHf a10 b10 k) ∧ (SHf a11 b11 k) ∧ (SHf a12 b12 k) ∧ (SHf a13 b13 k)) (fun (i5 : Int32) (k : Nat) (b10 : Nat → Int32) (b11 : Nat → Int32) (b12 : Nat → Int32) (b13 : Nat → Int32) => 40 - k) (fun (i5 : Int32) (k : Nat) (b10 : Nat → Int32) (b11 : Nat → Int32) (b12 : Nat → Int32) (b13 : Nat → Int32) => [(0, .ref m), (1, .int w_), (2, .int y), (3, .int v), (4, .int r_8), (5, .int i5)]) (fun (i5 : Int32) (k : Nat) (b10 : Nat → Int32) (b11 : Nat → Int32) (b12 : Nat → Int32) (b13 : Nat → Int32) => [(m, .inr (10, mF R v0 v7 v8 (0 : Int32) v15 v16 v17 v18 v19 v27 v31 v32 v33 v34 v38 v42 v44)), ((R 2), .inl (Y 0, 36, .inl a2)), ((R 3), .inl (Y 0, 36, .inl a3)), ((R 4), .inl (Y 0, 36, .inl a4)), ((R 6), .inl (Y 0, 4, .inl a6)), ((R 10), .inl (Y 0, 40, .inl b10)), ((R 11), .inl (Y 0, 40, .inl b11)), ((R 12), .inl (Y 0, 40, .inl b12)), ((R 13), .inl (Y 0, 40, .inl b13))]) (fun i5 k b10 b11 b12 b13 hI_34 ih_34 => ?_) (1 : Int32) 1 a10 a11 a12 a13 ?_) rfl rfl rfl rfl
        · obtain ⟨ti5, hk, hsh10, hsh11, hsh12, hsh13⟩ := hI_34
          refine V_to (ls' := [(0, .ref m), (1, .int w_), (2, .int y), (3, .int v), (4, .int r_8), (5, .int i5)]) (ws' := [(m, .inr (10, mF R v0 v7 v8 (0 : Int32) v15 v16 v17 v18 v19 v27 v31 v32 v33 v34 v38 v42 v44)), ((R 2), .inl (Y 0, 36, .inl a2)), ((R 3), .inl (Y 0, 36, .inl a3)), ((R 4), .inl (Y 0, 36, .inl a4)), ((R 6), .inl (Y 0, 4, .inl a6)), ((R 10), .inl (Y 0, 40, .inl b10)), ((R 11), .inl (Y 0, 40, .inl b11)), ((R 12), .inl (Y 0, 40, .inl b12)), ((R 13), .inl (Y 0, 40, .inl b13))]) ?_ rfl rfl rfl rfl
          refine V_iload X 5 rfl dX11_changes_34 ?_
          refine V_bipush (v := (40 : Int32)) X (by decide) dX11_changes_36 ?_
          refine V_icmp_ge X ti5 (show (40 : Int32).toInt = 40 from by decide) 111 dX11_changes_38 (by decide) (fun c_38 => ?_) (fun c_38 => ?_)
          · refine V_aload_n X 0 rfl dX11_changes_111 ?_
            refine V_dup X rfl dX11_changes_112 ?_
            refine V_get (C := RX11) (T := TX11) (N := 50) (ci := 10) (v := .int v8) X in_X11_changes_X11 0 rfl rfl 8 (by decide) (List.mem_of_getElem? (i := 2) rfl) rfl rfl dX11_changes_113 ?_
            refine V_iconst (v := (1 : Int32)) X (by decide) dX11_changes_116 ?_
            refine V_isubZ X tv8 (show (1 : Int32).toInt = 1 from by decide) (by omega) (by omega) dX11_changes_117 (fun x_60 ex_60 tx_60 => ?_)
            have tx_60 : x_60.toInt = ((39 : Nat) : Int) := by omega
            refine V_put (C := RX11) (T := TX11) (N := 50) (ci := 10) (v := .int x_60) (ty := tyX11 8) (ws' := [(m, .inr (10, mF R v0 v7 x_60 (0 : Int32) v15 v16 v17 v18 v19 v27 v31 v32 v33 v34 v38 v42 v44)), ((R 2), .inl (Y 0, 36, .inl a2)), ((R 3), .inl (Y 0, 36, .inl a3)), ((R 4), .inl (Y 0, 36, .inl a4)), ((R 6), .inl (Y 0, 4, .inl a6)), ((R 10), .inl (Y 0, 40, .inl b10)), ((R 11), .inl (Y 0, 40, .inl b11)), ((R 12), .inl (Y 0, 40, .inl b12)), ((R 13), .inl (Y 0, 40, .inl b13))]) X in_X11_changes_X11 0 rfl rfl 8 (by decide) (List.mem_of_getElem? (i := 2) rfl) rfl tyX11 tyX11_ok nmX11 rfl (tyX11_ok 8 (by decide)) rfl rfl (Nat.le_of_ble_eq_true rfl) rfl dX11_changes_118 ?_
            refine V_aload_n X 0 rfl dX11_changes_121 ?_
            refine V_get (C := RX11) (T := TX11) (N := 50) (ci := 10) (v := .ref (R 10)) X in_X11_changes_X11 0 rfl rfl 10 (by decide) (List.mem_of_getElem? (i := 3) rfl) rfl rfl dX11_changes_122 ?_
            refine V_aload_n X 0 rfl dX11_changes_125 ?_
            refine V_get (C := RX11) (T := TX11) (N := 50) (ci := 10) (v := .int x_60) X in_X11_changes_X11 0 rfl rfl 8 (by decide) (List.mem_of_getElem? (i := 2) rfl) rfl rfl dX11_changes_126 ?_
            refine V_iload_n X 1 rfl dX11_changes_129 ?_
            refine V_iast (ws' := [(m, .inr (10, mF R v0 v7 x_60 (0 : Int32) v15 v16 v17 v18 v19 v27 v31 v32 v33 v34 v38 v42 v44)), ((R 2), .inl (Y 0, 36, .inl a2)), ((R 3), .inl (Y 0, 36, .inl a3)), ((R 4), .inl (Y 0, 36, .inl a4)), ((R 6), .inl (Y 0, 4, .inl a6)), ((R 10), .inl (Y 0, 40, .inl (upd b10 39 w_))), ((R 11), .inl (Y 0, 40, .inl b11)), ((R 12), .inl (Y 0, 40, .inl b12)), ((R 13), .inl (Y 0, 40, .inl b13))]) X 5 39 rfl tx_60 (by omega) rfl dX11_changes_130 ?_
            refine V_aload_n X 0 rfl dX11_changes_131 ?_
            refine V_get (C := RX11) (T := TX11) (N := 50) (ci := 10) (v := .ref (R 11)) X in_X11_changes_X11 0 rfl rfl 11 (by decide) (List.mem_of_getElem? (i := 4) rfl) rfl rfl dX11_changes_132 ?_
            refine V_aload_n X 0 rfl dX11_changes_135 ?_
            refine V_get (C := RX11) (T := TX11) (N := 50) (ci := 10) (v := .int x_60) X in_X11_changes_X11 0 rfl rfl 8 (by decide) (List.mem_of_getElem? (i := 2) rfl) rfl rfl dX11_changes_136 ?_
            refine V_iload_n X 2 rfl dX11_changes_139 ?_
            refine V_iast (ws' := [(m, .inr (10, mF R v0 v7 x_60 (0 : Int32) v15 v16 v17 v18 v19 v27 v31 v32 v33 v34 v38 v42 v44)), ((R 2), .inl (Y 0, 36, .inl a2)), ((R 3), .inl (Y 0, 36, .inl a3)), ((R 4), .inl (Y 0, 36, .inl a4)), ((R 6), .inl (Y 0, 4, .inl a6)), ((R 10), .inl (Y 0, 40, .inl (upd b10 39 w_))), ((R 11), .inl (Y 0, 40, .inl (upd b11 39 y))), ((R 12), .inl (Y 0, 40, .inl b12)), ((R 13), .inl (Y 0, 40, .inl b13))]) X 6 39 rfl tx_60 (by omega) rfl dX11_changes_140 ?_
            refine V_aload_n X 0 rfl dX11_changes_141 ?_
            refine V_get (C := RX11) (T := TX11) (N := 50) (ci := 10) (v := .ref (R 12)) X in_X11_changes_X11 0 rfl rfl 12 (by decide) (List.mem_of_getElem? (i := 5) rfl) rfl rfl dX11_changes_142 ?_
            refine V_aload_n X 0 rfl dX11_changes_145 ?_
            refine V_get (C := RX11) (T := TX11) (N := 50) (ci := 10) (v := .int x_60) X in_X11_changes_X11 0 rfl rfl 8 (by decide) (List.mem_of_getElem? (i := 2) rfl) rfl rfl dX11_changes_146 ?_
            refine V_iload X 4 rfl dX11_changes_149 ?_
            refine V_iast (ws' := [(m, .inr (10, mF R v0 v7 x_60 (0 : Int32) v15 v16 v17 v18 v19 v27 v31 v32 v33 v34 v38 v42 v44)), ((R 2), .inl (Y 0, 36, .inl a2)), ((R 3), .inl (Y 0, 36, .inl a3)), ((R 4), .inl (Y 0, 36, .inl a4)), ((R 6), .inl (Y 0, 4, .inl a6)), ((R 10), .inl (Y 0, 40, .inl (upd b10 39 w_))), ((R 11), .inl (Y 0, 40, .inl (upd b11 39 y))), ((R 12), .inl (Y 0, 40, .inl (upd b12 39 r_8))), ((R 13), .inl (Y 0, 40, .inl b13))]) X 7 39 rfl tx_60 (by omega) rfl dX11_changes_151 ?_
            refine V_aload_n X 0 rfl dX11_changes_152 ?_
            refine V_get (C := RX11) (T := TX11) (N := 50) (ci := 10) (v := .ref (R 13)) X in_X11_changes_X11 0 rfl rfl 13 (by decide) (List.mem_of_getElem? (i := 6) rfl) rfl rfl dX11_changes_153 ?_
            refine V_aload_n X 0 rfl dX11_changes_156 ?_
            refine V_get (C := RX11) (T := TX11) (N := 50) (ci := 10) (v := .int x_60) X in_X11_changes_X11 0 rfl rfl 8 (by decide) (List.mem_of_getElem? (i := 2) rfl) rfl rfl dX11_changes_157 ?_
            refine V_iload_n X 3 rfl dX11_changes_160 ?_
            refine V_iast (ws' := [(m, .inr (10, mF R v0 v7 x_60 (0 : Int32) v15 v16 v17 v18 v19 v27 v31 v32 v33 v34 v38 v42 v44)), ((R 2), .inl (Y 0, 36, .inl a2)), ((R 3), .inl (Y 0, 36, .inl a3)), ((R 4), .inl (Y 0, 36, .inl a4)), ((R 6), .inl (Y 0, 4, .inl a6)), ((R 10), .inl (Y 0, 40, .inl (upd b10 39 w_))), ((R 11), .inl (Y 0, 40, .inl (upd b11 39 y))), ((R 12), .inl (Y 0, 40, .inl (upd b12 39 r_8))), ((R 13), .inl (Y 0, 40, .inl (upd b13 39 v)))]) X 8 39 rfl tx_60 (by omega) rfl dX11_changes_161 ?_
            refine V_aload_n X 0 rfl dX11_changes_162 ?_
            refine V_dup X rfl dX11_changes_163 ?_
            refine V_get (C := RX11) (T := TX11) (N := 50) (ci := 10) (v := .int x_60) X in_X11_changes_X11 0 rfl rfl 8 (by decide) (List.mem_of_getElem? (i := 2) rfl) rfl rfl dX11_changes_164 ?_
            refine V_iconst (v := (1 : Int32)) X (by decide) dX11_changes_167 ?_
            refine V_iaddZ X tx_60 (show (1 : Int32).toInt = 1 from by decide) (by omega) (by omega) dX11_changes_168 (fun x_61 ex_61 tx_61 => ?_)
            have tx_61 : x_61.toInt = (((39 + 1) : Nat) : Int) := by omega
            refine V_put (C := RX11) (T := TX11) (N := 50) (ci := 10) (v := .int x_61) (ty := tyX11 8) (ws' := [(m, .inr (10, mF R v0 v7 x_61 (0 : Int32) v15 v16 v17 v18 v19 v27 v31 v32 v33 v34 v38 v42 v44)), ((R 2), .inl (Y 0, 36, .inl a2)), ((R 3), .inl (Y 0, 36, .inl a3)), ((R 4), .inl (Y 0, 36, .inl a4)), ((R 6), .inl (Y 0, 4, .inl a6)), ((R 10), .inl (Y 0, 40, .inl (upd b10 39 w_))), ((R 11), .inl (Y 0, 40, .inl (upd b11 39 y))), ((R 12), .inl (Y 0, 40, .inl (upd b12 39 r_8))), ((R 13), .inl (Y 0, 40, .inl (upd b13 39 v)))]) X in_X11_changes_X11 0 rfl rfl 8 (by decide) (List.mem_of_getElem? (i := 2) rfl) rfl tyX11 tyX11_ok nmX11 rfl (tyX11_ok 8 (by decide)) rfl rfl (Nat.le_of_ble_eq_true rfl) rfl dX11_changes_169 ?_
            refine V_aload_n X 0 rfl dX11_changes_172 ?_
            refine V_iload_n X 1 rfl dX11_changes_173 ?_
            refine V_iload_n X 2 rfl dX11_changes_174 ?_
            refine V_iload_n X 3 rfl dX11_changes_175 ?_
            refine V_callV (C := RX11) (wr := [((R 10), .inl (Y 0, 40, .inl (upd b10 39 w_))), ((R 11), .inl (Y 0, 40, .inl (upd b11 39 y))), ((R 12), .inl (Y 0, 40, .inl (upd b12 39 r_8))), ((R 13), .inl (Y 0, 40, .inl (upd b13 39 v)))]) (st := []) X (c_X11_lays l D Y m R v0 v7 x_61 (0 : Int32) v15 v16 v17 v18 v19 v27 v31 v32 v33 v34 v38 v42 v44 a2 a3 a4 a6 n s0 y ln w_ v hs0 hln hn12 hm) 3 gX11_changes_X11_lays rfl (by decide +kernel) ⟨rfl, rfl⟩ ⟨Nat.le_of_ble_eq_true rfl, Nat.le_of_ble_eq_true rfl⟩ [0, 1, 2, 3, 4] [5, 6, 7, 8] rfl rfl rfl rfl (by decide) (ci := 10) rfl rfl 0 rfl rfl rfl (Nat.le_of_ble_eq_true rfl) ⟨Nat.le_of_ble_eq_true rfl, Nat.le_of_ble_eq_true rfl⟩ dX11_changes_176 (fun v_176 w_176 h_176 => ?_)
            rcases h_176 with ⟨rfl, rfl, hh__63, hhv_64⟩ | ⟨rfl, rfl, hh__65, hhv_66⟩ | ⟨rfl, rfl, hh__67, hhv_68⟩ | ⟨y1, rfl, rfl, hh3_70, htyn_71, hhy4_72⟩ | ⟨rfl, rfl, hh4_73⟩
            · exfalso; omega
            · exfalso; omega
            · exfalso; omega
            · refine V_to (pc' := 179) (ls' := [(0, .ref m), (1, .int w_), (2, .int y), (3, .int v), (4, .int r_8), (5, .int i5)]) (st' := []) (ws' := [((R 10), .inl (Y 0, 40, .inl (upd b10 39 w_))), ((R 11), .inl (Y 0, 40, .inl (upd b11 39 y))), ((R 12), .inl (Y 0, 40, .inl (upd b12 39 r_8))), ((R 13), .inl (Y 0, 40, .inl (upd b13 39 v))), (m, .inr (10, mF R v0 v7 x_61 (0 : Int32) v15 v16 v17 v18 v19 v27 v31 v32 v33 v34 v38 v42 v44)), ((R 2), .inl (Y 0, 36, .inl a2)), ((R 3), .inl (Y 0, 36, .inl a3)), ((R 4), .inl (Y 0, 36, .inl a4)), ((R 6), .inl (Y 0, 4, .inl (upd a6 y1 v)))]) ?_ rfl rfl rfl rfl
              obtain rfl : y0 = y1 := by omega
              refine V_iload X 4 rfl dX11_changes_179 ?_
              refine V_ws (ws' := [(m, .inr (10, mF R v0 v7 x_61 (0 : Int32) v15 v16 v17 v18 v19 v27 v31 v32 v33 v34 v38 v42 v44)), ((R 2), .inl (Y 0, 36, .inl a2)), ((R 3), .inl (Y 0, 36, .inl a3)), ((R 4), .inl (Y 0, 36, .inl a4)), ((R 6), .inl (Y 0, 4, .inl (upd a6 y0 v))), ((R 10), .inl (Y 0, 40, .inl (upd b10 39 w_))), ((R 11), .inl (Y 0, 40, .inl (upd b11 39 y))), ((R 12), .inl (Y 0, 40, .inl (upd b12 39 r_8))), ((R 13), .inl (Y 0, 40, .inl (upd b13 39 v)))]) [4, 5, 6, 7, 8, 0, 1, 2, 3] rfl rfl rfl ?_
              exact V_iret X hr dX11_changes_181 (Or.inr (Or.inr (Or.inr (Or.inr (Or.inr (Or.inr (Or.inl ⟨r_8, y0, (upd b10 39 w_), (upd b11 39 y), (upd b12 39 r_8), (upd b13 39 v), x_61, rfl, rfl, hh3_70, htyn_11, hhy4_12, htr_13, (by unfold chD; rw [if_neg (by omega)]; omega), (chg_sh hsh10 (by omega) (by omega) rfl), (chg_sh hsh11 (by omega) (by omega) rfl), (chg_sh hsh12 (by omega) (by omega) rfl), (chg_sh hsh13 (by omega) (by omega) rfl), (by omega)⟩)))))))
            · exfalso; omega
          · refine V_aload_n X 0 rfl dX11_changes_41 ?_
            refine V_get (C := RX11) (T := TX11) (N := 50) (ci := 10) (v := .ref (R 10)) X in_X11_changes_X11 0 rfl rfl 10 (by decide) (List.mem_of_getElem? (i := 3) rfl) rfl rfl dX11_changes_42 ?_
            refine V_iload X 5 rfl dX11_changes_45 ?_
            refine V_iconst (v := (1 : Int32)) X (by decide) dX11_changes_47 ?_
            refine V_isubZ X ti5 (show (1 : Int32).toInt = 1 from by decide) (by omega) (by omega) dX11_changes_48 (fun x_74 ex_74 tx_74 => ?_)
            have tx_74 : x_74.toInt = (((k - 1) : Nat) : Int) := by omega
            refine V_aload_n X 0 rfl dX11_changes_49 ?_
            refine V_get (C := RX11) (T := TX11) (N := 50) (ci := 10) (v := .ref (R 10)) X in_X11_changes_X11 0 rfl rfl 10 (by decide) (List.mem_of_getElem? (i := 3) rfl) rfl rfl dX11_changes_50 ?_
            refine V_iload X 5 rfl dX11_changes_53 ?_
            refine V_iald X 5 k rfl ti5 (by omega) dX11_changes_55 ?_
            refine V_iast (ws' := [(m, .inr (10, mF R v0 v7 v8 (0 : Int32) v15 v16 v17 v18 v19 v27 v31 v32 v33 v34 v38 v42 v44)), ((R 2), .inl (Y 0, 36, .inl a2)), ((R 3), .inl (Y 0, 36, .inl a3)), ((R 4), .inl (Y 0, 36, .inl a4)), ((R 6), .inl (Y 0, 4, .inl a6)), ((R 10), .inl (Y 0, 40, .inl (upd b10 (k - 1) (b10 k)))), ((R 11), .inl (Y 0, 40, .inl b11)), ((R 12), .inl (Y 0, 40, .inl b12)), ((R 13), .inl (Y 0, 40, .inl b13))]) X 5 (k - 1) rfl tx_74 (by omega) rfl dX11_changes_56 ?_
            refine V_aload_n X 0 rfl dX11_changes_57 ?_
            refine V_get (C := RX11) (T := TX11) (N := 50) (ci := 10) (v := .ref (R 11)) X in_X11_changes_X11 0 rfl rfl 11 (by decide) (List.mem_of_getElem? (i := 4) rfl) rfl rfl dX11_changes_58 ?_
            refine V_iload X 5 rfl dX11_changes_61 ?_
            refine V_iconst (v := (1 : Int32)) X (by decide) dX11_changes_63 ?_
            refine V_isubZ X ti5 (show (1 : Int32).toInt = 1 from by decide) (by omega) (by omega) dX11_changes_64 (fun x_75 ex_75 tx_75 => ?_)
            have tx_75 : x_75.toInt = (((k - 1) : Nat) : Int) := by omega
            refine V_aload_n X 0 rfl dX11_changes_65 ?_
            refine V_get (C := RX11) (T := TX11) (N := 50) (ci := 10) (v := .ref (R 11)) X in_X11_changes_X11 0 rfl rfl 11 (by decide) (List.mem_of_getElem? (i := 4) rfl) rfl rfl dX11_changes_66 ?_
            refine V_iload X 5 rfl dX11_changes_69 ?_
            refine V_iald X 6 k rfl ti5 (by omega) dX11_changes_71 ?_
            refine V_iast (ws' := [(m, .inr (10, mF R v0 v7 v8 (0 : Int32) v15 v16 v17 v18 v19 v27 v31 v32 v33 v34 v38 v42 v44)), ((R 2), .inl (Y 0, 36, .inl a2)), ((R 3), .inl (Y 0, 36, .inl a3)), ((R 4), .inl (Y 0, 36, .inl a4)), ((R 6), .inl (Y 0, 4, .inl a6)), ((R 10), .inl (Y 0, 40, .inl (upd b10 (k - 1) (b10 k)))), ((R 11), .inl (Y 0, 40, .inl (upd b11 (k - 1) (b11 k)))), ((R 12), .inl (Y 0, 40, .inl b12)), ((R 13), .inl (Y 0, 40, .inl b13))]) X 6 (k - 1) rfl tx_75 (by omega) rfl dX11_changes_72 ?_
            refine V_aload_n X 0 rfl dX11_changes_73 ?_
            refine V_get (C := RX11) (T := TX11) (N := 50) (ci := 10) (v := .ref (R 12)) X in_X11_changes_X11 0 rfl rfl 12 (by decide) (List.mem_of_getElem? (i := 5) rfl) rfl rfl dX11_changes_74 ?_
            refine V_iload X 5 rfl dX11_changes_77 ?_
            refine V_iconst (v := (1 : Int32)) X (by decide) dX11_changes_79 ?_
            refine V_isubZ X ti5 (show (1 : Int32).toInt = 1 from by decide) (by omega) (by omega) dX11_changes_80 (fun x_76 ex_76 tx_76 => ?_)
            have tx_76 : x_76.toInt = (((k - 1) : Nat) : Int) := by omega
            refine V_aload_n X 0 rfl dX11_changes_81 ?_
            refine V_get (C := RX11) (T := TX11) (N := 50) (ci := 10) (v := .ref (R 12)) X in_X11_changes_X11 0 rfl rfl 12 (by decide) (List.mem_of_getElem? (i := 5) rfl) rfl rfl dX11_changes_82 ?_
            refine V_iload X 5 rfl dX11_changes_85 ?_
            refine V_iald X 7 k rfl ti5 (by omega) dX11_changes_87 ?_
            refine V_iast (ws' := [(m, .inr (10, mF R v0 v7 v8 (0 : Int32) v15 v16 v17 v18 v19 v27 v31 v32 v33 v34 v38 v42 v44)), ((R 2), .inl (Y 0, 36, .inl a2)), ((R 3), .inl (Y 0, 36, .inl a3)), ((R 4), .inl (Y 0, 36, .inl a4)), ((R 6), .inl (Y 0, 4, .inl a6)), ((R 10), .inl (Y 0, 40, .inl (upd b10 (k - 1) (b10 k)))), ((R 11), .inl (Y 0, 40, .inl (upd b11 (k - 1) (b11 k)))), ((R 12), .inl (Y 0, 40, .inl (upd b12 (k - 1) (b12 k)))), ((R 13), .inl (Y 0, 40, .inl b13))]) X 7 (k - 1) rfl tx_76 (by omega) rfl dX11_changes_88 ?_
            refine V_aload_n X 0 rfl dX11_changes_89 ?_
            refine V_get (C := RX11) (T := TX11) (N := 50) (ci := 10) (v := .ref (R 13)) X in_X11_changes_X11 0 rfl rfl 13 (by decide) (List.mem_of_getElem? (i := 6) rfl) rfl rfl dX11_changes_90 ?_
            refine V_iload X 5 rfl dX11_changes_93 ?_
            refine V_iconst (v := (1 : Int32)) X (by decide) dX11_changes_95 ?_
            refine V_isubZ X ti5 (show (1 : Int32).toInt = 1 from by decide) (by omega) (by omega) dX11_changes_96 (fun x_77 ex_77 tx_77 => ?_)
            have tx_77 : x_77.toInt = (((k - 1) : Nat) : Int) := by omega
            refine V_aload_n X 0 rfl dX11_changes_97 ?_
            refine V_get (C := RX11) (T := TX11) (N := 50) (ci := 10) (v := .ref (R 13)) X in_X11_changes_X11 0 rfl rfl 13 (by decide) (List.mem_of_getElem? (i := 6) rfl) rfl rfl dX11_changes_98 ?_
            refine V_iload X 5 rfl dX11_changes_101 ?_
            refine V_iald X 8 k rfl ti5 (by omega) dX11_changes_103 ?_
            refine V_iast (ws' := [(m, .inr (10, mF R v0 v7 v8 (0 : Int32) v15 v16 v17 v18 v19 v27 v31 v32 v33 v34 v38 v42 v44)), ((R 2), .inl (Y 0, 36, .inl a2)), ((R 3), .inl (Y 0, 36, .inl a3)), ((R 4), .inl (Y 0, 36, .inl a4)), ((R 6), .inl (Y 0, 4, .inl a6)), ((R 10), .inl (Y 0, 40, .inl (upd b10 (k - 1) (b10 k)))), ((R 11), .inl (Y 0, 40, .inl (upd b11 (k - 1) (b11 k)))), ((R 12), .inl (Y 0, 40, .inl (upd b12 (k - 1) (b12 k)))), ((R 13), .inl (Y 0, 40, .inl (upd b13 (k - 1) (b13 k))))]) X 8 (k - 1) rfl tx_77 (by omega) rfl dX11_changes_104 ?_
            refine V_iincZ X (fun vv_ => [(5, .int vv_), (0, .ref m), (1, .int w_), (2, .int y), (3, .int v), (4, .int r_8)]) ti5 (by omega) (by omega) (by decide) 5 rfl (by decide) (fun _ => rfl) dX11_changes_105 (fun x_78 ex_78 tx_78 => ?_)
            have tx_78 : x_78.toInt = (((k + 1) : Nat) : Int) := by omega
            refine V_goto X 34 (by decide) dX11_changes_108 ?_
            refine V_ls (ls' := [(0, .ref m), (1, .int w_), (2, .int y), (3, .int v), (4, .int r_8), (5, .int x_78)]) [1, 2, 3, 4, 5, 0] rfl ?_
            exact V_to (ih_34 x_78 (k + 1) (upd b10 (k - 1) (b10 k)) (upd b11 (k - 1) (b11 k)) (upd b12 (k - 1) (b12 k)) (upd b13 (k - 1) (b13 k)) ⟨(by omega), (by omega), (SHf_s hsh10 hk.1 (by omega)), (SHf_s hsh11 hk.1 (by omega)), (SHf_s hsh12 hk.1 (by omega)), (SHf_s hsh13 hk.1 (by omega))⟩ (by omega)) rfl rfl rfl rfl
        · exact ⟨(by have h9 : (1 : Int32).toInt = 1 := (show (1 : Int32).toInt = 1 from by decide); omega), (by omega), (SHf_0 a10), (SHf_0 a11), (SHf_0 a12), (SHf_0 a13)⟩
    · refine V_iload X 0 rfl dX11_changes_14 ?_
      refine V_ws (ws' := [(m, .inr (10, mF R v0 v7 v8 v9 v15 v16 v17 v18 v19 v27 v31 v32 v33 v34 v38 v42 v44)), ((R 2), .inl (Y 0, 36, .inl a2)), ((R 3), .inl (Y 0, 36, .inl a3)), ((R 4), .inl (Y 0, 36, .inl a4)), ((R 6), .inl (Y 0, 4, .inl a6)), ((R 10), .inl (Y 0, 40, .inl a10)), ((R 11), .inl (Y 0, 40, .inl a11)), ((R 12), .inl (Y 0, 40, .inl a12)), ((R 13), .inl (Y 0, 40, .inl a13))]) [4, 5, 6, 7, 8, 0, 1, 2, 3] rfl rfl rfl ?_
      exact V_iret X hr dX11_changes_16 (Or.inr (Or.inl ⟨r_8, y0, rfl, rfl, hh3_10, htyn_11, hhy4_12, htr_13, (by omega)⟩))
  · refine V_to (pc' := 6) (ls' := [(0, .ref m), (1, .int w_), (2, .int y), (3, .int v)]) (st' := [.int v7]) (ws' := [((R 10), .inl (Y 0, 40, .inl a10)), ((R 11), .inl (Y 0, 40, .inl a11)), ((R 12), .inl (Y 0, 40, .inl a12)), ((R 13), .inl (Y 0, 40, .inl a13)), (m, .inr (10, mF R v0 v7 v8 v9 v15 v16 v17 v18 v19 v27 v31 v32 v33 v34 v38 v42 v44)), ((R 2), .inl (Y 0, 36, .inl a2)), ((R 3), .inl (Y 0, 36, .inl a3)), ((R 4), .inl (Y 0, 36, .inl a4)), ((R 6), .inl (Y 0, 4, .inl a6))]) ?_ rfl rfl rfl rfl
    refine V_istore (ls' := [(4, .int v7), (0, .ref m), (1, .int w_), (2, .int y), (3, .int v)]) X (by decide) rfl dX11_changes_6 ?_
    refine V_iload X 0 rfl dX11_changes_8 ?_
    refine V_iload_n X 4 rfl dX11_changes_10 ?_
    refine V_icmp_ne X rfl rfl 17 dX11_changes_11 (by decide) (fun c_11 => ?_) (fun c_11 => ?_)
    · refine V_aload_n X 1 rfl dX11_changes_17 ?_
      refine V_iconst (v := (0 : Int32)) X (by decide) dX11_changes_18 ?_
      refine V_put (C := RX11) (T := TX11) (N := 50) (ci := 10) (v := .int (0 : Int32)) (ty := tyX11 9) (ws' := [((R 10), .inl (Y 0, 40, .inl a10)), ((R 11), .inl (Y 0, 40, .inl a11)), ((R 12), .inl (Y 0, 40, .inl a12)), ((R 13), .inl (Y 0, 40, .inl a13)), (m, .inr (10, mF R v0 v7 v8 (0 : Int32) v15 v16 v17 v18 v19 v27 v31 v32 v33 v34 v38 v42 v44)), ((R 2), .inl (Y 0, 36, .inl a2)), ((R 3), .inl (Y 0, 36, .inl a3)), ((R 4), .inl (Y 0, 36, .inl a4)), ((R 6), .inl (Y 0, 4, .inl a6))]) X in_X11_changes_X11 4 rfl rfl 9 (by decide) (List.mem_of_getElem? (i := 1) rfl) rfl tyX11 tyX11_ok nmX11 rfl (tyX11_ok 9 (by decide)) rfl rfl (Nat.le_of_ble_eq_true rfl) rfl dX11_changes_19 ?_
      refine V_aload_n X 1 rfl dX11_changes_22 ?_
      refine V_get (C := RX11) (T := TX11) (N := 50) (ci := 10) (v := .int v8) X in_X11_changes_X11 4 rfl rfl 8 (by decide) (List.mem_of_getElem? (i := 2) rfl) rfl rfl dX11_changes_23 ?_
      refine V_bipush (v := (40 : Int32)) X (by decide) dX11_changes_26 ?_
      refine V_icmp_ne X tv8 (show (40 : Int32).toInt = 40 from by decide) 121 dX11_changes_28 (by decide) (fun c_28 => ?_) (fun c_28 => ?_)
      · refine V_aload_n X 1 rfl dX11_changes_121 ?_
        refine V_get (C := RX11) (T := TX11) (N := 50) (ci := 10) (v := .ref (R 10)) X in_X11_changes_X11 4 rfl rfl 10 (by decide) (List.mem_of_getElem? (i := 3) rfl) rfl rfl dX11_changes_122 ?_
        refine V_aload_n X 1 rfl dX11_changes_125 ?_
        refine V_get (C := RX11) (T := TX11) (N := 50) (ci := 10) (v := .int v8) X in_X11_changes_X11 4 rfl rfl 8 (by decide) (List.mem_of_getElem? (i := 2) rfl) rfl rfl dX11_changes_126 ?_
        refine V_iload_n X 2 rfl dX11_changes_129 ?_
        refine V_iast (ws' := [((R 10), .inl (Y 0, 40, .inl (upd a10 d_ w_))), ((R 11), .inl (Y 0, 40, .inl a11)), ((R 12), .inl (Y 0, 40, .inl a12)), ((R 13), .inl (Y 0, 40, .inl a13)), (m, .inr (10, mF R v0 v7 v8 (0 : Int32) v15 v16 v17 v18 v19 v27 v31 v32 v33 v34 v38 v42 v44)), ((R 2), .inl (Y 0, 36, .inl a2)), ((R 3), .inl (Y 0, 36, .inl a3)), ((R 4), .inl (Y 0, 36, .inl a4)), ((R 6), .inl (Y 0, 4, .inl a6))]) X 0 d_ rfl tv8 (by omega) rfl dX11_changes_130 ?_
        refine V_aload_n X 1 rfl dX11_changes_131 ?_
        refine V_get (C := RX11) (T := TX11) (N := 50) (ci := 10) (v := .ref (R 11)) X in_X11_changes_X11 4 rfl rfl 11 (by decide) (List.mem_of_getElem? (i := 4) rfl) rfl rfl dX11_changes_132 ?_
        refine V_aload_n X 1 rfl dX11_changes_135 ?_
        refine V_get (C := RX11) (T := TX11) (N := 50) (ci := 10) (v := .int v8) X in_X11_changes_X11 4 rfl rfl 8 (by decide) (List.mem_of_getElem? (i := 2) rfl) rfl rfl dX11_changes_136 ?_
        refine V_iload_n X 3 rfl dX11_changes_139 ?_
        refine V_iast (ws' := [((R 10), .inl (Y 0, 40, .inl (upd a10 d_ w_))), ((R 11), .inl (Y 0, 40, .inl (upd a11 d_ y))), ((R 12), .inl (Y 0, 40, .inl a12)), ((R 13), .inl (Y 0, 40, .inl a13)), (m, .inr (10, mF R v0 v7 v8 (0 : Int32) v15 v16 v17 v18 v19 v27 v31 v32 v33 v34 v38 v42 v44)), ((R 2), .inl (Y 0, 36, .inl a2)), ((R 3), .inl (Y 0, 36, .inl a3)), ((R 4), .inl (Y 0, 36, .inl a4)), ((R 6), .inl (Y 0, 4, .inl a6))]) X 1 d_ rfl tv8 (by omega) rfl dX11_changes_140 ?_
        refine V_aload_n X 1 rfl dX11_changes_141 ?_
        refine V_get (C := RX11) (T := TX11) (N := 50) (ci := 10) (v := .ref (R 12)) X in_X11_changes_X11 4 rfl rfl 12 (by decide) (List.mem_of_getElem? (i := 5) rfl) rfl rfl dX11_changes_142 ?_
        refine V_aload_n X 1 rfl dX11_changes_145 ?_
        refine V_get (C := RX11) (T := TX11) (N := 50) (ci := 10) (v := .int v8) X in_X11_changes_X11 4 rfl rfl 8 (by decide) (List.mem_of_getElem? (i := 2) rfl) rfl rfl dX11_changes_146 ?_
        refine V_iload X 0 rfl dX11_changes_149 ?_
        refine V_iast (ws' := [((R 10), .inl (Y 0, 40, .inl (upd a10 d_ w_))), ((R 11), .inl (Y 0, 40, .inl (upd a11 d_ y))), ((R 12), .inl (Y 0, 40, .inl (upd a12 d_ v7))), ((R 13), .inl (Y 0, 40, .inl a13)), (m, .inr (10, mF R v0 v7 v8 (0 : Int32) v15 v16 v17 v18 v19 v27 v31 v32 v33 v34 v38 v42 v44)), ((R 2), .inl (Y 0, 36, .inl a2)), ((R 3), .inl (Y 0, 36, .inl a3)), ((R 4), .inl (Y 0, 36, .inl a4)), ((R 6), .inl (Y 0, 4, .inl a6))]) X 2 d_ rfl tv8 (by omega) rfl dX11_changes_151 ?_
        refine V_aload_n X 1 rfl dX11_changes_152 ?_
        refine V_get (C := RX11) (T := TX11) (N := 50) (ci := 10) (v := .ref (R 13)) X in_X11_changes_X11 4 rfl rfl 13 (by decide) (List.mem_of_getElem? (i := 6) rfl) rfl rfl dX11_changes_153 ?_
        refine V_aload_n X 1 rfl dX11_changes_156 ?_
        refine V_get (C := RX11) (T := TX11) (N := 50) (ci := 10) (v := .int v8) X in_X11_changes_X11 4 rfl rfl 8 (by decide) (List.mem_of_getElem? (i := 2) rfl) rfl rfl dX11_changes_157 ?_
        refine V_iload_n X 4 rfl dX11_changes_160 ?_
        refine V_iast (ws' := [((R 10), .inl (Y 0, 40, .inl (upd a10 d_ w_))), ((R 11), .inl (Y 0, 40, .inl (upd a11 d_ y))), ((R 12), .inl (Y 0, 40, .inl (upd a12 d_ v7))), ((R 13), .inl (Y 0, 40, .inl (upd a13 d_ v))), (m, .inr (10, mF R v0 v7 v8 (0 : Int32) v15 v16 v17 v18 v19 v27 v31 v32 v33 v34 v38 v42 v44)), ((R 2), .inl (Y 0, 36, .inl a2)), ((R 3), .inl (Y 0, 36, .inl a3)), ((R 4), .inl (Y 0, 36, .inl a4)), ((R 6), .inl (Y 0, 4, .inl a6))]) X 3 d_ rfl tv8 (by omega) rfl dX11_changes_161 ?_
        refine V_aload_n X 1 rfl dX11_changes_162 ?_
        refine V_dup X rfl dX11_changes_163 ?_
        refine V_get (C := RX11) (T := TX11) (N := 50) (ci := 10) (v := .int v8) X in_X11_changes_X11 4 rfl rfl 8 (by decide) (List.mem_of_getElem? (i := 2) rfl) rfl rfl dX11_changes_164 ?_
        refine V_iconst (v := (1 : Int32)) X (by decide) dX11_changes_167 ?_
        refine V_iaddZ X tv8 (show (1 : Int32).toInt = 1 from by decide) (by omega) (by omega) dX11_changes_168 (fun x_79 ex_79 tx_79 => ?_)
        have tx_79 : x_79.toInt = (((d_ + 1) : Nat) : Int) := by omega
        refine V_put (C := RX11) (T := TX11) (N := 50) (ci := 10) (v := .int x_79) (ty := tyX11 8) (ws' := [((R 10), .inl (Y 0, 40, .inl (upd a10 d_ w_))), ((R 11), .inl (Y 0, 40, .inl (upd a11 d_ y))), ((R 12), .inl (Y 0, 40, .inl (upd a12 d_ v7))), ((R 13), .inl (Y 0, 40, .inl (upd a13 d_ v))), (m, .inr (10, mF R v0 v7 x_79 (0 : Int32) v15 v16 v17 v18 v19 v27 v31 v32 v33 v34 v38 v42 v44)), ((R 2), .inl (Y 0, 36, .inl a2)), ((R 3), .inl (Y 0, 36, .inl a3)), ((R 4), .inl (Y 0, 36, .inl a4)), ((R 6), .inl (Y 0, 4, .inl a6))]) X in_X11_changes_X11 4 rfl rfl 8 (by decide) (List.mem_of_getElem? (i := 2) rfl) rfl tyX11 tyX11_ok nmX11 rfl (tyX11_ok 8 (by decide)) rfl rfl (Nat.le_of_ble_eq_true rfl) rfl dX11_changes_169 ?_
        refine V_aload_n X 1 rfl dX11_changes_172 ?_
        refine V_iload_n X 2 rfl dX11_changes_173 ?_
        refine V_iload_n X 3 rfl dX11_changes_174 ?_
        refine V_iload_n X 4 rfl dX11_changes_175 ?_
        refine V_callV (C := RX11) (wr := [((R 10), .inl (Y 0, 40, .inl (upd a10 d_ w_))), ((R 11), .inl (Y 0, 40, .inl (upd a11 d_ y))), ((R 12), .inl (Y 0, 40, .inl (upd a12 d_ v7))), ((R 13), .inl (Y 0, 40, .inl (upd a13 d_ v)))]) (st := []) X (c_X11_lays l D Y m R v0 v7 x_79 (0 : Int32) v15 v16 v17 v18 v19 v27 v31 v32 v33 v34 v38 v42 v44 a2 a3 a4 a6 n s0 y ln w_ v hs0 hln hn12 hm) 3 gX11_changes_X11_lays rfl (by decide +kernel) ⟨rfl, rfl⟩ ⟨Nat.le_of_ble_eq_true rfl, Nat.le_of_ble_eq_true rfl⟩ [4, 5, 6, 7, 8] [0, 1, 2, 3] rfl rfl rfl rfl (by decide) (ci := 10) rfl rfl 0 rfl rfl rfl (Nat.le_of_ble_eq_true rfl) ⟨Nat.le_of_ble_eq_true rfl, Nat.le_of_ble_eq_true rfl⟩ dX11_changes_176 (fun v_176 w_176 h_176 => ?_)
        rcases h_176 with ⟨rfl, rfl, hh__81, hhv_82⟩ | ⟨rfl, rfl, hh__83, hhv_84⟩ | ⟨rfl, rfl, hh__85, hhv_86⟩ | ⟨y1, rfl, rfl, hh3_88, htyn_89, hhy4_90⟩ | ⟨rfl, rfl, hh4_91⟩
        · exfalso; omega
        · exfalso; omega
        · exfalso; omega
        · exfalso; omega
        · refine V_to (pc' := 179) (ls' := [(4, .int v7), (0, .ref m), (1, .int w_), (2, .int y), (3, .int v)]) (st' := []) (ws' := [((R 10), .inl (Y 0, 40, .inl (upd a10 d_ w_))), ((R 11), .inl (Y 0, 40, .inl (upd a11 d_ y))), ((R 12), .inl (Y 0, 40, .inl (upd a12 d_ v7))), ((R 13), .inl (Y 0, 40, .inl (upd a13 d_ v))), (m, .inr (10, mF R v0 v x_79 (0 : Int32) v15 v16 v17 v18 v19 v27 v31 v32 v33 v34 v38 v42 v44)), ((R 2), .inl (Y 0, 36, .inl a2)), ((R 3), .inl (Y 0, 36, .inl a3)), ((R 4), .inl (Y 0, 36, .inl a4)), ((R 6), .inl (Y 0, 4, .inl a6))]) ?_ rfl rfl rfl rfl
          refine V_iload X 0 rfl dX11_changes_179 ?_
          refine V_ws (ws' := [(m, .inr (10, mF R v0 v x_79 (0 : Int32) v15 v16 v17 v18 v19 v27 v31 v32 v33 v34 v38 v42 v44)), ((R 2), .inl (Y 0, 36, .inl a2)), ((R 3), .inl (Y 0, 36, .inl a3)), ((R 4), .inl (Y 0, 36, .inl a4)), ((R 6), .inl (Y 0, 4, .inl a6)), ((R 10), .inl (Y 0, 40, .inl (upd a10 d_ w_))), ((R 11), .inl (Y 0, 40, .inl (upd a11 d_ y))), ((R 12), .inl (Y 0, 40, .inl (upd a12 d_ v7))), ((R 13), .inl (Y 0, 40, .inl (upd a13 d_ v)))]) [4, 5, 6, 7, 8, 0, 1, 2, 3] rfl rfl rfl ?_
          exact V_iret X hr dX11_changes_181 (Or.inr (Or.inr (Or.inr (Or.inr (Or.inr (Or.inr (Or.inr (⟨(upd a10 d_ w_), (upd a11 d_ y), (upd a12 d_ v7), (upd a13 d_ v), x_79, rfl, rfl, hh4_91, (by unfold chD; rw [if_pos (by omega)]; omega), (chg_lt (by omega)), (chg_lt (by omega)), (chg_lt (by omega)), (chg_lt (by omega)), (by omega)⟩))))))))
      · refine V_iconst (v := (1 : Int32)) X (by decide) dX11_changes_31 ?_
        refine V_istore (ls' := [(5, .int (1 : Int32)), (4, .int v7), (0, .ref m), (1, .int w_), (2, .int y), (3, .int v)]) X (by decide) rfl dX11_changes_32 ?_
        refine V_ls (ls' := [(0, .ref m), (1, .int w_), (2, .int y), (3, .int v), (4, .int v7), (5, .int (1 : Int32))]) [2, 3, 4, 5, 1, 0] rfl ?_
        refine V_ws (ws' := [(m, .inr (10, mF R v0 v7 v8 (0 : Int32) v15 v16 v17 v18 v19 v27 v31 v32 v33 v34 v38 v42 v44)), ((R 2), .inl (Y 0, 36, .inl a2)), ((R 3), .inl (Y 0, 36, .inl a3)), ((R 4), .inl (Y 0, 36, .inl a4)), ((R 6), .inl (Y 0, 4, .inl a6)), ((R 10), .inl (Y 0, 40, .inl a10)), ((R 11), .inl (Y 0, 40, .inl a11)), ((R 12), .inl (Y 0, 40, .inl a12)), ((R 13), .inl (Y 0, 40, .inl a13))]) [4, 5, 6, 7, 8, 0, 1, 2, 3] rfl rfl rfl ?_
        refine V_to (V_ind6 (fun (i5 : Int32) (k : Nat) (b10 : Nat → Int32) (b11 : Nat → Int32) (b12 : Nat → Int32) (b13 : Nat → Int32) => (i5.toInt = ((k : Nat) : Int)) ∧ (1 ≤ k ∧ k ≤ 40) ∧ (SHf a10 b10 k) ∧ (SHf a11 b11 k) ∧ (SHf a12 b12 k) ∧ (SHf a13 b13 k)) (fun (i5 : Int32) (k : Nat) (b10 : Nat → Int32) (b11 : Nat → Int32) (b12 : Nat → Int32) (b13 : Nat → Int32) => 40 - k) (fun (i5 : Int32) (k : Nat) (b10 : Nat → Int32) (b11 : Nat → Int32) (b12 : Nat → Int32) (b13 : Nat → Int32) => [(0, .ref m), (1, .int w_), (2, .int y), (3, .int v), (4, .int v7), (5, .int i5)]) (fun (i5 : Int32) (k : Nat) (b10 : Nat → Int32) (b11 : Nat → Int32) (b12 : Nat → Int32) (b13 : Nat → Int32) => [(m, .inr (10, mF R v0 v7 v8 (0 : Int32) v15 v16 v17 v18 v19 v27 v31 v32 v33 v34 v38 v42 v44)), ((R 2), .inl (Y 0, 36, .inl a2)), ((R 3), .inl (Y 0, 36, .inl a3)), ((R 4), .inl (Y 0, 36, .inl a4)), ((R 6), .inl (Y 0, 4, .inl a6)), ((R 10), .inl (Y 0, 40, .inl b10)), ((R 11), .inl (Y 0, 40, .inl b11)), ((R 12), .inl (Y 0, 40, .inl b12)), ((R 13), .inl (Y 0, 40, .inl b13))]) (fun i5 k b10 b11 b12 b13 hI_34 ih_34 => ?_) (1 : Int32) 1 a10 a11 a12 a13 ?_) rfl rfl rfl rfl
        · obtain ⟨ti5, hk, hsh10, hsh11, hsh12, hsh13⟩ := hI_34
          refine V_to (ls' := [(0, .ref m), (1, .int w_), (2, .int y), (3, .int v), (4, .int v7), (5, .int i5)]) (ws' := [(m, .inr (10, mF R v0 v7 v8 (0 : Int32) v15 v16 v17 v18 v19 v27 v31 v32 v33 v34 v38 v42 v44)), ((R 2), .inl (Y 0, 36, .inl a2)), ((R 3), .inl (Y 0, 36, .inl a3)), ((R 4), .inl (Y 0, 36, .inl a4)), ((R 6), .inl (Y 0, 4, .inl a6)), ((R 10), .inl (Y 0, 40, .inl b10)), ((R 11), .inl (Y 0, 40, .inl b11)), ((R 12), .inl (Y 0, 40, .inl b12)), ((R 13), .inl (Y 0, 40, .inl b13))]) ?_ rfl rfl rfl rfl
          refine V_iload X 5 rfl dX11_changes_34 ?_
          refine V_bipush (v := (40 : Int32)) X (by decide) dX11_changes_36 ?_
          refine V_icmp_ge X ti5 (show (40 : Int32).toInt = 40 from by decide) 111 dX11_changes_38 (by decide) (fun c_38 => ?_) (fun c_38 => ?_)
          · refine V_aload_n X 0 rfl dX11_changes_111 ?_
            refine V_dup X rfl dX11_changes_112 ?_
            refine V_get (C := RX11) (T := TX11) (N := 50) (ci := 10) (v := .int v8) X in_X11_changes_X11 0 rfl rfl 8 (by decide) (List.mem_of_getElem? (i := 2) rfl) rfl rfl dX11_changes_113 ?_
            refine V_iconst (v := (1 : Int32)) X (by decide) dX11_changes_116 ?_
            refine V_isubZ X tv8 (show (1 : Int32).toInt = 1 from by decide) (by omega) (by omega) dX11_changes_117 (fun x_92 ex_92 tx_92 => ?_)
            have tx_92 : x_92.toInt = ((39 : Nat) : Int) := by omega
            refine V_put (C := RX11) (T := TX11) (N := 50) (ci := 10) (v := .int x_92) (ty := tyX11 8) (ws' := [(m, .inr (10, mF R v0 v7 x_92 (0 : Int32) v15 v16 v17 v18 v19 v27 v31 v32 v33 v34 v38 v42 v44)), ((R 2), .inl (Y 0, 36, .inl a2)), ((R 3), .inl (Y 0, 36, .inl a3)), ((R 4), .inl (Y 0, 36, .inl a4)), ((R 6), .inl (Y 0, 4, .inl a6)), ((R 10), .inl (Y 0, 40, .inl b10)), ((R 11), .inl (Y 0, 40, .inl b11)), ((R 12), .inl (Y 0, 40, .inl b12)), ((R 13), .inl (Y 0, 40, .inl b13))]) X in_X11_changes_X11 0 rfl rfl 8 (by decide) (List.mem_of_getElem? (i := 2) rfl) rfl tyX11 tyX11_ok nmX11 rfl (tyX11_ok 8 (by decide)) rfl rfl (Nat.le_of_ble_eq_true rfl) rfl dX11_changes_118 ?_
            refine V_aload_n X 0 rfl dX11_changes_121 ?_
            refine V_get (C := RX11) (T := TX11) (N := 50) (ci := 10) (v := .ref (R 10)) X in_X11_changes_X11 0 rfl rfl 10 (by decide) (List.mem_of_getElem? (i := 3) rfl) rfl rfl dX11_changes_122 ?_
            refine V_aload_n X 0 rfl dX11_changes_125 ?_
            refine V_get (C := RX11) (T := TX11) (N := 50) (ci := 10) (v := .int x_92) X in_X11_changes_X11 0 rfl rfl 8 (by decide) (List.mem_of_getElem? (i := 2) rfl) rfl rfl dX11_changes_126 ?_
            refine V_iload_n X 1 rfl dX11_changes_129 ?_
            refine V_iast (ws' := [(m, .inr (10, mF R v0 v7 x_92 (0 : Int32) v15 v16 v17 v18 v19 v27 v31 v32 v33 v34 v38 v42 v44)), ((R 2), .inl (Y 0, 36, .inl a2)), ((R 3), .inl (Y 0, 36, .inl a3)), ((R 4), .inl (Y 0, 36, .inl a4)), ((R 6), .inl (Y 0, 4, .inl a6)), ((R 10), .inl (Y 0, 40, .inl (upd b10 39 w_))), ((R 11), .inl (Y 0, 40, .inl b11)), ((R 12), .inl (Y 0, 40, .inl b12)), ((R 13), .inl (Y 0, 40, .inl b13))]) X 5 39 rfl tx_92 (by omega) rfl dX11_changes_130 ?_
            refine V_aload_n X 0 rfl dX11_changes_131 ?_
            refine V_get (C := RX11) (T := TX11) (N := 50) (ci := 10) (v := .ref (R 11)) X in_X11_changes_X11 0 rfl rfl 11 (by decide) (List.mem_of_getElem? (i := 4) rfl) rfl rfl dX11_changes_132 ?_
            refine V_aload_n X 0 rfl dX11_changes_135 ?_
            refine V_get (C := RX11) (T := TX11) (N := 50) (ci := 10) (v := .int x_92) X in_X11_changes_X11 0 rfl rfl 8 (by decide) (List.mem_of_getElem? (i := 2) rfl) rfl rfl dX11_changes_136 ?_
            refine V_iload_n X 2 rfl dX11_changes_139 ?_
            refine V_iast (ws' := [(m, .inr (10, mF R v0 v7 x_92 (0 : Int32) v15 v16 v17 v18 v19 v27 v31 v32 v33 v34 v38 v42 v44)), ((R 2), .inl (Y 0, 36, .inl a2)), ((R 3), .inl (Y 0, 36, .inl a3)), ((R 4), .inl (Y 0, 36, .inl a4)), ((R 6), .inl (Y 0, 4, .inl a6)), ((R 10), .inl (Y 0, 40, .inl (upd b10 39 w_))), ((R 11), .inl (Y 0, 40, .inl (upd b11 39 y))), ((R 12), .inl (Y 0, 40, .inl b12)), ((R 13), .inl (Y 0, 40, .inl b13))]) X 6 39 rfl tx_92 (by omega) rfl dX11_changes_140 ?_
            refine V_aload_n X 0 rfl dX11_changes_141 ?_
            refine V_get (C := RX11) (T := TX11) (N := 50) (ci := 10) (v := .ref (R 12)) X in_X11_changes_X11 0 rfl rfl 12 (by decide) (List.mem_of_getElem? (i := 5) rfl) rfl rfl dX11_changes_142 ?_
            refine V_aload_n X 0 rfl dX11_changes_145 ?_
            refine V_get (C := RX11) (T := TX11) (N := 50) (ci := 10) (v := .int x_92) X in_X11_changes_X11 0 rfl rfl 8 (by decide) (List.mem_of_getElem? (i := 2) rfl) rfl rfl dX11_changes_146 ?_
            refine V_iload X 4 rfl dX11_changes_149 ?_
            refine V_iast (ws' := [(m, .inr (10, mF R v0 v7 x_92 (0 : Int32) v15 v16 v17 v18 v19 v27 v31 v32 v33 v34 v38 v42 v44)), ((R 2), .inl (Y 0, 36, .inl a2)), ((R 3), .inl (Y 0, 36, .inl a3)), ((R 4), .inl (Y 0, 36, .inl a4)), ((R 6), .inl (Y 0, 4, .inl a6)), ((R 10), .inl (Y 0, 40, .inl (upd b10 39 w_))), ((R 11), .inl (Y 0, 40, .inl (upd b11 39 y))), ((R 12), .inl (Y 0, 40, .inl (upd b12 39 v7))), ((R 13), .inl (Y 0, 40, .inl b13))]) X 7 39 rfl tx_92 (by omega) rfl dX11_changes_151 ?_
            refine V_aload_n X 0 rfl dX11_changes_152 ?_
            refine V_get (C := RX11) (T := TX11) (N := 50) (ci := 10) (v := .ref (R 13)) X in_X11_changes_X11 0 rfl rfl 13 (by decide) (List.mem_of_getElem? (i := 6) rfl) rfl rfl dX11_changes_153 ?_
            refine V_aload_n X 0 rfl dX11_changes_156 ?_
            refine V_get (C := RX11) (T := TX11) (N := 50) (ci := 10) (v := .int x_92) X in_X11_changes_X11 0 rfl rfl 8 (by decide) (List.mem_of_getElem? (i := 2) rfl) rfl rfl dX11_changes_157 ?_
            refine V_iload_n X 3 rfl dX11_changes_160 ?_
            refine V_iast (ws' := [(m, .inr (10, mF R v0 v7 x_92 (0 : Int32) v15 v16 v17 v18 v19 v27 v31 v32 v33 v34 v38 v42 v44)), ((R 2), .inl (Y 0, 36, .inl a2)), ((R 3), .inl (Y 0, 36, .inl a3)), ((R 4), .inl (Y 0, 36, .inl a4)), ((R 6), .inl (Y 0, 4, .inl a6)), ((R 10), .inl (Y 0, 40, .inl (upd b10 39 w_))), ((R 11), .inl (Y 0, 40, .inl (upd b11 39 y))), ((R 12), .inl (Y 0, 40, .inl (upd b12 39 v7))), ((R 13), .inl (Y 0, 40, .inl (upd b13 39 v)))]) X 8 39 rfl tx_92 (by omega) rfl dX11_changes_161 ?_
            refine V_aload_n X 0 rfl dX11_changes_162 ?_
            refine V_dup X rfl dX11_changes_163 ?_
            refine V_get (C := RX11) (T := TX11) (N := 50) (ci := 10) (v := .int x_92) X in_X11_changes_X11 0 rfl rfl 8 (by decide) (List.mem_of_getElem? (i := 2) rfl) rfl rfl dX11_changes_164 ?_
            refine V_iconst (v := (1 : Int32)) X (by decide) dX11_changes_167 ?_
            refine V_iaddZ X tx_92 (show (1 : Int32).toInt = 1 from by decide) (by omega) (by omega) dX11_changes_168 (fun x_93 ex_93 tx_93 => ?_)
            have tx_93 : x_93.toInt = (((39 + 1) : Nat) : Int) := by omega
            refine V_put (C := RX11) (T := TX11) (N := 50) (ci := 10) (v := .int x_93) (ty := tyX11 8) (ws' := [(m, .inr (10, mF R v0 v7 x_93 (0 : Int32) v15 v16 v17 v18 v19 v27 v31 v32 v33 v34 v38 v42 v44)), ((R 2), .inl (Y 0, 36, .inl a2)), ((R 3), .inl (Y 0, 36, .inl a3)), ((R 4), .inl (Y 0, 36, .inl a4)), ((R 6), .inl (Y 0, 4, .inl a6)), ((R 10), .inl (Y 0, 40, .inl (upd b10 39 w_))), ((R 11), .inl (Y 0, 40, .inl (upd b11 39 y))), ((R 12), .inl (Y 0, 40, .inl (upd b12 39 v7))), ((R 13), .inl (Y 0, 40, .inl (upd b13 39 v)))]) X in_X11_changes_X11 0 rfl rfl 8 (by decide) (List.mem_of_getElem? (i := 2) rfl) rfl tyX11 tyX11_ok nmX11 rfl (tyX11_ok 8 (by decide)) rfl rfl (Nat.le_of_ble_eq_true rfl) rfl dX11_changes_169 ?_
            refine V_aload_n X 0 rfl dX11_changes_172 ?_
            refine V_iload_n X 1 rfl dX11_changes_173 ?_
            refine V_iload_n X 2 rfl dX11_changes_174 ?_
            refine V_iload_n X 3 rfl dX11_changes_175 ?_
            refine V_callV (C := RX11) (wr := [((R 10), .inl (Y 0, 40, .inl (upd b10 39 w_))), ((R 11), .inl (Y 0, 40, .inl (upd b11 39 y))), ((R 12), .inl (Y 0, 40, .inl (upd b12 39 v7))), ((R 13), .inl (Y 0, 40, .inl (upd b13 39 v)))]) (st := []) X (c_X11_lays l D Y m R v0 v7 x_93 (0 : Int32) v15 v16 v17 v18 v19 v27 v31 v32 v33 v34 v38 v42 v44 a2 a3 a4 a6 n s0 y ln w_ v hs0 hln hn12 hm) 3 gX11_changes_X11_lays rfl (by decide +kernel) ⟨rfl, rfl⟩ ⟨Nat.le_of_ble_eq_true rfl, Nat.le_of_ble_eq_true rfl⟩ [0, 1, 2, 3, 4] [5, 6, 7, 8] rfl rfl rfl rfl (by decide) (ci := 10) rfl rfl 0 rfl rfl rfl (Nat.le_of_ble_eq_true rfl) ⟨Nat.le_of_ble_eq_true rfl, Nat.le_of_ble_eq_true rfl⟩ dX11_changes_176 (fun v_176 w_176 h_176 => ?_)
            rcases h_176 with ⟨rfl, rfl, hh__95, hhv_96⟩ | ⟨rfl, rfl, hh__97, hhv_98⟩ | ⟨rfl, rfl, hh__99, hhv_100⟩ | ⟨y1, rfl, rfl, hh3_102, htyn_103, hhy4_104⟩ | ⟨rfl, rfl, hh4_105⟩
            · exfalso; omega
            · exfalso; omega
            · exfalso; omega
            · exfalso; omega
            · refine V_to (pc' := 179) (ls' := [(0, .ref m), (1, .int w_), (2, .int y), (3, .int v), (4, .int v7), (5, .int i5)]) (st' := []) (ws' := [((R 10), .inl (Y 0, 40, .inl (upd b10 39 w_))), ((R 11), .inl (Y 0, 40, .inl (upd b11 39 y))), ((R 12), .inl (Y 0, 40, .inl (upd b12 39 v7))), ((R 13), .inl (Y 0, 40, .inl (upd b13 39 v))), (m, .inr (10, mF R v0 v x_93 (0 : Int32) v15 v16 v17 v18 v19 v27 v31 v32 v33 v34 v38 v42 v44)), ((R 2), .inl (Y 0, 36, .inl a2)), ((R 3), .inl (Y 0, 36, .inl a3)), ((R 4), .inl (Y 0, 36, .inl a4)), ((R 6), .inl (Y 0, 4, .inl a6))]) ?_ rfl rfl rfl rfl
              refine V_iload X 4 rfl dX11_changes_179 ?_
              refine V_ws (ws' := [(m, .inr (10, mF R v0 v x_93 (0 : Int32) v15 v16 v17 v18 v19 v27 v31 v32 v33 v34 v38 v42 v44)), ((R 2), .inl (Y 0, 36, .inl a2)), ((R 3), .inl (Y 0, 36, .inl a3)), ((R 4), .inl (Y 0, 36, .inl a4)), ((R 6), .inl (Y 0, 4, .inl a6)), ((R 10), .inl (Y 0, 40, .inl (upd b10 39 w_))), ((R 11), .inl (Y 0, 40, .inl (upd b11 39 y))), ((R 12), .inl (Y 0, 40, .inl (upd b12 39 v7))), ((R 13), .inl (Y 0, 40, .inl (upd b13 39 v)))]) [4, 5, 6, 7, 8, 0, 1, 2, 3] rfl rfl rfl ?_
              exact V_iret X hr dX11_changes_181 (Or.inr (Or.inr (Or.inr (Or.inr (Or.inr (Or.inr (Or.inr (⟨(upd b10 39 w_), (upd b11 39 y), (upd b12 39 v7), (upd b13 39 v), x_93, rfl, rfl, hh4_105, (by unfold chD; rw [if_neg (by omega)]; omega), (chg_sh hsh10 (by omega) (by omega) rfl), (chg_sh hsh11 (by omega) (by omega) rfl), (chg_sh hsh12 (by omega) (by omega) rfl), (chg_sh hsh13 (by omega) (by omega) rfl), (by omega)⟩))))))))
          · refine V_aload_n X 0 rfl dX11_changes_41 ?_
            refine V_get (C := RX11) (T := TX11) (N := 50) (ci := 10) (v := .ref (R 10)) X in_X11_changes_X11 0 rfl rfl 10 (by decide) (List.mem_of_getElem? (i := 3) rfl) rfl rfl dX11_changes_42 ?_
            refine V_iload X 5 rfl dX11_changes_45 ?_
            refine V_iconst (v := (1 : Int32)) X (by decide) dX11_changes_47 ?_
            refine V_isubZ X ti5 (show (1 : Int32).toInt = 1 from by decide) (by omega) (by omega) dX11_changes_48 (fun x_106 ex_106 tx_106 => ?_)
            have tx_106 : x_106.toInt = (((k - 1) : Nat) : Int) := by omega
            refine V_aload_n X 0 rfl dX11_changes_49 ?_
            refine V_get (C := RX11) (T := TX11) (N := 50) (ci := 10) (v := .ref (R 10)) X in_X11_changes_X11 0 rfl rfl 10 (by decide) (List.mem_of_getElem? (i := 3) rfl) rfl rfl dX11_changes_50 ?_
            refine V_iload X 5 rfl dX11_changes_53 ?_
            refine V_iald X 5 k rfl ti5 (by omega) dX11_changes_55 ?_
            refine V_iast (ws' := [(m, .inr (10, mF R v0 v7 v8 (0 : Int32) v15 v16 v17 v18 v19 v27 v31 v32 v33 v34 v38 v42 v44)), ((R 2), .inl (Y 0, 36, .inl a2)), ((R 3), .inl (Y 0, 36, .inl a3)), ((R 4), .inl (Y 0, 36, .inl a4)), ((R 6), .inl (Y 0, 4, .inl a6)), ((R 10), .inl (Y 0, 40, .inl (upd b10 (k - 1) (b10 k)))), ((R 11), .inl (Y 0, 40, .inl b11)), ((R 12), .inl (Y 0, 40, .inl b12)), ((R 13), .inl (Y 0, 40, .inl b13))]) X 5 (k - 1) rfl tx_106 (by omega) rfl dX11_changes_56 ?_
            refine V_aload_n X 0 rfl dX11_changes_57 ?_
            refine V_get (C := RX11) (T := TX11) (N := 50) (ci := 10) (v := .ref (R 11)) X in_X11_changes_X11 0 rfl rfl 11 (by decide) (List.mem_of_getElem? (i := 4) rfl) rfl rfl dX11_changes_58 ?_
            refine V_iload X 5 rfl dX11_changes_61 ?_
            refine V_iconst (v := (1 : Int32)) X (by decide) dX11_changes_63 ?_
            refine V_isubZ X ti5 (show (1 : Int32).toInt = 1 from by decide) (by omega) (by omega) dX11_changes_64 (fun x_107 ex_107 tx_107 => ?_)
            have tx_107 : x_107.toInt = (((k - 1) : Nat) : Int) := by omega
            refine V_aload_n X 0 rfl dX11_changes_65 ?_
            refine V_get (C := RX11) (T := TX11) (N := 50) (ci := 10) (v := .ref (R 11)) X in_X11_changes_X11 0 rfl rfl 11 (by decide) (List.mem_of_getElem? (i := 4) rfl) rfl rfl dX11_changes_66 ?_
            refine V_iload X 5 rfl dX11_changes_69 ?_
            refine V_iald X 6 k rfl ti5 (by omega) dX11_changes_71 ?_
            refine V_iast (ws' := [(m, .inr (10, mF R v0 v7 v8 (0 : Int32) v15 v16 v17 v18 v19 v27 v31 v32 v33 v34 v38 v42 v44)), ((R 2), .inl (Y 0, 36, .inl a2)), ((R 3), .inl (Y 0, 36, .inl a3)), ((R 4), .inl (Y 0, 36, .inl a4)), ((R 6), .inl (Y 0, 4, .inl a6)), ((R 10), .inl (Y 0, 40, .inl (upd b10 (k - 1) (b10 k)))), ((R 11), .inl (Y 0, 40, .inl (upd b11 (k - 1) (b11 k)))), ((R 12), .inl (Y 0, 40, .inl b12)), ((R 13), .inl (Y 0, 40, .inl b13))]) X 6 (k - 1) rfl tx_107 (by omega) rfl dX11_changes_72 ?_
            refine V_aload_n X 0 rfl dX11_changes_73 ?_
            refine V_get (C := RX11) (T := TX11) (N := 50) (ci := 10) (v := .ref (R 12)) X in_X11_changes_X11 0 rfl rfl 12 (by decide) (List.mem_of_getElem? (i := 5) rfl) rfl rfl dX11_changes_74 ?_
            refine V_iload X 5 rfl dX11_changes_77 ?_
            refine V_iconst (v := (1 : Int32)) X (by decide) dX11_changes_79 ?_
            refine V_isubZ X ti5 (show (1 : Int32).toInt = 1 from by decide) (by omega) (by omega) dX11_changes_80 (fun x_108 ex_108 tx_108 => ?_)
            have tx_108 : x_108.toInt = (((k - 1) : Nat) : Int) := by omega
            refine V_aload_n X 0 rfl dX11_changes_81 ?_
            refine V_get (C := RX11) (T := TX11) (N := 50) (ci := 10) (v := .ref (R 12)) X in_X11_changes_X11 0 rfl rfl 12 (by decide) (List.mem_of_getElem? (i := 5) rfl) rfl rfl dX11_changes_82 ?_
            refine V_iload X 5 rfl dX11_changes_85 ?_
            refine V_iald X 7 k rfl ti5 (by omega) dX11_changes_87 ?_
            refine V_iast (ws' := [(m, .inr (10, mF R v0 v7 v8 (0 : Int32) v15 v16 v17 v18 v19 v27 v31 v32 v33 v34 v38 v42 v44)), ((R 2), .inl (Y 0, 36, .inl a2)), ((R 3), .inl (Y 0, 36, .inl a3)), ((R 4), .inl (Y 0, 36, .inl a4)), ((R 6), .inl (Y 0, 4, .inl a6)), ((R 10), .inl (Y 0, 40, .inl (upd b10 (k - 1) (b10 k)))), ((R 11), .inl (Y 0, 40, .inl (upd b11 (k - 1) (b11 k)))), ((R 12), .inl (Y 0, 40, .inl (upd b12 (k - 1) (b12 k)))), ((R 13), .inl (Y 0, 40, .inl b13))]) X 7 (k - 1) rfl tx_108 (by omega) rfl dX11_changes_88 ?_
            refine V_aload_n X 0 rfl dX11_changes_89 ?_
            refine V_get (C := RX11) (T := TX11) (N := 50) (ci := 10) (v := .ref (R 13)) X in_X11_changes_X11 0 rfl rfl 13 (by decide) (List.mem_of_getElem? (i := 6) rfl) rfl rfl dX11_changes_90 ?_
            refine V_iload X 5 rfl dX11_changes_93 ?_
            refine V_iconst (v := (1 : Int32)) X (by decide) dX11_changes_95 ?_
            refine V_isubZ X ti5 (show (1 : Int32).toInt = 1 from by decide) (by omega) (by omega) dX11_changes_96 (fun x_109 ex_109 tx_109 => ?_)
            have tx_109 : x_109.toInt = (((k - 1) : Nat) : Int) := by omega
            refine V_aload_n X 0 rfl dX11_changes_97 ?_
            refine V_get (C := RX11) (T := TX11) (N := 50) (ci := 10) (v := .ref (R 13)) X in_X11_changes_X11 0 rfl rfl 13 (by decide) (List.mem_of_getElem? (i := 6) rfl) rfl rfl dX11_changes_98 ?_
            refine V_iload X 5 rfl dX11_changes_101 ?_
            refine V_iald X 8 k rfl ti5 (by omega) dX11_changes_103 ?_
            refine V_iast (ws' := [(m, .inr (10, mF R v0 v7 v8 (0 : Int32) v15 v16 v17 v18 v19 v27 v31 v32 v33 v34 v38 v42 v44)), ((R 2), .inl (Y 0, 36, .inl a2)), ((R 3), .inl (Y 0, 36, .inl a3)), ((R 4), .inl (Y 0, 36, .inl a4)), ((R 6), .inl (Y 0, 4, .inl a6)), ((R 10), .inl (Y 0, 40, .inl (upd b10 (k - 1) (b10 k)))), ((R 11), .inl (Y 0, 40, .inl (upd b11 (k - 1) (b11 k)))), ((R 12), .inl (Y 0, 40, .inl (upd b12 (k - 1) (b12 k)))), ((R 13), .inl (Y 0, 40, .inl (upd b13 (k - 1) (b13 k))))]) X 8 (k - 1) rfl tx_109 (by omega) rfl dX11_changes_104 ?_
            refine V_iincZ X (fun vv_ => [(5, .int vv_), (0, .ref m), (1, .int w_), (2, .int y), (3, .int v), (4, .int v7)]) ti5 (by omega) (by omega) (by decide) 5 rfl (by decide) (fun _ => rfl) dX11_changes_105 (fun x_110 ex_110 tx_110 => ?_)
            have tx_110 : x_110.toInt = (((k + 1) : Nat) : Int) := by omega
            refine V_goto X 34 (by decide) dX11_changes_108 ?_
            refine V_ls (ls' := [(0, .ref m), (1, .int w_), (2, .int y), (3, .int v), (4, .int v7), (5, .int x_110)]) [1, 2, 3, 4, 5, 0] rfl ?_
            exact V_to (ih_34 x_110 (k + 1) (upd b10 (k - 1) (b10 k)) (upd b11 (k - 1) (b11 k)) (upd b12 (k - 1) (b12 k)) (upd b13 (k - 1) (b13 k)) ⟨(by omega), (by omega), (SHf_s hsh10 hk.1 (by omega)), (SHf_s hsh11 hk.1 (by omega)), (SHf_s hsh12 hk.1 (by omega)), (SHf_s hsh13 hk.1 (by omega))⟩ (by omega)) rfl rfl rfl rfl
        · exact ⟨(by have h9 : (1 : Int32).toInt = 1 := (show (1 : Int32).toInt = 1 from by decide); omega), (by omega), (SHf_0 a10), (SHf_0 a11), (SHf_0 a12), (SHf_0 a13)⟩
    · refine V_iload X 0 rfl dX11_changes_14 ?_
      refine V_ws (ws' := [(m, .inr (10, mF R v0 v7 v8 v9 v15 v16 v17 v18 v19 v27 v31 v32 v33 v34 v38 v42 v44)), ((R 2), .inl (Y 0, 36, .inl a2)), ((R 3), .inl (Y 0, 36, .inl a3)), ((R 4), .inl (Y 0, 36, .inl a4)), ((R 6), .inl (Y 0, 4, .inl a6)), ((R 10), .inl (Y 0, 40, .inl a10)), ((R 11), .inl (Y 0, 40, .inl a11)), ((R 12), .inl (Y 0, 40, .inl a12)), ((R 13), .inl (Y 0, 40, .inl a13))]) [4, 5, 6, 7, 8, 0, 1, 2, 3] rfl rfl rfl ?_
      exact V_iret X hr dX11_changes_16 (Or.inr (Or.inr (Or.inl ⟨rfl, rfl, hh4_14, (by omega)⟩)))

theorem in_X11_undo_X11 : ∀ w ∈ wsX110, w ∈ wsX11_undo := fun w h => List.mem_cons_of_mem _ (List.mem_append_right _ h)
set_option maxHeartbeats 4000000 in
set_option maxRecDepth 100000 in
theorem c_X11_undo (l : Launch) (D : va_G) (Y : Nat → ClassId) (m : Nat) (R : Nat → Nat) (v0 : Int32) (v7 : Int32) (v8 : Int32) (v9 : Int32) (v15 : Int32) (v16 : Int32) (v17 : Int32) (v18 : Int32) (v19 : Int32) (v27 : Int32) (v31 : Int32) (v32 : Int32) (v33 : Int32) (v34 : Int32) (v38 : Int32) (v42 : Int32) (v44 : Int32) (a2 : Nat → Int32) (a3 : Nat → Int32) (a4 : Nat → Int32) (a6 : Nat → Int32) (n : Nat → Nat) (s0 : Nat) (ln : Nat) (a10 : Nat → Int32) (a11 : Nat → Int32) (a12 : Nat → Int32) (a13 : Nat → Int32) (d_ : Nat) (u_ : Nat) (hs0 : s0 < 3) (hln : 0 ≤ (a11 (d_ - 1)).toInt → (a11 (d_ - 1)).toInt % 100 = ((ln : Nat) : Int)) (hn12 : n s0 ≤ 12) (hm : ((0 ≤ (a10 (d_ - 1)).toInt ∧ (a10 (d_ - 1)).toInt < 3 ∧ (0 ≤ (a11 (d_ - 1)).toInt ∧ (a11 (d_ - 1)).toInt / 100 = ((s0 : Nat) : Int) ∧ ln < n s0)) ∨ ((a10 (d_ - 1)).toInt = 3 ∧ 0 ≤ (a11 (d_ - 1)).toInt ∧ (a11 (d_ - 1)).toInt < 4) ∨ ((a10 (d_ - 1)).toInt = 4 ∧ (a11 (d_ - 1)).toInt = 0))) (tv8 : v8.toInt = ((d_ : Nat) : Int)) (tv9 : v9.toInt = ((u_ : Nat) : Int)) (hdu : d_ + u_ ≤ 40) (h0 : 0 < d_) : Mg l yX11_undo wsX11_undo ({ frames := 2, cells := 0, slots := 0, locals := 43 }) D Y [(m, .inr (10, mF R v0 v7 v8 v9 v15 v16 v17 v18 v19 v27 v31 v32 v33 v34 v38 v42 v44)), ((R 2), .inl (Y 0, 36, .inl a2)), ((R 3), .inl (Y 0, 36, .inl a3)), ((R 4), .inl (Y 0, 36, .inl a4)), ((R 6), .inl (Y 0, 4, .inl a6)), ((R 10), .inl (Y 0, 40, .inl a10)), ((R 11), .inl (Y 0, 40, .inl a11)), ((R 12), .inl (Y 0, 40, .inl a12)), ((R 13), .inl (Y 0, 40, .inl a13))] [.ref m] 0 0 (fun vv__ ww__ => (∃ (r : Int32), ∃ (z8 : Int32), ∃ (z9 : Int32), vv__ = some (.int r) ∧ ww__ = [(m, .inr (10, mF R v0 v7 z8 z9 v15 v16 v17 v18 v19 v27 v31 v32 v33 v34 v38 v42 v44)), ((R 2), .inl (Y 0, 36, .inl (upd a2 (12 * s0 + ln) (a12 (d_ - 1))))), ((R 3), .inl (Y 0, 36, .inl a3)), ((R 4), .inl (Y 0, 36, .inl a4)), ((R 6), .inl (Y 0, 4, .inl a6)), ((R 10), .inl (Y 0, 40, .inl a10)), ((R 11), .inl (Y 0, 40, .inl a11)), ((R 12), .inl (Y 0, 40, .inl a12)), ((R 13), .inl (Y 0, 40, .inl a13))] ∧ ((a10 (d_ - 1)).toInt = 0) ∧ (0 ≤ (a11 (d_ - 1)).toInt ∧ (a11 (d_ - 1)).toInt / 100 = ((s0 : Nat) : Int) ∧ ln < n s0) ∧ (r.toInt = ((d_ - 1 : Nat) : Int)) ∧ (z8.toInt = ((d_ - 1 : Nat) : Int)) ∧ (z9.toInt = ((u_ + 1 : Nat) : Int))) ∨ (∃ (r : Int32), ∃ (z8 : Int32), ∃ (z9 : Int32), vv__ = some (.int r) ∧ ww__ = [(m, .inr (10, mF R v0 v7 z8 z9 v15 v16 v17 v18 v19 v27 v31 v32 v33 v34 v38 v42 v44)), ((R 2), .inl (Y 0, 36, .inl a2)), ((R 3), .inl (Y 0, 36, .inl (upd a3 (12 * s0 + ln) (a12 (d_ - 1))))), ((R 4), .inl (Y 0, 36, .inl a4)), ((R 6), .inl (Y 0, 4, .inl a6)), ((R 10), .inl (Y 0, 40, .inl a10)), ((R 11), .inl (Y 0, 40, .inl a11)), ((R 12), .inl (Y 0, 40, .inl a12)), ((R 13), .inl (Y 0, 40, .inl a13))] ∧ ((a10 (d_ - 1)).toInt = 1) ∧ (0 ≤ (a11 (d_ - 1)).toInt ∧ (a11 (d_ - 1)).toInt / 100 = ((s0 : Nat) : Int) ∧ ln < n s0) ∧ (r.toInt = ((d_ - 1 : Nat) : Int)) ∧ (z8.toInt = ((d_ - 1 : Nat) : Int)) ∧ (z9.toInt = ((u_ + 1 : Nat) : Int))) ∨ (∃ (r : Int32), ∃ (z8 : Int32), ∃ (z9 : Int32), vv__ = some (.int r) ∧ ww__ = [(m, .inr (10, mF R v0 v7 z8 z9 v15 v16 v17 v18 v19 v27 v31 v32 v33 v34 v38 v42 v44)), ((R 2), .inl (Y 0, 36, .inl a2)), ((R 3), .inl (Y 0, 36, .inl a3)), ((R 4), .inl (Y 0, 36, .inl (upd a4 (12 * s0 + ln) (a12 (d_ - 1))))), ((R 6), .inl (Y 0, 4, .inl a6)), ((R 10), .inl (Y 0, 40, .inl a10)), ((R 11), .inl (Y 0, 40, .inl a11)), ((R 12), .inl (Y 0, 40, .inl a12)), ((R 13), .inl (Y 0, 40, .inl a13))] ∧ ((a10 (d_ - 1)).toInt = 2) ∧ (0 ≤ (a11 (d_ - 1)).toInt ∧ (a11 (d_ - 1)).toInt / 100 = ((s0 : Nat) : Int) ∧ ln < n s0) ∧ (r.toInt = ((d_ - 1 : Nat) : Int)) ∧ (z8.toInt = ((d_ - 1 : Nat) : Int)) ∧ (z9.toInt = ((u_ + 1 : Nat) : Int))) ∨ (∃ (r : Int32), ∃ (yn : Nat), ∃ (z8 : Int32), ∃ (z9 : Int32), vv__ = some (.int r) ∧ ww__ = [(m, .inr (10, mF R v0 v7 z8 z9 v15 v16 v17 v18 v19 v27 v31 v32 v33 v34 v38 v42 v44)), ((R 2), .inl (Y 0, 36, .inl a2)), ((R 3), .inl (Y 0, 36, .inl a3)), ((R 4), .inl (Y 0, 36, .inl a4)), ((R 6), .inl (Y 0, 4, .inl (upd a6 yn (a12 (d_ - 1))))), ((R 10), .inl (Y 0, 40, .inl a10)), ((R 11), .inl (Y 0, 40, .inl a11)), ((R 12), .inl (Y 0, 40, .inl a12)), ((R 13), .inl (Y 0, 40, .inl a13))] ∧ ((a10 (d_ - 1)).toInt = 3) ∧ ((a11 (d_ - 1)).toInt = ((yn : Nat) : Int)) ∧ (yn < 4) ∧ (r.toInt = ((d_ - 1 : Nat) : Int)) ∧ (z8.toInt = ((d_ - 1 : Nat) : Int)) ∧ (z9.toInt = ((u_ + 1 : Nat) : Int))) ∨ (∃ (r : Int32), ∃ (z8 : Int32), ∃ (z9 : Int32), vv__ = some (.int r) ∧ ww__ = [(m, .inr (10, mF R v0 (a12 (d_ - 1)) z8 z9 v15 v16 v17 v18 v19 v27 v31 v32 v33 v34 v38 v42 v44)), ((R 2), .inl (Y 0, 36, .inl a2)), ((R 3), .inl (Y 0, 36, .inl a3)), ((R 4), .inl (Y 0, 36, .inl a4)), ((R 6), .inl (Y 0, 4, .inl a6)), ((R 10), .inl (Y 0, 40, .inl a10)), ((R 11), .inl (Y 0, 40, .inl a11)), ((R 12), .inl (Y 0, 40, .inl a12)), ((R 13), .inl (Y 0, 40, .inl a13))] ∧ ((a10 (d_ - 1)).toInt = 4) ∧ (r.toInt = ((d_ - 1 : Nat) : Int)) ∧ (z8.toInt = ((d_ - 1 : Nat) : Int)) ∧ (z9.toInt = ((u_ + 1 : Nat) : Int)))) := by
  refine Mg_of (cc := cX11_undo) (maxL := 1) (ret := (some .int)) (ls0 := [(0, .ref m)]) RX11 (by decide) rfl rfl rfl (Nat.le_of_ble_eq_true rfl) (fun p__ e__ s__ m__ b__ t__ c__ X hr hn => ?_)
  refine V_aload_n X 0 rfl dX11_undo_0 ?_
  refine V_get (C := RX11) (T := TX11) (N := 50) (ci := 10) (v := .int v8) X in_X11_undo_X11 0 rfl rfl 8 (by decide) (List.mem_of_getElem? (i := 1) rfl) rfl rfl dX11_undo_1 ?_
  refine V_if_ne X tv8 10 dX11_undo_4 (by decide) (fun c_4 => ?_) (fun c_4 => False.elim (by omega))
  refine V_aload_n X 0 rfl dX11_undo_10 ?_
  refine V_dup X rfl dX11_undo_11 ?_
  refine V_get (C := RX11) (T := TX11) (N := 50) (ci := 10) (v := .int v8) X in_X11_undo_X11 0 rfl rfl 8 (by decide) (List.mem_of_getElem? (i := 1) rfl) rfl rfl dX11_undo_12 ?_
  refine V_iconst (v := (1 : Int32)) X (by decide) dX11_undo_15 ?_
  refine V_isubZ X tv8 (show (1 : Int32).toInt = 1 from by decide) (by omega) (by omega) dX11_undo_16 (fun x_1 ex_1 tx_1 => ?_)
  have tx_1 : x_1.toInt = (((d_ - 1) : Nat) : Int) := by omega
  refine V_put (C := RX11) (T := TX11) (N := 50) (ci := 10) (v := .int x_1) (ty := tyX11 8) (ws' := [(m, .inr (10, mF R v0 v7 x_1 v9 v15 v16 v17 v18 v19 v27 v31 v32 v33 v34 v38 v42 v44)), ((R 2), .inl (Y 0, 36, .inl a2)), ((R 3), .inl (Y 0, 36, .inl a3)), ((R 4), .inl (Y 0, 36, .inl a4)), ((R 6), .inl (Y 0, 4, .inl a6)), ((R 10), .inl (Y 0, 40, .inl a10)), ((R 11), .inl (Y 0, 40, .inl a11)), ((R 12), .inl (Y 0, 40, .inl a12)), ((R 13), .inl (Y 0, 40, .inl a13))]) X in_X11_undo_X11 0 rfl rfl 8 (by decide) (List.mem_of_getElem? (i := 1) rfl) rfl tyX11 tyX11_ok nmX11 rfl (tyX11_ok 8 (by decide)) rfl rfl (Nat.le_of_ble_eq_true rfl) rfl dX11_undo_17 ?_
  refine V_aload_n X 0 rfl dX11_undo_20 ?_
  refine V_dup X rfl dX11_undo_21 ?_
  refine V_get (C := RX11) (T := TX11) (N := 50) (ci := 10) (v := .int v9) X in_X11_undo_X11 0 rfl rfl 9 (by decide) (List.mem_of_getElem? (i := 2) rfl) rfl rfl dX11_undo_22 ?_
  refine V_iconst (v := (1 : Int32)) X (by decide) dX11_undo_25 ?_
  refine V_iaddZ X tv9 (show (1 : Int32).toInt = 1 from by decide) (by omega) (by omega) dX11_undo_26 (fun x_2 ex_2 tx_2 => ?_)
  have tx_2 : x_2.toInt = (((u_ + 1) : Nat) : Int) := by omega
  refine V_put (C := RX11) (T := TX11) (N := 50) (ci := 10) (v := .int x_2) (ty := tyX11 9) (ws' := [(m, .inr (10, mF R v0 v7 x_1 x_2 v15 v16 v17 v18 v19 v27 v31 v32 v33 v34 v38 v42 v44)), ((R 2), .inl (Y 0, 36, .inl a2)), ((R 3), .inl (Y 0, 36, .inl a3)), ((R 4), .inl (Y 0, 36, .inl a4)), ((R 6), .inl (Y 0, 4, .inl a6)), ((R 10), .inl (Y 0, 40, .inl a10)), ((R 11), .inl (Y 0, 40, .inl a11)), ((R 12), .inl (Y 0, 40, .inl a12)), ((R 13), .inl (Y 0, 40, .inl a13))]) X in_X11_undo_X11 0 rfl rfl 9 (by decide) (List.mem_of_getElem? (i := 2) rfl) rfl tyX11 tyX11_ok nmX11 rfl (tyX11_ok 9 (by decide)) rfl rfl (Nat.le_of_ble_eq_true rfl) rfl dX11_undo_27 ?_
  refine V_aload_n X 0 rfl dX11_undo_30 ?_
  refine V_aload_n X 0 rfl dX11_undo_31 ?_
  refine V_get (C := RX11) (T := TX11) (N := 50) (ci := 10) (v := .ref (R 10)) X in_X11_undo_X11 0 rfl rfl 10 (by decide) (List.mem_of_getElem? (i := 3) rfl) rfl rfl dX11_undo_32 ?_
  refine V_aload_n X 0 rfl dX11_undo_35 ?_
  refine V_get (C := RX11) (T := TX11) (N := 50) (ci := 10) (v := .int x_1) X in_X11_undo_X11 0 rfl rfl 8 (by decide) (List.mem_of_getElem? (i := 1) rfl) rfl rfl dX11_undo_36 ?_
  refine V_iald X 5 (d_ - 1) rfl tx_1 (by omega) dX11_undo_39 ?_
  refine V_aload_n X 0 rfl dX11_undo_40 ?_
  refine V_get (C := RX11) (T := TX11) (N := 50) (ci := 10) (v := .ref (R 11)) X in_X11_undo_X11 0 rfl rfl 11 (by decide) (List.mem_of_getElem? (i := 4) rfl) rfl rfl dX11_undo_41 ?_
  refine V_aload_n X 0 rfl dX11_undo_44 ?_
  refine V_get (C := RX11) (T := TX11) (N := 50) (ci := 10) (v := .int x_1) X in_X11_undo_X11 0 rfl rfl 8 (by decide) (List.mem_of_getElem? (i := 1) rfl) rfl rfl dX11_undo_45 ?_
  refine V_iald X 6 (d_ - 1) rfl tx_1 (by omega) dX11_undo_48 ?_
  refine V_aload_n X 0 rfl dX11_undo_49 ?_
  refine V_get (C := RX11) (T := TX11) (N := 50) (ci := 10) (v := .ref (R 12)) X in_X11_undo_X11 0 rfl rfl 12 (by decide) (List.mem_of_getElem? (i := 5) rfl) rfl rfl dX11_undo_50 ?_
  refine V_aload_n X 0 rfl dX11_undo_53 ?_
  refine V_get (C := RX11) (T := TX11) (N := 50) (ci := 10) (v := .int x_1) X in_X11_undo_X11 0 rfl rfl 8 (by decide) (List.mem_of_getElem? (i := 1) rfl) rfl rfl dX11_undo_54 ?_
  refine V_iald X 7 (d_ - 1) rfl tx_1 (by omega) dX11_undo_57 ?_
  refine V_callV (C := RX11) (wr := [((R 10), .inl (Y 0, 40, .inl a10)), ((R 11), .inl (Y 0, 40, .inl a11)), ((R 12), .inl (Y 0, 40, .inl a12)), ((R 13), .inl (Y 0, 40, .inl a13))]) (st := []) X (c_X11_lays l D Y m R v0 v7 x_1 x_2 v15 v16 v17 v18 v19 v27 v31 v32 v33 v34 v38 v42 v44 a2 a3 a4 a6 n s0 (a11 (d_ - 1)) ln (a10 (d_ - 1)) (a12 (d_ - 1)) hs0 hln hn12 hm) 3 gX11_undo_X11_lays rfl (by decide +kernel) ⟨rfl, rfl⟩ ⟨Nat.le_of_ble_eq_true rfl, Nat.le_of_ble_eq_true rfl⟩ [0, 1, 2, 3, 4] [5, 6, 7, 8] rfl rfl rfl rfl (by decide) (ci := 10) rfl rfl 0 rfl rfl rfl (Nat.le_of_ble_eq_true rfl) ⟨Nat.le_of_ble_eq_true rfl, Nat.le_of_ble_eq_true rfl⟩ dX11_undo_58 (fun v_58 w_58 h_58 => ?_)
  rcases h_58 with ⟨rfl, rfl, hh__4, hhv_5⟩ | ⟨rfl, rfl, hh__6, hhv_7⟩ | ⟨rfl, rfl, hh__8, hhv_9⟩ | ⟨yq, rfl, rfl, hh3_11, htyn_12, hhy4_13⟩ | ⟨rfl, rfl, hh4_14⟩
  · refine V_to (pc' := 61) (ls' := [(0, .ref m)]) (st' := []) (ws' := [((R 10), .inl (Y 0, 40, .inl a10)), ((R 11), .inl (Y 0, 40, .inl a11)), ((R 12), .inl (Y 0, 40, .inl a12)), ((R 13), .inl (Y 0, 40, .inl a13)), (m, .inr (10, mF R v0 v7 x_1 x_2 v15 v16 v17 v18 v19 v27 v31 v32 v33 v34 v38 v42 v44)), ((R 2), .inl (Y 0, 36, .inl (upd a2 (12 * s0 + ln) (a12 (d_ - 1))))), ((R 3), .inl (Y 0, 36, .inl a3)), ((R 4), .inl (Y 0, 36, .inl a4)), ((R 6), .inl (Y 0, 4, .inl a6))]) ?_ rfl rfl rfl rfl
    refine V_aload_n X 0 rfl dX11_undo_61 ?_
    refine V_get (C := RX11) (T := TX11) (N := 50) (ci := 10) (v := .int x_1) X in_X11_undo_X11 4 rfl rfl 8 (by decide) (List.mem_of_getElem? (i := 1) rfl) rfl rfl dX11_undo_62 ?_
    refine V_ws (ws' := [(m, .inr (10, mF R v0 v7 x_1 x_2 v15 v16 v17 v18 v19 v27 v31 v32 v33 v34 v38 v42 v44)), ((R 2), .inl (Y 0, 36, .inl (upd a2 (12 * s0 + ln) (a12 (d_ - 1))))), ((R 3), .inl (Y 0, 36, .inl a3)), ((R 4), .inl (Y 0, 36, .inl a4)), ((R 6), .inl (Y 0, 4, .inl a6)), ((R 10), .inl (Y 0, 40, .inl a10)), ((R 11), .inl (Y 0, 40, .inl a11)), ((R 12), .inl (Y 0, 40, .inl a12)), ((R 13), .inl (Y 0, 40, .inl a13))]) [4, 5, 6, 7, 8, 0, 1, 2, 3] rfl rfl rfl ?_
    exact V_iret X hr dX11_undo_65 (Or.inl ⟨x_1, x_1, x_2, rfl, rfl, hh__4, hhv_5, (by omega), (by omega), (by omega)⟩)
  · refine V_to (pc' := 61) (ls' := [(0, .ref m)]) (st' := []) (ws' := [((R 10), .inl (Y 0, 40, .inl a10)), ((R 11), .inl (Y 0, 40, .inl a11)), ((R 12), .inl (Y 0, 40, .inl a12)), ((R 13), .inl (Y 0, 40, .inl a13)), (m, .inr (10, mF R v0 v7 x_1 x_2 v15 v16 v17 v18 v19 v27 v31 v32 v33 v34 v38 v42 v44)), ((R 2), .inl (Y 0, 36, .inl a2)), ((R 3), .inl (Y 0, 36, .inl (upd a3 (12 * s0 + ln) (a12 (d_ - 1))))), ((R 4), .inl (Y 0, 36, .inl a4)), ((R 6), .inl (Y 0, 4, .inl a6))]) ?_ rfl rfl rfl rfl
    refine V_aload_n X 0 rfl dX11_undo_61 ?_
    refine V_get (C := RX11) (T := TX11) (N := 50) (ci := 10) (v := .int x_1) X in_X11_undo_X11 4 rfl rfl 8 (by decide) (List.mem_of_getElem? (i := 1) rfl) rfl rfl dX11_undo_62 ?_
    refine V_ws (ws' := [(m, .inr (10, mF R v0 v7 x_1 x_2 v15 v16 v17 v18 v19 v27 v31 v32 v33 v34 v38 v42 v44)), ((R 2), .inl (Y 0, 36, .inl a2)), ((R 3), .inl (Y 0, 36, .inl (upd a3 (12 * s0 + ln) (a12 (d_ - 1))))), ((R 4), .inl (Y 0, 36, .inl a4)), ((R 6), .inl (Y 0, 4, .inl a6)), ((R 10), .inl (Y 0, 40, .inl a10)), ((R 11), .inl (Y 0, 40, .inl a11)), ((R 12), .inl (Y 0, 40, .inl a12)), ((R 13), .inl (Y 0, 40, .inl a13))]) [4, 5, 6, 7, 8, 0, 1, 2, 3] rfl rfl rfl ?_
    exact V_iret X hr dX11_undo_65 (Or.inr (Or.inl ⟨x_1, x_1, x_2, rfl, rfl, hh__6, hhv_7, (by omega), (by omega), (by omega)⟩))
  · refine V_to (pc' := 61) (ls' := [(0, .ref m)]) (st' := []) (ws' := [((R 10), .inl (Y 0, 40, .inl a10)), ((R 11), .inl (Y 0, 40, .inl a11)), ((R 12), .inl (Y 0, 40, .inl a12)), ((R 13), .inl (Y 0, 40, .inl a13)), (m, .inr (10, mF R v0 v7 x_1 x_2 v15 v16 v17 v18 v19 v27 v31 v32 v33 v34 v38 v42 v44)), ((R 2), .inl (Y 0, 36, .inl a2)), ((R 3), .inl (Y 0, 36, .inl a3)), ((R 4), .inl (Y 0, 36, .inl (upd a4 (12 * s0 + ln) (a12 (d_ - 1))))), ((R 6), .inl (Y 0, 4, .inl a6))]) ?_ rfl rfl rfl rfl
    refine V_aload_n X 0 rfl dX11_undo_61 ?_
    refine V_get (C := RX11) (T := TX11) (N := 50) (ci := 10) (v := .int x_1) X in_X11_undo_X11 4 rfl rfl 8 (by decide) (List.mem_of_getElem? (i := 1) rfl) rfl rfl dX11_undo_62 ?_
    refine V_ws (ws' := [(m, .inr (10, mF R v0 v7 x_1 x_2 v15 v16 v17 v18 v19 v27 v31 v32 v33 v34 v38 v42 v44)), ((R 2), .inl (Y 0, 36, .inl a2)), ((R 3), .inl (Y 0, 36, .inl a3)), ((R 4), .inl (Y 0, 36, .inl (upd a4 (12 * s0 + ln) (a12 (d_ - 1))))), ((R 6), .inl (Y 0, 4, .inl a6)), ((R 10), .inl (Y 0, 40, .inl a10)), ((R 11), .inl (Y 0, 40, .inl a11)), ((R 12), .inl (Y 0, 40, .inl a12)), ((R 13), .inl (Y 0, 40, .inl a13))]) [4, 5, 6, 7, 8, 0, 1, 2, 3] rfl rfl rfl ?_
    exact V_iret X hr dX11_undo_65 (Or.inr (Or.inr (Or.inl ⟨x_1, x_1, x_2, rfl, rfl, hh__8, hhv_9, (by omega), (by omega), (by omega)⟩)))
  · refine V_to (pc' := 61) (ls' := [(0, .ref m)]) (st' := []) (ws' := [((R 10), .inl (Y 0, 40, .inl a10)), ((R 11), .inl (Y 0, 40, .inl a11)), ((R 12), .inl (Y 0, 40, .inl a12)), ((R 13), .inl (Y 0, 40, .inl a13)), (m, .inr (10, mF R v0 v7 x_1 x_2 v15 v16 v17 v18 v19 v27 v31 v32 v33 v34 v38 v42 v44)), ((R 2), .inl (Y 0, 36, .inl a2)), ((R 3), .inl (Y 0, 36, .inl a3)), ((R 4), .inl (Y 0, 36, .inl a4)), ((R 6), .inl (Y 0, 4, .inl (upd a6 yq (a12 (d_ - 1)))))]) ?_ rfl rfl rfl rfl
    refine V_aload_n X 0 rfl dX11_undo_61 ?_
    refine V_get (C := RX11) (T := TX11) (N := 50) (ci := 10) (v := .int x_1) X in_X11_undo_X11 4 rfl rfl 8 (by decide) (List.mem_of_getElem? (i := 1) rfl) rfl rfl dX11_undo_62 ?_
    refine V_ws (ws' := [(m, .inr (10, mF R v0 v7 x_1 x_2 v15 v16 v17 v18 v19 v27 v31 v32 v33 v34 v38 v42 v44)), ((R 2), .inl (Y 0, 36, .inl a2)), ((R 3), .inl (Y 0, 36, .inl a3)), ((R 4), .inl (Y 0, 36, .inl a4)), ((R 6), .inl (Y 0, 4, .inl (upd a6 yq (a12 (d_ - 1))))), ((R 10), .inl (Y 0, 40, .inl a10)), ((R 11), .inl (Y 0, 40, .inl a11)), ((R 12), .inl (Y 0, 40, .inl a12)), ((R 13), .inl (Y 0, 40, .inl a13))]) [4, 5, 6, 7, 8, 0, 1, 2, 3] rfl rfl rfl ?_
    exact V_iret X hr dX11_undo_65 (Or.inr (Or.inr (Or.inr (Or.inl ⟨x_1, yq, x_1, x_2, rfl, rfl, hh3_11, htyn_12, hhy4_13, (by omega), (by omega), (by omega)⟩))))
  · refine V_to (pc' := 61) (ls' := [(0, .ref m)]) (st' := []) (ws' := [((R 10), .inl (Y 0, 40, .inl a10)), ((R 11), .inl (Y 0, 40, .inl a11)), ((R 12), .inl (Y 0, 40, .inl a12)), ((R 13), .inl (Y 0, 40, .inl a13)), (m, .inr (10, mF R v0 (a12 (d_ - 1)) x_1 x_2 v15 v16 v17 v18 v19 v27 v31 v32 v33 v34 v38 v42 v44)), ((R 2), .inl (Y 0, 36, .inl a2)), ((R 3), .inl (Y 0, 36, .inl a3)), ((R 4), .inl (Y 0, 36, .inl a4)), ((R 6), .inl (Y 0, 4, .inl a6))]) ?_ rfl rfl rfl rfl
    refine V_aload_n X 0 rfl dX11_undo_61 ?_
    refine V_get (C := RX11) (T := TX11) (N := 50) (ci := 10) (v := .int x_1) X in_X11_undo_X11 4 rfl rfl 8 (by decide) (List.mem_of_getElem? (i := 1) rfl) rfl rfl dX11_undo_62 ?_
    refine V_ws (ws' := [(m, .inr (10, mF R v0 (a12 (d_ - 1)) x_1 x_2 v15 v16 v17 v18 v19 v27 v31 v32 v33 v34 v38 v42 v44)), ((R 2), .inl (Y 0, 36, .inl a2)), ((R 3), .inl (Y 0, 36, .inl a3)), ((R 4), .inl (Y 0, 36, .inl a4)), ((R 6), .inl (Y 0, 4, .inl a6)), ((R 10), .inl (Y 0, 40, .inl a10)), ((R 11), .inl (Y 0, 40, .inl a11)), ((R 12), .inl (Y 0, 40, .inl a12)), ((R 13), .inl (Y 0, 40, .inl a13))]) [4, 5, 6, 7, 8, 0, 1, 2, 3] rfl rfl rfl ?_
    exact V_iret X hr dX11_undo_65 (Or.inr (Or.inr (Or.inr (Or.inr (⟨x_1, x_1, x_2, rfl, rfl, hh4_14, (by omega), (by omega), (by omega)⟩)))))

set_option maxHeartbeats 4000000 in
set_option maxRecDepth 100000 in
theorem c_X11_undo_no (l : Launch) (D : va_G) (Y : Nat → ClassId) (m : Nat) (R : Nat → Nat) (v0 : Int32) (v7 : Int32) (v8 : Int32) (v9 : Int32) (v15 : Int32) (v16 : Int32) (v17 : Int32) (v18 : Int32) (v19 : Int32) (v27 : Int32) (v31 : Int32) (v32 : Int32) (v33 : Int32) (v34 : Int32) (v38 : Int32) (v42 : Int32) (v44 : Int32) (d_ : Nat) (u_ : Nat) (tv8 : v8.toInt = ((d_ : Nat) : Int)) (tv9 : v9.toInt = ((u_ : Nat) : Int)) (hdu : d_ + u_ ≤ 40) (h0 : ¬ (0 < d_)) : Mg l yX11_undo wsX11_undo ({ frames := 0, cells := 0, slots := 0, locals := 0 }) D Y [(m, .inr (10, mF R v0 v7 v8 v9 v15 v16 v17 v18 v19 v27 v31 v32 v33 v34 v38 v42 v44))] [.ref m] 0 0 (fun vv__ ww__ => (vv__ = some (.int (-5 : Int32)) ∧ ww__ = [(m, .inr (10, mF R v0 v7 v8 v9 v15 v16 v17 v18 v19 v27 v31 v32 v33 v34 v38 v42 v44))])) := by
  refine Mg_of (cc := cX11_undo) (maxL := 1) (ret := (some .int)) (ls0 := [(0, .ref m)]) RX11 (by decide) rfl rfl rfl (Nat.le_of_ble_eq_true rfl) (fun p__ e__ s__ m__ b__ t__ c__ X hr hn => ?_)
  refine V_aload_n X 0 rfl dX11_undo_0 ?_
  refine V_get (C := RX11) (T := TX11) (N := 50) (ci := 10) (v := .int v8) X in_X11_undo_X11 0 rfl rfl 8 (by decide) (List.mem_of_getElem? (i := 1) rfl) rfl rfl dX11_undo_1 ?_
  refine V_if_ne X tv8 10 dX11_undo_4 (by decide) (fun c_4 => False.elim (by omega)) (fun c_4 => ?_)
  refine V_bipush (v := (-5 : Int32)) X (by decide) dX11_undo_7 ?_
  exact V_iret X hr dX11_undo_9 (⟨rfl, rfl⟩)

theorem in_X11_redo_X11 : ∀ w ∈ wsX110, w ∈ wsX11_redo := fun w h => List.mem_cons_of_mem _ (List.mem_append_right _ h)
set_option maxHeartbeats 4000000 in
set_option maxRecDepth 100000 in
theorem c_X11_redo (l : Launch) (D : va_G) (Y : Nat → ClassId) (m : Nat) (R : Nat → Nat) (v0 : Int32) (v7 : Int32) (v8 : Int32) (v9 : Int32) (v15 : Int32) (v16 : Int32) (v17 : Int32) (v18 : Int32) (v19 : Int32) (v27 : Int32) (v31 : Int32) (v32 : Int32) (v33 : Int32) (v34 : Int32) (v38 : Int32) (v42 : Int32) (v44 : Int32) (a2 : Nat → Int32) (a3 : Nat → Int32) (a4 : Nat → Int32) (a6 : Nat → Int32) (n : Nat → Nat) (s0 : Nat) (ln : Nat) (a10 : Nat → Int32) (a11 : Nat → Int32) (a12 : Nat → Int32) (a13 : Nat → Int32) (d_ : Nat) (u_ : Nat) (hs0 : s0 < 3) (hln : 0 ≤ (a11 d_).toInt → (a11 d_).toInt % 100 = ((ln : Nat) : Int)) (hn12 : n s0 ≤ 12) (hm : ((0 ≤ (a10 d_).toInt ∧ (a10 d_).toInt < 3 ∧ (0 ≤ (a11 d_).toInt ∧ (a11 d_).toInt / 100 = ((s0 : Nat) : Int) ∧ ln < n s0)) ∨ ((a10 d_).toInt = 3 ∧ 0 ≤ (a11 d_).toInt ∧ (a11 d_).toInt < 4) ∨ ((a10 d_).toInt = 4 ∧ (a11 d_).toInt = 0))) (tv8 : v8.toInt = ((d_ : Nat) : Int)) (tv9 : v9.toInt = ((u_ : Nat) : Int)) (hdu : d_ + u_ ≤ 40) (h0 : 0 < u_) : Mg l yX11_redo wsX11_redo ({ frames := 2, cells := 0, slots := 0, locals := 43 }) D Y [(m, .inr (10, mF R v0 v7 v8 v9 v15 v16 v17 v18 v19 v27 v31 v32 v33 v34 v38 v42 v44)), ((R 2), .inl (Y 0, 36, .inl a2)), ((R 3), .inl (Y 0, 36, .inl a3)), ((R 4), .inl (Y 0, 36, .inl a4)), ((R 6), .inl (Y 0, 4, .inl a6)), ((R 10), .inl (Y 0, 40, .inl a10)), ((R 11), .inl (Y 0, 40, .inl a11)), ((R 12), .inl (Y 0, 40, .inl a12)), ((R 13), .inl (Y 0, 40, .inl a13))] [.ref m] 0 0 (fun vv__ ww__ => (∃ (r : Int32), ∃ (z8 : Int32), ∃ (z9 : Int32), vv__ = some (.int r) ∧ ww__ = [(m, .inr (10, mF R v0 v7 z8 z9 v15 v16 v17 v18 v19 v27 v31 v32 v33 v34 v38 v42 v44)), ((R 2), .inl (Y 0, 36, .inl (upd a2 (12 * s0 + ln) (a13 d_)))), ((R 3), .inl (Y 0, 36, .inl a3)), ((R 4), .inl (Y 0, 36, .inl a4)), ((R 6), .inl (Y 0, 4, .inl a6)), ((R 10), .inl (Y 0, 40, .inl a10)), ((R 11), .inl (Y 0, 40, .inl a11)), ((R 12), .inl (Y 0, 40, .inl a12)), ((R 13), .inl (Y 0, 40, .inl a13))] ∧ ((a10 d_).toInt = 0) ∧ (0 ≤ (a11 d_).toInt ∧ (a11 d_).toInt / 100 = ((s0 : Nat) : Int) ∧ ln < n s0) ∧ (r.toInt = ((u_ - 1 : Nat) : Int)) ∧ (z8.toInt = ((d_ + 1 : Nat) : Int)) ∧ (z9.toInt = ((u_ - 1 : Nat) : Int))) ∨ (∃ (r : Int32), ∃ (z8 : Int32), ∃ (z9 : Int32), vv__ = some (.int r) ∧ ww__ = [(m, .inr (10, mF R v0 v7 z8 z9 v15 v16 v17 v18 v19 v27 v31 v32 v33 v34 v38 v42 v44)), ((R 2), .inl (Y 0, 36, .inl a2)), ((R 3), .inl (Y 0, 36, .inl (upd a3 (12 * s0 + ln) (a13 d_)))), ((R 4), .inl (Y 0, 36, .inl a4)), ((R 6), .inl (Y 0, 4, .inl a6)), ((R 10), .inl (Y 0, 40, .inl a10)), ((R 11), .inl (Y 0, 40, .inl a11)), ((R 12), .inl (Y 0, 40, .inl a12)), ((R 13), .inl (Y 0, 40, .inl a13))] ∧ ((a10 d_).toInt = 1) ∧ (0 ≤ (a11 d_).toInt ∧ (a11 d_).toInt / 100 = ((s0 : Nat) : Int) ∧ ln < n s0) ∧ (r.toInt = ((u_ - 1 : Nat) : Int)) ∧ (z8.toInt = ((d_ + 1 : Nat) : Int)) ∧ (z9.toInt = ((u_ - 1 : Nat) : Int))) ∨ (∃ (r : Int32), ∃ (z8 : Int32), ∃ (z9 : Int32), vv__ = some (.int r) ∧ ww__ = [(m, .inr (10, mF R v0 v7 z8 z9 v15 v16 v17 v18 v19 v27 v31 v32 v33 v34 v38 v42 v44)), ((R 2), .inl (Y 0, 36, .inl a2)), ((R 3), .inl (Y 0, 36, .inl a3)), ((R 4), .inl (Y 0, 36, .inl (upd a4 (12 * s0 + ln) (a13 d_)))), ((R 6), .inl (Y 0, 4, .inl a6)), ((R 10), .inl (Y 0, 40, .inl a10)), ((R 11), .inl (Y 0, 40, .inl a11)), ((R 12), .inl (Y 0, 40, .inl a12)), ((R 13), .inl (Y 0, 40, .inl a13))] ∧ ((a10 d_).toInt = 2) ∧ (0 ≤ (a11 d_).toInt ∧ (a11 d_).toInt / 100 = ((s0 : Nat) : Int) ∧ ln < n s0) ∧ (r.toInt = ((u_ - 1 : Nat) : Int)) ∧ (z8.toInt = ((d_ + 1 : Nat) : Int)) ∧ (z9.toInt = ((u_ - 1 : Nat) : Int))) ∨ (∃ (r : Int32), ∃ (yn : Nat), ∃ (z8 : Int32), ∃ (z9 : Int32), vv__ = some (.int r) ∧ ww__ = [(m, .inr (10, mF R v0 v7 z8 z9 v15 v16 v17 v18 v19 v27 v31 v32 v33 v34 v38 v42 v44)), ((R 2), .inl (Y 0, 36, .inl a2)), ((R 3), .inl (Y 0, 36, .inl a3)), ((R 4), .inl (Y 0, 36, .inl a4)), ((R 6), .inl (Y 0, 4, .inl (upd a6 yn (a13 d_)))), ((R 10), .inl (Y 0, 40, .inl a10)), ((R 11), .inl (Y 0, 40, .inl a11)), ((R 12), .inl (Y 0, 40, .inl a12)), ((R 13), .inl (Y 0, 40, .inl a13))] ∧ ((a10 d_).toInt = 3) ∧ ((a11 d_).toInt = ((yn : Nat) : Int)) ∧ (yn < 4) ∧ (r.toInt = ((u_ - 1 : Nat) : Int)) ∧ (z8.toInt = ((d_ + 1 : Nat) : Int)) ∧ (z9.toInt = ((u_ - 1 : Nat) : Int))) ∨ (∃ (r : Int32), ∃ (z8 : Int32), ∃ (z9 : Int32), vv__ = some (.int r) ∧ ww__ = [(m, .inr (10, mF R v0 (a13 d_) z8 z9 v15 v16 v17 v18 v19 v27 v31 v32 v33 v34 v38 v42 v44)), ((R 2), .inl (Y 0, 36, .inl a2)), ((R 3), .inl (Y 0, 36, .inl a3)), ((R 4), .inl (Y 0, 36, .inl a4)), ((R 6), .inl (Y 0, 4, .inl a6)), ((R 10), .inl (Y 0, 40, .inl a10)), ((R 11), .inl (Y 0, 40, .inl a11)), ((R 12), .inl (Y 0, 40, .inl a12)), ((R 13), .inl (Y 0, 40, .inl a13))] ∧ ((a10 d_).toInt = 4) ∧ (r.toInt = ((u_ - 1 : Nat) : Int)) ∧ (z8.toInt = ((d_ + 1 : Nat) : Int)) ∧ (z9.toInt = ((u_ - 1 : Nat) : Int)))) := by
  refine Mg_of (cc := cX11_redo) (maxL := 1) (ret := (some .int)) (ls0 := [(0, .ref m)]) RX11 (by decide) rfl rfl rfl (Nat.le_of_ble_eq_true rfl) (fun p__ e__ s__ m__ b__ t__ c__ X hr hn => ?_)
  refine V_aload_n X 0 rfl dX11_redo_0 ?_
  refine V_get (C := RX11) (T := TX11) (N := 50) (ci := 10) (v := .int v9) X in_X11_redo_X11 0 rfl rfl 9 (by decide) (List.mem_of_getElem? (i := 1) rfl) rfl rfl dX11_redo_1 ?_
  refine V_if_ne X tv9 10 dX11_redo_4 (by decide) (fun c_4 => ?_) (fun c_4 => False.elim (by omega))
  refine V_aload_n X 0 rfl dX11_redo_10 ?_
  refine V_aload_n X 0 rfl dX11_redo_11 ?_
  refine V_get (C := RX11) (T := TX11) (N := 50) (ci := 10) (v := .ref (R 10)) X in_X11_redo_X11 0 rfl rfl 10 (by decide) (List.mem_of_getElem? (i := 2) rfl) rfl rfl dX11_redo_12 ?_
  refine V_aload_n X 0 rfl dX11_redo_15 ?_
  refine V_get (C := RX11) (T := TX11) (N := 50) (ci := 10) (v := .int v8) X in_X11_redo_X11 0 rfl rfl 8 (by decide) (List.mem_of_getElem? (i := 3) rfl) rfl rfl dX11_redo_16 ?_
  refine V_iald X 5 d_ rfl tv8 (by omega) dX11_redo_19 ?_
  refine V_aload_n X 0 rfl dX11_redo_20 ?_
  refine V_get (C := RX11) (T := TX11) (N := 50) (ci := 10) (v := .ref (R 11)) X in_X11_redo_X11 0 rfl rfl 11 (by decide) (List.mem_of_getElem? (i := 4) rfl) rfl rfl dX11_redo_21 ?_
  refine V_aload_n X 0 rfl dX11_redo_24 ?_
  refine V_get (C := RX11) (T := TX11) (N := 50) (ci := 10) (v := .int v8) X in_X11_redo_X11 0 rfl rfl 8 (by decide) (List.mem_of_getElem? (i := 3) rfl) rfl rfl dX11_redo_25 ?_
  refine V_iald X 6 d_ rfl tv8 (by omega) dX11_redo_28 ?_
  refine V_aload_n X 0 rfl dX11_redo_29 ?_
  refine V_get (C := RX11) (T := TX11) (N := 50) (ci := 10) (v := .ref (R 13)) X in_X11_redo_X11 0 rfl rfl 13 (by decide) (List.mem_of_getElem? (i := 5) rfl) rfl rfl dX11_redo_30 ?_
  refine V_aload_n X 0 rfl dX11_redo_33 ?_
  refine V_get (C := RX11) (T := TX11) (N := 50) (ci := 10) (v := .int v8) X in_X11_redo_X11 0 rfl rfl 8 (by decide) (List.mem_of_getElem? (i := 3) rfl) rfl rfl dX11_redo_34 ?_
  refine V_iald X 8 d_ rfl tv8 (by omega) dX11_redo_37 ?_
  refine V_callV (C := RX11) (wr := [((R 10), .inl (Y 0, 40, .inl a10)), ((R 11), .inl (Y 0, 40, .inl a11)), ((R 12), .inl (Y 0, 40, .inl a12)), ((R 13), .inl (Y 0, 40, .inl a13))]) (st := []) X (c_X11_lays l D Y m R v0 v7 v8 v9 v15 v16 v17 v18 v19 v27 v31 v32 v33 v34 v38 v42 v44 a2 a3 a4 a6 n s0 (a11 d_) ln (a10 d_) (a13 d_) hs0 hln hn12 hm) 3 gX11_redo_X11_lays rfl (by decide +kernel) ⟨rfl, rfl⟩ ⟨Nat.le_of_ble_eq_true rfl, Nat.le_of_ble_eq_true rfl⟩ [0, 1, 2, 3, 4] [5, 6, 7, 8] rfl rfl rfl rfl (by decide) (ci := 10) rfl rfl 0 rfl rfl rfl (Nat.le_of_ble_eq_true rfl) ⟨Nat.le_of_ble_eq_true rfl, Nat.le_of_ble_eq_true rfl⟩ dX11_redo_38 (fun v_38 w_38 h_38 => ?_)
  rcases h_38 with ⟨rfl, rfl, hh__2, hhv_3⟩ | ⟨rfl, rfl, hh__4, hhv_5⟩ | ⟨rfl, rfl, hh__6, hhv_7⟩ | ⟨yq, rfl, rfl, hh3_9, htyn_10, hhy4_11⟩ | ⟨rfl, rfl, hh4_12⟩
  · refine V_to (pc' := 41) (ls' := [(0, .ref m)]) (st' := []) (ws' := [((R 10), .inl (Y 0, 40, .inl a10)), ((R 11), .inl (Y 0, 40, .inl a11)), ((R 12), .inl (Y 0, 40, .inl a12)), ((R 13), .inl (Y 0, 40, .inl a13)), (m, .inr (10, mF R v0 v7 v8 v9 v15 v16 v17 v18 v19 v27 v31 v32 v33 v34 v38 v42 v44)), ((R 2), .inl (Y 0, 36, .inl (upd a2 (12 * s0 + ln) (a13 d_)))), ((R 3), .inl (Y 0, 36, .inl a3)), ((R 4), .inl (Y 0, 36, .inl a4)), ((R 6), .inl (Y 0, 4, .inl a6))]) ?_ rfl rfl rfl rfl
    refine V_aload_n X 0 rfl dX11_redo_41 ?_
    refine V_dup X rfl dX11_redo_42 ?_
    refine V_get (C := RX11) (T := TX11) (N := 50) (ci := 10) (v := .int v8) X in_X11_redo_X11 4 rfl rfl 8 (by decide) (List.mem_of_getElem? (i := 3) rfl) rfl rfl dX11_redo_43 ?_
    refine V_iconst (v := (1 : Int32)) X (by decide) dX11_redo_46 ?_
    refine V_iaddZ X tv8 (show (1 : Int32).toInt = 1 from by decide) (by omega) (by omega) dX11_redo_47 (fun x_13 ex_13 tx_13 => ?_)
    have tx_13 : x_13.toInt = (((d_ + 1) : Nat) : Int) := by omega
    refine V_put (C := RX11) (T := TX11) (N := 50) (ci := 10) (v := .int x_13) (ty := tyX11 8) (ws' := [((R 10), .inl (Y 0, 40, .inl a10)), ((R 11), .inl (Y 0, 40, .inl a11)), ((R 12), .inl (Y 0, 40, .inl a12)), ((R 13), .inl (Y 0, 40, .inl a13)), (m, .inr (10, mF R v0 v7 x_13 v9 v15 v16 v17 v18 v19 v27 v31 v32 v33 v34 v38 v42 v44)), ((R 2), .inl (Y 0, 36, .inl (upd a2 (12 * s0 + ln) (a13 d_)))), ((R 3), .inl (Y 0, 36, .inl a3)), ((R 4), .inl (Y 0, 36, .inl a4)), ((R 6), .inl (Y 0, 4, .inl a6))]) X in_X11_redo_X11 4 rfl rfl 8 (by decide) (List.mem_of_getElem? (i := 3) rfl) rfl tyX11 tyX11_ok nmX11 rfl (tyX11_ok 8 (by decide)) rfl rfl (Nat.le_of_ble_eq_true rfl) rfl dX11_redo_48 ?_
    refine V_aload_n X 0 rfl dX11_redo_51 ?_
    refine V_dup X rfl dX11_redo_52 ?_
    refine V_get (C := RX11) (T := TX11) (N := 50) (ci := 10) (v := .int v9) X in_X11_redo_X11 4 rfl rfl 9 (by decide) (List.mem_of_getElem? (i := 1) rfl) rfl rfl dX11_redo_53 ?_
    refine V_iconst (v := (1 : Int32)) X (by decide) dX11_redo_56 ?_
    refine V_isubZ X tv9 (show (1 : Int32).toInt = 1 from by decide) (by omega) (by omega) dX11_redo_57 (fun x_14 ex_14 tx_14 => ?_)
    have tx_14 : x_14.toInt = (((u_ - 1) : Nat) : Int) := by omega
    refine V_put (C := RX11) (T := TX11) (N := 50) (ci := 10) (v := .int x_14) (ty := tyX11 9) (ws' := [((R 10), .inl (Y 0, 40, .inl a10)), ((R 11), .inl (Y 0, 40, .inl a11)), ((R 12), .inl (Y 0, 40, .inl a12)), ((R 13), .inl (Y 0, 40, .inl a13)), (m, .inr (10, mF R v0 v7 x_13 x_14 v15 v16 v17 v18 v19 v27 v31 v32 v33 v34 v38 v42 v44)), ((R 2), .inl (Y 0, 36, .inl (upd a2 (12 * s0 + ln) (a13 d_)))), ((R 3), .inl (Y 0, 36, .inl a3)), ((R 4), .inl (Y 0, 36, .inl a4)), ((R 6), .inl (Y 0, 4, .inl a6))]) X in_X11_redo_X11 4 rfl rfl 9 (by decide) (List.mem_of_getElem? (i := 1) rfl) rfl tyX11 tyX11_ok nmX11 rfl (tyX11_ok 9 (by decide)) rfl rfl (Nat.le_of_ble_eq_true rfl) rfl dX11_redo_58 ?_
    refine V_aload_n X 0 rfl dX11_redo_61 ?_
    refine V_get (C := RX11) (T := TX11) (N := 50) (ci := 10) (v := .int x_14) X in_X11_redo_X11 4 rfl rfl 9 (by decide) (List.mem_of_getElem? (i := 1) rfl) rfl rfl dX11_redo_62 ?_
    refine V_ws (ws' := [(m, .inr (10, mF R v0 v7 x_13 x_14 v15 v16 v17 v18 v19 v27 v31 v32 v33 v34 v38 v42 v44)), ((R 2), .inl (Y 0, 36, .inl (upd a2 (12 * s0 + ln) (a13 d_)))), ((R 3), .inl (Y 0, 36, .inl a3)), ((R 4), .inl (Y 0, 36, .inl a4)), ((R 6), .inl (Y 0, 4, .inl a6)), ((R 10), .inl (Y 0, 40, .inl a10)), ((R 11), .inl (Y 0, 40, .inl a11)), ((R 12), .inl (Y 0, 40, .inl a12)), ((R 13), .inl (Y 0, 40, .inl a13))]) [4, 5, 6, 7, 8, 0, 1, 2, 3] rfl rfl rfl ?_
    exact V_iret X hr dX11_redo_65 (Or.inl ⟨x_14, x_13, x_14, rfl, rfl, hh__2, hhv_3, (by omega), (by omega), (by omega)⟩)
  · refine V_to (pc' := 41) (ls' := [(0, .ref m)]) (st' := []) (ws' := [((R 10), .inl (Y 0, 40, .inl a10)), ((R 11), .inl (Y 0, 40, .inl a11)), ((R 12), .inl (Y 0, 40, .inl a12)), ((R 13), .inl (Y 0, 40, .inl a13)), (m, .inr (10, mF R v0 v7 v8 v9 v15 v16 v17 v18 v19 v27 v31 v32 v33 v34 v38 v42 v44)), ((R 2), .inl (Y 0, 36, .inl a2)), ((R 3), .inl (Y 0, 36, .inl (upd a3 (12 * s0 + ln) (a13 d_)))), ((R 4), .inl (Y 0, 36, .inl a4)), ((R 6), .inl (Y 0, 4, .inl a6))]) ?_ rfl rfl rfl rfl
    refine V_aload_n X 0 rfl dX11_redo_41 ?_
    refine V_dup X rfl dX11_redo_42 ?_
    refine V_get (C := RX11) (T := TX11) (N := 50) (ci := 10) (v := .int v8) X in_X11_redo_X11 4 rfl rfl 8 (by decide) (List.mem_of_getElem? (i := 3) rfl) rfl rfl dX11_redo_43 ?_
    refine V_iconst (v := (1 : Int32)) X (by decide) dX11_redo_46 ?_
    refine V_iaddZ X tv8 (show (1 : Int32).toInt = 1 from by decide) (by omega) (by omega) dX11_redo_47 (fun x_15 ex_15 tx_15 => ?_)
    have tx_15 : x_15.toInt = (((d_ + 1) : Nat) : Int) := by omega
    refine V_put (C := RX11) (T := TX11) (N := 50) (ci := 10) (v := .int x_15) (ty := tyX11 8) (ws' := [((R 10), .inl (Y 0, 40, .inl a10)), ((R 11), .inl (Y 0, 40, .inl a11)), ((R 12), .inl (Y 0, 40, .inl a12)), ((R 13), .inl (Y 0, 40, .inl a13)), (m, .inr (10, mF R v0 v7 x_15 v9 v15 v16 v17 v18 v19 v27 v31 v32 v33 v34 v38 v42 v44)), ((R 2), .inl (Y 0, 36, .inl a2)), ((R 3), .inl (Y 0, 36, .inl (upd a3 (12 * s0 + ln) (a13 d_)))), ((R 4), .inl (Y 0, 36, .inl a4)), ((R 6), .inl (Y 0, 4, .inl a6))]) X in_X11_redo_X11 4 rfl rfl 8 (by decide) (List.mem_of_getElem? (i := 3) rfl) rfl tyX11 tyX11_ok nmX11 rfl (tyX11_ok 8 (by decide)) rfl rfl (Nat.le_of_ble_eq_true rfl) rfl dX11_redo_48 ?_
    refine V_aload_n X 0 rfl dX11_redo_51 ?_
    refine V_dup X rfl dX11_redo_52 ?_
    refine V_get (C := RX11) (T := TX11) (N := 50) (ci := 10) (v := .int v9) X in_X11_redo_X11 4 rfl rfl 9 (by decide) (List.mem_of_getElem? (i := 1) rfl) rfl rfl dX11_redo_53 ?_
    refine V_iconst (v := (1 : Int32)) X (by decide) dX11_redo_56 ?_
    refine V_isubZ X tv9 (show (1 : Int32).toInt = 1 from by decide) (by omega) (by omega) dX11_redo_57 (fun x_16 ex_16 tx_16 => ?_)
    have tx_16 : x_16.toInt = (((u_ - 1) : Nat) : Int) := by omega
    refine V_put (C := RX11) (T := TX11) (N := 50) (ci := 10) (v := .int x_16) (ty := tyX11 9) (ws' := [((R 10), .inl (Y 0, 40, .inl a10)), ((R 11), .inl (Y 0, 40, .inl a11)), ((R 12), .inl (Y 0, 40, .inl a12)), ((R 13), .inl (Y 0, 40, .inl a13)), (m, .inr (10, mF R v0 v7 x_15 x_16 v15 v16 v17 v18 v19 v27 v31 v32 v33 v34 v38 v42 v44)), ((R 2), .inl (Y 0, 36, .inl a2)), ((R 3), .inl (Y 0, 36, .inl (upd a3 (12 * s0 + ln) (a13 d_)))), ((R 4), .inl (Y 0, 36, .inl a4)), ((R 6), .inl (Y 0, 4, .inl a6))]) X in_X11_redo_X11 4 rfl rfl 9 (by decide) (List.mem_of_getElem? (i := 1) rfl) rfl tyX11 tyX11_ok nmX11 rfl (tyX11_ok 9 (by decide)) rfl rfl (Nat.le_of_ble_eq_true rfl) rfl dX11_redo_58 ?_
    refine V_aload_n X 0 rfl dX11_redo_61 ?_
    refine V_get (C := RX11) (T := TX11) (N := 50) (ci := 10) (v := .int x_16) X in_X11_redo_X11 4 rfl rfl 9 (by decide) (List.mem_of_getElem? (i := 1) rfl) rfl rfl dX11_redo_62 ?_
    refine V_ws (ws' := [(m, .inr (10, mF R v0 v7 x_15 x_16 v15 v16 v17 v18 v19 v27 v31 v32 v33 v34 v38 v42 v44)), ((R 2), .inl (Y 0, 36, .inl a2)), ((R 3), .inl (Y 0, 36, .inl (upd a3 (12 * s0 + ln) (a13 d_)))), ((R 4), .inl (Y 0, 36, .inl a4)), ((R 6), .inl (Y 0, 4, .inl a6)), ((R 10), .inl (Y 0, 40, .inl a10)), ((R 11), .inl (Y 0, 40, .inl a11)), ((R 12), .inl (Y 0, 40, .inl a12)), ((R 13), .inl (Y 0, 40, .inl a13))]) [4, 5, 6, 7, 8, 0, 1, 2, 3] rfl rfl rfl ?_
    exact V_iret X hr dX11_redo_65 (Or.inr (Or.inl ⟨x_16, x_15, x_16, rfl, rfl, hh__4, hhv_5, (by omega), (by omega), (by omega)⟩))
  · refine V_to (pc' := 41) (ls' := [(0, .ref m)]) (st' := []) (ws' := [((R 10), .inl (Y 0, 40, .inl a10)), ((R 11), .inl (Y 0, 40, .inl a11)), ((R 12), .inl (Y 0, 40, .inl a12)), ((R 13), .inl (Y 0, 40, .inl a13)), (m, .inr (10, mF R v0 v7 v8 v9 v15 v16 v17 v18 v19 v27 v31 v32 v33 v34 v38 v42 v44)), ((R 2), .inl (Y 0, 36, .inl a2)), ((R 3), .inl (Y 0, 36, .inl a3)), ((R 4), .inl (Y 0, 36, .inl (upd a4 (12 * s0 + ln) (a13 d_)))), ((R 6), .inl (Y 0, 4, .inl a6))]) ?_ rfl rfl rfl rfl
    refine V_aload_n X 0 rfl dX11_redo_41 ?_
    refine V_dup X rfl dX11_redo_42 ?_
    refine V_get (C := RX11) (T := TX11) (N := 50) (ci := 10) (v := .int v8) X in_X11_redo_X11 4 rfl rfl 8 (by decide) (List.mem_of_getElem? (i := 3) rfl) rfl rfl dX11_redo_43 ?_
    refine V_iconst (v := (1 : Int32)) X (by decide) dX11_redo_46 ?_
    refine V_iaddZ X tv8 (show (1 : Int32).toInt = 1 from by decide) (by omega) (by omega) dX11_redo_47 (fun x_17 ex_17 tx_17 => ?_)
    have tx_17 : x_17.toInt = (((d_ + 1) : Nat) : Int) := by omega
    refine V_put (C := RX11) (T := TX11) (N := 50) (ci := 10) (v := .int x_17) (ty := tyX11 8) (ws' := [((R 10), .inl (Y 0, 40, .inl a10)), ((R 11), .inl (Y 0, 40, .inl a11)), ((R 12), .inl (Y 0, 40, .inl a12)), ((R 13), .inl (Y 0, 40, .inl a13)), (m, .inr (10, mF R v0 v7 x_17 v9 v15 v16 v17 v18 v19 v27 v31 v32 v33 v34 v38 v42 v44)), ((R 2), .inl (Y 0, 36, .inl a2)), ((R 3), .inl (Y 0, 36, .inl a3)), ((R 4), .inl (Y 0, 36, .inl (upd a4 (12 * s0 + ln) (a13 d_)))), ((R 6), .inl (Y 0, 4, .inl a6))]) X in_X11_redo_X11 4 rfl rfl 8 (by decide) (List.mem_of_getElem? (i := 3) rfl) rfl tyX11 tyX11_ok nmX11 rfl (tyX11_ok 8 (by decide)) rfl rfl (Nat.le_of_ble_eq_true rfl) rfl dX11_redo_48 ?_
    refine V_aload_n X 0 rfl dX11_redo_51 ?_
    refine V_dup X rfl dX11_redo_52 ?_
    refine V_get (C := RX11) (T := TX11) (N := 50) (ci := 10) (v := .int v9) X in_X11_redo_X11 4 rfl rfl 9 (by decide) (List.mem_of_getElem? (i := 1) rfl) rfl rfl dX11_redo_53 ?_
    refine V_iconst (v := (1 : Int32)) X (by decide) dX11_redo_56 ?_
    refine V_isubZ X tv9 (show (1 : Int32).toInt = 1 from by decide) (by omega) (by omega) dX11_redo_57 (fun x_18 ex_18 tx_18 => ?_)
    have tx_18 : x_18.toInt = (((u_ - 1) : Nat) : Int) := by omega
    refine V_put (C := RX11) (T := TX11) (N := 50) (ci := 10) (v := .int x_18) (ty := tyX11 9) (ws' := [((R 10), .inl (Y 0, 40, .inl a10)), ((R 11), .inl (Y 0, 40, .inl a11)), ((R 12), .inl (Y 0, 40, .inl a12)), ((R 13), .inl (Y 0, 40, .inl a13)), (m, .inr (10, mF R v0 v7 x_17 x_18 v15 v16 v17 v18 v19 v27 v31 v32 v33 v34 v38 v42 v44)), ((R 2), .inl (Y 0, 36, .inl a2)), ((R 3), .inl (Y 0, 36, .inl a3)), ((R 4), .inl (Y 0, 36, .inl (upd a4 (12 * s0 + ln) (a13 d_)))), ((R 6), .inl (Y 0, 4, .inl a6))]) X in_X11_redo_X11 4 rfl rfl 9 (by decide) (List.mem_of_getElem? (i := 1) rfl) rfl tyX11 tyX11_ok nmX11 rfl (tyX11_ok 9 (by decide)) rfl rfl (Nat.le_of_ble_eq_true rfl) rfl dX11_redo_58 ?_
    refine V_aload_n X 0 rfl dX11_redo_61 ?_
    refine V_get (C := RX11) (T := TX11) (N := 50) (ci := 10) (v := .int x_18) X in_X11_redo_X11 4 rfl rfl 9 (by decide) (List.mem_of_getElem? (i := 1) rfl) rfl rfl dX11_redo_62 ?_
    refine V_ws (ws' := [(m, .inr (10, mF R v0 v7 x_17 x_18 v15 v16 v17 v18 v19 v27 v31 v32 v33 v34 v38 v42 v44)), ((R 2), .inl (Y 0, 36, .inl a2)), ((R 3), .inl (Y 0, 36, .inl a3)), ((R 4), .inl (Y 0, 36, .inl (upd a4 (12 * s0 + ln) (a13 d_)))), ((R 6), .inl (Y 0, 4, .inl a6)), ((R 10), .inl (Y 0, 40, .inl a10)), ((R 11), .inl (Y 0, 40, .inl a11)), ((R 12), .inl (Y 0, 40, .inl a12)), ((R 13), .inl (Y 0, 40, .inl a13))]) [4, 5, 6, 7, 8, 0, 1, 2, 3] rfl rfl rfl ?_
    exact V_iret X hr dX11_redo_65 (Or.inr (Or.inr (Or.inl ⟨x_18, x_17, x_18, rfl, rfl, hh__6, hhv_7, (by omega), (by omega), (by omega)⟩)))
  · refine V_to (pc' := 41) (ls' := [(0, .ref m)]) (st' := []) (ws' := [((R 10), .inl (Y 0, 40, .inl a10)), ((R 11), .inl (Y 0, 40, .inl a11)), ((R 12), .inl (Y 0, 40, .inl a12)), ((R 13), .inl (Y 0, 40, .inl a13)), (m, .inr (10, mF R v0 v7 v8 v9 v15 v16 v17 v18 v19 v27 v31 v32 v33 v34 v38 v42 v44)), ((R 2), .inl (Y 0, 36, .inl a2)), ((R 3), .inl (Y 0, 36, .inl a3)), ((R 4), .inl (Y 0, 36, .inl a4)), ((R 6), .inl (Y 0, 4, .inl (upd a6 yq (a13 d_))))]) ?_ rfl rfl rfl rfl
    refine V_aload_n X 0 rfl dX11_redo_41 ?_
    refine V_dup X rfl dX11_redo_42 ?_
    refine V_get (C := RX11) (T := TX11) (N := 50) (ci := 10) (v := .int v8) X in_X11_redo_X11 4 rfl rfl 8 (by decide) (List.mem_of_getElem? (i := 3) rfl) rfl rfl dX11_redo_43 ?_
    refine V_iconst (v := (1 : Int32)) X (by decide) dX11_redo_46 ?_
    refine V_iaddZ X tv8 (show (1 : Int32).toInt = 1 from by decide) (by omega) (by omega) dX11_redo_47 (fun x_19 ex_19 tx_19 => ?_)
    have tx_19 : x_19.toInt = (((d_ + 1) : Nat) : Int) := by omega
    refine V_put (C := RX11) (T := TX11) (N := 50) (ci := 10) (v := .int x_19) (ty := tyX11 8) (ws' := [((R 10), .inl (Y 0, 40, .inl a10)), ((R 11), .inl (Y 0, 40, .inl a11)), ((R 12), .inl (Y 0, 40, .inl a12)), ((R 13), .inl (Y 0, 40, .inl a13)), (m, .inr (10, mF R v0 v7 x_19 v9 v15 v16 v17 v18 v19 v27 v31 v32 v33 v34 v38 v42 v44)), ((R 2), .inl (Y 0, 36, .inl a2)), ((R 3), .inl (Y 0, 36, .inl a3)), ((R 4), .inl (Y 0, 36, .inl a4)), ((R 6), .inl (Y 0, 4, .inl (upd a6 yq (a13 d_))))]) X in_X11_redo_X11 4 rfl rfl 8 (by decide) (List.mem_of_getElem? (i := 3) rfl) rfl tyX11 tyX11_ok nmX11 rfl (tyX11_ok 8 (by decide)) rfl rfl (Nat.le_of_ble_eq_true rfl) rfl dX11_redo_48 ?_
    refine V_aload_n X 0 rfl dX11_redo_51 ?_
    refine V_dup X rfl dX11_redo_52 ?_
    refine V_get (C := RX11) (T := TX11) (N := 50) (ci := 10) (v := .int v9) X in_X11_redo_X11 4 rfl rfl 9 (by decide) (List.mem_of_getElem? (i := 1) rfl) rfl rfl dX11_redo_53 ?_
    refine V_iconst (v := (1 : Int32)) X (by decide) dX11_redo_56 ?_
    refine V_isubZ X tv9 (show (1 : Int32).toInt = 1 from by decide) (by omega) (by omega) dX11_redo_57 (fun x_20 ex_20 tx_20 => ?_)
    have tx_20 : x_20.toInt = (((u_ - 1) : Nat) : Int) := by omega
    refine V_put (C := RX11) (T := TX11) (N := 50) (ci := 10) (v := .int x_20) (ty := tyX11 9) (ws' := [((R 10), .inl (Y 0, 40, .inl a10)), ((R 11), .inl (Y 0, 40, .inl a11)), ((R 12), .inl (Y 0, 40, .inl a12)), ((R 13), .inl (Y 0, 40, .inl a13)), (m, .inr (10, mF R v0 v7 x_19 x_20 v15 v16 v17 v18 v19 v27 v31 v32 v33 v34 v38 v42 v44)), ((R 2), .inl (Y 0, 36, .inl a2)), ((R 3), .inl (Y 0, 36, .inl a3)), ((R 4), .inl (Y 0, 36, .inl a4)), ((R 6), .inl (Y 0, 4, .inl (upd a6 yq (a13 d_))))]) X in_X11_redo_X11 4 rfl rfl 9 (by decide) (List.mem_of_getElem? (i := 1) rfl) rfl tyX11 tyX11_ok nmX11 rfl (tyX11_ok 9 (by decide)) rfl rfl (Nat.le_of_ble_eq_true rfl) rfl dX11_redo_58 ?_
    refine V_aload_n X 0 rfl dX11_redo_61 ?_
    refine V_get (C := RX11) (T := TX11) (N := 50) (ci := 10) (v := .int x_20) X in_X11_redo_X11 4 rfl rfl 9 (by decide) (List.mem_of_getElem? (i := 1) rfl) rfl rfl dX11_redo_62 ?_
    refine V_ws (ws' := [(m, .inr (10, mF R v0 v7 x_19 x_20 v15 v16 v17 v18 v19 v27 v31 v32 v33 v34 v38 v42 v44)), ((R 2), .inl (Y 0, 36, .inl a2)), ((R 3), .inl (Y 0, 36, .inl a3)), ((R 4), .inl (Y 0, 36, .inl a4)), ((R 6), .inl (Y 0, 4, .inl (upd a6 yq (a13 d_)))), ((R 10), .inl (Y 0, 40, .inl a10)), ((R 11), .inl (Y 0, 40, .inl a11)), ((R 12), .inl (Y 0, 40, .inl a12)), ((R 13), .inl (Y 0, 40, .inl a13))]) [4, 5, 6, 7, 8, 0, 1, 2, 3] rfl rfl rfl ?_
    exact V_iret X hr dX11_redo_65 (Or.inr (Or.inr (Or.inr (Or.inl ⟨x_20, yq, x_19, x_20, rfl, rfl, hh3_9, htyn_10, hhy4_11, (by omega), (by omega), (by omega)⟩))))
  · refine V_to (pc' := 41) (ls' := [(0, .ref m)]) (st' := []) (ws' := [((R 10), .inl (Y 0, 40, .inl a10)), ((R 11), .inl (Y 0, 40, .inl a11)), ((R 12), .inl (Y 0, 40, .inl a12)), ((R 13), .inl (Y 0, 40, .inl a13)), (m, .inr (10, mF R v0 (a13 d_) v8 v9 v15 v16 v17 v18 v19 v27 v31 v32 v33 v34 v38 v42 v44)), ((R 2), .inl (Y 0, 36, .inl a2)), ((R 3), .inl (Y 0, 36, .inl a3)), ((R 4), .inl (Y 0, 36, .inl a4)), ((R 6), .inl (Y 0, 4, .inl a6))]) ?_ rfl rfl rfl rfl
    refine V_aload_n X 0 rfl dX11_redo_41 ?_
    refine V_dup X rfl dX11_redo_42 ?_
    refine V_get (C := RX11) (T := TX11) (N := 50) (ci := 10) (v := .int v8) X in_X11_redo_X11 4 rfl rfl 8 (by decide) (List.mem_of_getElem? (i := 3) rfl) rfl rfl dX11_redo_43 ?_
    refine V_iconst (v := (1 : Int32)) X (by decide) dX11_redo_46 ?_
    refine V_iaddZ X tv8 (show (1 : Int32).toInt = 1 from by decide) (by omega) (by omega) dX11_redo_47 (fun x_21 ex_21 tx_21 => ?_)
    have tx_21 : x_21.toInt = (((d_ + 1) : Nat) : Int) := by omega
    refine V_put (C := RX11) (T := TX11) (N := 50) (ci := 10) (v := .int x_21) (ty := tyX11 8) (ws' := [((R 10), .inl (Y 0, 40, .inl a10)), ((R 11), .inl (Y 0, 40, .inl a11)), ((R 12), .inl (Y 0, 40, .inl a12)), ((R 13), .inl (Y 0, 40, .inl a13)), (m, .inr (10, mF R v0 (a13 d_) x_21 v9 v15 v16 v17 v18 v19 v27 v31 v32 v33 v34 v38 v42 v44)), ((R 2), .inl (Y 0, 36, .inl a2)), ((R 3), .inl (Y 0, 36, .inl a3)), ((R 4), .inl (Y 0, 36, .inl a4)), ((R 6), .inl (Y 0, 4, .inl a6))]) X in_X11_redo_X11 4 rfl rfl 8 (by decide) (List.mem_of_getElem? (i := 3) rfl) rfl tyX11 tyX11_ok nmX11 rfl (tyX11_ok 8 (by decide)) rfl rfl (Nat.le_of_ble_eq_true rfl) rfl dX11_redo_48 ?_
    refine V_aload_n X 0 rfl dX11_redo_51 ?_
    refine V_dup X rfl dX11_redo_52 ?_
    refine V_get (C := RX11) (T := TX11) (N := 50) (ci := 10) (v := .int v9) X in_X11_redo_X11 4 rfl rfl 9 (by decide) (List.mem_of_getElem? (i := 1) rfl) rfl rfl dX11_redo_53 ?_
    refine V_iconst (v := (1 : Int32)) X (by decide) dX11_redo_56 ?_
    refine V_isubZ X tv9 (show (1 : Int32).toInt = 1 from by decide) (by omega) (by omega) dX11_redo_57 (fun x_22 ex_22 tx_22 => ?_)
    have tx_22 : x_22.toInt = (((u_ - 1) : Nat) : Int) := by omega
    refine V_put (C := RX11) (T := TX11) (N := 50) (ci := 10) (v := .int x_22) (ty := tyX11 9) (ws' := [((R 10), .inl (Y 0, 40, .inl a10)), ((R 11), .inl (Y 0, 40, .inl a11)), ((R 12), .inl (Y 0, 40, .inl a12)), ((R 13), .inl (Y 0, 40, .inl a13)), (m, .inr (10, mF R v0 (a13 d_) x_21 x_22 v15 v16 v17 v18 v19 v27 v31 v32 v33 v34 v38 v42 v44)), ((R 2), .inl (Y 0, 36, .inl a2)), ((R 3), .inl (Y 0, 36, .inl a3)), ((R 4), .inl (Y 0, 36, .inl a4)), ((R 6), .inl (Y 0, 4, .inl a6))]) X in_X11_redo_X11 4 rfl rfl 9 (by decide) (List.mem_of_getElem? (i := 1) rfl) rfl tyX11 tyX11_ok nmX11 rfl (tyX11_ok 9 (by decide)) rfl rfl (Nat.le_of_ble_eq_true rfl) rfl dX11_redo_58 ?_
    refine V_aload_n X 0 rfl dX11_redo_61 ?_
    refine V_get (C := RX11) (T := TX11) (N := 50) (ci := 10) (v := .int x_22) X in_X11_redo_X11 4 rfl rfl 9 (by decide) (List.mem_of_getElem? (i := 1) rfl) rfl rfl dX11_redo_62 ?_
    refine V_ws (ws' := [(m, .inr (10, mF R v0 (a13 d_) x_21 x_22 v15 v16 v17 v18 v19 v27 v31 v32 v33 v34 v38 v42 v44)), ((R 2), .inl (Y 0, 36, .inl a2)), ((R 3), .inl (Y 0, 36, .inl a3)), ((R 4), .inl (Y 0, 36, .inl a4)), ((R 6), .inl (Y 0, 4, .inl a6)), ((R 10), .inl (Y 0, 40, .inl a10)), ((R 11), .inl (Y 0, 40, .inl a11)), ((R 12), .inl (Y 0, 40, .inl a12)), ((R 13), .inl (Y 0, 40, .inl a13))]) [4, 5, 6, 7, 8, 0, 1, 2, 3] rfl rfl rfl ?_
    exact V_iret X hr dX11_redo_65 (Or.inr (Or.inr (Or.inr (Or.inr (⟨x_22, x_21, x_22, rfl, rfl, hh4_12, (by omega), (by omega), (by omega)⟩)))))

set_option maxHeartbeats 4000000 in
set_option maxRecDepth 100000 in
theorem c_X11_redo_no (l : Launch) (D : va_G) (Y : Nat → ClassId) (m : Nat) (R : Nat → Nat) (v0 : Int32) (v7 : Int32) (v8 : Int32) (v9 : Int32) (v15 : Int32) (v16 : Int32) (v17 : Int32) (v18 : Int32) (v19 : Int32) (v27 : Int32) (v31 : Int32) (v32 : Int32) (v33 : Int32) (v34 : Int32) (v38 : Int32) (v42 : Int32) (v44 : Int32) (d_ : Nat) (u_ : Nat) (tv8 : v8.toInt = ((d_ : Nat) : Int)) (tv9 : v9.toInt = ((u_ : Nat) : Int)) (hdu : d_ + u_ ≤ 40) (h0 : ¬ (0 < u_)) : Mg l yX11_redo wsX11_redo ({ frames := 0, cells := 0, slots := 0, locals := 0 }) D Y [(m, .inr (10, mF R v0 v7 v8 v9 v15 v16 v17 v18 v19 v27 v31 v32 v33 v34 v38 v42 v44))] [.ref m] 0 0 (fun vv__ ww__ => (vv__ = some (.int (-5 : Int32)) ∧ ww__ = [(m, .inr (10, mF R v0 v7 v8 v9 v15 v16 v17 v18 v19 v27 v31 v32 v33 v34 v38 v42 v44))])) := by
  refine Mg_of (cc := cX11_redo) (maxL := 1) (ret := (some .int)) (ls0 := [(0, .ref m)]) RX11 (by decide) rfl rfl rfl (Nat.le_of_ble_eq_true rfl) (fun p__ e__ s__ m__ b__ t__ c__ X hr hn => ?_)
  refine V_aload_n X 0 rfl dX11_redo_0 ?_
  refine V_get (C := RX11) (T := TX11) (N := 50) (ci := 10) (v := .int v9) X in_X11_redo_X11 0 rfl rfl 9 (by decide) (List.mem_of_getElem? (i := 1) rfl) rfl rfl dX11_redo_1 ?_
  refine V_if_ne X tv9 10 dX11_redo_4 (by decide) (fun c_4 => False.elim (by omega)) (fun c_4 => ?_)
  refine V_bipush (v := (-5 : Int32)) X (by decide) dX11_redo_7 ?_
  exact V_iret X hr dX11_redo_9 (⟨rfl, rfl⟩)

set_option maxHeartbeats 4000000 in
set_option maxRecDepth 100000 in
theorem c_X11_isOne (l : Launch) (D : va_G) (Y : Nat → ClassId) (m : Nat) (R : Nat → Nat) (v0 : Int32) (v7 : Int32) (v8 : Int32) (v9 : Int32) (v15 : Int32) (v16 : Int32) (v17 : Int32) (v18 : Int32) (v19 : Int32) (v27 : Int32) (v31 : Int32) (v32 : Int32) (v33 : Int32) (v34 : Int32) (v38 : Int32) (v42 : Int32) (v44 : Int32) (a1 : Nat → Int32) (n : Nat → Nat) (s0 : Nat) (y : Int32) (ln : Nat) (w_ : Int32) (hLN : LNR a1 n) (hs0 : s0 < 3) (hsl : 0 ≤ w_.toInt → w_.toInt < 3 → 0 ≤ y.toInt → y.toInt / 100 < 3 → y.toInt / 100 = ((s0 : Nat) : Int)) (hln : 0 ≤ y.toInt → y.toInt % 100 = ((ln : Nat) : Int)) : Mg l yX11_isOne wsX11_isOne ({ frames := 3, cells := 0, slots := 0, locals := 63 }) D Y [(m, .inr (10, mF R v0 v7 v8 v9 v15 v16 v17 v18 v19 v27 v31 v32 v33 v34 v38 v42 v44)), ((R 1), .inl (Y 0, 3, .inl a1))] [.ref m, .int y, .int w_] 0 0 (fun vv__ ww__ => (vv__ = some (.int (1 : Int32)) ∧ ww__ = [(m, .inr (10, mF R v0 v7 v8 v9 v15 v16 v17 v18 v19 v27 v31 v32 v33 v34 v38 v42 v44)), ((R 1), .inl (Y 0, 3, .inl a1))] ∧ (((0 ≤ w_.toInt ∧ w_.toInt < 3 ∧ (0 ≤ y.toInt ∧ y.toInt / 100 = ((s0 : Nat) : Int) ∧ ln < n s0)) ∨ (w_.toInt = 3 ∧ 0 ≤ y.toInt ∧ y.toInt < 4) ∨ (w_.toInt = 4 ∧ y.toInt = 0)))) ∨ (vv__ = some (.int (0 : Int32)) ∧ ww__ = [(m, .inr (10, mF R v0 v7 v8 v9 v15 v16 v17 v18 v19 v27 v31 v32 v33 v34 v38 v42 v44)), ((R 1), .inl (Y 0, 3, .inl a1))] ∧ (¬ ((0 ≤ w_.toInt ∧ w_.toInt < 3 ∧ (0 ≤ y.toInt ∧ y.toInt / 100 < 3 ∧ ln < n s0)) ∨ (w_.toInt = 3 ∧ 0 ≤ y.toInt ∧ y.toInt < 4) ∨ (w_.toInt = 4 ∧ y.toInt = 0))))) := by
  refine Mg_of (cc := cX11_isOne) (maxL := 3) (ret := (some .boolean)) (ls0 := [(0, .ref m), (1, .int y), (2, .int w_)]) RX11 (by decide) rfl rfl rfl (Nat.le_of_ble_eq_true rfl) (fun p__ e__ s__ m__ b__ t__ c__ X hr hn => ?_)
  refine V_iload_n X 2 rfl dX11_isOne_0 ?_
  refine V_iconst (v := (0 : Int32)) X (by decide) dX11_isOne_1 ?_
  refine V_iconst (v := (2 : Int32)) X (by decide) dX11_isOne_2 ?_
  refine V_callS (wr := [(m, .inr (10, mF R v0 v7 v8 v9 v15 v16 v17 v18 v19 v27 v31 v32 v33 v34 v38 v42 v44)), ((R 1), .inl (Y 0, 3, .inl a1))]) (st := []) X (c_X11_in l D Y w_ (0 : Int32) (2 : Int32)) 3 gX11_isOne_X11_in rfl (by decide +kernel) ⟨rfl, rfl⟩ ⟨Nat.le_of_ble_eq_true rfl, Nat.le_of_ble_eq_true rfl⟩ [] [0, 1] rfl rfl rfl rfl (by decide) rfl rfl (Nat.le_of_ble_eq_true rfl) ⟨Nat.le_of_ble_eq_true rfl, Nat.le_of_ble_eq_true rfl⟩ dX11_isOne_3 (fun v_3 w_3 h_3 => ?_)
  rcases h_3 with ⟨rfl, rfl, hhy_2⟩ | ⟨rfl, rfl, hhn_3⟩
  · refine V_to (pc' := 6) (ls' := [(0, .ref m), (1, .int y), (2, .int w_)]) (st' := [.int (1 : Int32)]) (ws' := [(m, .inr (10, mF R v0 v7 v8 v9 v15 v16 v17 v18 v19 v27 v31 v32 v33 v34 v38 v42 v44)), ((R 1), .inl (Y 0, 3, .inl a1))]) ?_ rfl rfl rfl rfl
    have hc_0 : (0 : Int32).toInt = 0 := by decide
    have hc_2 : (2 : Int32).toInt = 2 := by decide
    refine V_if_eq X (show (1 : Int32).toInt = 1 from by decide) 15 dX11_isOne_6 (by decide) (fun c_6 => absurd c_6 (by decide)) (fun _ => ?_)
    refine V_aload_n X 0 rfl dX11_isOne_9 ?_
    refine V_iload_n X 1 rfl dX11_isOne_10 ?_
    refine V_callV (C := RX11) (wr := []) (st := []) X (c_X11_isLine l D Y m R v0 v7 v8 v9 v15 v16 v17 v18 v19 v27 v31 v32 v33 v34 v38 v42 v44 a1 n s0 y ln hLN hs0 (by omega) hln) 1 gX11_isOne_X11_isLine rfl (by decide +kernel) ⟨rfl, rfl⟩ ⟨Nat.le_of_ble_eq_true rfl, Nat.le_of_ble_eq_true rfl⟩ [0, 1] [] rfl rfl rfl rfl (by decide) (ci := 10) rfl rfl 0 rfl rfl rfl (Nat.le_of_ble_eq_true rfl) ⟨Nat.le_of_ble_eq_true rfl, Nat.le_of_ble_eq_true rfl⟩ dX11_isOne_11 (fun v_11 w_11 h_11 => ?_)
    rcases h_11 with ⟨rfl, rfl, hhy_5⟩ | ⟨rfl, rfl, hhn_6⟩
    · refine V_to (pc' := 14) (ls' := [(0, .ref m), (1, .int y), (2, .int w_)]) (st' := [.int (1 : Int32)]) (ws' := [(m, .inr (10, mF R v0 v7 v8 v9 v15 v16 v17 v18 v19 v27 v31 v32 v33 v34 v38 v42 v44)), ((R 1), .inl (Y 0, 3, .inl a1))]) ?_ rfl rfl rfl rfl
      exact V_zret X hr rfl dX11_isOne_14 (Or.inl ⟨rfl, rfl, (by omega)⟩)
    · refine V_to (pc' := 14) (ls' := [(0, .ref m), (1, .int y), (2, .int w_)]) (st' := [.int (0 : Int32)]) (ws' := [(m, .inr (10, mF R v0 v7 v8 v9 v15 v16 v17 v18 v19 v27 v31 v32 v33 v34 v38 v42 v44)), ((R 1), .inl (Y 0, 3, .inl a1))]) ?_ rfl rfl rfl rfl
      exact V_zret X hr rfl dX11_isOne_14 (Or.inr (⟨rfl, rfl, (by omega)⟩))
  · refine V_to (pc' := 6) (ls' := [(0, .ref m), (1, .int y), (2, .int w_)]) (st' := [.int (0 : Int32)]) (ws' := [(m, .inr (10, mF R v0 v7 v8 v9 v15 v16 v17 v18 v19 v27 v31 v32 v33 v34 v38 v42 v44)), ((R 1), .inl (Y 0, 3, .inl a1))]) ?_ rfl rfl rfl rfl
    have hc_0 : (0 : Int32).toInt = 0 := by decide
    have hc_2 : (2 : Int32).toInt = 2 := by decide
    refine V_if_eq X (show (0 : Int32).toInt = 0 from by decide) 15 dX11_isOne_6 (by decide) (fun _ => ?_) (fun c_6 => absurd c_6 (by decide))
    refine V_iload_n X 2 rfl dX11_isOne_15 ?_
    refine V_iconst (v := (3 : Int32)) X (by decide) dX11_isOne_16 ?_
    refine V_icmp_ne X rfl (show (3 : Int32).toInt = 3 from by decide) 27 dX11_isOne_17 (by decide) (fun c_17 => ?_) (fun c_17 => ?_)
    · refine V_iload_n X 2 rfl dX11_isOne_27 ?_
      refine V_iconst (v := (4 : Int32)) X (by decide) dX11_isOne_28 ?_
      refine V_icmp_ne X rfl (show (4 : Int32).toInt = 4 from by decide) 40 dX11_isOne_29 (by decide) (fun c_29 => ?_) (fun c_29 => ?_)
      · refine V_iconst (v := (0 : Int32)) X (by decide) dX11_isOne_40 ?_
        exact V_zret X hr rfl dX11_isOne_41 (Or.inr (⟨rfl, rfl, (by omega)⟩))
      · refine V_iload_n X 1 rfl dX11_isOne_32 ?_
        refine V_if_ne X rfl 40 dX11_isOne_33 (by decide) (fun c_33 => ?_) (fun c_33 => ?_)
        · refine V_iconst (v := (0 : Int32)) X (by decide) dX11_isOne_40 ?_
          exact V_zret X hr rfl dX11_isOne_41 (Or.inr (⟨rfl, rfl, (by omega)⟩))
        · refine V_iconst (v := (1 : Int32)) X (by decide) dX11_isOne_36 ?_
          refine V_goto X 41 (by decide) dX11_isOne_37 ?_
          exact V_zret X hr rfl dX11_isOne_41 (Or.inl ⟨rfl, rfl, (by omega)⟩)
    · refine V_iload_n X 1 rfl dX11_isOne_20 ?_
      refine V_callS (wr := [(m, .inr (10, mF R v0 v7 v8 v9 v15 v16 v17 v18 v19 v27 v31 v32 v33 v34 v38 v42 v44)), ((R 1), .inl (Y 0, 3, .inl a1))]) (st := []) X (c_X11_isSinger l D Y y) 1 gX11_isOne_X11_isSinger rfl (by decide +kernel) ⟨rfl, rfl⟩ ⟨Nat.le_of_ble_eq_true rfl, Nat.le_of_ble_eq_true rfl⟩ [] [0, 1] rfl rfl rfl rfl (by decide) rfl rfl (Nat.le_of_ble_eq_true rfl) ⟨Nat.le_of_ble_eq_true rfl, Nat.le_of_ble_eq_true rfl⟩ dX11_isOne_21 (fun v_21 w_21 h_21 => ?_)
      rcases h_21 with ⟨rfl, rfl, hhy_8⟩ | ⟨rfl, rfl, hhn_9⟩
      · refine V_to (pc' := 24) (ls' := [(0, .ref m), (1, .int y), (2, .int w_)]) (st' := [.int (1 : Int32)]) (ws' := [(m, .inr (10, mF R v0 v7 v8 v9 v15 v16 v17 v18 v19 v27 v31 v32 v33 v34 v38 v42 v44)), ((R 1), .inl (Y 0, 3, .inl a1))]) ?_ rfl rfl rfl rfl
        refine V_goto X 41 (by decide) dX11_isOne_24 ?_
        exact V_zret X hr rfl dX11_isOne_41 (Or.inl ⟨rfl, rfl, (by omega)⟩)
      · refine V_to (pc' := 24) (ls' := [(0, .ref m), (1, .int y), (2, .int w_)]) (st' := [.int (0 : Int32)]) (ws' := [(m, .inr (10, mF R v0 v7 v8 v9 v15 v16 v17 v18 v19 v27 v31 v32 v33 v34 v38 v42 v44)), ((R 1), .inl (Y 0, 3, .inl a1))]) ?_ rfl rfl rfl rfl
        refine V_goto X 41 (by decide) dX11_isOne_24 ?_
        exact V_zret X hr rfl dX11_isOne_41 (Or.inr (⟨rfl, rfl, (by omega)⟩))

set_option maxHeartbeats 4000000 in
set_option maxRecDepth 100000 in
theorem c_X11_mayBe (l : Launch) (D : va_G) (Y : Nat → ClassId) (w_ : Int32) (v : Int32) (hw4 : 0 ≤ w_.toInt ∧ w_.toInt ≤ 4) : Mg l yX11_mayBe wsX11_mayBe ({ frames := 1, cells := 0, slots := 0, locals := 22 }) D Y [] [.int w_, .int v] 0 0 (fun vv__ ww__ => (vv__ = some (.int (1 : Int32)) ∧ ww__ = [] ∧ (0 ≤ v.toInt ∧ ((w_.toInt < 3 ∧ v.toInt < 8) ∨ (w_.toInt = 3 ∧ v.toInt < 10) ∨ (w_.toInt = 4 ∧ v.toInt < 13)))) ∨ (vv__ = some (.int (0 : Int32)) ∧ ww__ = [] ∧ (¬ (0 ≤ v.toInt ∧ ((w_.toInt < 3 ∧ v.toInt < 8) ∨ (w_.toInt = 3 ∧ v.toInt < 10) ∨ (w_.toInt = 4 ∧ v.toInt < 13)))))) := by
  refine Mg_of (cc := cX11_mayBe) (maxL := 2) (ret := (some .boolean)) (ls0 := [(0, .int w_), (1, .int v)]) RX11 (by decide) rfl rfl rfl (Nat.le_of_ble_eq_true rfl) (fun p__ e__ s__ m__ b__ t__ c__ X hr hn => ?_)
  refine V_iload_n X 0 rfl dX11_mayBe_0 ?_
  refine V_iconst (v := (3 : Int32)) X (by decide) dX11_mayBe_1 ?_
  refine V_icmp_ge X rfl (show (3 : Int32).toInt = 3 from by decide) 15 dX11_mayBe_2 (by decide) (fun c_2 => ?_) (fun c_2 => ?_)
  · refine V_iload_n X 0 rfl dX11_mayBe_15 ?_
    refine V_iconst (v := (3 : Int32)) X (by decide) dX11_mayBe_16 ?_
    refine V_icmp_ne X rfl (show (3 : Int32).toInt = 3 from by decide) 30 dX11_mayBe_17 (by decide) (fun c_17 => ?_) (fun c_17 => ?_)
    · refine V_iload_n X 1 rfl dX11_mayBe_30 ?_
      refine V_iconst (v := (0 : Int32)) X (by decide) dX11_mayBe_31 ?_
      refine V_bipush (v := (12 : Int32)) X (by decide) dX11_mayBe_32 ?_
      refine V_callS (wr := []) (st := []) X (c_X11_in l D Y v (0 : Int32) (12 : Int32)) 3 gX11_mayBe_X11_in rfl (by decide +kernel) ⟨rfl, rfl⟩ ⟨Nat.le_of_ble_eq_true rfl, Nat.le_of_ble_eq_true rfl⟩ [] [] rfl rfl rfl rfl (by decide) rfl rfl (Nat.le_of_ble_eq_true rfl) ⟨Nat.le_of_ble_eq_true rfl, Nat.le_of_ble_eq_true rfl⟩ dX11_mayBe_34 (fun v_34 w_34 h_34 => ?_)
      rcases h_34 with ⟨rfl, rfl, hhy_2⟩ | ⟨rfl, rfl, hhn_3⟩
      · refine V_to (pc' := 37) (ls' := [(0, .int w_), (1, .int v)]) (st' := [.int (1 : Int32)]) (ws' := []) ?_ rfl rfl rfl rfl
        have hc_0 : (0 : Int32).toInt = 0 := by decide
        have hc_12 : (12 : Int32).toInt = 12 := by decide
        exact V_zret X hr rfl dX11_mayBe_37 (Or.inl ⟨rfl, rfl, (by omega)⟩)
      · refine V_to (pc' := 37) (ls' := [(0, .int w_), (1, .int v)]) (st' := [.int (0 : Int32)]) (ws' := []) ?_ rfl rfl rfl rfl
        have hc_0 : (0 : Int32).toInt = 0 := by decide
        have hc_12 : (12 : Int32).toInt = 12 := by decide
        exact V_zret X hr rfl dX11_mayBe_37 (Or.inr (⟨rfl, rfl, (by omega)⟩))
    · refine V_iload_n X 1 rfl dX11_mayBe_20 ?_
      refine V_iconst (v := (0 : Int32)) X (by decide) dX11_mayBe_21 ?_
      refine V_bipush (v := (9 : Int32)) X (by decide) dX11_mayBe_22 ?_
      refine V_callS (wr := []) (st := []) X (c_X11_in l D Y v (0 : Int32) (9 : Int32)) 3 gX11_mayBe_X11_in rfl (by decide +kernel) ⟨rfl, rfl⟩ ⟨Nat.le_of_ble_eq_true rfl, Nat.le_of_ble_eq_true rfl⟩ [] [] rfl rfl rfl rfl (by decide) rfl rfl (Nat.le_of_ble_eq_true rfl) ⟨Nat.le_of_ble_eq_true rfl, Nat.le_of_ble_eq_true rfl⟩ dX11_mayBe_24 (fun v_24 w_24 h_24 => ?_)
      rcases h_24 with ⟨rfl, rfl, hhy_5⟩ | ⟨rfl, rfl, hhn_6⟩
      · refine V_to (pc' := 27) (ls' := [(0, .int w_), (1, .int v)]) (st' := [.int (1 : Int32)]) (ws' := []) ?_ rfl rfl rfl rfl
        have hc_0 : (0 : Int32).toInt = 0 := by decide
        have hc_9 : (9 : Int32).toInt = 9 := by decide
        refine V_goto X 37 (by decide) dX11_mayBe_27 ?_
        exact V_zret X hr rfl dX11_mayBe_37 (Or.inl ⟨rfl, rfl, (by omega)⟩)
      · refine V_to (pc' := 27) (ls' := [(0, .int w_), (1, .int v)]) (st' := [.int (0 : Int32)]) (ws' := []) ?_ rfl rfl rfl rfl
        have hc_0 : (0 : Int32).toInt = 0 := by decide
        have hc_9 : (9 : Int32).toInt = 9 := by decide
        refine V_goto X 37 (by decide) dX11_mayBe_27 ?_
        exact V_zret X hr rfl dX11_mayBe_37 (Or.inr (⟨rfl, rfl, (by omega)⟩))
  · refine V_iload_n X 1 rfl dX11_mayBe_5 ?_
    refine V_iconst (v := (0 : Int32)) X (by decide) dX11_mayBe_6 ?_
    refine V_bipush (v := (7 : Int32)) X (by decide) dX11_mayBe_7 ?_
    refine V_callS (wr := []) (st := []) X (c_X11_in l D Y v (0 : Int32) (7 : Int32)) 3 gX11_mayBe_X11_in rfl (by decide +kernel) ⟨rfl, rfl⟩ ⟨Nat.le_of_ble_eq_true rfl, Nat.le_of_ble_eq_true rfl⟩ [] [] rfl rfl rfl rfl (by decide) rfl rfl (Nat.le_of_ble_eq_true rfl) ⟨Nat.le_of_ble_eq_true rfl, Nat.le_of_ble_eq_true rfl⟩ dX11_mayBe_9 (fun v_9 w_9 h_9 => ?_)
    rcases h_9 with ⟨rfl, rfl, hhy_8⟩ | ⟨rfl, rfl, hhn_9⟩
    · refine V_to (pc' := 12) (ls' := [(0, .int w_), (1, .int v)]) (st' := [.int (1 : Int32)]) (ws' := []) ?_ rfl rfl rfl rfl
      have hc_0 : (0 : Int32).toInt = 0 := by decide
      have hc_7 : (7 : Int32).toInt = 7 := by decide
      refine V_goto X 37 (by decide) dX11_mayBe_12 ?_
      exact V_zret X hr rfl dX11_mayBe_37 (Or.inl ⟨rfl, rfl, (by omega)⟩)
    · refine V_to (pc' := 12) (ls' := [(0, .int w_), (1, .int v)]) (st' := [.int (0 : Int32)]) (ws' := []) ?_ rfl rfl rfl rfl
      have hc_0 : (0 : Int32).toInt = 0 := by decide
      have hc_7 : (7 : Int32).toInt = 7 := by decide
      refine V_goto X 37 (by decide) dX11_mayBe_12 ?_
      exact V_zret X hr rfl dX11_mayBe_37 (Or.inr (⟨rfl, rfl, (by omega)⟩))

set_option maxHeartbeats 4000000 in
set_option maxRecDepth 100000 in
theorem c_X11_mend (l : Launch) (D : va_G) (Y : Nat → ClassId) (m : Nat) (R : Nat → Nat) (v0 : Int32) (v7 : Int32) (v8 : Int32) (v9 : Int32) (v15 : Int32) (v16 : Int32) (v17 : Int32) (v18 : Int32) (v19 : Int32) (v27 : Int32) (v31 : Int32) (v32 : Int32) (v33 : Int32) (v34 : Int32) (v38 : Int32) (v42 : Int32) (v44 : Int32) (a1 : Nat → Int32) (a2 : Nat → Int32) (a3 : Nat → Int32) (a4 : Nat → Int32) (a6 : Nat → Int32) (n : Nat → Nat) (T : Nat → Nat → Nat) (S : Nat → Nat) (s0 : Nat) (y : Int32) (ln : Nat) (w_ : Int32) (v : Int32) (a10 : Nat → Int32) (a11 : Nat → Int32) (a12 : Nat → Int32) (a13 : Nat → Int32) (d_ : Nat) (u_ : Nat) (hLN : LNR a1 n) (hMT : MTR a2 a3 a4 T) (hSU : SUR a6 S) (hs0 : s0 < 3) (hsl : 0 ≤ w_.toInt → w_.toInt < 3 → 0 ≤ y.toInt → y.toInt / 100 < 3 → y.toInt / 100 = ((s0 : Nat) : Int)) (hln : 0 ≤ y.toInt → y.toInt % 100 = ((ln : Nat) : Int)) (tv8 : v8.toInt = ((d_ : Nat) : Int)) (tv9 : v9.toInt = ((u_ : Nat) : Int)) (hdu : d_ + u_ ≤ 40) : Mg l yX11_mend wsX11_mend ({ frames := 4, cells := 0, slots := 0, locals := 85 }) D Y [(m, .inr (10, mF R v0 v7 v8 v9 v15 v16 v17 v18 v19 v27 v31 v32 v33 v34 v38 v42 v44)), ((R 1), .inl (Y 0, 3, .inl a1)), ((R 2), .inl (Y 0, 36, .inl a2)), ((R 3), .inl (Y 0, 36, .inl a3)), ((R 4), .inl (Y 0, 36, .inl a4)), ((R 6), .inl (Y 0, 4, .inl a6)), ((R 10), .inl (Y 0, 40, .inl a10)), ((R 11), .inl (Y 0, 40, .inl a11)), ((R 12), .inl (Y 0, 40, .inl a12)), ((R 13), .inl (Y 0, 40, .inl a13))] [.ref m, .int y, .int w_, .int v] 0 0 (fun vv__ ww__ => (vv__ = some (.int (-1 : Int32)) ∧ ww__ = [(m, .inr (10, mF R v0 v7 v8 v9 v15 v16 v17 v18 v19 v27 v31 v32 v33 v34 v38 v42 v44)), ((R 1), .inl (Y 0, 3, .inl a1)), ((R 2), .inl (Y 0, 36, .inl a2)), ((R 3), .inl (Y 0, 36, .inl a3)), ((R 4), .inl (Y 0, 36, .inl a4)), ((R 6), .inl (Y 0, 4, .inl a6)), ((R 10), .inl (Y 0, 40, .inl a10)), ((R 11), .inl (Y 0, 40, .inl a11)), ((R 12), .inl (Y 0, 40, .inl a12)), ((R 13), .inl (Y 0, 40, .inl a13))] ∧ (¬ (((0 ≤ w_.toInt ∧ w_.toInt < 3 ∧ (0 ≤ y.toInt ∧ y.toInt / 100 < 3 ∧ ln < n s0)) ∨ (w_.toInt = 3 ∧ 0 ≤ y.toInt ∧ y.toInt < 4) ∨ (w_.toInt = 4 ∧ y.toInt = 0)) ∧ 0 ≤ v.toInt ∧ ((w_.toInt < 3 ∧ v.toInt < 8) ∨ (w_.toInt = 3 ∧ v.toInt < 10) ∨ (w_.toInt = 4 ∧ v.toInt < 13))))) ∨ (∃ (r : Int32), ∃ (w : Nat), vv__ = some (.int r) ∧ ww__ = [(m, .inr (10, mF R v0 v7 v8 v9 v15 v16 v17 v18 v19 v27 v31 v32 v33 v34 v38 v42 v44)), ((R 1), .inl (Y 0, 3, .inl a1)), ((R 2), .inl (Y 0, 36, .inl a2)), ((R 3), .inl (Y 0, 36, .inl a3)), ((R 4), .inl (Y 0, 36, .inl a4)), ((R 6), .inl (Y 0, 4, .inl a6)), ((R 10), .inl (Y 0, 40, .inl a10)), ((R 11), .inl (Y 0, 40, .inl a11)), ((R 12), .inl (Y 0, 40, .inl a12)), ((R 13), .inl (Y 0, 40, .inl a13))] ∧ (w_.toInt = ((w : Nat) : Int)) ∧ (w < 3) ∧ (0 ≤ y.toInt ∧ y.toInt / 100 = ((s0 : Nat) : Int) ∧ ln < n s0) ∧ (r.toInt = ((T s0 (3 * ln + w) : Nat) : Int)) ∧ (v.toInt = ((T s0 (3 * ln + w) : Nat) : Int)) ∧ (0 ≤ v.toInt ∧ ((w_.toInt < 3 ∧ v.toInt < 8) ∨ (w_.toInt = 3 ∧ v.toInt < 10) ∨ (w_.toInt = 4 ∧ v.toInt < 13)))) ∨ (∃ (r : Int32), ∃ (yn : Nat), vv__ = some (.int r) ∧ ww__ = [(m, .inr (10, mF R v0 v7 v8 v9 v15 v16 v17 v18 v19 v27 v31 v32 v33 v34 v38 v42 v44)), ((R 1), .inl (Y 0, 3, .inl a1)), ((R 2), .inl (Y 0, 36, .inl a2)), ((R 3), .inl (Y 0, 36, .inl a3)), ((R 4), .inl (Y 0, 36, .inl a4)), ((R 6), .inl (Y 0, 4, .inl a6)), ((R 10), .inl (Y 0, 40, .inl a10)), ((R 11), .inl (Y 0, 40, .inl a11)), ((R 12), .inl (Y 0, 40, .inl a12)), ((R 13), .inl (Y 0, 40, .inl a13))] ∧ (w_.toInt = 3) ∧ (y.toInt = ((yn : Nat) : Int)) ∧ (yn < 4) ∧ (r.toInt = ((S yn : Nat) : Int)) ∧ (v.toInt = ((S yn : Nat) : Int)) ∧ (0 ≤ v.toInt ∧ ((w_.toInt < 3 ∧ v.toInt < 8) ∨ (w_.toInt = 3 ∧ v.toInt < 10) ∨ (w_.toInt = 4 ∧ v.toInt < 13)))) ∨ (vv__ = some (.int v7) ∧ ww__ = [(m, .inr (10, mF R v0 v7 v8 v9 v15 v16 v17 v18 v19 v27 v31 v32 v33 v34 v38 v42 v44)), ((R 1), .inl (Y 0, 3, .inl a1)), ((R 2), .inl (Y 0, 36, .inl a2)), ((R 3), .inl (Y 0, 36, .inl a3)), ((R 4), .inl (Y 0, 36, .inl a4)), ((R 6), .inl (Y 0, 4, .inl a6)), ((R 10), .inl (Y 0, 40, .inl a10)), ((R 11), .inl (Y 0, 40, .inl a11)), ((R 12), .inl (Y 0, 40, .inl a12)), ((R 13), .inl (Y 0, 40, .inl a13))] ∧ (w_.toInt = 4) ∧ (v.toInt = v7.toInt) ∧ (0 ≤ v.toInt ∧ ((w_.toInt < 3 ∧ v.toInt < 8) ∨ (w_.toInt = 3 ∧ v.toInt < 10) ∨ (w_.toInt = 4 ∧ v.toInt < 13)))) ∨ (∃ (r : Int32), ∃ (g10 : Nat → Int32), ∃ (g11 : Nat → Int32), ∃ (g12 : Nat → Int32), ∃ (g13 : Nat → Int32), ∃ (z8 : Int32), vv__ = some (.int r) ∧ ww__ = [(m, .inr (10, mF R v0 v7 z8 (0 : Int32) v15 v16 v17 v18 v19 v27 v31 v32 v33 v34 v38 v42 v44)), ((R 1), .inl (Y 0, 3, .inl a1)), ((R 2), .inl (Y 0, 36, .inl (upd a2 (12 * s0 + ln) v))), ((R 3), .inl (Y 0, 36, .inl a3)), ((R 4), .inl (Y 0, 36, .inl a4)), ((R 6), .inl (Y 0, 4, .inl a6)), ((R 10), .inl (Y 0, 40, .inl g10)), ((R 11), .inl (Y 0, 40, .inl g11)), ((R 12), .inl (Y 0, 40, .inl g12)), ((R 13), .inl (Y 0, 40, .inl g13))] ∧ (w_.toInt = ((0 : Nat) : Int)) ∧ (0 < 3) ∧ (0 ≤ y.toInt ∧ y.toInt / 100 = ((s0 : Nat) : Int) ∧ ln < n s0) ∧ (r.toInt = ((T s0 (3 * ln + 0) : Nat) : Int)) ∧ (z8.toInt = ((chD d_ : Nat) : Int)) ∧ (∀ j, j < chD d_ → g10 j = chg d_ a10 w_ j) ∧ (∀ j, j < chD d_ → g11 j = chg d_ a11 y j) ∧ (∀ j, j < chD d_ → g12 j = chg d_ a12 r j) ∧ (∀ j, j < chD d_ → g13 j = chg d_ a13 v j) ∧ (v.toInt ≠ ((T s0 (3 * ln + 0) : Nat) : Int)) ∧ (0 ≤ v.toInt ∧ ((w_.toInt < 3 ∧ v.toInt < 8) ∨ (w_.toInt = 3 ∧ v.toInt < 10) ∨ (w_.toInt = 4 ∧ v.toInt < 13)))) ∨ (∃ (r : Int32), ∃ (g10 : Nat → Int32), ∃ (g11 : Nat → Int32), ∃ (g12 : Nat → Int32), ∃ (g13 : Nat → Int32), ∃ (z8 : Int32), vv__ = some (.int r) ∧ ww__ = [(m, .inr (10, mF R v0 v7 z8 (0 : Int32) v15 v16 v17 v18 v19 v27 v31 v32 v33 v34 v38 v42 v44)), ((R 1), .inl (Y 0, 3, .inl a1)), ((R 2), .inl (Y 0, 36, .inl a2)), ((R 3), .inl (Y 0, 36, .inl (upd a3 (12 * s0 + ln) v))), ((R 4), .inl (Y 0, 36, .inl a4)), ((R 6), .inl (Y 0, 4, .inl a6)), ((R 10), .inl (Y 0, 40, .inl g10)), ((R 11), .inl (Y 0, 40, .inl g11)), ((R 12), .inl (Y 0, 40, .inl g12)), ((R 13), .inl (Y 0, 40, .inl g13))] ∧ (w_.toInt = ((1 : Nat) : Int)) ∧ (1 < 3) ∧ (0 ≤ y.toInt ∧ y.toInt / 100 = ((s0 : Nat) : Int) ∧ ln < n s0) ∧ (r.toInt = ((T s0 (3 * ln + 1) : Nat) : Int)) ∧ (z8.toInt = ((chD d_ : Nat) : Int)) ∧ (∀ j, j < chD d_ → g10 j = chg d_ a10 w_ j) ∧ (∀ j, j < chD d_ → g11 j = chg d_ a11 y j) ∧ (∀ j, j < chD d_ → g12 j = chg d_ a12 r j) ∧ (∀ j, j < chD d_ → g13 j = chg d_ a13 v j) ∧ (v.toInt ≠ ((T s0 (3 * ln + 1) : Nat) : Int)) ∧ (0 ≤ v.toInt ∧ ((w_.toInt < 3 ∧ v.toInt < 8) ∨ (w_.toInt = 3 ∧ v.toInt < 10) ∨ (w_.toInt = 4 ∧ v.toInt < 13)))) ∨ (∃ (r : Int32), ∃ (g10 : Nat → Int32), ∃ (g11 : Nat → Int32), ∃ (g12 : Nat → Int32), ∃ (g13 : Nat → Int32), ∃ (z8 : Int32), vv__ = some (.int r) ∧ ww__ = [(m, .inr (10, mF R v0 v7 z8 (0 : Int32) v15 v16 v17 v18 v19 v27 v31 v32 v33 v34 v38 v42 v44)), ((R 1), .inl (Y 0, 3, .inl a1)), ((R 2), .inl (Y 0, 36, .inl a2)), ((R 3), .inl (Y 0, 36, .inl a3)), ((R 4), .inl (Y 0, 36, .inl (upd a4 (12 * s0 + ln) v))), ((R 6), .inl (Y 0, 4, .inl a6)), ((R 10), .inl (Y 0, 40, .inl g10)), ((R 11), .inl (Y 0, 40, .inl g11)), ((R 12), .inl (Y 0, 40, .inl g12)), ((R 13), .inl (Y 0, 40, .inl g13))] ∧ (w_.toInt = ((2 : Nat) : Int)) ∧ (2 < 3) ∧ (0 ≤ y.toInt ∧ y.toInt / 100 = ((s0 : Nat) : Int) ∧ ln < n s0) ∧ (r.toInt = ((T s0 (3 * ln + 2) : Nat) : Int)) ∧ (z8.toInt = ((chD d_ : Nat) : Int)) ∧ (∀ j, j < chD d_ → g10 j = chg d_ a10 w_ j) ∧ (∀ j, j < chD d_ → g11 j = chg d_ a11 y j) ∧ (∀ j, j < chD d_ → g12 j = chg d_ a12 r j) ∧ (∀ j, j < chD d_ → g13 j = chg d_ a13 v j) ∧ (v.toInt ≠ ((T s0 (3 * ln + 2) : Nat) : Int)) ∧ (0 ≤ v.toInt ∧ ((w_.toInt < 3 ∧ v.toInt < 8) ∨ (w_.toInt = 3 ∧ v.toInt < 10) ∨ (w_.toInt = 4 ∧ v.toInt < 13)))) ∨ (∃ (r : Int32), ∃ (yn : Nat), ∃ (g10 : Nat → Int32), ∃ (g11 : Nat → Int32), ∃ (g12 : Nat → Int32), ∃ (g13 : Nat → Int32), ∃ (z8 : Int32), vv__ = some (.int r) ∧ ww__ = [(m, .inr (10, mF R v0 v7 z8 (0 : Int32) v15 v16 v17 v18 v19 v27 v31 v32 v33 v34 v38 v42 v44)), ((R 1), .inl (Y 0, 3, .inl a1)), ((R 2), .inl (Y 0, 36, .inl a2)), ((R 3), .inl (Y 0, 36, .inl a3)), ((R 4), .inl (Y 0, 36, .inl a4)), ((R 6), .inl (Y 0, 4, .inl (upd a6 yn v))), ((R 10), .inl (Y 0, 40, .inl g10)), ((R 11), .inl (Y 0, 40, .inl g11)), ((R 12), .inl (Y 0, 40, .inl g12)), ((R 13), .inl (Y 0, 40, .inl g13))] ∧ (w_.toInt = 3) ∧ (y.toInt = ((yn : Nat) : Int)) ∧ (yn < 4) ∧ (r.toInt = ((S yn : Nat) : Int)) ∧ (z8.toInt = ((chD d_ : Nat) : Int)) ∧ (∀ j, j < chD d_ → g10 j = chg d_ a10 w_ j) ∧ (∀ j, j < chD d_ → g11 j = chg d_ a11 y j) ∧ (∀ j, j < chD d_ → g12 j = chg d_ a12 r j) ∧ (∀ j, j < chD d_ → g13 j = chg d_ a13 v j) ∧ (v.toInt ≠ ((S yn : Nat) : Int)) ∧ (0 ≤ v.toInt ∧ ((w_.toInt < 3 ∧ v.toInt < 8) ∨ (w_.toInt = 3 ∧ v.toInt < 10) ∨ (w_.toInt = 4 ∧ v.toInt < 13)))) ∨ (∃ (g10 : Nat → Int32), ∃ (g11 : Nat → Int32), ∃ (g12 : Nat → Int32), ∃ (g13 : Nat → Int32), ∃ (z8 : Int32), vv__ = some (.int v7) ∧ ww__ = [(m, .inr (10, mF R v0 v z8 (0 : Int32) v15 v16 v17 v18 v19 v27 v31 v32 v33 v34 v38 v42 v44)), ((R 1), .inl (Y 0, 3, .inl a1)), ((R 2), .inl (Y 0, 36, .inl a2)), ((R 3), .inl (Y 0, 36, .inl a3)), ((R 4), .inl (Y 0, 36, .inl a4)), ((R 6), .inl (Y 0, 4, .inl a6)), ((R 10), .inl (Y 0, 40, .inl g10)), ((R 11), .inl (Y 0, 40, .inl g11)), ((R 12), .inl (Y 0, 40, .inl g12)), ((R 13), .inl (Y 0, 40, .inl g13))] ∧ (w_.toInt = 4) ∧ (z8.toInt = ((chD d_ : Nat) : Int)) ∧ (∀ j, j < chD d_ → g10 j = chg d_ a10 w_ j) ∧ (∀ j, j < chD d_ → g11 j = chg d_ a11 y j) ∧ (∀ j, j < chD d_ → g12 j = chg d_ a12 v7 j) ∧ (∀ j, j < chD d_ → g13 j = chg d_ a13 v j) ∧ (v.toInt ≠ v7.toInt) ∧ (0 ≤ v.toInt ∧ ((w_.toInt < 3 ∧ v.toInt < 8) ∨ (w_.toInt = 3 ∧ v.toInt < 10) ∨ (w_.toInt = 4 ∧ v.toInt < 13))))) := by
  refine Mg_of (cc := cX11_mend) (maxL := 4) (ret := (some .int)) (ls0 := [(0, .ref m), (1, .int y), (2, .int w_), (3, .int v)]) RX11 (by decide) rfl rfl rfl (Nat.le_of_ble_eq_true rfl) (fun p__ e__ s__ m__ b__ t__ c__ X hr hn => ?_)
  have hln0 : (a1 s0).toInt = ((n s0 : Nat) : Int) ∧ n s0 ≤ 12 := hLN s0 hs0
  refine V_aload_n X 0 rfl dX11_mend_0 ?_
  refine V_iload_n X 1 rfl dX11_mend_1 ?_
  refine V_iload_n X 2 rfl dX11_mend_2 ?_
  refine V_callV (C := RX11) (wr := [((R 2), .inl (Y 0, 36, .inl a2)), ((R 3), .inl (Y 0, 36, .inl a3)), ((R 4), .inl (Y 0, 36, .inl a4)), ((R 6), .inl (Y 0, 4, .inl a6)), ((R 10), .inl (Y 0, 40, .inl a10)), ((R 11), .inl (Y 0, 40, .inl a11)), ((R 12), .inl (Y 0, 40, .inl a12)), ((R 13), .inl (Y 0, 40, .inl a13))]) (st := []) X (c_X11_isOne l D Y m R v0 v7 v8 v9 v15 v16 v17 v18 v19 v27 v31 v32 v33 v34 v38 v42 v44 a1 n s0 y ln w_ hLN hs0 hsl hln) 2 gX11_mend_X11_isOne rfl (by decide +kernel) ⟨rfl, rfl⟩ ⟨Nat.le_of_ble_eq_true rfl, Nat.le_of_ble_eq_true rfl⟩ [0, 1] [2, 3, 4, 5, 6, 7, 8, 9] rfl rfl rfl rfl (by decide) (ci := 10) rfl rfl 0 rfl rfl rfl (Nat.le_of_ble_eq_true rfl) ⟨Nat.le_of_ble_eq_true rfl, Nat.le_of_ble_eq_true rfl⟩ dX11_mend_3 (fun v_3 w_3 h_3 => ?_)
  rcases h_3 with ⟨rfl, rfl, hhy_2⟩ | ⟨rfl, rfl, hhn_3⟩
  · refine V_to (pc' := 6) (ls' := [(0, .ref m), (1, .int y), (2, .int w_), (3, .int v)]) (st' := [.int (1 : Int32)]) (ws' := [((R 2), .inl (Y 0, 36, .inl a2)), ((R 3), .inl (Y 0, 36, .inl a3)), ((R 4), .inl (Y 0, 36, .inl a4)), ((R 6), .inl (Y 0, 4, .inl a6)), ((R 10), .inl (Y 0, 40, .inl a10)), ((R 11), .inl (Y 0, 40, .inl a11)), ((R 12), .inl (Y 0, 40, .inl a12)), ((R 13), .inl (Y 0, 40, .inl a13)), (m, .inr (10, mF R v0 v7 v8 v9 v15 v16 v17 v18 v19 v27 v31 v32 v33 v34 v38 v42 v44)), ((R 1), .inl (Y 0, 3, .inl a1))]) ?_ rfl rfl rfl rfl
    refine V_if_eq X (show (1 : Int32).toInt = 1 from by decide) 27 dX11_mend_6 (by decide) (fun c_6 => absurd c_6 (by decide)) (fun _ => ?_)
    refine V_iload_n X 2 rfl dX11_mend_9 ?_
    refine V_iload_n X 3 rfl dX11_mend_10 ?_
    refine V_callS (wr := [((R 2), .inl (Y 0, 36, .inl a2)), ((R 3), .inl (Y 0, 36, .inl a3)), ((R 4), .inl (Y 0, 36, .inl a4)), ((R 6), .inl (Y 0, 4, .inl a6)), ((R 10), .inl (Y 0, 40, .inl a10)), ((R 11), .inl (Y 0, 40, .inl a11)), ((R 12), .inl (Y 0, 40, .inl a12)), ((R 13), .inl (Y 0, 40, .inl a13)), (m, .inr (10, mF R v0 v7 v8 v9 v15 v16 v17 v18 v19 v27 v31 v32 v33 v34 v38 v42 v44)), ((R 1), .inl (Y 0, 3, .inl a1))]) (st := []) X (c_X11_mayBe l D Y w_ v (by omega)) 2 gX11_mend_X11_mayBe rfl (by decide +kernel) ⟨rfl, rfl⟩ ⟨Nat.le_of_ble_eq_true rfl, Nat.le_of_ble_eq_true rfl⟩ [] [0, 1, 2, 3, 4, 5, 6, 7, 8, 9] rfl rfl rfl rfl (by decide) rfl rfl (Nat.le_of_ble_eq_true rfl) ⟨Nat.le_of_ble_eq_true rfl, Nat.le_of_ble_eq_true rfl⟩ dX11_mend_11 (fun v_11 w_11 h_11 => ?_)
    rcases h_11 with ⟨rfl, rfl, hhy_5⟩ | ⟨rfl, rfl, hhn_6⟩
    · refine V_to (pc' := 14) (ls' := [(0, .ref m), (1, .int y), (2, .int w_), (3, .int v)]) (st' := [.int (1 : Int32)]) (ws' := [((R 2), .inl (Y 0, 36, .inl a2)), ((R 3), .inl (Y 0, 36, .inl a3)), ((R 4), .inl (Y 0, 36, .inl a4)), ((R 6), .inl (Y 0, 4, .inl a6)), ((R 10), .inl (Y 0, 40, .inl a10)), ((R 11), .inl (Y 0, 40, .inl a11)), ((R 12), .inl (Y 0, 40, .inl a12)), ((R 13), .inl (Y 0, 40, .inl a13)), (m, .inr (10, mF R v0 v7 v8 v9 v15 v16 v17 v18 v19 v27 v31 v32 v33 v34 v38 v42 v44)), ((R 1), .inl (Y 0, 3, .inl a1))]) ?_ rfl rfl rfl rfl
      refine V_if_eq X (show (1 : Int32).toInt = 1 from by decide) 27 dX11_mend_14 (by decide) (fun c_14 => absurd c_14 (by decide)) (fun _ => ?_)
      have hsl2 : 0 ≤ w_.toInt → w_.toInt < 3 → 0 ≤ y.toInt → y.toInt / 100 < 3 → y.toInt / 100 = ((s0 : Nat) : Int) := hsl
      refine V_aload_n X 0 rfl dX11_mend_17 ?_
      refine V_iload_n X 2 rfl dX11_mend_18 ?_
      refine V_iload_n X 1 rfl dX11_mend_19 ?_
      refine V_iload_n X 3 rfl dX11_mend_20 ?_
      refine V_callV (C := RX11) (wr := [((R 1), .inl (Y 0, 3, .inl a1))]) (st := []) X (c_X11_changes l D Y m R v0 v7 v8 v9 v15 v16 v17 v18 v19 v27 v31 v32 v33 v34 v38 v42 v44 a2 a3 a4 a6 n T S s0 y ln w_ v a10 a11 a12 a13 d_ u_ hMT hSU hs0 hln hln0.2 hhy_2 tv8 tv9 hdu) 3 gX11_mend_X11_changes rfl (by decide +kernel) ⟨rfl, rfl⟩ ⟨Nat.le_of_ble_eq_true rfl, Nat.le_of_ble_eq_true rfl⟩ [8, 0, 1, 2, 3, 4, 5, 6, 7] [9] rfl rfl rfl rfl (by decide) (ci := 10) rfl rfl 0 rfl rfl rfl (Nat.le_of_ble_eq_true rfl) ⟨Nat.le_of_ble_eq_true rfl, Nat.le_of_ble_eq_true rfl⟩ dX11_mend_21 (fun v_21 w_21 h_21 => ?_)
      rcases h_21 with ⟨r_8, w0, rfl, rfl, htw_10, hhw_11, hhv_12, tr_c, hhsame_14⟩ | ⟨r_15, y0, rfl, rfl, hh3_17, htyn_18, hhy4_19, tr_c, hhsame_21⟩ | ⟨rfl, rfl, hh4_22, hhsame_23⟩ | ⟨r_24, g10_c, g11_c, g12_c, g13_c, z8_c, rfl, rfl, htw_30, hhw_31, hhv_32, tr_c, tz8_c, hg10_c, hg11_c, hg12_c, hg13_c, hhnew_39⟩ | ⟨r_40, g10_c, g11_c, g12_c, g13_c, z8_c, rfl, rfl, htw_46, hhw_47, hhv_48, tr_c, tz8_c, hg10_c, hg11_c, hg12_c, hg13_c, hhnew_55⟩ | ⟨r_56, g10_c, g11_c, g12_c, g13_c, z8_c, rfl, rfl, htw_62, hhw_63, hhv_64, tr_c, tz8_c, hg10_c, hg11_c, hg12_c, hg13_c, hhnew_71⟩ | ⟨r_72, y0, g10_c, g11_c, g12_c, g13_c, z8_c, rfl, rfl, hh3_79, htyn_80, hhy4_81, tr_c, tz8_c, hg10_c, hg11_c, hg12_c, hg13_c, hhnew_88⟩ | ⟨g10_c, g11_c, g12_c, g13_c, z8_c, rfl, rfl, hh4_94, tz8_c, hg10_c, hg11_c, hg12_c, hg13_c, hhnew_100⟩
      · refine V_to (pc' := 24) (ls' := [(0, .ref m), (1, .int y), (2, .int w_), (3, .int v)]) (st' := [.int r_8]) (ws' := [((R 1), .inl (Y 0, 3, .inl a1)), (m, .inr (10, mF R v0 v7 v8 v9 v15 v16 v17 v18 v19 v27 v31 v32 v33 v34 v38 v42 v44)), ((R 2), .inl (Y 0, 36, .inl a2)), ((R 3), .inl (Y 0, 36, .inl a3)), ((R 4), .inl (Y 0, 36, .inl a4)), ((R 6), .inl (Y 0, 4, .inl a6)), ((R 10), .inl (Y 0, 40, .inl a10)), ((R 11), .inl (Y 0, 40, .inl a11)), ((R 12), .inl (Y 0, 40, .inl a12)), ((R 13), .inl (Y 0, 40, .inl a13))]) ?_ rfl rfl rfl rfl
        refine V_goto X 28 (by decide) dX11_mend_24 ?_
        refine V_ws (ws' := [(m, .inr (10, mF R v0 v7 v8 v9 v15 v16 v17 v18 v19 v27 v31 v32 v33 v34 v38 v42 v44)), ((R 1), .inl (Y 0, 3, .inl a1)), ((R 2), .inl (Y 0, 36, .inl a2)), ((R 3), .inl (Y 0, 36, .inl a3)), ((R 4), .inl (Y 0, 36, .inl a4)), ((R 6), .inl (Y 0, 4, .inl a6)), ((R 10), .inl (Y 0, 40, .inl a10)), ((R 11), .inl (Y 0, 40, .inl a11)), ((R 12), .inl (Y 0, 40, .inl a12)), ((R 13), .inl (Y 0, 40, .inl a13))]) [1, 0, 2, 3, 4, 5, 6, 7, 8, 9] rfl rfl rfl ?_
        exact V_iret X hr dX11_mend_28 (Or.inr (Or.inl ⟨r_8, w0, rfl, rfl, htw_10, hhw_11, hhv_12, tr_c, hhsame_14, hhy_5⟩))
      · refine V_to (pc' := 24) (ls' := [(0, .ref m), (1, .int y), (2, .int w_), (3, .int v)]) (st' := [.int r_15]) (ws' := [((R 1), .inl (Y 0, 3, .inl a1)), (m, .inr (10, mF R v0 v7 v8 v9 v15 v16 v17 v18 v19 v27 v31 v32 v33 v34 v38 v42 v44)), ((R 2), .inl (Y 0, 36, .inl a2)), ((R 3), .inl (Y 0, 36, .inl a3)), ((R 4), .inl (Y 0, 36, .inl a4)), ((R 6), .inl (Y 0, 4, .inl a6)), ((R 10), .inl (Y 0, 40, .inl a10)), ((R 11), .inl (Y 0, 40, .inl a11)), ((R 12), .inl (Y 0, 40, .inl a12)), ((R 13), .inl (Y 0, 40, .inl a13))]) ?_ rfl rfl rfl rfl
        refine V_goto X 28 (by decide) dX11_mend_24 ?_
        refine V_ws (ws' := [(m, .inr (10, mF R v0 v7 v8 v9 v15 v16 v17 v18 v19 v27 v31 v32 v33 v34 v38 v42 v44)), ((R 1), .inl (Y 0, 3, .inl a1)), ((R 2), .inl (Y 0, 36, .inl a2)), ((R 3), .inl (Y 0, 36, .inl a3)), ((R 4), .inl (Y 0, 36, .inl a4)), ((R 6), .inl (Y 0, 4, .inl a6)), ((R 10), .inl (Y 0, 40, .inl a10)), ((R 11), .inl (Y 0, 40, .inl a11)), ((R 12), .inl (Y 0, 40, .inl a12)), ((R 13), .inl (Y 0, 40, .inl a13))]) [1, 0, 2, 3, 4, 5, 6, 7, 8, 9] rfl rfl rfl ?_
        exact V_iret X hr dX11_mend_28 (Or.inr (Or.inr (Or.inl ⟨r_15, y0, rfl, rfl, hh3_17, htyn_18, hhy4_19, tr_c, hhsame_21, hhy_5⟩)))
      · refine V_to (pc' := 24) (ls' := [(0, .ref m), (1, .int y), (2, .int w_), (3, .int v)]) (st' := [.int v7]) (ws' := [((R 1), .inl (Y 0, 3, .inl a1)), (m, .inr (10, mF R v0 v7 v8 v9 v15 v16 v17 v18 v19 v27 v31 v32 v33 v34 v38 v42 v44)), ((R 2), .inl (Y 0, 36, .inl a2)), ((R 3), .inl (Y 0, 36, .inl a3)), ((R 4), .inl (Y 0, 36, .inl a4)), ((R 6), .inl (Y 0, 4, .inl a6)), ((R 10), .inl (Y 0, 40, .inl a10)), ((R 11), .inl (Y 0, 40, .inl a11)), ((R 12), .inl (Y 0, 40, .inl a12)), ((R 13), .inl (Y 0, 40, .inl a13))]) ?_ rfl rfl rfl rfl
        refine V_goto X 28 (by decide) dX11_mend_24 ?_
        refine V_ws (ws' := [(m, .inr (10, mF R v0 v7 v8 v9 v15 v16 v17 v18 v19 v27 v31 v32 v33 v34 v38 v42 v44)), ((R 1), .inl (Y 0, 3, .inl a1)), ((R 2), .inl (Y 0, 36, .inl a2)), ((R 3), .inl (Y 0, 36, .inl a3)), ((R 4), .inl (Y 0, 36, .inl a4)), ((R 6), .inl (Y 0, 4, .inl a6)), ((R 10), .inl (Y 0, 40, .inl a10)), ((R 11), .inl (Y 0, 40, .inl a11)), ((R 12), .inl (Y 0, 40, .inl a12)), ((R 13), .inl (Y 0, 40, .inl a13))]) [1, 0, 2, 3, 4, 5, 6, 7, 8, 9] rfl rfl rfl ?_
        exact V_iret X hr dX11_mend_28 (Or.inr (Or.inr (Or.inr (Or.inl ⟨rfl, rfl, hh4_22, hhsame_23, hhy_5⟩))))
      · refine V_to (pc' := 24) (ls' := [(0, .ref m), (1, .int y), (2, .int w_), (3, .int v)]) (st' := [.int r_24]) (ws' := [((R 1), .inl (Y 0, 3, .inl a1)), (m, .inr (10, mF R v0 v7 z8_c (0 : Int32) v15 v16 v17 v18 v19 v27 v31 v32 v33 v34 v38 v42 v44)), ((R 2), .inl (Y 0, 36, .inl (upd a2 (12 * s0 + ln) v))), ((R 3), .inl (Y 0, 36, .inl a3)), ((R 4), .inl (Y 0, 36, .inl a4)), ((R 6), .inl (Y 0, 4, .inl a6)), ((R 10), .inl (Y 0, 40, .inl g10_c)), ((R 11), .inl (Y 0, 40, .inl g11_c)), ((R 12), .inl (Y 0, 40, .inl g12_c)), ((R 13), .inl (Y 0, 40, .inl g13_c))]) ?_ rfl rfl rfl rfl
        refine V_goto X 28 (by decide) dX11_mend_24 ?_
        refine V_ws (ws' := [(m, .inr (10, mF R v0 v7 z8_c (0 : Int32) v15 v16 v17 v18 v19 v27 v31 v32 v33 v34 v38 v42 v44)), ((R 1), .inl (Y 0, 3, .inl a1)), ((R 2), .inl (Y 0, 36, .inl (upd a2 (12 * s0 + ln) v))), ((R 3), .inl (Y 0, 36, .inl a3)), ((R 4), .inl (Y 0, 36, .inl a4)), ((R 6), .inl (Y 0, 4, .inl a6)), ((R 10), .inl (Y 0, 40, .inl g10_c)), ((R 11), .inl (Y 0, 40, .inl g11_c)), ((R 12), .inl (Y 0, 40, .inl g12_c)), ((R 13), .inl (Y 0, 40, .inl g13_c))]) [1, 0, 2, 3, 4, 5, 6, 7, 8, 9] rfl rfl rfl ?_
        exact V_iret X hr dX11_mend_28 (Or.inr (Or.inr (Or.inr (Or.inr (Or.inl ⟨r_24, g10_c, g11_c, g12_c, g13_c, z8_c, rfl, rfl, htw_30, hhw_31, hhv_32, tr_c, tz8_c, hg10_c, hg11_c, hg12_c, hg13_c, hhnew_39, hhy_5⟩)))))
      · refine V_to (pc' := 24) (ls' := [(0, .ref m), (1, .int y), (2, .int w_), (3, .int v)]) (st' := [.int r_40]) (ws' := [((R 1), .inl (Y 0, 3, .inl a1)), (m, .inr (10, mF R v0 v7 z8_c (0 : Int32) v15 v16 v17 v18 v19 v27 v31 v32 v33 v34 v38 v42 v44)), ((R 2), .inl (Y 0, 36, .inl a2)), ((R 3), .inl (Y 0, 36, .inl (upd a3 (12 * s0 + ln) v))), ((R 4), .inl (Y 0, 36, .inl a4)), ((R 6), .inl (Y 0, 4, .inl a6)), ((R 10), .inl (Y 0, 40, .inl g10_c)), ((R 11), .inl (Y 0, 40, .inl g11_c)), ((R 12), .inl (Y 0, 40, .inl g12_c)), ((R 13), .inl (Y 0, 40, .inl g13_c))]) ?_ rfl rfl rfl rfl
        refine V_goto X 28 (by decide) dX11_mend_24 ?_
        refine V_ws (ws' := [(m, .inr (10, mF R v0 v7 z8_c (0 : Int32) v15 v16 v17 v18 v19 v27 v31 v32 v33 v34 v38 v42 v44)), ((R 1), .inl (Y 0, 3, .inl a1)), ((R 2), .inl (Y 0, 36, .inl a2)), ((R 3), .inl (Y 0, 36, .inl (upd a3 (12 * s0 + ln) v))), ((R 4), .inl (Y 0, 36, .inl a4)), ((R 6), .inl (Y 0, 4, .inl a6)), ((R 10), .inl (Y 0, 40, .inl g10_c)), ((R 11), .inl (Y 0, 40, .inl g11_c)), ((R 12), .inl (Y 0, 40, .inl g12_c)), ((R 13), .inl (Y 0, 40, .inl g13_c))]) [1, 0, 2, 3, 4, 5, 6, 7, 8, 9] rfl rfl rfl ?_
        exact V_iret X hr dX11_mend_28 (Or.inr (Or.inr (Or.inr (Or.inr (Or.inr (Or.inl ⟨r_40, g10_c, g11_c, g12_c, g13_c, z8_c, rfl, rfl, htw_46, hhw_47, hhv_48, tr_c, tz8_c, hg10_c, hg11_c, hg12_c, hg13_c, hhnew_55, hhy_5⟩))))))
      · refine V_to (pc' := 24) (ls' := [(0, .ref m), (1, .int y), (2, .int w_), (3, .int v)]) (st' := [.int r_56]) (ws' := [((R 1), .inl (Y 0, 3, .inl a1)), (m, .inr (10, mF R v0 v7 z8_c (0 : Int32) v15 v16 v17 v18 v19 v27 v31 v32 v33 v34 v38 v42 v44)), ((R 2), .inl (Y 0, 36, .inl a2)), ((R 3), .inl (Y 0, 36, .inl a3)), ((R 4), .inl (Y 0, 36, .inl (upd a4 (12 * s0 + ln) v))), ((R 6), .inl (Y 0, 4, .inl a6)), ((R 10), .inl (Y 0, 40, .inl g10_c)), ((R 11), .inl (Y 0, 40, .inl g11_c)), ((R 12), .inl (Y 0, 40, .inl g12_c)), ((R 13), .inl (Y 0, 40, .inl g13_c))]) ?_ rfl rfl rfl rfl
        refine V_goto X 28 (by decide) dX11_mend_24 ?_
        refine V_ws (ws' := [(m, .inr (10, mF R v0 v7 z8_c (0 : Int32) v15 v16 v17 v18 v19 v27 v31 v32 v33 v34 v38 v42 v44)), ((R 1), .inl (Y 0, 3, .inl a1)), ((R 2), .inl (Y 0, 36, .inl a2)), ((R 3), .inl (Y 0, 36, .inl a3)), ((R 4), .inl (Y 0, 36, .inl (upd a4 (12 * s0 + ln) v))), ((R 6), .inl (Y 0, 4, .inl a6)), ((R 10), .inl (Y 0, 40, .inl g10_c)), ((R 11), .inl (Y 0, 40, .inl g11_c)), ((R 12), .inl (Y 0, 40, .inl g12_c)), ((R 13), .inl (Y 0, 40, .inl g13_c))]) [1, 0, 2, 3, 4, 5, 6, 7, 8, 9] rfl rfl rfl ?_
        exact V_iret X hr dX11_mend_28 (Or.inr (Or.inr (Or.inr (Or.inr (Or.inr (Or.inr (Or.inl ⟨r_56, g10_c, g11_c, g12_c, g13_c, z8_c, rfl, rfl, htw_62, hhw_63, hhv_64, tr_c, tz8_c, hg10_c, hg11_c, hg12_c, hg13_c, hhnew_71, hhy_5⟩)))))))
      · refine V_to (pc' := 24) (ls' := [(0, .ref m), (1, .int y), (2, .int w_), (3, .int v)]) (st' := [.int r_72]) (ws' := [((R 1), .inl (Y 0, 3, .inl a1)), (m, .inr (10, mF R v0 v7 z8_c (0 : Int32) v15 v16 v17 v18 v19 v27 v31 v32 v33 v34 v38 v42 v44)), ((R 2), .inl (Y 0, 36, .inl a2)), ((R 3), .inl (Y 0, 36, .inl a3)), ((R 4), .inl (Y 0, 36, .inl a4)), ((R 6), .inl (Y 0, 4, .inl (upd a6 y0 v))), ((R 10), .inl (Y 0, 40, .inl g10_c)), ((R 11), .inl (Y 0, 40, .inl g11_c)), ((R 12), .inl (Y 0, 40, .inl g12_c)), ((R 13), .inl (Y 0, 40, .inl g13_c))]) ?_ rfl rfl rfl rfl
        refine V_goto X 28 (by decide) dX11_mend_24 ?_
        refine V_ws (ws' := [(m, .inr (10, mF R v0 v7 z8_c (0 : Int32) v15 v16 v17 v18 v19 v27 v31 v32 v33 v34 v38 v42 v44)), ((R 1), .inl (Y 0, 3, .inl a1)), ((R 2), .inl (Y 0, 36, .inl a2)), ((R 3), .inl (Y 0, 36, .inl a3)), ((R 4), .inl (Y 0, 36, .inl a4)), ((R 6), .inl (Y 0, 4, .inl (upd a6 y0 v))), ((R 10), .inl (Y 0, 40, .inl g10_c)), ((R 11), .inl (Y 0, 40, .inl g11_c)), ((R 12), .inl (Y 0, 40, .inl g12_c)), ((R 13), .inl (Y 0, 40, .inl g13_c))]) [1, 0, 2, 3, 4, 5, 6, 7, 8, 9] rfl rfl rfl ?_
        exact V_iret X hr dX11_mend_28 (Or.inr (Or.inr (Or.inr (Or.inr (Or.inr (Or.inr (Or.inr (Or.inl ⟨r_72, y0, g10_c, g11_c, g12_c, g13_c, z8_c, rfl, rfl, hh3_79, htyn_80, hhy4_81, tr_c, tz8_c, hg10_c, hg11_c, hg12_c, hg13_c, hhnew_88, hhy_5⟩))))))))
      · refine V_to (pc' := 24) (ls' := [(0, .ref m), (1, .int y), (2, .int w_), (3, .int v)]) (st' := [.int v7]) (ws' := [((R 1), .inl (Y 0, 3, .inl a1)), (m, .inr (10, mF R v0 v z8_c (0 : Int32) v15 v16 v17 v18 v19 v27 v31 v32 v33 v34 v38 v42 v44)), ((R 2), .inl (Y 0, 36, .inl a2)), ((R 3), .inl (Y 0, 36, .inl a3)), ((R 4), .inl (Y 0, 36, .inl a4)), ((R 6), .inl (Y 0, 4, .inl a6)), ((R 10), .inl (Y 0, 40, .inl g10_c)), ((R 11), .inl (Y 0, 40, .inl g11_c)), ((R 12), .inl (Y 0, 40, .inl g12_c)), ((R 13), .inl (Y 0, 40, .inl g13_c))]) ?_ rfl rfl rfl rfl
        refine V_goto X 28 (by decide) dX11_mend_24 ?_
        refine V_ws (ws' := [(m, .inr (10, mF R v0 v z8_c (0 : Int32) v15 v16 v17 v18 v19 v27 v31 v32 v33 v34 v38 v42 v44)), ((R 1), .inl (Y 0, 3, .inl a1)), ((R 2), .inl (Y 0, 36, .inl a2)), ((R 3), .inl (Y 0, 36, .inl a3)), ((R 4), .inl (Y 0, 36, .inl a4)), ((R 6), .inl (Y 0, 4, .inl a6)), ((R 10), .inl (Y 0, 40, .inl g10_c)), ((R 11), .inl (Y 0, 40, .inl g11_c)), ((R 12), .inl (Y 0, 40, .inl g12_c)), ((R 13), .inl (Y 0, 40, .inl g13_c))]) [1, 0, 2, 3, 4, 5, 6, 7, 8, 9] rfl rfl rfl ?_
        exact V_iret X hr dX11_mend_28 (Or.inr (Or.inr (Or.inr (Or.inr (Or.inr (Or.inr (Or.inr (Or.inr (⟨g10_c, g11_c, g12_c, g13_c, z8_c, rfl, rfl, hh4_94, tz8_c, hg10_c, hg11_c, hg12_c, hg13_c, hhnew_100, hhy_5⟩)))))))))
    · refine V_to (pc' := 14) (ls' := [(0, .ref m), (1, .int y), (2, .int w_), (3, .int v)]) (st' := [.int (0 : Int32)]) (ws' := [((R 2), .inl (Y 0, 36, .inl a2)), ((R 3), .inl (Y 0, 36, .inl a3)), ((R 4), .inl (Y 0, 36, .inl a4)), ((R 6), .inl (Y 0, 4, .inl a6)), ((R 10), .inl (Y 0, 40, .inl a10)), ((R 11), .inl (Y 0, 40, .inl a11)), ((R 12), .inl (Y 0, 40, .inl a12)), ((R 13), .inl (Y 0, 40, .inl a13)), (m, .inr (10, mF R v0 v7 v8 v9 v15 v16 v17 v18 v19 v27 v31 v32 v33 v34 v38 v42 v44)), ((R 1), .inl (Y 0, 3, .inl a1))]) ?_ rfl rfl rfl rfl
      refine V_if_eq X (show (0 : Int32).toInt = 0 from by decide) 27 dX11_mend_14 (by decide) (fun _ => ?_) (fun c_14 => absurd c_14 (by decide))
      refine V_iconst (v := (-1 : Int32)) X (by decide) dX11_mend_27 ?_
      refine V_ws (ws' := [(m, .inr (10, mF R v0 v7 v8 v9 v15 v16 v17 v18 v19 v27 v31 v32 v33 v34 v38 v42 v44)), ((R 1), .inl (Y 0, 3, .inl a1)), ((R 2), .inl (Y 0, 36, .inl a2)), ((R 3), .inl (Y 0, 36, .inl a3)), ((R 4), .inl (Y 0, 36, .inl a4)), ((R 6), .inl (Y 0, 4, .inl a6)), ((R 10), .inl (Y 0, 40, .inl a10)), ((R 11), .inl (Y 0, 40, .inl a11)), ((R 12), .inl (Y 0, 40, .inl a12)), ((R 13), .inl (Y 0, 40, .inl a13))]) [8, 9, 0, 1, 2, 3, 4, 5, 6, 7] rfl rfl rfl ?_
      exact V_iret X hr dX11_mend_28 (Or.inl ⟨rfl, rfl, (by omega)⟩)
  · refine V_to (pc' := 6) (ls' := [(0, .ref m), (1, .int y), (2, .int w_), (3, .int v)]) (st' := [.int (0 : Int32)]) (ws' := [((R 2), .inl (Y 0, 36, .inl a2)), ((R 3), .inl (Y 0, 36, .inl a3)), ((R 4), .inl (Y 0, 36, .inl a4)), ((R 6), .inl (Y 0, 4, .inl a6)), ((R 10), .inl (Y 0, 40, .inl a10)), ((R 11), .inl (Y 0, 40, .inl a11)), ((R 12), .inl (Y 0, 40, .inl a12)), ((R 13), .inl (Y 0, 40, .inl a13)), (m, .inr (10, mF R v0 v7 v8 v9 v15 v16 v17 v18 v19 v27 v31 v32 v33 v34 v38 v42 v44)), ((R 1), .inl (Y 0, 3, .inl a1))]) ?_ rfl rfl rfl rfl
    refine V_if_eq X (show (0 : Int32).toInt = 0 from by decide) 27 dX11_mend_6 (by decide) (fun _ => ?_) (fun c_6 => absurd c_6 (by decide))
    refine V_iconst (v := (-1 : Int32)) X (by decide) dX11_mend_27 ?_
    refine V_ws (ws' := [(m, .inr (10, mF R v0 v7 v8 v9 v15 v16 v17 v18 v19 v27 v31 v32 v33 v34 v38 v42 v44)), ((R 1), .inl (Y 0, 3, .inl a1)), ((R 2), .inl (Y 0, 36, .inl a2)), ((R 3), .inl (Y 0, 36, .inl a3)), ((R 4), .inl (Y 0, 36, .inl a4)), ((R 6), .inl (Y 0, 4, .inl a6)), ((R 10), .inl (Y 0, 40, .inl a10)), ((R 11), .inl (Y 0, 40, .inl a11)), ((R 12), .inl (Y 0, 40, .inl a12)), ((R 13), .inl (Y 0, 40, .inl a13))]) [8, 9, 0, 1, 2, 3, 4, 5, 6, 7] rfl rfl rfl ?_
    exact V_iret X hr dX11_mend_28 (Or.inl ⟨rfl, rfl, (by omega)⟩)

set_option maxHeartbeats 4000000 in
set_option maxRecDepth 100000 in
theorem c_X11_whoHas (l : Launch) (D : va_G) (Y : Nat → ClassId) (m : Nat) (R : Nat → Nat) (v0 : Int32) (v7 : Int32) (v8 : Int32) (v9 : Int32) (v15 : Int32) (v16 : Int32) (v17 : Int32) (v18 : Int32) (v19 : Int32) (v27 : Int32) (v31 : Int32) (v32 : Int32) (v33 : Int32) (v34 : Int32) (v38 : Int32) (v42 : Int32) (v44 : Int32) (a5 : Nat → Int32) (B : Nat → Nat → Bool) (s0 : Nat) (x : Int32) (c_ : Int32) (ln : Nat) (w_ : Int32) (w : Nat) (hMH : MHV a5 B) (hs0 : s0 < 3) (tx : x.toInt = ((s0 : Nat) : Int)) (tc_ : c_.toInt = ((ln : Nat) : Int)) (hl : ln < 12) (tw_ : w_.toInt = ((w : Nat) : Int)) (hw : w < 2) : Mg l yX11_whoHas wsX11_whoHas ({ frames := 2, cells := 0, slots := 0, locals := 46 }) D Y [(m, .inr (10, mF R v0 v7 v8 v9 v15 v16 v17 v18 v19 v27 v31 v32 v33 v34 v38 v42 v44)), ((R 5), .inl (Y 0, 24, .inl a5))] [.ref m, .int x, .int c_, .int w_] 0 0 (fun vv__ ww__ => (∃ (r : Int32), vv__ = some (.int r) ∧ ww__ = [(m, .inr (10, mF R v0 v7 v8 v9 v15 v16 v17 v18 v19 v27 v31 v32 v33 v34 v38 v42 v44)), ((R 5), .inl (Y 0, 24, .inl a5))] ∧ (WHO (B s0) ln w 4 r))) := by
  refine Mg_of (cc := cX11_whoHas) (maxL := 6) (ret := (some .int)) (ls0 := [(0, .ref m), (1, .int x), (2, .int c_), (3, .int w_)]) RX11 (by decide) rfl rfl rfl (Nat.le_of_ble_eq_true rfl) (fun p__ e__ s__ m__ b__ t__ c__ X hr hn => ?_)
  refine V_iconst (v := (0 : Int32)) X (by decide) dX11_whoHas_0 ?_
  refine V_istore (ls' := [(4, .int (0 : Int32)), (0, .ref m), (1, .int x), (2, .int c_), (3, .int w_)]) X (by decide) rfl dX11_whoHas_1 ?_
  refine V_iconst (v := (0 : Int32)) X (by decide) dX11_whoHas_3 ?_
  refine V_istore (ls' := [(5, .int (0 : Int32)), (4, .int (0 : Int32)), (0, .ref m), (1, .int x), (2, .int c_), (3, .int w_)]) X (by decide) rfl dX11_whoHas_4 ?_
  refine V_ls (ls' := [(0, .ref m), (1, .int x), (2, .int c_), (3, .int w_), (4, .int (0 : Int32)), (5, .int (0 : Int32))]) [2, 3, 4, 5, 1, 0] rfl ?_
  refine V_to (V_ind3 (fun (i5 : Int32) (k : Nat) (u4 : Int32) => (i5.toInt = ((k : Nat) : Int)) ∧ (k ≤ 4) ∧ (WHO (B s0) ln w k u4)) (fun (i5 : Int32) (k : Nat) (u4 : Int32) => 4 - k) (fun (i5 : Int32) (k : Nat) (u4 : Int32) => [(0, .ref m), (1, .int x), (2, .int c_), (3, .int w_), (4, .int u4), (5, .int i5)]) (fun (i5 : Int32) (k : Nat) (u4 : Int32) => [(m, .inr (10, mF R v0 v7 v8 v9 v15 v16 v17 v18 v19 v27 v31 v32 v33 v34 v38 v42 v44)), ((R 5), .inl (Y 0, 24, .inl a5))]) (fun i5 k u4 hI_6 ih_6 => ?_) (0 : Int32) 0 (0 : Int32) ?_) rfl rfl rfl rfl
  · obtain ⟨ti5, hk, hWk⟩ := hI_6
    refine V_to (ls' := [(0, .ref m), (1, .int x), (2, .int c_), (3, .int w_), (4, .int u4), (5, .int i5)]) (ws' := [(m, .inr (10, mF R v0 v7 v8 v9 v15 v16 v17 v18 v19 v27 v31 v32 v33 v34 v38 v42 v44)), ((R 5), .inl (Y 0, 24, .inl a5))]) ?_ rfl rfl rfl rfl
    refine V_iload X 5 rfl dX11_whoHas_6 ?_
    refine V_iconst (v := (4 : Int32)) X (by decide) dX11_whoHas_8 ?_
    refine V_icmp_ge X ti5 (show (4 : Int32).toInt = 4 from by decide) 35 dX11_whoHas_9 (by decide) (fun c_9 => ?_) (fun c_9 => ?_)
    · refine V_iload X 4 rfl dX11_whoHas_35 ?_
      exact V_iret X hr dX11_whoHas_37 (⟨u4, rfl, rfl, (by have h9 : k = 4 := (by omega); subst h9; exact hWk)⟩)
    · refine V_iload X 4 rfl dX11_whoHas_12 ?_
      refine V_aload_n X 0 rfl dX11_whoHas_14 ?_
      refine V_iload_n X 1 rfl dX11_whoHas_15 ?_
      refine V_iload X 5 rfl dX11_whoHas_16 ?_
      refine V_iload_n X 2 rfl dX11_whoHas_18 ?_
      refine V_iload_n X 3 rfl dX11_whoHas_19 ?_
      refine V_callV (C := RX11) (wr := []) (st := [.int u4]) X (c_X11_bitAt l D Y m R v0 v7 v8 v9 v15 v16 v17 v18 v19 v27 v31 v32 v33 v34 v38 v42 v44 a5 B s0 x i5 k w_ w c_ ln hMH hs0 tx ti5 (by omega) tw_ hw tc_ hl) 4 gX11_whoHas_X11_bitAt rfl (by decide +kernel) ⟨rfl, rfl⟩ ⟨Nat.le_of_ble_eq_true rfl, Nat.le_of_ble_eq_true rfl⟩ [0, 1] [] rfl rfl rfl rfl (by decide) (ci := 10) rfl rfl 0 rfl rfl rfl (Nat.le_of_ble_eq_true rfl) ⟨Nat.le_of_ble_eq_true rfl, Nat.le_of_ble_eq_true rfl⟩ dX11_whoHas_20 (fun v_20 w_20 h_20 => ?_)
      obtain ⟨r_2, rfl, rfl, htr_3⟩ := h_20
      refine V_to (pc' := 23) (ls' := [(0, .ref m), (1, .int x), (2, .int c_), (3, .int w_), (4, .int u4), (5, .int i5)]) (st' := [.int r_2, .int u4]) (ws' := [(m, .inr (10, mF R v0 v7 v8 v9 v15 v16 v17 v18 v19 v27 v31 v32 v33 v34 v38 v42 v44)), ((R 5), .inl (Y 0, 24, .inl a5))]) ?_ rfl rfl rfl rfl
      refine V_iload X 5 rfl dX11_whoHas_23 ?_
      refine V_ishl X dX11_whoHas_25 (fun x_4 ex_4 => ?_)
      refine V_ior X dX11_whoHas_26 (fun x_5 ex_5 => ?_)
      refine V_istore (ls' := [(4, .int x_5), (0, .ref m), (1, .int x), (2, .int c_), (3, .int w_), (5, .int i5)]) X (by decide) rfl dX11_whoHas_27 ?_
      refine V_iincZ X (fun vv_ => [(5, .int vv_), (4, .int x_5), (0, .ref m), (1, .int x), (2, .int c_), (3, .int w_)]) ti5 (by omega) (by omega) (by decide) 5 rfl (by decide) (fun _ => rfl) dX11_whoHas_29 (fun x_6 ex_6 tx_6 => ?_)
      have tx_6 : x_6.toInt = (((k + 1) : Nat) : Int) := by omega
      refine V_goto X 6 (by decide) dX11_whoHas_32 ?_
      refine V_ls (ls' := [(0, .ref m), (1, .int x), (2, .int c_), (3, .int w_), (4, .int x_5), (5, .int x_6)]) [2, 3, 4, 5, 1, 0] rfl ?_
      exact V_to (ih_6 x_6 (k + 1) x_5 ⟨(by omega), (by omega), (WHO_s hWk (by omega) htr_3 ti5 ex_4 ex_5)⟩ (by omega)) rfl rfl rfl rfl
  · exact ⟨(by have h9 : (0 : Int32).toInt = 0 := (show (0 : Int32).toInt = 0 from by decide); omega), (by omega), (WHO_0 _ _ _)⟩

theorem in_X11_of_X11 : ∀ w ∈ wsX110, w ∈ wsX11_of := fun w h => List.mem_cons_of_mem _ (List.mem_append_right _ h)
set_option maxHeartbeats 4000000 in
set_option maxRecDepth 100000 in
theorem c_X11_of (l : Launch) (D : va_G) (Y : Nat → ClassId) (m : Nat) (R : Nat → Nat) (v0 : Int32) (v7 : Int32) (v8 : Int32) (v9 : Int32) (v15 : Int32) (v16 : Int32) (v17 : Int32) (v18 : Int32) (v19 : Int32) (v27 : Int32) (v31 : Int32) (v32 : Int32) (v33 : Int32) (v34 : Int32) (v38 : Int32) (v42 : Int32) (v44 : Int32) (a1 : Nat → Int32) (a2 : Nat → Int32) (a3 : Nat → Int32) (a4 : Nat → Int32) (a5 : Nat → Int32) (a6 : Nat → Int32) (n : Nat → Nat) (T : Nat → Nat → Nat) (B : Nat → Nat → Bool) (S : Nat → Nat) (s0 : Nat) (y : Int32) (ln : Nat) (w_ : Int32) (hLN : LNR a1 n) (hMT : MTR a2 a3 a4 T) (hMH : MHV a5 B) (hSU : SUR a6 S) (hs0 : s0 < 3) (hsl : w_.toInt ≠ 5 → 0 ≤ y.toInt → y.toInt / 100 < 3 → y.toInt / 100 = ((s0 : Nat) : Int)) (hln : 0 ≤ y.toInt → y.toInt % 100 = ((ln : Nat) : Int)) (hs5 : w_.toInt = 5 → 0 ≤ y.toInt → y.toInt < 3 → y.toInt = ((s0 : Nat) : Int)) : Mg l yX11_of wsX11_of ({ frames := 4, cells := 0, slots := 0, locals := 85 }) D Y [(m, .inr (10, mF R v0 v7 v8 v9 v15 v16 v17 v18 v19 v27 v31 v32 v33 v34 v38 v42 v44)), ((R 1), .inl (Y 0, 3, .inl a1)), ((R 2), .inl (Y 0, 36, .inl a2)), ((R 3), .inl (Y 0, 36, .inl a3)), ((R 4), .inl (Y 0, 36, .inl a4)), ((R 5), .inl (Y 0, 24, .inl a5)), ((R 6), .inl (Y 0, 4, .inl a6))] [.ref m, .int y, .int w_] 0 0 (fun vv__ ww__ => (vv__ = some (.int (-1 : Int32)) ∧ ww__ = [(m, .inr (10, mF R v0 v7 v8 v9 v15 v16 v17 v18 v19 v27 v31 v32 v33 v34 v38 v42 v44)), ((R 1), .inl (Y 0, 3, .inl a1)), ((R 2), .inl (Y 0, 36, .inl a2)), ((R 3), .inl (Y 0, 36, .inl a3)), ((R 4), .inl (Y 0, 36, .inl a4)), ((R 5), .inl (Y 0, 24, .inl a5)), ((R 6), .inl (Y 0, 4, .inl a6))] ∧ (¬ ((0 ≤ w_.toInt ∧ w_.toInt < 3 ∧ (0 ≤ y.toInt ∧ y.toInt / 100 < 3 ∧ ln < n s0)) ∨ (w_.toInt = 3 ∧ 0 ≤ y.toInt ∧ y.toInt < 4) ∨ (w_.toInt = 4 ∧ y.toInt = 0) ∨ (w_.toInt = 5 ∧ 0 ≤ y.toInt ∧ y.toInt < 3) ∨ ((w_.toInt = 6 ∨ w_.toInt = 7) ∧ (0 ≤ y.toInt ∧ y.toInt / 100 < 3 ∧ ln < n s0))))) ∨ (∃ (r : Int32), ∃ (w : Nat), vv__ = some (.int r) ∧ ww__ = [(m, .inr (10, mF R v0 v7 v8 v9 v15 v16 v17 v18 v19 v27 v31 v32 v33 v34 v38 v42 v44)), ((R 1), .inl (Y 0, 3, .inl a1)), ((R 2), .inl (Y 0, 36, .inl a2)), ((R 3), .inl (Y 0, 36, .inl a3)), ((R 4), .inl (Y 0, 36, .inl a4)), ((R 5), .inl (Y 0, 24, .inl a5)), ((R 6), .inl (Y 0, 4, .inl a6))] ∧ (w_.toInt = ((w : Nat) : Int)) ∧ (w < 3) ∧ (0 ≤ y.toInt ∧ y.toInt / 100 = ((s0 : Nat) : Int) ∧ ln < n s0) ∧ (r.toInt = ((T s0 (3 * ln + w) : Nat) : Int))) ∨ (∃ (r : Int32), ∃ (yn : Nat), vv__ = some (.int r) ∧ ww__ = [(m, .inr (10, mF R v0 v7 v8 v9 v15 v16 v17 v18 v19 v27 v31 v32 v33 v34 v38 v42 v44)), ((R 1), .inl (Y 0, 3, .inl a1)), ((R 2), .inl (Y 0, 36, .inl a2)), ((R 3), .inl (Y 0, 36, .inl a3)), ((R 4), .inl (Y 0, 36, .inl a4)), ((R 5), .inl (Y 0, 24, .inl a5)), ((R 6), .inl (Y 0, 4, .inl a6))] ∧ (w_.toInt = 3) ∧ (y.toInt = ((yn : Nat) : Int)) ∧ (yn < 4) ∧ (r.toInt = ((S yn : Nat) : Int))) ∨ (vv__ = some (.int v7) ∧ ww__ = [(m, .inr (10, mF R v0 v7 v8 v9 v15 v16 v17 v18 v19 v27 v31 v32 v33 v34 v38 v42 v44)), ((R 1), .inl (Y 0, 3, .inl a1)), ((R 2), .inl (Y 0, 36, .inl a2)), ((R 3), .inl (Y 0, 36, .inl a3)), ((R 4), .inl (Y 0, 36, .inl a4)), ((R 5), .inl (Y 0, 24, .inl a5)), ((R 6), .inl (Y 0, 4, .inl a6))] ∧ (w_.toInt = 4)) ∨ (∃ (r : Int32), vv__ = some (.int r) ∧ ww__ = [(m, .inr (10, mF R v0 v7 v8 v9 v15 v16 v17 v18 v19 v27 v31 v32 v33 v34 v38 v42 v44)), ((R 1), .inl (Y 0, 3, .inl a1)), ((R 2), .inl (Y 0, 36, .inl a2)), ((R 3), .inl (Y 0, 36, .inl a3)), ((R 4), .inl (Y 0, 36, .inl a4)), ((R 5), .inl (Y 0, 24, .inl a5)), ((R 6), .inl (Y 0, 4, .inl a6))] ∧ (w_.toInt = 5) ∧ (y.toInt = ((s0 : Nat) : Int)) ∧ (r.toInt = ((n s0 : Nat) : Int))) ∨ (∃ (r : Int32), ∃ (w : Nat), vv__ = some (.int r) ∧ ww__ = [(m, .inr (10, mF R v0 v7 v8 v9 v15 v16 v17 v18 v19 v27 v31 v32 v33 v34 v38 v42 v44)), ((R 1), .inl (Y 0, 3, .inl a1)), ((R 2), .inl (Y 0, 36, .inl a2)), ((R 3), .inl (Y 0, 36, .inl a3)), ((R 4), .inl (Y 0, 36, .inl a4)), ((R 5), .inl (Y 0, 24, .inl a5)), ((R 6), .inl (Y 0, 4, .inl a6))] ∧ (w_.toInt = ((w : Nat) : Int) + 6) ∧ (w < 2) ∧ (0 ≤ y.toInt ∧ y.toInt / 100 = ((s0 : Nat) : Int) ∧ ln < n s0) ∧ (WHO (B s0) ln w 4 r))) := by
  refine Mg_of (cc := cX11_of) (maxL := 3) (ret := (some .int)) (ls0 := [(0, .ref m), (1, .int y), (2, .int w_)]) RX11 (by decide) rfl rfl rfl (Nat.le_of_ble_eq_true rfl) (fun p__ e__ s__ m__ b__ t__ c__ X hr hn => ?_)
  have hln0 : (a1 s0).toInt = ((n s0 : Nat) : Int) ∧ n s0 ≤ 12 := hLN s0 hs0
  refine V_iload_n X 2 rfl dX11_of_0 ?_
  refine V_iconst (v := (0 : Int32)) X (by decide) dX11_of_1 ?_
  refine V_iconst (v := (4 : Int32)) X (by decide) dX11_of_2 ?_
  refine V_callS (wr := [(m, .inr (10, mF R v0 v7 v8 v9 v15 v16 v17 v18 v19 v27 v31 v32 v33 v34 v38 v42 v44)), ((R 1), .inl (Y 0, 3, .inl a1)), ((R 2), .inl (Y 0, 36, .inl a2)), ((R 3), .inl (Y 0, 36, .inl a3)), ((R 4), .inl (Y 0, 36, .inl a4)), ((R 5), .inl (Y 0, 24, .inl a5)), ((R 6), .inl (Y 0, 4, .inl a6))]) (st := []) X (c_X11_in l D Y w_ (0 : Int32) (4 : Int32)) 3 gX11_of_X11_in rfl (by decide +kernel) ⟨rfl, rfl⟩ ⟨Nat.le_of_ble_eq_true rfl, Nat.le_of_ble_eq_true rfl⟩ [] [0, 1, 2, 3, 4, 5, 6] rfl rfl rfl rfl (by decide) rfl rfl (Nat.le_of_ble_eq_true rfl) ⟨Nat.le_of_ble_eq_true rfl, Nat.le_of_ble_eq_true rfl⟩ dX11_of_3 (fun v_3 w_3 h_3 => ?_)
  rcases h_3 with ⟨rfl, rfl, hhy_2⟩ | ⟨rfl, rfl, hhn_3⟩
  · refine V_to (pc' := 6) (ls' := [(0, .ref m), (1, .int y), (2, .int w_)]) (st' := [.int (1 : Int32)]) (ws' := [(m, .inr (10, mF R v0 v7 v8 v9 v15 v16 v17 v18 v19 v27 v31 v32 v33 v34 v38 v42 v44)), ((R 1), .inl (Y 0, 3, .inl a1)), ((R 2), .inl (Y 0, 36, .inl a2)), ((R 3), .inl (Y 0, 36, .inl a3)), ((R 4), .inl (Y 0, 36, .inl a4)), ((R 5), .inl (Y 0, 24, .inl a5)), ((R 6), .inl (Y 0, 4, .inl a6))]) ?_ rfl rfl rfl rfl
    have hc_0 : (0 : Int32).toInt = 0 := by decide
    have hc_4 : (4 : Int32).toInt = 4 := by decide
    refine V_if_eq X (show (1 : Int32).toInt = 1 from by decide) 29 dX11_of_6 (by decide) (fun c_6 => absurd c_6 (by decide)) (fun _ => ?_)
    refine V_aload_n X 0 rfl dX11_of_9 ?_
    refine V_iload_n X 1 rfl dX11_of_10 ?_
    refine V_iload_n X 2 rfl dX11_of_11 ?_
    refine V_callV (C := RX11) (wr := [((R 2), .inl (Y 0, 36, .inl a2)), ((R 3), .inl (Y 0, 36, .inl a3)), ((R 4), .inl (Y 0, 36, .inl a4)), ((R 5), .inl (Y 0, 24, .inl a5)), ((R 6), .inl (Y 0, 4, .inl a6))]) (st := []) X (c_X11_isOne l D Y m R v0 v7 v8 v9 v15 v16 v17 v18 v19 v27 v31 v32 v33 v34 v38 v42 v44 a1 n s0 y ln w_ hLN hs0 (fun _ _ => hsl (by omega)) hln) 2 gX11_of_X11_isOne rfl (by decide +kernel) ⟨rfl, rfl⟩ ⟨Nat.le_of_ble_eq_true rfl, Nat.le_of_ble_eq_true rfl⟩ [0, 1] [2, 3, 4, 5, 6] rfl rfl rfl rfl (by decide) (ci := 10) rfl rfl 0 rfl rfl rfl (Nat.le_of_ble_eq_true rfl) ⟨Nat.le_of_ble_eq_true rfl, Nat.le_of_ble_eq_true rfl⟩ dX11_of_12 (fun v_12 w_12 h_12 => ?_)
    rcases h_12 with ⟨rfl, rfl, hhy_5⟩ | ⟨rfl, rfl, hhn_6⟩
    · refine V_to (pc' := 15) (ls' := [(0, .ref m), (1, .int y), (2, .int w_)]) (st' := [.int (1 : Int32)]) (ws' := [((R 2), .inl (Y 0, 36, .inl a2)), ((R 3), .inl (Y 0, 36, .inl a3)), ((R 4), .inl (Y 0, 36, .inl a4)), ((R 5), .inl (Y 0, 24, .inl a5)), ((R 6), .inl (Y 0, 4, .inl a6)), (m, .inr (10, mF R v0 v7 v8 v9 v15 v16 v17 v18 v19 v27 v31 v32 v33 v34 v38 v42 v44)), ((R 1), .inl (Y 0, 3, .inl a1))]) ?_ rfl rfl rfl rfl
      refine V_if_eq X (show (1 : Int32).toInt = 1 from by decide) 27 dX11_of_15 (by decide) (fun c_15 => absurd c_15 (by decide)) (fun _ => ?_)
      refine V_aload_n X 0 rfl dX11_of_18 ?_
      refine V_iload_n X 2 rfl dX11_of_19 ?_
      refine V_iload_n X 1 rfl dX11_of_20 ?_
      refine V_callV (C := RX11) (wr := [((R 5), .inl (Y 0, 24, .inl a5)), ((R 1), .inl (Y 0, 3, .inl a1))]) (st := []) X (c_X11_valueAt l D Y m R v0 v7 v8 v9 v15 v16 v17 v18 v19 v27 v31 v32 v33 v34 v38 v42 v44 a2 a3 a4 a6 n T S s0 y ln w_ hMT hSU hs0 hln hln0.2 hhy_5) 2 gX11_of_X11_valueAt rfl (by decide +kernel) ⟨rfl, rfl⟩ ⟨Nat.le_of_ble_eq_true rfl, Nat.le_of_ble_eq_true rfl⟩ [5, 0, 1, 2, 4] [3, 6] rfl rfl rfl rfl (by decide) (ci := 10) rfl rfl 0 rfl rfl rfl (Nat.le_of_ble_eq_true rfl) ⟨Nat.le_of_ble_eq_true rfl, Nat.le_of_ble_eq_true rfl⟩ dX11_of_21 (fun v_21 w_21 h_21 => ?_)
      rcases h_21 with ⟨r_8, w0, rfl, rfl, htw_10, hhw_11, hhv_12, tr_c⟩ | ⟨r_14, y0, rfl, rfl, hh3_16, htyn_17, hhy4_18, tr_c⟩ | ⟨rfl, rfl, hh4_20⟩
      · refine V_to (pc' := 24) (ls' := [(0, .ref m), (1, .int y), (2, .int w_)]) (st' := [.int r_8]) (ws' := [((R 5), .inl (Y 0, 24, .inl a5)), ((R 1), .inl (Y 0, 3, .inl a1)), (m, .inr (10, mF R v0 v7 v8 v9 v15 v16 v17 v18 v19 v27 v31 v32 v33 v34 v38 v42 v44)), ((R 2), .inl (Y 0, 36, .inl a2)), ((R 3), .inl (Y 0, 36, .inl a3)), ((R 4), .inl (Y 0, 36, .inl a4)), ((R 6), .inl (Y 0, 4, .inl a6))]) ?_ rfl rfl rfl rfl
        refine V_goto X 28 (by decide) dX11_of_24 ?_
        refine V_ws (ws' := [(m, .inr (10, mF R v0 v7 v8 v9 v15 v16 v17 v18 v19 v27 v31 v32 v33 v34 v38 v42 v44)), ((R 1), .inl (Y 0, 3, .inl a1)), ((R 2), .inl (Y 0, 36, .inl a2)), ((R 3), .inl (Y 0, 36, .inl a3)), ((R 4), .inl (Y 0, 36, .inl a4)), ((R 5), .inl (Y 0, 24, .inl a5)), ((R 6), .inl (Y 0, 4, .inl a6))]) [2, 1, 3, 4, 5, 0, 6] rfl rfl rfl ?_
        exact V_iret X hr dX11_of_28 (Or.inr (Or.inl ⟨r_8, w0, rfl, rfl, htw_10, hhw_11, hhv_12, tr_c⟩))
      · refine V_to (pc' := 24) (ls' := [(0, .ref m), (1, .int y), (2, .int w_)]) (st' := [.int r_14]) (ws' := [((R 5), .inl (Y 0, 24, .inl a5)), ((R 1), .inl (Y 0, 3, .inl a1)), (m, .inr (10, mF R v0 v7 v8 v9 v15 v16 v17 v18 v19 v27 v31 v32 v33 v34 v38 v42 v44)), ((R 2), .inl (Y 0, 36, .inl a2)), ((R 3), .inl (Y 0, 36, .inl a3)), ((R 4), .inl (Y 0, 36, .inl a4)), ((R 6), .inl (Y 0, 4, .inl a6))]) ?_ rfl rfl rfl rfl
        refine V_goto X 28 (by decide) dX11_of_24 ?_
        refine V_ws (ws' := [(m, .inr (10, mF R v0 v7 v8 v9 v15 v16 v17 v18 v19 v27 v31 v32 v33 v34 v38 v42 v44)), ((R 1), .inl (Y 0, 3, .inl a1)), ((R 2), .inl (Y 0, 36, .inl a2)), ((R 3), .inl (Y 0, 36, .inl a3)), ((R 4), .inl (Y 0, 36, .inl a4)), ((R 5), .inl (Y 0, 24, .inl a5)), ((R 6), .inl (Y 0, 4, .inl a6))]) [2, 1, 3, 4, 5, 0, 6] rfl rfl rfl ?_
        exact V_iret X hr dX11_of_28 (Or.inr (Or.inr (Or.inl ⟨r_14, y0, rfl, rfl, hh3_16, htyn_17, hhy4_18, tr_c⟩)))
      · refine V_to (pc' := 24) (ls' := [(0, .ref m), (1, .int y), (2, .int w_)]) (st' := [.int v7]) (ws' := [((R 5), .inl (Y 0, 24, .inl a5)), ((R 1), .inl (Y 0, 3, .inl a1)), (m, .inr (10, mF R v0 v7 v8 v9 v15 v16 v17 v18 v19 v27 v31 v32 v33 v34 v38 v42 v44)), ((R 2), .inl (Y 0, 36, .inl a2)), ((R 3), .inl (Y 0, 36, .inl a3)), ((R 4), .inl (Y 0, 36, .inl a4)), ((R 6), .inl (Y 0, 4, .inl a6))]) ?_ rfl rfl rfl rfl
        refine V_goto X 28 (by decide) dX11_of_24 ?_
        refine V_ws (ws' := [(m, .inr (10, mF R v0 v7 v8 v9 v15 v16 v17 v18 v19 v27 v31 v32 v33 v34 v38 v42 v44)), ((R 1), .inl (Y 0, 3, .inl a1)), ((R 2), .inl (Y 0, 36, .inl a2)), ((R 3), .inl (Y 0, 36, .inl a3)), ((R 4), .inl (Y 0, 36, .inl a4)), ((R 5), .inl (Y 0, 24, .inl a5)), ((R 6), .inl (Y 0, 4, .inl a6))]) [2, 1, 3, 4, 5, 0, 6] rfl rfl rfl ?_
        exact V_iret X hr dX11_of_28 (Or.inr (Or.inr (Or.inr (Or.inl ⟨rfl, rfl, hh4_20⟩))))
    · refine V_to (pc' := 15) (ls' := [(0, .ref m), (1, .int y), (2, .int w_)]) (st' := [.int (0 : Int32)]) (ws' := [((R 2), .inl (Y 0, 36, .inl a2)), ((R 3), .inl (Y 0, 36, .inl a3)), ((R 4), .inl (Y 0, 36, .inl a4)), ((R 5), .inl (Y 0, 24, .inl a5)), ((R 6), .inl (Y 0, 4, .inl a6)), (m, .inr (10, mF R v0 v7 v8 v9 v15 v16 v17 v18 v19 v27 v31 v32 v33 v34 v38 v42 v44)), ((R 1), .inl (Y 0, 3, .inl a1))]) ?_ rfl rfl rfl rfl
      refine V_if_eq X (show (0 : Int32).toInt = 0 from by decide) 27 dX11_of_15 (by decide) (fun _ => ?_) (fun c_15 => absurd c_15 (by decide))
      refine V_iconst (v := (-1 : Int32)) X (by decide) dX11_of_27 ?_
      refine V_ws (ws' := [(m, .inr (10, mF R v0 v7 v8 v9 v15 v16 v17 v18 v19 v27 v31 v32 v33 v34 v38 v42 v44)), ((R 1), .inl (Y 0, 3, .inl a1)), ((R 2), .inl (Y 0, 36, .inl a2)), ((R 3), .inl (Y 0, 36, .inl a3)), ((R 4), .inl (Y 0, 36, .inl a4)), ((R 5), .inl (Y 0, 24, .inl a5)), ((R 6), .inl (Y 0, 4, .inl a6))]) [5, 6, 0, 1, 2, 3, 4] rfl rfl rfl ?_
      exact V_iret X hr dX11_of_28 (Or.inl ⟨rfl, rfl, (by omega)⟩)
  · refine V_to (pc' := 6) (ls' := [(0, .ref m), (1, .int y), (2, .int w_)]) (st' := [.int (0 : Int32)]) (ws' := [(m, .inr (10, mF R v0 v7 v8 v9 v15 v16 v17 v18 v19 v27 v31 v32 v33 v34 v38 v42 v44)), ((R 1), .inl (Y 0, 3, .inl a1)), ((R 2), .inl (Y 0, 36, .inl a2)), ((R 3), .inl (Y 0, 36, .inl a3)), ((R 4), .inl (Y 0, 36, .inl a4)), ((R 5), .inl (Y 0, 24, .inl a5)), ((R 6), .inl (Y 0, 4, .inl a6))]) ?_ rfl rfl rfl rfl
    have hc_0 : (0 : Int32).toInt = 0 := by decide
    have hc_4 : (4 : Int32).toInt = 4 := by decide
    refine V_if_eq X (show (0 : Int32).toInt = 0 from by decide) 29 dX11_of_6 (by decide) (fun _ => ?_) (fun c_6 => absurd c_6 (by decide))
    refine V_iload_n X 2 rfl dX11_of_29 ?_
    refine V_iconst (v := (5 : Int32)) X (by decide) dX11_of_30 ?_
    refine V_icmp_ne X rfl (show (5 : Int32).toInt = 5 from by decide) 52 dX11_of_31 (by decide) (fun c_31 => ?_) (fun c_31 => ?_)
    · refine V_iload_n X 2 rfl dX11_of_52 ?_
      refine V_bipush (v := (6 : Int32)) X (by decide) dX11_of_53 ?_
      refine V_bipush (v := (7 : Int32)) X (by decide) dX11_of_55 ?_
      refine V_callS (wr := [(m, .inr (10, mF R v0 v7 v8 v9 v15 v16 v17 v18 v19 v27 v31 v32 v33 v34 v38 v42 v44)), ((R 1), .inl (Y 0, 3, .inl a1)), ((R 2), .inl (Y 0, 36, .inl a2)), ((R 3), .inl (Y 0, 36, .inl a3)), ((R 4), .inl (Y 0, 36, .inl a4)), ((R 5), .inl (Y 0, 24, .inl a5)), ((R 6), .inl (Y 0, 4, .inl a6))]) (st := []) X (c_X11_in l D Y w_ (6 : Int32) (7 : Int32)) 3 gX11_of_X11_in rfl (by decide +kernel) ⟨rfl, rfl⟩ ⟨Nat.le_of_ble_eq_true rfl, Nat.le_of_ble_eq_true rfl⟩ [] [0, 1, 2, 3, 4, 5, 6] rfl rfl rfl rfl (by decide) rfl rfl (Nat.le_of_ble_eq_true rfl) ⟨Nat.le_of_ble_eq_true rfl, Nat.le_of_ble_eq_true rfl⟩ dX11_of_57 (fun v_57 w_57 h_57 => ?_)
      rcases h_57 with ⟨rfl, rfl, hhy_22⟩ | ⟨rfl, rfl, hhn_23⟩
      · refine V_to (pc' := 60) (ls' := [(0, .ref m), (1, .int y), (2, .int w_)]) (st' := [.int (1 : Int32)]) (ws' := [(m, .inr (10, mF R v0 v7 v8 v9 v15 v16 v17 v18 v19 v27 v31 v32 v33 v34 v38 v42 v44)), ((R 1), .inl (Y 0, 3, .inl a1)), ((R 2), .inl (Y 0, 36, .inl a2)), ((R 3), .inl (Y 0, 36, .inl a3)), ((R 4), .inl (Y 0, 36, .inl a4)), ((R 5), .inl (Y 0, 24, .inl a5)), ((R 6), .inl (Y 0, 4, .inl a6))]) ?_ rfl rfl rfl rfl
        have hc_6 : (6 : Int32).toInt = 6 := by decide
        have hc_7 : (7 : Int32).toInt = 7 := by decide
        refine V_if_eq X (show (1 : Int32).toInt = 1 from by decide) 90 dX11_of_60 (by decide) (fun c_60 => absurd c_60 (by decide)) (fun _ => ?_)
        obtain ⟨w, tw⟩ : ∃ w : Nat, w_.toInt = ((w : Nat) : Int) + 6 := ⟨(w_.toInt - 6).toNat, by omega⟩
        · refine V_aload_n X 0 rfl dX11_of_63 ?_
          refine V_iload_n X 1 rfl dX11_of_64 ?_
          refine V_callV (C := RX11) (wr := [((R 2), .inl (Y 0, 36, .inl a2)), ((R 3), .inl (Y 0, 36, .inl a3)), ((R 4), .inl (Y 0, 36, .inl a4)), ((R 5), .inl (Y 0, 24, .inl a5)), ((R 6), .inl (Y 0, 4, .inl a6))]) (st := []) X (c_X11_isLine l D Y m R v0 v7 v8 v9 v15 v16 v17 v18 v19 v27 v31 v32 v33 v34 v38 v42 v44 a1 n s0 y ln hLN hs0 (hsl (by omega)) hln) 1 gX11_of_X11_isLine rfl (by decide +kernel) ⟨rfl, rfl⟩ ⟨Nat.le_of_ble_eq_true rfl, Nat.le_of_ble_eq_true rfl⟩ [0, 1] [2, 3, 4, 5, 6] rfl rfl rfl rfl (by decide) (ci := 10) rfl rfl 0 rfl rfl rfl (Nat.le_of_ble_eq_true rfl) ⟨Nat.le_of_ble_eq_true rfl, Nat.le_of_ble_eq_true rfl⟩ dX11_of_65 (fun v_65 w_65 h_65 => ?_)
          rcases h_65 with ⟨rfl, rfl, hhy_25⟩ | ⟨rfl, rfl, hhn_26⟩
          · refine V_to (pc' := 68) (ls' := [(0, .ref m), (1, .int y), (2, .int w_)]) (st' := [.int (1 : Int32)]) (ws' := [((R 2), .inl (Y 0, 36, .inl a2)), ((R 3), .inl (Y 0, 36, .inl a3)), ((R 4), .inl (Y 0, 36, .inl a4)), ((R 5), .inl (Y 0, 24, .inl a5)), ((R 6), .inl (Y 0, 4, .inl a6)), (m, .inr (10, mF R v0 v7 v8 v9 v15 v16 v17 v18 v19 v27 v31 v32 v33 v34 v38 v42 v44)), ((R 1), .inl (Y 0, 3, .inl a1))]) ?_ rfl rfl rfl rfl
            refine V_if_eq X (show (1 : Int32).toInt = 1 from by decide) 90 dX11_of_68 (by decide) (fun c_68 => absurd c_68 (by decide)) (fun _ => ?_)
            refine V_aload_n X 0 rfl dX11_of_71 ?_
            refine V_iload_n X 1 rfl dX11_of_72 ?_
            refine V_bipush (v := (100 : Int32)) X (by decide) dX11_of_73 ?_
            refine V_idivZ X rfl (show (100 : Int32).toInt = 100 from by decide) (by omega) (by omega) dX11_of_75 (fun x_27 ex_27 tx_27 => ?_)
            have tx_27 : x_27.toInt = ((s0 : Nat) : Int) := by omega
            refine V_iload_n X 1 rfl dX11_of_76 ?_
            refine V_bipush (v := (100 : Int32)) X (by decide) dX11_of_77 ?_
            refine V_iremZ X rfl (show (100 : Int32).toInt = 100 from by decide) (by omega) (by omega) dX11_of_79 (fun x_28 ex_28 tx_28 => ?_)
            have tx_28 : x_28.toInt = ((ln : Nat) : Int) := by omega
            refine V_iload_n X 2 rfl dX11_of_80 ?_
            refine V_bipush (v := (6 : Int32)) X (by decide) dX11_of_81 ?_
            refine V_isubZ X rfl (show (6 : Int32).toInt = 6 from by decide) (by omega) (by omega) dX11_of_83 (fun x_29 ex_29 tx_29 => ?_)
            refine V_callV (C := RX11) (wr := [((R 2), .inl (Y 0, 36, .inl a2)), ((R 3), .inl (Y 0, 36, .inl a3)), ((R 4), .inl (Y 0, 36, .inl a4)), ((R 6), .inl (Y 0, 4, .inl a6)), ((R 1), .inl (Y 0, 3, .inl a1))]) (st := []) X (c_X11_whoHas l D Y m R v0 v7 v8 v9 v15 v16 v17 v18 v19 v27 v31 v32 v33 v34 v38 v42 v44 a5 B s0 x_27 x_28 ln x_29 w hMH hs0 tx_27 tx_28 (by omega) (by omega) (by omega)) 3 gX11_of_X11_whoHas rfl (by decide +kernel) ⟨rfl, rfl⟩ ⟨Nat.le_of_ble_eq_true rfl, Nat.le_of_ble_eq_true rfl⟩ [5, 3] [0, 1, 2, 4, 6] rfl rfl rfl rfl (by decide) (ci := 10) rfl rfl 0 rfl rfl rfl (Nat.le_of_ble_eq_true rfl) ⟨Nat.le_of_ble_eq_true rfl, Nat.le_of_ble_eq_true rfl⟩ dX11_of_84 (fun v_84 w_84 h_84 => ?_)
            obtain ⟨r_31, rfl, rfl, hhW_32⟩ := h_84
            refine V_to (pc' := 87) (ls' := [(0, .ref m), (1, .int y), (2, .int w_)]) (st' := [.int r_31]) (ws' := [((R 2), .inl (Y 0, 36, .inl a2)), ((R 3), .inl (Y 0, 36, .inl a3)), ((R 4), .inl (Y 0, 36, .inl a4)), ((R 6), .inl (Y 0, 4, .inl a6)), ((R 1), .inl (Y 0, 3, .inl a1)), (m, .inr (10, mF R v0 v7 v8 v9 v15 v16 v17 v18 v19 v27 v31 v32 v33 v34 v38 v42 v44)), ((R 5), .inl (Y 0, 24, .inl a5))]) ?_ rfl rfl rfl rfl
            refine V_goto X 91 (by decide) dX11_of_87 ?_
            refine V_ws (ws' := [(m, .inr (10, mF R v0 v7 v8 v9 v15 v16 v17 v18 v19 v27 v31 v32 v33 v34 v38 v42 v44)), ((R 1), .inl (Y 0, 3, .inl a1)), ((R 2), .inl (Y 0, 36, .inl a2)), ((R 3), .inl (Y 0, 36, .inl a3)), ((R 4), .inl (Y 0, 36, .inl a4)), ((R 5), .inl (Y 0, 24, .inl a5)), ((R 6), .inl (Y 0, 4, .inl a6))]) [5, 4, 0, 1, 2, 6, 3] rfl rfl rfl ?_
            exact V_iret X hr dX11_of_91 (Or.inr (Or.inr (Or.inr (Or.inr (Or.inr (⟨r_31, w, rfl, rfl, tw, (by omega), hhy_25, hhW_32⟩))))))
          · refine V_to (pc' := 68) (ls' := [(0, .ref m), (1, .int y), (2, .int w_)]) (st' := [.int (0 : Int32)]) (ws' := [((R 2), .inl (Y 0, 36, .inl a2)), ((R 3), .inl (Y 0, 36, .inl a3)), ((R 4), .inl (Y 0, 36, .inl a4)), ((R 5), .inl (Y 0, 24, .inl a5)), ((R 6), .inl (Y 0, 4, .inl a6)), (m, .inr (10, mF R v0 v7 v8 v9 v15 v16 v17 v18 v19 v27 v31 v32 v33 v34 v38 v42 v44)), ((R 1), .inl (Y 0, 3, .inl a1))]) ?_ rfl rfl rfl rfl
            refine V_if_eq X (show (0 : Int32).toInt = 0 from by decide) 90 dX11_of_68 (by decide) (fun _ => ?_) (fun c_68 => absurd c_68 (by decide))
            refine V_iconst (v := (-1 : Int32)) X (by decide) dX11_of_90 ?_
            refine V_ws (ws' := [(m, .inr (10, mF R v0 v7 v8 v9 v15 v16 v17 v18 v19 v27 v31 v32 v33 v34 v38 v42 v44)), ((R 1), .inl (Y 0, 3, .inl a1)), ((R 2), .inl (Y 0, 36, .inl a2)), ((R 3), .inl (Y 0, 36, .inl a3)), ((R 4), .inl (Y 0, 36, .inl a4)), ((R 5), .inl (Y 0, 24, .inl a5)), ((R 6), .inl (Y 0, 4, .inl a6))]) [5, 6, 0, 1, 2, 3, 4] rfl rfl rfl ?_
            exact V_iret X hr dX11_of_91 (Or.inl ⟨rfl, rfl, (by omega)⟩)
      · refine V_to (pc' := 60) (ls' := [(0, .ref m), (1, .int y), (2, .int w_)]) (st' := [.int (0 : Int32)]) (ws' := [(m, .inr (10, mF R v0 v7 v8 v9 v15 v16 v17 v18 v19 v27 v31 v32 v33 v34 v38 v42 v44)), ((R 1), .inl (Y 0, 3, .inl a1)), ((R 2), .inl (Y 0, 36, .inl a2)), ((R 3), .inl (Y 0, 36, .inl a3)), ((R 4), .inl (Y 0, 36, .inl a4)), ((R 5), .inl (Y 0, 24, .inl a5)), ((R 6), .inl (Y 0, 4, .inl a6))]) ?_ rfl rfl rfl rfl
        have hc_6 : (6 : Int32).toInt = 6 := by decide
        have hc_7 : (7 : Int32).toInt = 7 := by decide
        refine V_if_eq X (show (0 : Int32).toInt = 0 from by decide) 90 dX11_of_60 (by decide) (fun _ => ?_) (fun c_60 => absurd c_60 (by decide))
        refine V_iconst (v := (-1 : Int32)) X (by decide) dX11_of_90 ?_
        exact V_iret X hr dX11_of_91 (Or.inl ⟨rfl, rfl, (by omega)⟩)
    · refine V_iload_n X 1 rfl dX11_of_34 ?_
      refine V_callS (wr := [(m, .inr (10, mF R v0 v7 v8 v9 v15 v16 v17 v18 v19 v27 v31 v32 v33 v34 v38 v42 v44)), ((R 1), .inl (Y 0, 3, .inl a1)), ((R 2), .inl (Y 0, 36, .inl a2)), ((R 3), .inl (Y 0, 36, .inl a3)), ((R 4), .inl (Y 0, 36, .inl a4)), ((R 5), .inl (Y 0, 24, .inl a5)), ((R 6), .inl (Y 0, 4, .inl a6))]) (st := []) X (c_X11_isSong l D Y y) 1 gX11_of_X11_isSong rfl (by decide +kernel) ⟨rfl, rfl⟩ ⟨Nat.le_of_ble_eq_true rfl, Nat.le_of_ble_eq_true rfl⟩ [] [0, 1, 2, 3, 4, 5, 6] rfl rfl rfl rfl (by decide) rfl rfl (Nat.le_of_ble_eq_true rfl) ⟨Nat.le_of_ble_eq_true rfl, Nat.le_of_ble_eq_true rfl⟩ dX11_of_35 (fun v_35 w_35 h_35 => ?_)
      rcases h_35 with ⟨rfl, rfl, hhy_34⟩ | ⟨rfl, rfl, hhn_35⟩
      · refine V_to (pc' := 38) (ls' := [(0, .ref m), (1, .int y), (2, .int w_)]) (st' := [.int (1 : Int32)]) (ws' := [(m, .inr (10, mF R v0 v7 v8 v9 v15 v16 v17 v18 v19 v27 v31 v32 v33 v34 v38 v42 v44)), ((R 1), .inl (Y 0, 3, .inl a1)), ((R 2), .inl (Y 0, 36, .inl a2)), ((R 3), .inl (Y 0, 36, .inl a3)), ((R 4), .inl (Y 0, 36, .inl a4)), ((R 5), .inl (Y 0, 24, .inl a5)), ((R 6), .inl (Y 0, 4, .inl a6))]) ?_ rfl rfl rfl rfl
        refine V_if_eq X (show (1 : Int32).toInt = 1 from by decide) 50 dX11_of_38 (by decide) (fun c_38 => absurd c_38 (by decide)) (fun _ => ?_)
        refine V_aload_n X 0 rfl dX11_of_41 ?_
        refine V_get (C := RX11) (T := TX11) (N := 50) (ci := 10) (v := .ref (R 1)) X in_X11_of_X11 0 rfl rfl 1 (by decide) (List.mem_of_getElem? (i := 1) rfl) rfl rfl dX11_of_42 ?_
        refine V_iload_n X 1 rfl dX11_of_45 ?_
        refine V_iald X 1 s0 rfl (by omega) (by omega) dX11_of_46 ?_
        refine V_nm (fun x_36 ex_36 => ?_)
        have tx_36 : x_36.toInt = ((n s0 : Nat) : Int) := by rw [ex_36]; exact hln0.1
        refine V_goto X 51 (by decide) dX11_of_47 ?_
        exact V_iret X hr dX11_of_51 (Or.inr (Or.inr (Or.inr (Or.inr (Or.inl ⟨x_36, rfl, rfl, c_31, (by omega), (by omega)⟩)))))
      · refine V_to (pc' := 38) (ls' := [(0, .ref m), (1, .int y), (2, .int w_)]) (st' := [.int (0 : Int32)]) (ws' := [(m, .inr (10, mF R v0 v7 v8 v9 v15 v16 v17 v18 v19 v27 v31 v32 v33 v34 v38 v42 v44)), ((R 1), .inl (Y 0, 3, .inl a1)), ((R 2), .inl (Y 0, 36, .inl a2)), ((R 3), .inl (Y 0, 36, .inl a3)), ((R 4), .inl (Y 0, 36, .inl a4)), ((R 5), .inl (Y 0, 24, .inl a5)), ((R 6), .inl (Y 0, 4, .inl a6))]) ?_ rfl rfl rfl rfl
        refine V_if_eq X (show (0 : Int32).toInt = 0 from by decide) 50 dX11_of_38 (by decide) (fun _ => ?_) (fun c_38 => absurd c_38 (by decide))
        refine V_iconst (v := (-1 : Int32)) X (by decide) dX11_of_50 ?_
        exact V_iret X hr dX11_of_51 (Or.inl ⟨rfl, rfl, (by omega)⟩)

theorem in_X11_feed_X11 : ∀ w ∈ wsX110, w ∈ wsX11_feed := fun w h => List.mem_cons_of_mem _ (List.mem_append_right _ h)
set_option maxHeartbeats 4000000 in
set_option maxRecDepth 100000 in
theorem c_X11_feed (l : Launch) (D : va_G) (Y : Nat → ClassId) (m : Nat) (R : Nat → Nat) (v0 : Int32) (v7 : Int32) (v8 : Int32) (v9 : Int32) (v15 : Int32) (v16 : Int32) (v17 : Int32) (v18 : Int32) (v19 : Int32) (v27 : Int32) (v31 : Int32) (v32 : Int32) (v33 : Int32) (v34 : Int32) (v38 : Int32) (v42 : Int32) (v44 : Int32) (a14 : Nat → Int32) (L : Nat) (i : Int32) (tv15 : v15.toInt = ((L : Nat) : Int)) (hL : L ≤ 120) : Mg l yX11_feed wsX11_feed ({ frames := 1, cells := 0, slots := 0, locals := 22 }) D Y [(m, .inr (10, mF R v0 v7 v8 v9 v15 v16 v17 v18 v19 v27 v31 v32 v33 v34 v38 v42 v44)), ((R 14), .inl (Y 2, 120, .inl a14))] [.ref m, .int i] 0 0 (fun vv__ ww__ => (vv__ = some (.int (-1 : Int32)) ∧ ww__ = [(m, .inr (10, mF R v0 v7 v8 v9 v15 v16 v17 v18 v19 v27 v31 v32 v33 v34 v38 v42 v44)), ((R 14), .inl (Y 2, 120, .inl a14))] ∧ (¬ (0 ≤ i.toInt ∧ i.toInt < 256))) ∨ (vv__ = some (.int (-3 : Int32)) ∧ ww__ = [(m, .inr (10, mF R v0 v7 v8 v9 v15 v16 v17 v18 v19 v27 v31 v32 v33 v34 v38 v42 v44)), ((R 14), .inl (Y 2, 120, .inl a14))] ∧ (0 ≤ i.toInt ∧ i.toInt < 256) ∧ (L = 120)) ∨ (∃ (r : Int32), ∃ (z15 : Int32), ∃ (b_ : Int32), vv__ = some (.int r) ∧ ww__ = [(m, .inr (10, mF R v0 v7 v8 v9 z15 v16 v17 v18 v19 v27 v31 v32 v33 v34 v38 v42 v44)), ((R 14), .inl (Y 2, 120, .inl (upd a14 L b_)))] ∧ (0 ≤ i.toInt ∧ i.toInt < 256) ∧ (L < 120) ∧ (r.toInt = ((L + 1 : Nat) : Int)) ∧ (z15.toInt = ((L + 1 : Nat) : Int)) ∧ (b_ = vp_nar .byte (i.toInt8.toInt32)))) := by
  refine Mg_of (cc := cX11_feed) (maxL := 2) (ret := (some .int)) (ls0 := [(0, .ref m), (1, .int i)]) RX11 (by decide) rfl rfl rfl (Nat.le_of_ble_eq_true rfl) (fun p__ e__ s__ m__ b__ t__ c__ X hr hn => ?_)
  refine V_iload_n X 1 rfl dX11_feed_0 ?_
  refine V_iconst (v := (0 : Int32)) X (by decide) dX11_feed_1 ?_
  refine V_sipush (v := (255 : Int32)) X (by decide) dX11_feed_2 ?_
  refine V_callS (wr := [(m, .inr (10, mF R v0 v7 v8 v9 v15 v16 v17 v18 v19 v27 v31 v32 v33 v34 v38 v42 v44)), ((R 14), .inl (Y 2, 120, .inl a14))]) (st := []) X (c_X11_in l D Y i (0 : Int32) (255 : Int32)) 3 gX11_feed_X11_in rfl (by decide +kernel) ⟨rfl, rfl⟩ ⟨Nat.le_of_ble_eq_true rfl, Nat.le_of_ble_eq_true rfl⟩ [] [0, 1] rfl rfl rfl rfl (by decide) rfl rfl (Nat.le_of_ble_eq_true rfl) ⟨Nat.le_of_ble_eq_true rfl, Nat.le_of_ble_eq_true rfl⟩ dX11_feed_5 (fun v_5 w_5 h_5 => ?_)
  rcases h_5 with ⟨rfl, rfl, hhy_2⟩ | ⟨rfl, rfl, hhn_3⟩
  · refine V_to (pc' := 8) (ls' := [(0, .ref m), (1, .int i)]) (st' := [.int (1 : Int32)]) (ws' := [(m, .inr (10, mF R v0 v7 v8 v9 v15 v16 v17 v18 v19 v27 v31 v32 v33 v34 v38 v42 v44)), ((R 14), .inl (Y 2, 120, .inl a14))]) ?_ rfl rfl rfl rfl
    have hc_0 : (0 : Int32).toInt = 0 := by decide
    have hc_255 : (255 : Int32).toInt = 255 := by decide
    refine V_if_ne X (show (1 : Int32).toInt = 1 from by decide) 13 dX11_feed_8 (by decide) (fun _ => ?_) (fun c_8 => absurd c_8 (by decide))
    refine V_aload_n X 0 rfl dX11_feed_13 ?_
    refine V_get (C := RX11) (T := TX11) (N := 50) (ci := 10) (v := .int v15) X in_X11_feed_X11 0 rfl rfl 15 (by decide) (List.mem_of_getElem? (i := 1) rfl) rfl rfl dX11_feed_14 ?_
    refine V_bipush (v := (120 : Int32)) X (by decide) dX11_feed_17 ?_
    refine V_icmp_ne X tv15 (show (120 : Int32).toInt = 120 from by decide) 25 dX11_feed_19 (by decide) (fun c_19 => ?_) (fun c_19 => ?_)
    · refine V_aload_n X 0 rfl dX11_feed_25 ?_
      refine V_get (C := RX11) (T := TX11) (N := 50) (ci := 10) (v := .ref (R 14)) X in_X11_feed_X11 0 rfl rfl 14 (by decide) (List.mem_of_getElem? (i := 2) rfl) rfl rfl dX11_feed_26 ?_
      refine V_aload_n X 0 rfl dX11_feed_29 ?_
      refine V_get (C := RX11) (T := TX11) (N := 50) (ci := 10) (v := .int v15) X in_X11_feed_X11 0 rfl rfl 15 (by decide) (List.mem_of_getElem? (i := 1) rfl) rfl rfl dX11_feed_30 ?_
      refine V_iload_n X 1 rfl dX11_feed_33 ?_
      refine V_i2b X rfl dX11_feed_34 ?_
      refine V_nm (fun x_4 ex_4 => ?_)
      have hi2b : x_4 = i.toInt8.toInt32 := ex_4
      refine V_bast (ws' := [(m, .inr (10, mF R v0 v7 v8 v9 v15 v16 v17 v18 v19 v27 v31 v32 v33 v34 v38 v42 v44)), ((R 14), .inl (Y 2, 120, .inl (upd a14 L (vp_nar .byte x_4))))]) X 1 L rfl tv15 (by omega) rfl dX11_feed_35 ?_
      refine V_aload_n X 0 rfl dX11_feed_36 ?_
      refine V_dup X rfl dX11_feed_37 ?_
      refine V_get (C := RX11) (T := TX11) (N := 50) (ci := 10) (v := .int v15) X in_X11_feed_X11 0 rfl rfl 15 (by decide) (List.mem_of_getElem? (i := 1) rfl) rfl rfl dX11_feed_38 ?_
      refine V_iconst (v := (1 : Int32)) X (by decide) dX11_feed_41 ?_
      refine V_iaddZ X tv15 (show (1 : Int32).toInt = 1 from by decide) (by omega) (by omega) dX11_feed_42 (fun x_5 ex_5 tx_5 => ?_)
      have tx_5 : x_5.toInt = (((L + 1) : Nat) : Int) := by omega
      refine V_put (C := RX11) (T := TX11) (N := 50) (ci := 10) (v := .int x_5) (ty := tyX11 15) (ws' := [(m, .inr (10, mF R v0 v7 v8 v9 x_5 v16 v17 v18 v19 v27 v31 v32 v33 v34 v38 v42 v44)), ((R 14), .inl (Y 2, 120, .inl (upd a14 L (vp_nar .byte x_4))))]) X in_X11_feed_X11 0 rfl rfl 15 (by decide) (List.mem_of_getElem? (i := 1) rfl) rfl tyX11 tyX11_ok nmX11 rfl (tyX11_ok 15 (by decide)) rfl rfl (Nat.le_of_ble_eq_true rfl) rfl dX11_feed_43 ?_
      refine V_aload_n X 0 rfl dX11_feed_46 ?_
      refine V_get (C := RX11) (T := TX11) (N := 50) (ci := 10) (v := .int x_5) X in_X11_feed_X11 0 rfl rfl 15 (by decide) (List.mem_of_getElem? (i := 1) rfl) rfl rfl dX11_feed_47 ?_
      exact V_iret X hr dX11_feed_50 (Or.inr (Or.inr (⟨x_5, x_5, (vp_nar .byte x_4), rfl, rfl, (by omega), (by omega), (by omega), (by omega), (by rw [hi2b])⟩)))
    · refine V_bipush (v := (-3 : Int32)) X (by decide) dX11_feed_22 ?_
      exact V_iret X hr dX11_feed_24 (Or.inr (Or.inl ⟨rfl, rfl, (by omega), (by omega)⟩))
  · refine V_to (pc' := 8) (ls' := [(0, .ref m), (1, .int i)]) (st' := [.int (0 : Int32)]) (ws' := [(m, .inr (10, mF R v0 v7 v8 v9 v15 v16 v17 v18 v19 v27 v31 v32 v33 v34 v38 v42 v44)), ((R 14), .inl (Y 2, 120, .inl a14))]) ?_ rfl rfl rfl rfl
    have hc_0 : (0 : Int32).toInt = 0 := by decide
    have hc_255 : (255 : Int32).toInt = 255 := by decide
    refine V_if_ne X (show (0 : Int32).toInt = 0 from by decide) 13 dX11_feed_8 (by decide) (fun c_8 => absurd c_8 (by decide)) (fun _ => ?_)
    refine V_iconst (v := (-1 : Int32)) X (by decide) dX11_feed_11 ?_
    exact V_iret X hr dX11_feed_12 (Or.inl ⟨rfl, rfl, (by omega)⟩)
