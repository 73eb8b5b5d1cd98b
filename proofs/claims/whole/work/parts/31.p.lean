
/-! ===== Acts: what an ACT answers, and which bodies run ===== -/
def rkK (k : Nat) : Nat := ([0, 1, 1, 2, 2, 3, 1, 2] : List Nat).getD k 0
def lvA (a : Nat) : Nat := ([0, 2, 1, 3] : List Nat).getD a 0
def mzr (k a : Nat) : Nat := 4 * lvA a + rkK k
/-- the KIND whose own body of an ACT counts -/
def fB (k a : Nat) : Nat := ([0, 0, 0, 0, 1, 0, 0, 0, 0, 2, 0, 0, 0, 3, 3, 0, 1, 0, 0, 4, 0, 3, 5, 5, 6, 0, 0, 0, 7, 7, 0, 0] : List Nat).getD (4 * k + a) 0
theorem fB_own : ∀ k, k < 8 → ∀ a, a < 4 → (tOwn (4 * k + a)).toInt ≠ 0 → fB k a = k := by decide
theorem fB_up : ∀ k, k < 8 → ∀ a, a < 4 → (tOwn (4 * k + a)).toInt = 0 → 0 ≤ (tAbove k).toInt ∧ (tAbove k).toInt < 8 ∧ fB (tAbove k).toInt.toNat a = fB k a ∧ rkK (tAbove k).toInt.toNat < rkK k := by decide
theorem fB_ok : ∀ k, k < 8 → ∀ a, a < 4 → fB k a < 8 ∧ (tOwn (4 * fB k a + a)).toInt ≠ 0 ∧ mzr (fB k a) a ≤ mzr k a ∧ rkK k ≤ 3 := by decide
/-- an ACT of a BODY of KIND K with the number b, from the KIND k on: the answer, the bodies in order -/
def aV (K : Nat) (b : Int32) : Nat → Nat → Nat → Int32 → Int32 × List Nat
  | 0, _, _, _ => (0, [])
  | f + 1, k, a, x =>
    if (tOwn (4 * fB k a + a)).toInt = 1 then (x + b, [1])
    else if (tOwn (4 * fB k a + a)).toInt = 2 then ((aV K b f K 1 x).1 - (aV K b f K 2 1).1, [2] ++ ((aV K b f K 1 x).2 ++ (aV K b f K 2 1).2))
    else if (tOwn (4 * fB k a + a)).toInt = 10 then ((aV K b f K 0 x).1 * 2, [10] ++ (aV K b f K 0 x).2)
    else if (tOwn (4 * fB k a + a)).toInt = 11 then (x ^^^ b, [11])
    else if (tOwn (4 * fB k a + a)).toInt = 20 then ((aV K b f 0 0 x).1 + 3, [20] ++ (aV K b f 0 0 x).2)
    else if (tOwn (4 * fB k a + a)).toInt = 30 then (-(aV K b f 0 1 x).1, [30] ++ (aV K b f 0 1 x).2)
    else if (tOwn (4 * fB k a + a)).toInt = 40 then ((aV K b f 2 2 x).1 * 3, [40] ++ (aV K b f 2 2 x).2)
    else if (tOwn (4 * fB k a + a)).toInt = 41 then ((aV K b f 2 1 (x + 1)).1, [41] ++ (aV K b f 2 1 (x + 1)).2)
    else if (tOwn (4 * fB k a + a)).toInt = 50 then ((aV K b f 1 3 x).1 ^^^ 5, [50] ++ (aV K b f 1 3 x).2)
    else if (tOwn (4 * fB k a + a)).toInt = 60 then ((aV K b f 3 2 x).1 - (aV K b f K 0 2).1, [60] ++ ((aV K b f 3 2 x).2 ++ (aV K b f K 0 2).2))
    else if (tOwn (4 * fB k a + a)).toInt = 61 then ((aV K b f 3 3 x).1 + 1, [61] ++ (aV K b f 3 3 x).2)
    else if (tOwn (4 * fB k a + a)).toInt = 70 then ((aV K b f 0 0 x).1 * 2, [70] ++ (aV K b f 0 0 x).2)
    else if (tOwn (4 * fB k a + a)).toInt = 80 then ((aV K b f 6 1 x).1 + (aV K b f K 2 2).1, [80] ++ ((aV K b f 6 1 x).2 ++ (aV K b f K 2 2).2))
    else if (tOwn (4 * fB k a + a)).toInt = 81 then ((aV K b f 6 0 x).1 - 1, [81] ++ (aV K b f 6 0 x).2)
    else (0, [])
/-- the same, at a body that is found -/
def wV (K : Nat) (b : Int32) (f : Nat) (q : Int) (x : Int32) : Int32 × List Nat :=
    if q = 1 then (x + b, [])
    else if q = 2 then ((aV K b f K 1 x).1 - (aV K b f K 2 1).1, ((aV K b f K 1 x).2 ++ (aV K b f K 2 1).2))
    else if q = 10 then ((aV K b f K 0 x).1 * 2, (aV K b f K 0 x).2)
    else if q = 11 then (x ^^^ b, [])
    else if q = 20 then ((aV K b f 0 0 x).1 + 3, (aV K b f 0 0 x).2)
    else if q = 30 then (-(aV K b f 0 1 x).1, (aV K b f 0 1 x).2)
    else if q = 40 then ((aV K b f 2 2 x).1 * 3, (aV K b f 2 2 x).2)
    else if q = 41 then ((aV K b f 2 1 (x + 1)).1, (aV K b f 2 1 (x + 1)).2)
    else if q = 50 then ((aV K b f 1 3 x).1 ^^^ 5, (aV K b f 1 3 x).2)
    else if q = 60 then ((aV K b f 3 2 x).1 - (aV K b f K 0 2).1, ((aV K b f 3 2 x).2 ++ (aV K b f K 0 2).2))
    else if q = 61 then ((aV K b f 3 3 x).1 + 1, (aV K b f 3 3 x).2)
    else if q = 70 then ((aV K b f 0 0 x).1 * 2, (aV K b f 0 0 x).2)
    else if q = 80 then ((aV K b f 6 1 x).1 + (aV K b f K 2 2).1, ((aV K b f 6 1 x).2 ++ (aV K b f K 2 2).2))
    else if q = 81 then ((aV K b f 6 0 x).1 - 1, (aV K b f 6 0 x).2)
    else (0, [])
set_option maxHeartbeats 4000000 in
theorem own_some : ∀ k, k < 8 → ∀ a, a < 4 → (tOwn (4 * k + a)).toInt ≠ 0 → ((tOwn (4 * k + a)).toInt = 1 ∧ k = 0 ∧ a = 0) ∨ ((tOwn (4 * k + a)).toInt = 2 ∧ k = 0 ∧ a = 3) ∨ ((tOwn (4 * k + a)).toInt = 10 ∧ k = 0 ∧ a = 1) ∨ ((tOwn (4 * k + a)).toInt = 11 ∧ k = 0 ∧ a = 2) ∨ ((tOwn (4 * k + a)).toInt = 20 ∧ k = 1 ∧ a = 0) ∨ ((tOwn (4 * k + a)).toInt = 30 ∧ k = 2 ∧ a = 1) ∨ ((tOwn (4 * k + a)).toInt = 40 ∧ k = 3 ∧ a = 2) ∨ ((tOwn (4 * k + a)).toInt = 41 ∧ k = 3 ∧ a = 1) ∨ ((tOwn (4 * k + a)).toInt = 50 ∧ k = 4 ∧ a = 3) ∨ ((tOwn (4 * k + a)).toInt = 60 ∧ k = 5 ∧ a = 2) ∨ ((tOwn (4 * k + a)).toInt = 61 ∧ k = 5 ∧ a = 3) ∨ ((tOwn (4 * k + a)).toInt = 70 ∧ k = 6 ∧ a = 0) ∨ ((tOwn (4 * k + a)).toInt = 80 ∧ k = 7 ∧ a = 1) ∨ ((tOwn (4 * k + a)).toInt = 81 ∧ k = 7 ∧ a = 0) := by
  intro k hk a ha h
  rcases (by omega : k = 0 ∨ k = 1 ∨ k = 2 ∨ k = 3 ∨ k = 4 ∨ k = 5 ∨ k = 6 ∨ k = 7) with rfl | rfl | rfl | rfl | rfl | rfl | rfl | rfl <;>
  rcases (by omega : a = 0 ∨ a = 1 ∨ a = 2 ∨ a = 3) with rfl | rfl | rfl | rfl <;>
  first | exact absurd (by decide) h | exact Or.inl ⟨by decide, rfl, rfl⟩ | exact Or.inr (Or.inl ⟨by decide, rfl, rfl⟩) | exact Or.inr (Or.inr (Or.inl ⟨by decide, rfl, rfl⟩)) | exact Or.inr (Or.inr (Or.inr (Or.inl ⟨by decide, rfl, rfl⟩))) | exact Or.inr (Or.inr (Or.inr (Or.inr (Or.inl ⟨by decide, rfl, rfl⟩)))) | exact Or.inr (Or.inr (Or.inr (Or.inr (Or.inr (Or.inl ⟨by decide, rfl, rfl⟩))))) | exact Or.inr (Or.inr (Or.inr (Or.inr (Or.inr (Or.inr (Or.inl ⟨by decide, rfl, rfl⟩)))))) | exact Or.inr (Or.inr (Or.inr (Or.inr (Or.inr (Or.inr (Or.inr (Or.inl ⟨by decide, rfl, rfl⟩))))))) | exact Or.inr (Or.inr (Or.inr (Or.inr (Or.inr (Or.inr (Or.inr (Or.inr (Or.inl ⟨by decide, rfl, rfl⟩)))))))) | exact Or.inr (Or.inr (Or.inr (Or.inr (Or.inr (Or.inr (Or.inr (Or.inr (Or.inr (Or.inl ⟨by decide, rfl, rfl⟩))))))))) | exact Or.inr (Or.inr (Or.inr (Or.inr (Or.inr (Or.inr (Or.inr (Or.inr (Or.inr (Or.inr (Or.inl ⟨by decide, rfl, rfl⟩)))))))))) | exact Or.inr (Or.inr (Or.inr (Or.inr (Or.inr (Or.inr (Or.inr (Or.inr (Or.inr (Or.inr (Or.inr (Or.inl ⟨by decide, rfl, rfl⟩))))))))))) | exact Or.inr (Or.inr (Or.inr (Or.inr (Or.inr (Or.inr (Or.inr (Or.inr (Or.inr (Or.inr (Or.inr (Or.inr (Or.inl ⟨by decide, rfl, rfl⟩)))))))))))) | exact Or.inr (Or.inr (Or.inr (Or.inr (Or.inr (Or.inr (Or.inr (Or.inr (Or.inr (Or.inr (Or.inr (Or.inr (Or.inr (⟨by decide, rfl, rfl⟩)))))))))))))
theorem aV_s {K : Nat} {b : Int32} {f k a : Nat} {x : Int32} (hk : k < 8) (ha : a < 4) : aV K b (f + 1) k a x = ((wV K b f (tOwn (4 * fB k a + a)).toInt x).1, (tOwn (4 * fB k a + a)).toInt.toNat :: (wV K b f (tOwn (4 * fB k a + a)).toInt x).2) := by
  have h := fB_ok k hk a ha
  have h2 := own_some _ h.1 a ha h.2.1
  rw [aV, wV]
  rcases h2 with h3 | h3 | h3 | h3 | h3 | h3 | h3 | h3 | h3 | h3 | h3 | h3 | h3 | h3 <;> (rw [h3.1]; rfl)
theorem mzr_0 (k : Nat) : mzr k 0 = rkK k := by show 4 * 0 + rkK k = rkK k; omega
theorem mzr_1 (k : Nat) : mzr k 1 = 8 + rkK k := rfl
theorem mzr_2 (k : Nat) : mzr k 2 = 4 + rkK k := rfl
theorem rk3 : ∀ k, k < 8 → rkK k ≤ 3 := by decide
theorem gD_l {α : Type} {a b : List α} {d : α} {j : Nat} (h : j < a.length) : (a ++ b).getD j d = a.getD j d := by
  rw [List.getD_eq_getElem?_getD, List.getD_eq_getElem?_getD, List.getElem?_append_left h]
theorem gD_r {α : Type} {a b : List α} {d : α} {j : Nat} (h : a.length ≤ j) : (a ++ b).getD j d = b.getD (j - a.length) d := by
  rw [List.getD_eq_getElem?_getD, List.getD_eq_getElem?_getD, List.getElem?_append_right h]
/-- what THE TRACE holds -/
def TRC (f : Nat → Int32) (tr : List Nat) : Prop := ∀ j, j < tr.length → j < 24 → (f j).toInt = ((tr.getD j 0 : Nat) : Int)
theorem TRC_in {f : Nat → Int32} {tr : List Nat} (h : TRC f tr) {v : Int32} {q : Nat} (hq : v.toInt = ((q : Nat) : Int)) : TRC (upd f tr.length v) (tr ++ [q]) := by
  intro j hj h24
  unfold upd
  by_cases e : j = tr.length
  · subst e; rw [if_pos rfl, gD_r (Nat.le_refl _), Nat.sub_self]; exact hq
  · rw [List.length_append, List.length_singleton] at hj
    rw [if_neg e, gD_l (by omega)]; exact h j (by omega) h24
theorem TRC_out {f : Nat → Int32} {tr : List Nat} (h : TRC f tr) (h24 : 24 ≤ tr.length) {q : Nat} : TRC f (tr ++ [q]) := by
  intro j hj h2
  rw [gD_l (by omega)]; exact h j (by omega) h2

theorem in_X0_run_X0 : ∀ w ∈ wsX00, w ∈ wsX0_run := fun w h => List.mem_cons_of_mem _ (List.mem_append_right _ h)
set_option maxHeartbeats 4000000 in
set_option maxRecDepth 100000 in
theorem c_X0_run (l : Launch) (D : va_G) (Y : Nat → ClassId) (at_ : Nat) (ka : Nat) (ta : Nat) (asz : Int32) (arn : Int32) (aac : Int32) (K : Nat) (bs : Nat) (f : Nat) (a : Nat) (x : Int32) (dp : Int32) (dn : Nat) (tr_ : List Nat) (fk : Nat → Int32) (fta : Nat → Int32) (ac : Int32) (tarn : arn.toInt = ((tr_.length : Nat) : Int)) (taac : aac.toInt = ((bs : Nat) : Int)) (hbs : bs < 50) (tkb : (fk bs).toInt = ((K : Nat) : Int)) (hK8 : K < 8) (hTR : TRC fta tr_) (tac : ac.toInt = ((a : Nat) : Int)) (ha4 : a < 4) (tdp : dp.toInt = ((dn : Nat) : Int)) (hmz : mzr K a < f) (hdn : dn + f ≤ 39) (hbig : tr_.length + (aV K aac f K a x).2.length ≤ 1000) (ih : ∀ (l : Launch) (D : va_G) (Y : Nat → ClassId) (at_ : Nat) (ka : Nat) (ta : Nat) (asz : Int32) (arn : Int32) (aac : Int32) (K : Nat) (bs : Nat) (k : Nat) (a : Nat) (x : Int32) (dp : Int32) (dn : Nat) (tr_ : List Nat) (fk : Nat → Int32) (fta : Nat → Int32) (kd : Int32) (ac : Int32) (tarn : arn.toInt = ((tr_.length : Nat) : Int)) (taac : aac.toInt = ((bs : Nat) : Int)) (hbs : bs < 50) (tkb : (fk bs).toInt = ((K : Nat) : Int)) (hK8 : K < 8) (hTR : TRC fta tr_) (tac : ac.toInt = ((a : Nat) : Int)) (ha4 : a < 4) (tdp : dp.toInt = ((dn : Nat) : Int)) (tkd : kd.toInt = ((k : Nat) : Int)) (hk8 : k < 8) (hmz : mzr k a < f) (hdn : dn + f ≤ 39) (hbig : tr_.length + (aV K aac f k a x).2.length ≤ 1000), Mg l yX0_runFrom wsX0_runFrom ({ frames := 3 * (f) + 6, cells := 0, slots := 0, locals := 120 * (f) + 240 }) D Y [(at_, .inr (0, [.ref ka, .ref ta, .int asz, .int arn, .int aac])), (ka, .inl (Y 0, 50, .inl fk)), (ta, .inl (Y 0, 24, .inl fta))] [.ref at_, .int kd, .int ac, .int x, .int dp] 0 0 (fun vv__ ww__ => (∃ (r : Int32), ∃ (rn2 : Int32), ∃ (ft2 : Nat → Int32), vv__ = some (.int r) ∧ ww__ = [(at_, .inr (0, [.ref ka, .ref ta, .int asz, .int rn2, .int aac])), (ka, .inl (Y 0, 50, .inl fk)), (ta, .inl (Y 0, 24, .inl ft2))] ∧ (r = (aV K aac f k a x).1) ∧ (rn2.toInt = (((tr_ ++ (aV K aac f k a x).2).length : Nat) : Int)) ∧ (TRC ft2 (tr_ ++ (aV K aac f k a x).2))))) : Mg l yX0_run wsX0_run ({ frames := 3 * (f) + 7, cells := 0, slots := 0, locals := 120 * (f) + 280 }) D Y [(at_, .inr (0, [.ref ka, .ref ta, .int asz, .int arn, .int aac])), (ka, .inl (Y 0, 50, .inl fk)), (ta, .inl (Y 0, 24, .inl fta))] [.ref at_, .int ac, .int x, .int dp] 0 0 (fun vv__ ww__ => (∃ (r : Int32), ∃ (rn2 : Int32), ∃ (ft2 : Nat → Int32), vv__ = some (.int r) ∧ ww__ = [(at_, .inr (0, [.ref ka, .ref ta, .int asz, .int rn2, .int aac])), (ka, .inl (Y 0, 50, .inl fk)), (ta, .inl (Y 0, 24, .inl ft2))] ∧ (r = (aV K aac f K a x).1) ∧ (rn2.toInt = (((tr_ ++ (aV K aac f K a x).2).length : Nat) : Int)) ∧ (TRC ft2 (tr_ ++ (aV K aac f K a x).2)))) := by
  refine Mg_of (cc := cX0_run) (maxL := 4) (ret := (some .int)) (ls0 := [(0, .ref at_), (1, .int ac), (2, .int x), (3, .int dp)]) RX0 (by decide) rfl rfl rfl (Nat.le_of_ble_eq_true rfl) (fun p__ e__ s__ m__ b__ t__ c__ X hr hn => ?_)
  refine V_aload_n X 0 rfl dX0_run_0 ?_
  refine V_aload_n X 0 rfl dX0_run_1 ?_
  refine V_aload_n X 0 rfl dX0_run_2 ?_
  refine V_get (C := RX0) (T := TX0) (N := 5) (ci := 0) (v := .int aac) X in_X0_run_X0 0 rfl rfl 4 (by decide) (List.mem_of_getElem? (i := 1) rfl) rfl rfl dX0_run_3 ?_
  refine V_callV (C := RX0) (wr := [(ta, .inl (Y 0, 24, .inl fta))]) (st := [.ref at_]) X (c_X0_kindOf l D Y at_ ka ta asz arn aac aac bs fk taac hbs) 1 gX0_run_X0_kindOf rfl (by decide +kernel) ⟨rfl, rfl⟩ ⟨(by simp only [headSpec]; omega), (by simp only [headSpec]; omega)⟩ [0, 1] [2] rfl rfl rfl rfl (by decide) (ci := 0) rfl rfl 0 rfl rfl rfl (Nat.le_of_ble_eq_true rfl) ⟨Nat.le_of_ble_eq_true rfl, Nat.le_of_ble_eq_true rfl⟩ dX0_run_6 (fun v_6 w_6 h_6 => ?_)
  obtain ⟨rfl, rfl⟩ := h_6
  refine V_to (pc' := 9) (ls' := [(0, .ref at_), (1, .int ac), (2, .int x), (3, .int dp)]) (st' := [.int (fk bs), .ref at_]) (ws' := [(ta, .inl (Y 0, 24, .inl fta)), (at_, .inr (0, [.ref ka, .ref ta, .int asz, .int arn, .int aac])), (ka, .inl (Y 0, 50, .inl fk))]) ?_ rfl rfl rfl rfl
  refine V_iload_n X 1 rfl dX0_run_9 ?_
  refine V_iload_n X 2 rfl dX0_run_10 ?_
  refine V_iload_n X 3 rfl dX0_run_11 ?_
  refine V_callV (C := RX0) (wr := []) (st := []) X (ih l D Y at_ ka ta asz arn aac K bs K a x dp dn tr_ fk fta (fk bs) ac tarn taac hbs tkb hK8 hTR tac ha4 tdp tkb hK8 hmz hdn hbig) 4 gX0_run_X0_runFrom rfl (by decide +kernel) ⟨rfl, rfl⟩ ⟨(by simp only [headSpec]; omega), (by simp only [headSpec]; omega)⟩ [1, 2, 0] [] rfl rfl rfl rfl (by decide) (ci := 0) rfl rfl 0 rfl rfl rfl (Nat.le_of_ble_eq_true rfl) ⟨Nat.le_of_ble_eq_true rfl, Nat.le_of_ble_eq_true rfl⟩ dX0_run_12 (fun v_12 w_12 h_12 => ?_)
  obtain ⟨r_3, rn2_4, ft2_5, rfl, rfl, hhr__6, htrn2_7, hhTR2_8⟩ := h_12
  refine V_to (pc' := 15) (ls' := [(0, .ref at_), (1, .int ac), (2, .int x), (3, .int dp)]) (st' := [.int r_3]) (ws' := [(at_, .inr (0, [.ref ka, .ref ta, .int asz, .int rn2_4, .int aac])), (ka, .inl (Y 0, 50, .inl fk)), (ta, .inl (Y 0, 24, .inl ft2_5))]) ?_ rfl rfl rfl rfl
  exact V_iret X hr dX0_run_15 (⟨r_3, rn2_4, ft2_5, rfl, rfl, hhr__6, htrn2_7, hhTR2_8⟩)

theorem in_X0_worked_X0 : ∀ w ∈ wsX00, w ∈ wsX0_worked := fun w h => List.mem_cons_of_mem _ (List.mem_append_right _ h)
set_option maxHeartbeats 4000000 in
set_option maxRecDepth 100000 in
theorem c_X0_worked (l : Launch) (D : va_G) (Y : Nat → ClassId) (at_ : Nat) (ka : Nat) (ta : Nat) (asz : Int32) (arn : Int32) (aac : Int32) (K : Nat) (bs : Nat) (f : Nat) (k : Nat) (a : Nat) (x : Int32) (dp : Int32) (dn : Nat) (tr_ : List Nat) (fk : Nat → Int32) (fta : Nat → Int32) (tarn : arn.toInt = ((tr_.length : Nat) : Int)) (taac : aac.toInt = ((bs : Nat) : Int)) (hbs : bs < 50) (tkb : (fk bs).toInt = ((K : Nat) : Int)) (hK8 : K < 8) (hTR : TRC fta tr_) (ha4 : a < 4) (tdp : dp.toInt = ((dn : Nat) : Int)) (hk8 : k < 8) (hmz : mzr k a < f + 1) (hdn : dn + f ≤ 39) (hown : (tOwn (4 * k + a)).toInt ≠ 0) (hbig : tr_.length + (wV K aac f (tOwn (4 * k + a)).toInt x).2.length ≤ 1000) (ih : ∀ (l : Launch) (D : va_G) (Y : Nat → ClassId) (at_ : Nat) (ka : Nat) (ta : Nat) (asz : Int32) (arn : Int32) (aac : Int32) (K : Nat) (bs : Nat) (k : Nat) (a : Nat) (x : Int32) (dp : Int32) (dn : Nat) (tr_ : List Nat) (fk : Nat → Int32) (fta : Nat → Int32) (kd : Int32) (ac : Int32) (tarn : arn.toInt = ((tr_.length : Nat) : Int)) (taac : aac.toInt = ((bs : Nat) : Int)) (hbs : bs < 50) (tkb : (fk bs).toInt = ((K : Nat) : Int)) (hK8 : K < 8) (hTR : TRC fta tr_) (tac : ac.toInt = ((a : Nat) : Int)) (ha4 : a < 4) (tdp : dp.toInt = ((dn : Nat) : Int)) (tkd : kd.toInt = ((k : Nat) : Int)) (hk8 : k < 8) (hmz : mzr k a < f) (hdn : dn + f ≤ 39) (hbig : tr_.length + (aV K aac f k a x).2.length ≤ 1000), Mg l yX0_runFrom wsX0_runFrom ({ frames := 3 * (f) + 6, cells := 0, slots := 0, locals := 120 * (f) + 240 }) D Y [(at_, .inr (0, [.ref ka, .ref ta, .int asz, .int arn, .int aac])), (ka, .inl (Y 0, 50, .inl fk)), (ta, .inl (Y 0, 24, .inl fta))] [.ref at_, .int kd, .int ac, .int x, .int dp] 0 0 (fun vv__ ww__ => (∃ (r : Int32), ∃ (rn2 : Int32), ∃ (ft2 : Nat → Int32), vv__ = some (.int r) ∧ ww__ = [(at_, .inr (0, [.ref ka, .ref ta, .int asz, .int rn2, .int aac])), (ka, .inl (Y 0, 50, .inl fk)), (ta, .inl (Y 0, 24, .inl ft2))] ∧ (r = (aV K aac f k a x).1) ∧ (rn2.toInt = (((tr_ ++ (aV K aac f k a x).2).length : Nat) : Int)) ∧ (TRC ft2 (tr_ ++ (aV K aac f k a x).2))))) : Mg l yX0_worked wsX0_worked ({ frames := 3 * (f) + 8, cells := 0, slots := 0, locals := 120 * (f) + 320 }) D Y [(at_, .inr (0, [.ref ka, .ref ta, .int asz, .int arn, .int aac])), (ka, .inl (Y 0, 50, .inl fk)), (ta, .inl (Y 0, 24, .inl fta))] [.ref at_, .int (tOwn (4 * k + a)), .int (tAbove k), .int x, .int dp] 0 0 (fun vv__ ww__ => (∃ (r : Int32), ∃ (rn2 : Int32), ∃ (ft2 : Nat → Int32), vv__ = some (.int r) ∧ ww__ = [(at_, .inr (0, [.ref ka, .ref ta, .int asz, .int rn2, .int aac])), (ka, .inl (Y 0, 50, .inl fk)), (ta, .inl (Y 0, 24, .inl ft2))] ∧ (r = (wV K aac f (tOwn (4 * k + a)).toInt x).1) ∧ (rn2.toInt = (((tr_ ++ (wV K aac f (tOwn (4 * k + a)).toInt x).2).length : Nat) : Int)) ∧ (TRC ft2 (tr_ ++ (wV K aac f (tOwn (4 * k + a)).toInt x).2)))) := by
  refine Mg_of (cc := cX0_worked) (maxL := 5) (ret := (some .int)) (ls0 := [(0, .ref at_), (1, .int (tOwn (4 * k + a))), (2, .int (tAbove k)), (3, .int x), (4, .int dp)]) RX0 (by decide) rfl rfl rfl (Nat.le_of_ble_eq_true rfl) (fun p__ e__ s__ m__ b__ t__ c__ X hr hn => ?_)
  refine V_iload_n X 1 rfl dX0_worked_0 ?_
  have t_1 : (tOwn (4 * k + a)).toInt = (tOwn (4 * k + a)).toInt := rfl
  rcases (by omega : (tOwn (4 * k + a)).toInt = 1 ∨ (tOwn (4 * k + a)).toInt = 2 ∨ (tOwn (4 * k + a)).toInt = 10 ∨ (tOwn (4 * k + a)).toInt = 11 ∨ (tOwn (4 * k + a)).toInt = 20 ∨ (tOwn (4 * k + a)).toInt = 30 ∨ (tOwn (4 * k + a)).toInt = 40 ∨ (tOwn (4 * k + a)).toInt = 41 ∨ (tOwn (4 * k + a)).toInt = 50 ∨ (tOwn (4 * k + a)).toInt = 60 ∨ (tOwn (4 * k + a)).toInt = 61 ∨ (tOwn (4 * k + a)).toInt = 70 ∨ (tOwn (4 * k + a)).toInt = 80 ∨ (tOwn (4 * k + a)).toInt = 81 ∨ ((tOwn (4 * k + a)).toInt ≠ 1 ∧ (tOwn (4 * k + a)).toInt ≠ 2 ∧ (tOwn (4 * k + a)).toInt ≠ 10 ∧ (tOwn (4 * k + a)).toInt ≠ 11 ∧ (tOwn (4 * k + a)).toInt ≠ 20 ∧ (tOwn (4 * k + a)).toInt ≠ 30 ∧ (tOwn (4 * k + a)).toInt ≠ 40 ∧ (tOwn (4 * k + a)).toInt ≠ 41 ∧ (tOwn (4 * k + a)).toInt ≠ 50 ∧ (tOwn (4 * k + a)).toInt ≠ 60 ∧ (tOwn (4 * k + a)).toInt ≠ 61 ∧ (tOwn (4 * k + a)).toInt ≠ 70 ∧ (tOwn (4 * k + a)).toInt ≠ 80 ∧ (tOwn (4 * k + a)).toInt ≠ 81)) with c_1 | c_1 | c_1 | c_1 | c_1 | c_1 | c_1 | c_1 | c_1 | c_1 | c_1 | c_1 | c_1 | c_1 | c_1
  · refine V_lookup X 124 dX0_worked_1 (by decide) (by rw [t_1, c_1] <;> decide) (by decide) ?_
    have hka : k = 0 ∧ a = 0 := by have h9 := own_some k hk8 a ha4 hown; omega
    have hw : wV K aac f (tOwn (4 * k + a)).toInt x = (x + aac, []) := by rw [c_1]; rfl
    have hm9 : 0 < f + 1 := by have h9 := hmz; rw [hka.1, hka.2] at h9; exact h9
    have hr3 := rk3 K hK8
    have hbg := hbig
    rw [hw] at hbg
    refine V_iload_n X 3 rfl dX0_worked_124 ?_
    refine V_aload_n X 0 rfl dX0_worked_125 ?_
    refine V_get (C := RX0) (T := TX0) (N := 5) (ci := 0) (v := .int aac) X in_X0_worked_X0 0 rfl rfl 4 (by decide) (List.mem_of_getElem? (i := 1) rfl) rfl rfl dX0_worked_126 ?_
    refine V_iadd X dX0_worked_129 (fun x_1 ex_1 => ?_)
    exact V_iret X hr dX0_worked_130 (⟨x_1, arn, fta, rfl, rfl, (by rw [ex_1]; exact (congrArg Prod.fst hw).symm), (by rw [hw]; show _ = (((tr_ ++ []).length : Nat) : Int); rw [List.append_nil]; exact tarn), (by rw [hw]; show TRC _ (tr_ ++ []); rw [List.append_nil]; exact hTR)⟩)
  · refine V_lookup X 131 dX0_worked_1 (by decide) (by rw [t_1, c_1] <;> decide) (by decide) ?_
    have hka : k = 0 ∧ a = 3 := by have h9 := own_some k hk8 a ha4 hown; omega
    have hw : wV K aac f (tOwn (4 * k + a)).toInt x = ((aV K aac f K 1 x).1 - (aV K aac f K 2 1).1, ((aV K aac f K 1 x).2 ++ (aV K aac f K 2 1).2)) := by rw [c_1]; rfl
    have hm9 : 12 < f + 1 := by have h9 := hmz; rw [hka.1, hka.2] at h9; exact h9
    have hr3 := rk3 K hK8
    have hbg := hbig
    rw [hw] at hbg
    simp only [List.length_append] at hbg
    refine V_aload_n X 0 rfl dX0_worked_131 ?_
    refine V_iconst (v := (1 : Int32)) X (by decide) dX0_worked_132 ?_
    refine V_iload_n X 3 rfl dX0_worked_133 ?_
    refine V_iload X 4 rfl dX0_worked_134 ?_
    refine V_callV (C := RX0) (wr := []) (st := []) X (c_X0_run l D Y at_ ka ta asz arn aac K bs f 1 x dp dn tr_ fk fta (1 : Int32) tarn taac hbs tkb hK8 hTR (by have h9 : (1 : Int32).toInt = 1 := (show (1 : Int32).toInt = 1 from by decide); omega) (by decide) tdp (by have h9 := mzr_1 K; omega) hdn (by first | omega | (dsimp only at hbg; omega) | (dsimp only at hbg ⊢; omega)) ih) 3 gX0_worked_X0_run rfl (by decide +kernel) ⟨rfl, rfl⟩ ⟨(by simp only [headSpec]; omega), (by simp only [headSpec]; omega)⟩ [0, 1, 2] [] rfl rfl rfl rfl (by decide) (ci := 0) rfl rfl 0 rfl rfl rfl (Nat.le_of_ble_eq_true rfl) ⟨Nat.le_of_ble_eq_true rfl, Nat.le_of_ble_eq_true rfl⟩ dX0_worked_136 (fun v_136 w_136 h_136 => ?_)
    obtain ⟨r_3, rn2_4, ft2_5, rfl, rfl, hhr__6, htrn2_7, hhTR2_8⟩ := h_136
    refine V_to (pc' := 139) (ls' := [(0, .ref at_), (1, .int (tOwn (4 * k + a))), (2, .int (tAbove k)), (3, .int x), (4, .int dp)]) (st' := [.int r_3]) (ws' := [(at_, .inr (0, [.ref ka, .ref ta, .int asz, .int rn2_4, .int aac])), (ka, .inl (Y 0, 50, .inl fk)), (ta, .inl (Y 0, 24, .inl ft2_5))]) ?_ rfl rfl rfl rfl
    refine V_aload_n X 0 rfl dX0_worked_139 ?_
    refine V_iconst (v := (2 : Int32)) X (by decide) dX0_worked_140 ?_
    refine V_iconst (v := (1 : Int32)) X (by decide) dX0_worked_141 ?_
    refine V_iload X 4 rfl dX0_worked_142 ?_
    refine V_callV (C := RX0) (wr := []) (st := [.int r_3]) X (c_X0_run l D Y at_ ka ta asz rn2_4 aac K bs f 2 (1 : Int32) dp dn (tr_ ++ (aV K aac f K 1 x).2) fk ft2_5 (2 : Int32) htrn2_7 taac hbs tkb hK8 hhTR2_8 (by have h9 : (2 : Int32).toInt = 2 := (show (2 : Int32).toInt = 2 from by decide); omega) (by decide) tdp (by have h9 := mzr_2 K; omega) hdn (by rw [List.length_append]; first | omega | (dsimp only at hbg; omega)) ih) 3 gX0_worked_X0_run rfl (by decide +kernel) ⟨rfl, rfl⟩ ⟨(by simp only [headSpec]; omega), (by simp only [headSpec]; omega)⟩ [0, 1, 2] [] rfl rfl rfl rfl (by decide) (ci := 0) rfl rfl 0 rfl rfl rfl (Nat.le_of_ble_eq_true rfl) ⟨Nat.le_of_ble_eq_true rfl, Nat.le_of_ble_eq_true rfl⟩ dX0_worked_144 (fun v_144 w_144 h_144 => ?_)
    obtain ⟨r_10, rn2_11, ft2_12, rfl, rfl, hhr__13, htrn2_14, hhTR2_15⟩ := h_144
    refine V_to (pc' := 147) (ls' := [(0, .ref at_), (1, .int (tOwn (4 * k + a))), (2, .int (tAbove k)), (3, .int x), (4, .int dp)]) (st' := [.int r_10, .int r_3]) (ws' := [(at_, .inr (0, [.ref ka, .ref ta, .int asz, .int rn2_11, .int aac])), (ka, .inl (Y 0, 50, .inl fk)), (ta, .inl (Y 0, 24, .inl ft2_12))]) ?_ rfl rfl rfl rfl
    refine V_isub X dX0_worked_147 (fun x_16 ex_16 => ?_)
    exact V_iret X hr dX0_worked_148 (⟨x_16, rn2_11, ft2_12, rfl, rfl, (by rw [ex_16, hhr__6, hhr__13]; exact (congrArg Prod.fst hw).symm), (by rw [hw]; show _ = (((tr_ ++ ((aV K aac f K 1 x).2 ++ (aV K aac f K 2 1).2)).length : Nat) : Int); rw [← List.append_assoc]; exact htrn2_14), (by rw [hw]; show TRC _ (tr_ ++ ((aV K aac f K 1 x).2 ++ (aV K aac f K 2 1).2)); rw [← List.append_assoc]; exact hhTR2_15)⟩)
  · refine V_lookup X 149 dX0_worked_1 (by decide) (by rw [t_1, c_1] <;> decide) (by decide) ?_
    have hka : k = 0 ∧ a = 1 := by have h9 := own_some k hk8 a ha4 hown; omega
    have hw : wV K aac f (tOwn (4 * k + a)).toInt x = ((aV K aac f K 0 x).1 * 2, (aV K aac f K 0 x).2) := by rw [c_1]; rfl
    have hm9 : 8 < f + 1 := by have h9 := hmz; rw [hka.1, hka.2] at h9; exact h9
    have hr3 := rk3 K hK8
    have hbg := hbig
    rw [hw] at hbg
    simp only [List.length_append] at hbg
    refine V_aload_n X 0 rfl dX0_worked_149 ?_
    refine V_iconst (v := (0 : Int32)) X (by decide) dX0_worked_150 ?_
    refine V_iload_n X 3 rfl dX0_worked_151 ?_
    refine V_iload X 4 rfl dX0_worked_152 ?_
    refine V_callV (C := RX0) (wr := []) (st := []) X (c_X0_run l D Y at_ ka ta asz arn aac K bs f 0 x dp dn tr_ fk fta (0 : Int32) tarn taac hbs tkb hK8 hTR (by have h9 : (0 : Int32).toInt = 0 := (show (0 : Int32).toInt = 0 from by decide); omega) (by decide) tdp (by have h9 := mzr_0 K; omega) hdn (by first | omega | (dsimp only at hbg; omega) | (dsimp only at hbg ⊢; omega)) ih) 3 gX0_worked_X0_run rfl (by decide +kernel) ⟨rfl, rfl⟩ ⟨(by simp only [headSpec]; omega), (by simp only [headSpec]; omega)⟩ [0, 1, 2] [] rfl rfl rfl rfl (by decide) (ci := 0) rfl rfl 0 rfl rfl rfl (Nat.le_of_ble_eq_true rfl) ⟨Nat.le_of_ble_eq_true rfl, Nat.le_of_ble_eq_true rfl⟩ dX0_worked_154 (fun v_154 w_154 h_154 => ?_)
    obtain ⟨r_18, rn2_19, ft2_20, rfl, rfl, hhr__21, htrn2_22, hhTR2_23⟩ := h_154
    refine V_to (pc' := 157) (ls' := [(0, .ref at_), (1, .int (tOwn (4 * k + a))), (2, .int (tAbove k)), (3, .int x), (4, .int dp)]) (st' := [.int r_18]) (ws' := [(at_, .inr (0, [.ref ka, .ref ta, .int asz, .int rn2_19, .int aac])), (ka, .inl (Y 0, 50, .inl fk)), (ta, .inl (Y 0, 24, .inl ft2_20))]) ?_ rfl rfl rfl rfl
    refine V_iconst (v := (2 : Int32)) X (by decide) dX0_worked_157 ?_
    refine V_imul X dX0_worked_158 (fun x_24 ex_24 => ?_)
    exact V_iret X hr dX0_worked_159 (⟨x_24, rn2_19, ft2_20, rfl, rfl, (by rw [ex_24, hhr__21]; exact (congrArg Prod.fst hw).symm), (by rw [hw]; exact htrn2_22), (by rw [hw]; exact hhTR2_23)⟩)
  · refine V_lookup X 160 dX0_worked_1 (by decide) (by rw [t_1, c_1] <;> decide) (by decide) ?_
    have hka : k = 0 ∧ a = 2 := by have h9 := own_some k hk8 a ha4 hown; omega
    have hw : wV K aac f (tOwn (4 * k + a)).toInt x = (x ^^^ aac, []) := by rw [c_1]; rfl
    have hm9 : 4 < f + 1 := by have h9 := hmz; rw [hka.1, hka.2] at h9; exact h9
    have hr3 := rk3 K hK8
    have hbg := hbig
    rw [hw] at hbg
    refine V_iload_n X 3 rfl dX0_worked_160 ?_
    refine V_aload_n X 0 rfl dX0_worked_161 ?_
    refine V_get (C := RX0) (T := TX0) (N := 5) (ci := 0) (v := .int aac) X in_X0_worked_X0 0 rfl rfl 4 (by decide) (List.mem_of_getElem? (i := 1) rfl) rfl rfl dX0_worked_162 ?_
    refine V_ixor X dX0_worked_165 (fun x_25 ex_25 => ?_)
    exact V_iret X hr dX0_worked_166 (⟨x_25, arn, fta, rfl, rfl, (by rw [ex_25]; exact (congrArg Prod.fst hw).symm), (by rw [hw]; show _ = (((tr_ ++ []).length : Nat) : Int); rw [List.append_nil]; exact tarn), (by rw [hw]; show TRC _ (tr_ ++ []); rw [List.append_nil]; exact hTR)⟩)
  · refine V_lookup X 167 dX0_worked_1 (by decide) (by rw [t_1, c_1] <;> decide) (by decide) ?_
    have hka : k = 1 ∧ a = 0 := by have h9 := own_some k hk8 a ha4 hown; omega
    have hw : wV K aac f (tOwn (4 * k + a)).toInt x = ((aV K aac f 0 0 x).1 + 3, (aV K aac f 0 0 x).2) := by rw [c_1]; rfl
    have hm9 : 1 < f + 1 := by have h9 := hmz; rw [hka.1, hka.2] at h9; exact h9
    have hr3 := rk3 K hK8
    have hbg := hbig
    rw [hw] at hbg
    simp only [List.length_append] at hbg
    refine V_aload_n X 0 rfl dX0_worked_167 ?_
    refine V_iload_n X 2 rfl dX0_worked_168 ?_
    refine V_iconst (v := (0 : Int32)) X (by decide) dX0_worked_169 ?_
    refine V_iload_n X 3 rfl dX0_worked_170 ?_
    refine V_iload X 4 rfl dX0_worked_171 ?_
    refine V_callV (C := RX0) (wr := []) (st := []) X (ih l D Y at_ ka ta asz arn aac K bs 0 0 x dp dn tr_ fk fta (tAbove k) (0 : Int32) tarn taac hbs tkb hK8 hTR (by have h9 : (0 : Int32).toInt = 0 := (show (0 : Int32).toInt = 0 from by decide); omega) (by decide) tdp (by rw [hka.1]; decide) (by decide) (show 0 < f by omega) hdn (by first | omega | (dsimp only at hbg; omega) | (dsimp only at hbg ⊢; omega))) 4 gX0_worked_X0_runFrom rfl (by decide +kernel) ⟨rfl, rfl⟩ ⟨(by simp only [headSpec]; omega), (by simp only [headSpec]; omega)⟩ [0, 1, 2] [] rfl rfl rfl rfl (by decide) (ci := 0) rfl rfl 0 rfl rfl rfl (Nat.le_of_ble_eq_true rfl) ⟨Nat.le_of_ble_eq_true rfl, Nat.le_of_ble_eq_true rfl⟩ dX0_worked_173 (fun v_173 w_173 h_173 => ?_)
    obtain ⟨r_27, rn2_28, ft2_29, rfl, rfl, hhr__30, htrn2_31, hhTR2_32⟩ := h_173
    refine V_to (pc' := 176) (ls' := [(0, .ref at_), (1, .int (tOwn (4 * k + a))), (2, .int (tAbove k)), (3, .int x), (4, .int dp)]) (st' := [.int r_27]) (ws' := [(at_, .inr (0, [.ref ka, .ref ta, .int asz, .int rn2_28, .int aac])), (ka, .inl (Y 0, 50, .inl fk)), (ta, .inl (Y 0, 24, .inl ft2_29))]) ?_ rfl rfl rfl rfl
    refine V_iconst (v := (3 : Int32)) X (by decide) dX0_worked_176 ?_
    refine V_iadd X dX0_worked_177 (fun x_33 ex_33 => ?_)
    exact V_iret X hr dX0_worked_178 (⟨x_33, rn2_28, ft2_29, rfl, rfl, (by rw [ex_33, hhr__30]; exact (congrArg Prod.fst hw).symm), (by rw [hw]; exact htrn2_31), (by rw [hw]; exact hhTR2_32)⟩)
  · refine V_lookup X 179 dX0_worked_1 (by decide) (by rw [t_1, c_1] <;> decide) (by decide) ?_
    have hka : k = 2 ∧ a = 1 := by have h9 := own_some k hk8 a ha4 hown; omega
    have hw : wV K aac f (tOwn (4 * k + a)).toInt x = (-(aV K aac f 0 1 x).1, (aV K aac f 0 1 x).2) := by rw [c_1]; rfl
    have hm9 : 9 < f + 1 := by have h9 := hmz; rw [hka.1, hka.2] at h9; exact h9
    have hr3 := rk3 K hK8
    have hbg := hbig
    rw [hw] at hbg
    simp only [List.length_append] at hbg
    refine V_aload_n X 0 rfl dX0_worked_179 ?_
    refine V_iload_n X 2 rfl dX0_worked_180 ?_
    refine V_iconst (v := (1 : Int32)) X (by decide) dX0_worked_181 ?_
    refine V_iload_n X 3 rfl dX0_worked_182 ?_
    refine V_iload X 4 rfl dX0_worked_183 ?_
    refine V_callV (C := RX0) (wr := []) (st := []) X (ih l D Y at_ ka ta asz arn aac K bs 0 1 x dp dn tr_ fk fta (tAbove k) (1 : Int32) tarn taac hbs tkb hK8 hTR (by have h9 : (1 : Int32).toInt = 1 := (show (1 : Int32).toInt = 1 from by decide); omega) (by decide) tdp (by rw [hka.1]; decide) (by decide) (show 8 < f by omega) hdn (by first | omega | (dsimp only at hbg; omega) | (dsimp only at hbg ⊢; omega))) 4 gX0_worked_X0_runFrom rfl (by decide +kernel) ⟨rfl, rfl⟩ ⟨(by simp only [headSpec]; omega), (by simp only [headSpec]; omega)⟩ [0, 1, 2] [] rfl rfl rfl rfl (by decide) (ci := 0) rfl rfl 0 rfl rfl rfl (Nat.le_of_ble_eq_true rfl) ⟨Nat.le_of_ble_eq_true rfl, Nat.le_of_ble_eq_true rfl⟩ dX0_worked_185 (fun v_185 w_185 h_185 => ?_)
    obtain ⟨r_35, rn2_36, ft2_37, rfl, rfl, hhr__38, htrn2_39, hhTR2_40⟩ := h_185
    refine V_to (pc' := 188) (ls' := [(0, .ref at_), (1, .int (tOwn (4 * k + a))), (2, .int (tAbove k)), (3, .int x), (4, .int dp)]) (st' := [.int r_35]) (ws' := [(at_, .inr (0, [.ref ka, .ref ta, .int asz, .int rn2_36, .int aac])), (ka, .inl (Y 0, 50, .inl fk)), (ta, .inl (Y 0, 24, .inl ft2_37))]) ?_ rfl rfl rfl rfl
    refine V_ineg X dX0_worked_188 (fun x_41 ex_41 => ?_)
    exact V_iret X hr dX0_worked_189 (⟨x_41, rn2_36, ft2_37, rfl, rfl, (by rw [ex_41, hhr__38]; exact (congrArg Prod.fst hw).symm), (by rw [hw]; exact htrn2_39), (by rw [hw]; exact hhTR2_40)⟩)
  · refine V_lookup X 190 dX0_worked_1 (by decide) (by rw [t_1, c_1] <;> decide) (by decide) ?_
    have hka : k = 3 ∧ a = 2 := by have h9 := own_some k hk8 a ha4 hown; omega
    have hw : wV K aac f (tOwn (4 * k + a)).toInt x = ((aV K aac f 2 2 x).1 * 3, (aV K aac f 2 2 x).2) := by rw [c_1]; rfl
    have hm9 : 6 < f + 1 := by have h9 := hmz; rw [hka.1, hka.2] at h9; exact h9
    have hr3 := rk3 K hK8
    have hbg := hbig
    rw [hw] at hbg
    simp only [List.length_append] at hbg
    refine V_aload_n X 0 rfl dX0_worked_190 ?_
    refine V_iload_n X 2 rfl dX0_worked_191 ?_
    refine V_iconst (v := (2 : Int32)) X (by decide) dX0_worked_192 ?_
    refine V_iload_n X 3 rfl dX0_worked_193 ?_
    refine V_iload X 4 rfl dX0_worked_194 ?_
    refine V_callV (C := RX0) (wr := []) (st := []) X (ih l D Y at_ ka ta asz arn aac K bs 2 2 x dp dn tr_ fk fta (tAbove k) (2 : Int32) tarn taac hbs tkb hK8 hTR (by have h9 : (2 : Int32).toInt = 2 := (show (2 : Int32).toInt = 2 from by decide); omega) (by decide) tdp (by rw [hka.1]; decide) (by decide) (show 5 < f by omega) hdn (by first | omega | (dsimp only at hbg; omega) | (dsimp only at hbg ⊢; omega))) 4 gX0_worked_X0_runFrom rfl (by decide +kernel) ⟨rfl, rfl⟩ ⟨(by simp only [headSpec]; omega), (by simp only [headSpec]; omega)⟩ [0, 1, 2] [] rfl rfl rfl rfl (by decide) (ci := 0) rfl rfl 0 rfl rfl rfl (Nat.le_of_ble_eq_true rfl) ⟨Nat.le_of_ble_eq_true rfl, Nat.le_of_ble_eq_true rfl⟩ dX0_worked_196 (fun v_196 w_196 h_196 => ?_)
    obtain ⟨r_43, rn2_44, ft2_45, rfl, rfl, hhr__46, htrn2_47, hhTR2_48⟩ := h_196
    refine V_to (pc' := 199) (ls' := [(0, .ref at_), (1, .int (tOwn (4 * k + a))), (2, .int (tAbove k)), (3, .int x), (4, .int dp)]) (st' := [.int r_43]) (ws' := [(at_, .inr (0, [.ref ka, .ref ta, .int asz, .int rn2_44, .int aac])), (ka, .inl (Y 0, 50, .inl fk)), (ta, .inl (Y 0, 24, .inl ft2_45))]) ?_ rfl rfl rfl rfl
    refine V_iconst (v := (3 : Int32)) X (by decide) dX0_worked_199 ?_
    refine V_imul X dX0_worked_200 (fun x_49 ex_49 => ?_)
    exact V_iret X hr dX0_worked_201 (⟨x_49, rn2_44, ft2_45, rfl, rfl, (by rw [ex_49, hhr__46]; exact (congrArg Prod.fst hw).symm), (by rw [hw]; exact htrn2_47), (by rw [hw]; exact hhTR2_48)⟩)
  · refine V_lookup X 202 dX0_worked_1 (by decide) (by rw [t_1, c_1] <;> decide) (by decide) ?_
    have hka : k = 3 ∧ a = 1 := by have h9 := own_some k hk8 a ha4 hown; omega
    have hw : wV K aac f (tOwn (4 * k + a)).toInt x = ((aV K aac f 2 1 (x + 1)).1, (aV K aac f 2 1 (x + 1)).2) := by rw [c_1]; rfl
    have hm9 : 10 < f + 1 := by have h9 := hmz; rw [hka.1, hka.2] at h9; exact h9
    have hr3 := rk3 K hK8
    have hbg := hbig
    rw [hw] at hbg
    simp only [List.length_append] at hbg
    refine V_aload_n X 0 rfl dX0_worked_202 ?_
    refine V_iload_n X 2 rfl dX0_worked_203 ?_
    refine V_iconst (v := (1 : Int32)) X (by decide) dX0_worked_204 ?_
    refine V_iload_n X 3 rfl dX0_worked_205 ?_
    refine V_iconst (v := (1 : Int32)) X (by decide) dX0_worked_206 ?_
    refine V_iadd X dX0_worked_207 (fun x_50 ex_50 => ?_)
    refine V_iload X 4 rfl dX0_worked_208 ?_
    refine V_callV (C := RX0) (wr := []) (st := []) X (ih l D Y at_ ka ta asz arn aac K bs 2 1 x_50 dp dn tr_ fk fta (tAbove k) (1 : Int32) tarn taac hbs tkb hK8 hTR (by have h9 : (1 : Int32).toInt = 1 := (show (1 : Int32).toInt = 1 from by decide); omega) (by decide) tdp (by rw [hka.1]; decide) (by decide) (show 9 < f by omega) hdn (by rw [ex_50]; first | omega | (dsimp only at hbg; omega))) 4 gX0_worked_X0_runFrom rfl (by decide +kernel) ⟨rfl, rfl⟩ ⟨(by simp only [headSpec]; omega), (by simp only [headSpec]; omega)⟩ [0, 1, 2] [] rfl rfl rfl rfl (by decide) (ci := 0) rfl rfl 0 rfl rfl rfl (Nat.le_of_ble_eq_true rfl) ⟨Nat.le_of_ble_eq_true rfl, Nat.le_of_ble_eq_true rfl⟩ dX0_worked_210 (fun v_210 w_210 h_210 => ?_)
    obtain ⟨r_52, rn2_53, ft2_54, rfl, rfl, hhr__55, htrn2_56, hhTR2_57⟩ := h_210
    refine V_to (pc' := 213) (ls' := [(0, .ref at_), (1, .int (tOwn (4 * k + a))), (2, .int (tAbove k)), (3, .int x), (4, .int dp)]) (st' := [.int r_52]) (ws' := [(at_, .inr (0, [.ref ka, .ref ta, .int asz, .int rn2_53, .int aac])), (ka, .inl (Y 0, 50, .inl fk)), (ta, .inl (Y 0, 24, .inl ft2_54))]) ?_ rfl rfl rfl rfl
    exact V_iret X hr dX0_worked_213 (⟨r_52, rn2_53, ft2_54, rfl, rfl, (by rw [hhr__55, ex_50]; exact (congrArg Prod.fst hw).symm), (by rw [hw, ← ex_50]; exact htrn2_56), (by rw [hw, ← ex_50]; exact hhTR2_57)⟩)
  · refine V_lookup X 214 dX0_worked_1 (by decide) (by rw [t_1, c_1] <;> decide) (by decide) ?_
    have hka : k = 4 ∧ a = 3 := by have h9 := own_some k hk8 a ha4 hown; omega
    have hw : wV K aac f (tOwn (4 * k + a)).toInt x = ((aV K aac f 1 3 x).1 ^^^ 5, (aV K aac f 1 3 x).2) := by rw [c_1]; rfl
    have hm9 : 14 < f + 1 := by have h9 := hmz; rw [hka.1, hka.2] at h9; exact h9
    have hr3 := rk3 K hK8
    have hbg := hbig
    rw [hw] at hbg
    simp only [List.length_append] at hbg
    refine V_aload_n X 0 rfl dX0_worked_214 ?_
    refine V_iload_n X 2 rfl dX0_worked_215 ?_
    refine V_iconst (v := (3 : Int32)) X (by decide) dX0_worked_216 ?_
    refine V_iload_n X 3 rfl dX0_worked_217 ?_
    refine V_iload X 4 rfl dX0_worked_218 ?_
    refine V_callV (C := RX0) (wr := []) (st := []) X (ih l D Y at_ ka ta asz arn aac K bs 1 3 x dp dn tr_ fk fta (tAbove k) (3 : Int32) tarn taac hbs tkb hK8 hTR (by have h9 : (3 : Int32).toInt = 3 := (show (3 : Int32).toInt = 3 from by decide); omega) (by decide) tdp (by rw [hka.1]; decide) (by decide) (show 13 < f by omega) hdn (by first | omega | (dsimp only at hbg; omega) | (dsimp only at hbg ⊢; omega))) 4 gX0_worked_X0_runFrom rfl (by decide +kernel) ⟨rfl, rfl⟩ ⟨(by simp only [headSpec]; omega), (by simp only [headSpec]; omega)⟩ [0, 1, 2] [] rfl rfl rfl rfl (by decide) (ci := 0) rfl rfl 0 rfl rfl rfl (Nat.le_of_ble_eq_true rfl) ⟨Nat.le_of_ble_eq_true rfl, Nat.le_of_ble_eq_true rfl⟩ dX0_worked_220 (fun v_220 w_220 h_220 => ?_)
    obtain ⟨r_59, rn2_60, ft2_61, rfl, rfl, hhr__62, htrn2_63, hhTR2_64⟩ := h_220
    refine V_to (pc' := 223) (ls' := [(0, .ref at_), (1, .int (tOwn (4 * k + a))), (2, .int (tAbove k)), (3, .int x), (4, .int dp)]) (st' := [.int r_59]) (ws' := [(at_, .inr (0, [.ref ka, .ref ta, .int asz, .int rn2_60, .int aac])), (ka, .inl (Y 0, 50, .inl fk)), (ta, .inl (Y 0, 24, .inl ft2_61))]) ?_ rfl rfl rfl rfl
    refine V_iconst (v := (5 : Int32)) X (by decide) dX0_worked_223 ?_
    refine V_ixor X dX0_worked_224 (fun x_65 ex_65 => ?_)
    exact V_iret X hr dX0_worked_225 (⟨x_65, rn2_60, ft2_61, rfl, rfl, (by rw [ex_65, hhr__62]; exact (congrArg Prod.fst hw).symm), (by rw [hw]; exact htrn2_63), (by rw [hw]; exact hhTR2_64)⟩)
  · refine V_lookup X 226 dX0_worked_1 (by decide) (by rw [t_1, c_1] <;> decide) (by decide) ?_
    have hka : k = 5 ∧ a = 2 := by have h9 := own_some k hk8 a ha4 hown; omega
    have hw : wV K aac f (tOwn (4 * k + a)).toInt x = ((aV K aac f 3 2 x).1 - (aV K aac f K 0 2).1, ((aV K aac f 3 2 x).2 ++ (aV K aac f K 0 2).2)) := by rw [c_1]; rfl
    have hm9 : 7 < f + 1 := by have h9 := hmz; rw [hka.1, hka.2] at h9; exact h9
    have hr3 := rk3 K hK8
    have hbg := hbig
    rw [hw] at hbg
    simp only [List.length_append] at hbg
    refine V_aload_n X 0 rfl dX0_worked_226 ?_
    refine V_iload_n X 2 rfl dX0_worked_227 ?_
    refine V_iconst (v := (2 : Int32)) X (by decide) dX0_worked_228 ?_
    refine V_iload_n X 3 rfl dX0_worked_229 ?_
    refine V_iload X 4 rfl dX0_worked_230 ?_
    refine V_callV (C := RX0) (wr := []) (st := []) X (ih l D Y at_ ka ta asz arn aac K bs 3 2 x dp dn tr_ fk fta (tAbove k) (2 : Int32) tarn taac hbs tkb hK8 hTR (by have h9 : (2 : Int32).toInt = 2 := (show (2 : Int32).toInt = 2 from by decide); omega) (by decide) tdp (by rw [hka.1]; decide) (by decide) (show 6 < f by omega) hdn (by first | omega | (dsimp only at hbg; omega) | (dsimp only at hbg ⊢; omega))) 4 gX0_worked_X0_runFrom rfl (by decide +kernel) ⟨rfl, rfl⟩ ⟨(by simp only [headSpec]; omega), (by simp only [headSpec]; omega)⟩ [0, 1, 2] [] rfl rfl rfl rfl (by decide) (ci := 0) rfl rfl 0 rfl rfl rfl (Nat.le_of_ble_eq_true rfl) ⟨Nat.le_of_ble_eq_true rfl, Nat.le_of_ble_eq_true rfl⟩ dX0_worked_232 (fun v_232 w_232 h_232 => ?_)
    obtain ⟨r_67, rn2_68, ft2_69, rfl, rfl, hhr__70, htrn2_71, hhTR2_72⟩ := h_232
    refine V_to (pc' := 235) (ls' := [(0, .ref at_), (1, .int (tOwn (4 * k + a))), (2, .int (tAbove k)), (3, .int x), (4, .int dp)]) (st' := [.int r_67]) (ws' := [(at_, .inr (0, [.ref ka, .ref ta, .int asz, .int rn2_68, .int aac])), (ka, .inl (Y 0, 50, .inl fk)), (ta, .inl (Y 0, 24, .inl ft2_69))]) ?_ rfl rfl rfl rfl
    refine V_aload_n X 0 rfl dX0_worked_235 ?_
    refine V_iconst (v := (0 : Int32)) X (by decide) dX0_worked_236 ?_
    refine V_iconst (v := (2 : Int32)) X (by decide) dX0_worked_237 ?_
    refine V_iload X 4 rfl dX0_worked_238 ?_
    refine V_callV (C := RX0) (wr := []) (st := [.int r_67]) X (c_X0_run l D Y at_ ka ta asz rn2_68 aac K bs f 0 (2 : Int32) dp dn (tr_ ++ (aV K aac f 3 2 x).2) fk ft2_69 (0 : Int32) htrn2_71 taac hbs tkb hK8 hhTR2_72 (by have h9 : (0 : Int32).toInt = 0 := (show (0 : Int32).toInt = 0 from by decide); omega) (by decide) tdp (by have h9 := mzr_0 K; omega) hdn (by rw [List.length_append]; first | omega | (dsimp only at hbg; omega)) ih) 3 gX0_worked_X0_run rfl (by decide +kernel) ⟨rfl, rfl⟩ ⟨(by simp only [headSpec]; omega), (by simp only [headSpec]; omega)⟩ [0, 1, 2] [] rfl rfl rfl rfl (by decide) (ci := 0) rfl rfl 0 rfl rfl rfl (Nat.le_of_ble_eq_true rfl) ⟨Nat.le_of_ble_eq_true rfl, Nat.le_of_ble_eq_true rfl⟩ dX0_worked_240 (fun v_240 w_240 h_240 => ?_)
    obtain ⟨r_74, rn2_75, ft2_76, rfl, rfl, hhr__77, htrn2_78, hhTR2_79⟩ := h_240
    refine V_to (pc' := 243) (ls' := [(0, .ref at_), (1, .int (tOwn (4 * k + a))), (2, .int (tAbove k)), (3, .int x), (4, .int dp)]) (st' := [.int r_74, .int r_67]) (ws' := [(at_, .inr (0, [.ref ka, .ref ta, .int asz, .int rn2_75, .int aac])), (ka, .inl (Y 0, 50, .inl fk)), (ta, .inl (Y 0, 24, .inl ft2_76))]) ?_ rfl rfl rfl rfl
    refine V_isub X dX0_worked_243 (fun x_80 ex_80 => ?_)
    exact V_iret X hr dX0_worked_244 (⟨x_80, rn2_75, ft2_76, rfl, rfl, (by rw [ex_80, hhr__70, hhr__77]; exact (congrArg Prod.fst hw).symm), (by rw [hw]; show _ = (((tr_ ++ ((aV K aac f 3 2 x).2 ++ (aV K aac f K 0 2).2)).length : Nat) : Int); rw [← List.append_assoc]; exact htrn2_78), (by rw [hw]; show TRC _ (tr_ ++ ((aV K aac f 3 2 x).2 ++ (aV K aac f K 0 2).2)); rw [← List.append_assoc]; exact hhTR2_79)⟩)
  · refine V_lookup X 245 dX0_worked_1 (by decide) (by rw [t_1, c_1] <;> decide) (by decide) ?_
    have hka : k = 5 ∧ a = 3 := by have h9 := own_some k hk8 a ha4 hown; omega
    have hw : wV K aac f (tOwn (4 * k + a)).toInt x = ((aV K aac f 3 3 x).1 + 1, (aV K aac f 3 3 x).2) := by rw [c_1]; rfl
    have hm9 : 15 < f + 1 := by have h9 := hmz; rw [hka.1, hka.2] at h9; exact h9
    have hr3 := rk3 K hK8
    have hbg := hbig
    rw [hw] at hbg
    simp only [List.length_append] at hbg
    refine V_aload_n X 0 rfl dX0_worked_245 ?_
    refine V_iload_n X 2 rfl dX0_worked_246 ?_
    refine V_iconst (v := (3 : Int32)) X (by decide) dX0_worked_247 ?_
    refine V_iload_n X 3 rfl dX0_worked_248 ?_
    refine V_iload X 4 rfl dX0_worked_249 ?_
    refine V_callV (C := RX0) (wr := []) (st := []) X (ih l D Y at_ ka ta asz arn aac K bs 3 3 x dp dn tr_ fk fta (tAbove k) (3 : Int32) tarn taac hbs tkb hK8 hTR (by have h9 : (3 : Int32).toInt = 3 := (show (3 : Int32).toInt = 3 from by decide); omega) (by decide) tdp (by rw [hka.1]; decide) (by decide) (show 14 < f by omega) hdn (by first | omega | (dsimp only at hbg; omega) | (dsimp only at hbg ⊢; omega))) 4 gX0_worked_X0_runFrom rfl (by decide +kernel) ⟨rfl, rfl⟩ ⟨(by simp only [headSpec]; omega), (by simp only [headSpec]; omega)⟩ [0, 1, 2] [] rfl rfl rfl rfl (by decide) (ci := 0) rfl rfl 0 rfl rfl rfl (Nat.le_of_ble_eq_true rfl) ⟨Nat.le_of_ble_eq_true rfl, Nat.le_of_ble_eq_true rfl⟩ dX0_worked_251 (fun v_251 w_251 h_251 => ?_)
    obtain ⟨r_82, rn2_83, ft2_84, rfl, rfl, hhr__85, htrn2_86, hhTR2_87⟩ := h_251
    refine V_to (pc' := 254) (ls' := [(0, .ref at_), (1, .int (tOwn (4 * k + a))), (2, .int (tAbove k)), (3, .int x), (4, .int dp)]) (st' := [.int r_82]) (ws' := [(at_, .inr (0, [.ref ka, .ref ta, .int asz, .int rn2_83, .int aac])), (ka, .inl (Y 0, 50, .inl fk)), (ta, .inl (Y 0, 24, .inl ft2_84))]) ?_ rfl rfl rfl rfl
    refine V_iconst (v := (1 : Int32)) X (by decide) dX0_worked_254 ?_
    refine V_iadd X dX0_worked_255 (fun x_88 ex_88 => ?_)
    exact V_iret X hr dX0_worked_256 (⟨x_88, rn2_83, ft2_84, rfl, rfl, (by rw [ex_88, hhr__85]; exact (congrArg Prod.fst hw).symm), (by rw [hw]; exact htrn2_86), (by rw [hw]; exact hhTR2_87)⟩)
  · refine V_lookup X 257 dX0_worked_1 (by decide) (by rw [t_1, c_1] <;> decide) (by decide) ?_
    have hka : k = 6 ∧ a = 0 := by have h9 := own_some k hk8 a ha4 hown; omega
    have hw : wV K aac f (tOwn (4 * k + a)).toInt x = ((aV K aac f 0 0 x).1 * 2, (aV K aac f 0 0 x).2) := by rw [c_1]; rfl
    have hm9 : 1 < f + 1 := by have h9 := hmz; rw [hka.1, hka.2] at h9; exact h9
    have hr3 := rk3 K hK8
    have hbg := hbig
    rw [hw] at hbg
    simp only [List.length_append] at hbg
    refine V_aload_n X 0 rfl dX0_worked_257 ?_
    refine V_iload_n X 2 rfl dX0_worked_258 ?_
    refine V_iconst (v := (0 : Int32)) X (by decide) dX0_worked_259 ?_
    refine V_iload_n X 3 rfl dX0_worked_260 ?_
    refine V_iload X 4 rfl dX0_worked_261 ?_
    refine V_callV (C := RX0) (wr := []) (st := []) X (ih l D Y at_ ka ta asz arn aac K bs 0 0 x dp dn tr_ fk fta (tAbove k) (0 : Int32) tarn taac hbs tkb hK8 hTR (by have h9 : (0 : Int32).toInt = 0 := (show (0 : Int32).toInt = 0 from by decide); omega) (by decide) tdp (by rw [hka.1]; decide) (by decide) (show 0 < f by omega) hdn (by first | omega | (dsimp only at hbg; omega) | (dsimp only at hbg ⊢; omega))) 4 gX0_worked_X0_runFrom rfl (by decide +kernel) ⟨rfl, rfl⟩ ⟨(by simp only [headSpec]; omega), (by simp only [headSpec]; omega)⟩ [0, 1, 2] [] rfl rfl rfl rfl (by decide) (ci := 0) rfl rfl 0 rfl rfl rfl (Nat.le_of_ble_eq_true rfl) ⟨Nat.le_of_ble_eq_true rfl, Nat.le_of_ble_eq_true rfl⟩ dX0_worked_263 (fun v_263 w_263 h_263 => ?_)
    obtain ⟨r_90, rn2_91, ft2_92, rfl, rfl, hhr__93, htrn2_94, hhTR2_95⟩ := h_263
    refine V_to (pc' := 266) (ls' := [(0, .ref at_), (1, .int (tOwn (4 * k + a))), (2, .int (tAbove k)), (3, .int x), (4, .int dp)]) (st' := [.int r_90]) (ws' := [(at_, .inr (0, [.ref ka, .ref ta, .int asz, .int rn2_91, .int aac])), (ka, .inl (Y 0, 50, .inl fk)), (ta, .inl (Y 0, 24, .inl ft2_92))]) ?_ rfl rfl rfl rfl
    refine V_iconst (v := (2 : Int32)) X (by decide) dX0_worked_266 ?_
    refine V_imul X dX0_worked_267 (fun x_96 ex_96 => ?_)
    exact V_iret X hr dX0_worked_268 (⟨x_96, rn2_91, ft2_92, rfl, rfl, (by rw [ex_96, hhr__93]; exact (congrArg Prod.fst hw).symm), (by rw [hw]; exact htrn2_94), (by rw [hw]; exact hhTR2_95)⟩)
  · refine V_lookup X 269 dX0_worked_1 (by decide) (by rw [t_1, c_1] <;> decide) (by decide) ?_
    have hka : k = 7 ∧ a = 1 := by have h9 := own_some k hk8 a ha4 hown; omega
    have hw : wV K aac f (tOwn (4 * k + a)).toInt x = ((aV K aac f 6 1 x).1 + (aV K aac f K 2 2).1, ((aV K aac f 6 1 x).2 ++ (aV K aac f K 2 2).2)) := by rw [c_1]; rfl
    have hm9 : 10 < f + 1 := by have h9 := hmz; rw [hka.1, hka.2] at h9; exact h9
    have hr3 := rk3 K hK8
    have hbg := hbig
    rw [hw] at hbg
    simp only [List.length_append] at hbg
    refine V_aload_n X 0 rfl dX0_worked_269 ?_
    refine V_iload_n X 2 rfl dX0_worked_270 ?_
    refine V_iconst (v := (1 : Int32)) X (by decide) dX0_worked_271 ?_
    refine V_iload_n X 3 rfl dX0_worked_272 ?_
    refine V_iload X 4 rfl dX0_worked_273 ?_
    refine V_callV (C := RX0) (wr := []) (st := []) X (ih l D Y at_ ka ta asz arn aac K bs 6 1 x dp dn tr_ fk fta (tAbove k) (1 : Int32) tarn taac hbs tkb hK8 hTR (by have h9 : (1 : Int32).toInt = 1 := (show (1 : Int32).toInt = 1 from by decide); omega) (by decide) tdp (by rw [hka.1]; decide) (by decide) (show 9 < f by omega) hdn (by first | omega | (dsimp only at hbg; omega) | (dsimp only at hbg ⊢; omega))) 4 gX0_worked_X0_runFrom rfl (by decide +kernel) ⟨rfl, rfl⟩ ⟨(by simp only [headSpec]; omega), (by simp only [headSpec]; omega)⟩ [0, 1, 2] [] rfl rfl rfl rfl (by decide) (ci := 0) rfl rfl 0 rfl rfl rfl (Nat.le_of_ble_eq_true rfl) ⟨Nat.le_of_ble_eq_true rfl, Nat.le_of_ble_eq_true rfl⟩ dX0_worked_275 (fun v_275 w_275 h_275 => ?_)
    obtain ⟨r_98, rn2_99, ft2_100, rfl, rfl, hhr__101, htrn2_102, hhTR2_103⟩ := h_275
    refine V_to (pc' := 278) (ls' := [(0, .ref at_), (1, .int (tOwn (4 * k + a))), (2, .int (tAbove k)), (3, .int x), (4, .int dp)]) (st' := [.int r_98]) (ws' := [(at_, .inr (0, [.ref ka, .ref ta, .int asz, .int rn2_99, .int aac])), (ka, .inl (Y 0, 50, .inl fk)), (ta, .inl (Y 0, 24, .inl ft2_100))]) ?_ rfl rfl rfl rfl
    refine V_aload_n X 0 rfl dX0_worked_278 ?_
    refine V_iconst (v := (2 : Int32)) X (by decide) dX0_worked_279 ?_
    refine V_iconst (v := (2 : Int32)) X (by decide) dX0_worked_280 ?_
    refine V_iload X 4 rfl dX0_worked_281 ?_
    refine V_callV (C := RX0) (wr := []) (st := [.int r_98]) X (c_X0_run l D Y at_ ka ta asz rn2_99 aac K bs f 2 (2 : Int32) dp dn (tr_ ++ (aV K aac f 6 1 x).2) fk ft2_100 (2 : Int32) htrn2_102 taac hbs tkb hK8 hhTR2_103 (by have h9 : (2 : Int32).toInt = 2 := (show (2 : Int32).toInt = 2 from by decide); omega) (by decide) tdp (by have h9 := mzr_2 K; omega) hdn (by rw [List.length_append]; first | omega | (dsimp only at hbg; omega)) ih) 3 gX0_worked_X0_run rfl (by decide +kernel) ⟨rfl, rfl⟩ ⟨(by simp only [headSpec]; omega), (by simp only [headSpec]; omega)⟩ [0, 1, 2] [] rfl rfl rfl rfl (by decide) (ci := 0) rfl rfl 0 rfl rfl rfl (Nat.le_of_ble_eq_true rfl) ⟨Nat.le_of_ble_eq_true rfl, Nat.le_of_ble_eq_true rfl⟩ dX0_worked_283 (fun v_283 w_283 h_283 => ?_)
    obtain ⟨r_105, rn2_106, ft2_107, rfl, rfl, hhr__108, htrn2_109, hhTR2_110⟩ := h_283
    refine V_to (pc' := 286) (ls' := [(0, .ref at_), (1, .int (tOwn (4 * k + a))), (2, .int (tAbove k)), (3, .int x), (4, .int dp)]) (st' := [.int r_105, .int r_98]) (ws' := [(at_, .inr (0, [.ref ka, .ref ta, .int asz, .int rn2_106, .int aac])), (ka, .inl (Y 0, 50, .inl fk)), (ta, .inl (Y 0, 24, .inl ft2_107))]) ?_ rfl rfl rfl rfl
    refine V_iadd X dX0_worked_286 (fun x_111 ex_111 => ?_)
    exact V_iret X hr dX0_worked_287 (⟨x_111, rn2_106, ft2_107, rfl, rfl, (by rw [ex_111, hhr__101, hhr__108]; exact (congrArg Prod.fst hw).symm), (by rw [hw]; show _ = (((tr_ ++ ((aV K aac f 6 1 x).2 ++ (aV K aac f K 2 2).2)).length : Nat) : Int); rw [← List.append_assoc]; exact htrn2_109), (by rw [hw]; show TRC _ (tr_ ++ ((aV K aac f 6 1 x).2 ++ (aV K aac f K 2 2).2)); rw [← List.append_assoc]; exact hhTR2_110)⟩)
  · refine V_lookup X 288 dX0_worked_1 (by decide) (by rw [t_1, c_1] <;> decide) (by decide) ?_
    have hka : k = 7 ∧ a = 0 := by have h9 := own_some k hk8 a ha4 hown; omega
    have hw : wV K aac f (tOwn (4 * k + a)).toInt x = ((aV K aac f 6 0 x).1 - 1, (aV K aac f 6 0 x).2) := by rw [c_1]; rfl
    have hm9 : 2 < f + 1 := by have h9 := hmz; rw [hka.1, hka.2] at h9; exact h9
    have hr3 := rk3 K hK8
    have hbg := hbig
    rw [hw] at hbg
    simp only [List.length_append] at hbg
    refine V_aload_n X 0 rfl dX0_worked_288 ?_
    refine V_iload_n X 2 rfl dX0_worked_289 ?_
    refine V_iconst (v := (0 : Int32)) X (by decide) dX0_worked_290 ?_
    refine V_iload_n X 3 rfl dX0_worked_291 ?_
    refine V_iload X 4 rfl dX0_worked_292 ?_
    refine V_callV (C := RX0) (wr := []) (st := []) X (ih l D Y at_ ka ta asz arn aac K bs 6 0 x dp dn tr_ fk fta (tAbove k) (0 : Int32) tarn taac hbs tkb hK8 hTR (by have h9 : (0 : Int32).toInt = 0 := (show (0 : Int32).toInt = 0 from by decide); omega) (by decide) tdp (by rw [hka.1]; decide) (by decide) (show 1 < f by omega) hdn (by first | omega | (dsimp only at hbg; omega) | (dsimp only at hbg ⊢; omega))) 4 gX0_worked_X0_runFrom rfl (by decide +kernel) ⟨rfl, rfl⟩ ⟨(by simp only [headSpec]; omega), (by simp only [headSpec]; omega)⟩ [0, 1, 2] [] rfl rfl rfl rfl (by decide) (ci := 0) rfl rfl 0 rfl rfl rfl (Nat.le_of_ble_eq_true rfl) ⟨Nat.le_of_ble_eq_true rfl, Nat.le_of_ble_eq_true rfl⟩ dX0_worked_294 (fun v_294 w_294 h_294 => ?_)
    obtain ⟨r_113, rn2_114, ft2_115, rfl, rfl, hhr__116, htrn2_117, hhTR2_118⟩ := h_294
    refine V_to (pc' := 297) (ls' := [(0, .ref at_), (1, .int (tOwn (4 * k + a))), (2, .int (tAbove k)), (3, .int x), (4, .int dp)]) (st' := [.int r_113]) (ws' := [(at_, .inr (0, [.ref ka, .ref ta, .int asz, .int rn2_114, .int aac])), (ka, .inl (Y 0, 50, .inl fk)), (ta, .inl (Y 0, 24, .inl ft2_115))]) ?_ rfl rfl rfl rfl
    refine V_iconst (v := (1 : Int32)) X (by decide) dX0_worked_297 ?_
    refine V_isub X dX0_worked_298 (fun x_119 ex_119 => ?_)
    exact V_iret X hr dX0_worked_299 (⟨x_119, rn2_114, ft2_115, rfl, rfl, (by rw [ex_119, hhr__116]; exact (congrArg Prod.fst hw).symm), (by rw [hw]; exact htrn2_117), (by rw [hw]; exact hhTR2_118)⟩)
  · exfalso; have h9 := own_some k hk8 a ha4 hown; omega

theorem in_X0_runFrom_X0 : ∀ w ∈ wsX00, w ∈ wsX0_runFrom := fun w h => List.mem_cons_of_mem _ (List.mem_append_right _ h)
set_option maxHeartbeats 4000000 in
set_option maxRecDepth 100000 in
theorem c_X0_runFrom_s (l : Launch) (D : va_G) (Y : Nat → ClassId) (at_ : Nat) (ka : Nat) (ta : Nat) (asz : Int32) (arn : Int32) (aac : Int32) (K : Nat) (bs : Nat) (f : Nat) (k : Nat) (a : Nat) (x : Int32) (dp : Int32) (dn : Nat) (tr_ : List Nat) (fk : Nat → Int32) (fta : Nat → Int32) (kd : Int32) (ac : Int32) (tarn : arn.toInt = ((tr_.length : Nat) : Int)) (taac : aac.toInt = ((bs : Nat) : Int)) (hbs : bs < 50) (tkb : (fk bs).toInt = ((K : Nat) : Int)) (hK8 : K < 8) (hTR : TRC fta tr_) (tac : ac.toInt = ((a : Nat) : Int)) (ha4 : a < 4) (tdp : dp.toInt = ((dn : Nat) : Int)) (tkd : kd.toInt = ((k : Nat) : Int)) (hk8 : k < 8) (hmz : mzr k a < (f + 1)) (hdn : dn + (f + 1) ≤ 39) (hbig : tr_.length + (aV K aac (f + 1) k a x).2.length ≤ 1000) (ih : ∀ (l : Launch) (D : va_G) (Y : Nat → ClassId) (at_ : Nat) (ka : Nat) (ta : Nat) (asz : Int32) (arn : Int32) (aac : Int32) (K : Nat) (bs : Nat) (k : Nat) (a : Nat) (x : Int32) (dp : Int32) (dn : Nat) (tr_ : List Nat) (fk : Nat → Int32) (fta : Nat → Int32) (kd : Int32) (ac : Int32) (tarn : arn.toInt = ((tr_.length : Nat) : Int)) (taac : aac.toInt = ((bs : Nat) : Int)) (hbs : bs < 50) (tkb : (fk bs).toInt = ((K : Nat) : Int)) (hK8 : K < 8) (hTR : TRC fta tr_) (tac : ac.toInt = ((a : Nat) : Int)) (ha4 : a < 4) (tdp : dp.toInt = ((dn : Nat) : Int)) (tkd : kd.toInt = ((k : Nat) : Int)) (hk8 : k < 8) (hmz : mzr k a < f) (hdn : dn + f ≤ 39) (hbig : tr_.length + (aV K aac f k a x).2.length ≤ 1000), Mg l yX0_runFrom wsX0_runFrom ({ frames := 3 * (f) + 6, cells := 0, slots := 0, locals := 120 * (f) + 240 }) D Y [(at_, .inr (0, [.ref ka, .ref ta, .int asz, .int arn, .int aac])), (ka, .inl (Y 0, 50, .inl fk)), (ta, .inl (Y 0, 24, .inl fta))] [.ref at_, .int kd, .int ac, .int x, .int dp] 0 0 (fun vv__ ww__ => (∃ (r : Int32), ∃ (rn2 : Int32), ∃ (ft2 : Nat → Int32), vv__ = some (.int r) ∧ ww__ = [(at_, .inr (0, [.ref ka, .ref ta, .int asz, .int rn2, .int aac])), (ka, .inl (Y 0, 50, .inl fk)), (ta, .inl (Y 0, 24, .inl ft2))] ∧ (r = (aV K aac f k a x).1) ∧ (rn2.toInt = (((tr_ ++ (aV K aac f k a x).2).length : Nat) : Int)) ∧ (TRC ft2 (tr_ ++ (aV K aac f k a x).2))))) : Mg l yX0_runFrom wsX0_runFrom ({ frames := 3 * ((f + 1)) + 6, cells := 0, slots := 0, locals := 120 * ((f + 1)) + 240 }) D Y [(at_, .inr (0, [.ref ka, .ref ta, .int asz, .int arn, .int aac])), (ka, .inl (Y 0, 50, .inl fk)), (ta, .inl (Y 0, 24, .inl fta))] [.ref at_, .int kd, .int ac, .int x, .int dp] 0 0 (fun vv__ ww__ => (∃ (r : Int32), ∃ (rn2 : Int32), ∃ (ft2 : Nat → Int32), vv__ = some (.int r) ∧ ww__ = [(at_, .inr (0, [.ref ka, .ref ta, .int asz, .int rn2, .int aac])), (ka, .inl (Y 0, 50, .inl fk)), (ta, .inl (Y 0, 24, .inl ft2))] ∧ (r = (aV K aac (f + 1) k a x).1) ∧ (rn2.toInt = (((tr_ ++ (aV K aac (f + 1) k a x).2).length : Nat) : Int)) ∧ (TRC ft2 (tr_ ++ (aV K aac (f + 1) k a x).2)))) := by
  refine Mg_of (cc := cX0_runFrom) (maxL := 7) (ret := (some .int)) (ls0 := [(0, .ref at_), (1, .int kd), (2, .int ac), (3, .int x), (4, .int dp)]) RX0 (by decide) rfl rfl rfl (Nat.le_of_ble_eq_true rfl) (fun p__ e__ s__ m__ b__ t__ c__ X hr hn => ?_)
  refine V_iload X 4 rfl dX0_runFrom_0 ?_
  refine V_bipush (v := (40 : Int32)) X (by decide) dX0_runFrom_2 ?_
  refine V_icmp_lt X tdp (show (40 : Int32).toInt = 40 from by decide) 9 dX0_runFrom_4 (by decide) (fun c_4 => ?_) (fun c_4 => False.elim (by omega))
  refine V_iload_n X 1 rfl dX0_runFrom_9 ?_
  refine V_istore (ls' := [(5, .int kd), (0, .ref at_), (1, .int kd), (2, .int ac), (3, .int x), (4, .int dp)]) X (by decide) rfl dX0_runFrom_10 ?_
  refine V_iconst (v := (0 : Int32)) X (by decide) dX0_runFrom_12 ?_
  refine V_istore (ls' := [(6, .int (0 : Int32)), (5, .int kd), (0, .ref at_), (1, .int kd), (2, .int ac), (3, .int x), (4, .int dp)]) X (by decide) rfl dX0_runFrom_13 ?_
  have hr3 := rk3 k hk8
  refine V_ls (ls' := [(0, .ref at_), (1, .int kd), (2, .int ac), (3, .int x), (4, .int dp), (5, .int kd), (6, .int (0 : Int32))]) [2, 3, 4, 5, 6, 1, 0] rfl ?_
  refine V_to (V_ind4 (fun (i6 : Int32) (i : Nat) (u5 : Int32) (kc : Nat) => (i6.toInt = ((i : Nat) : Int)) ∧ (u5.toInt = ((kc : Nat) : Int)) ∧ (i + rkK kc ≤ 3) ∧ (kc < 8) ∧ (fB kc a = fB k a)) (fun (i6 : Int32) (i : Nat) (u5 : Int32) (kc : Nat) => 8 - i) (fun (i6 : Int32) (i : Nat) (u5 : Int32) (kc : Nat) => [(0, .ref at_), (1, .int kd), (2, .int ac), (3, .int x), (4, .int dp), (5, .int u5), (6, .int i6)]) (fun (i6 : Int32) (i : Nat) (u5 : Int32) (kc : Nat) => [(at_, .inr (0, [.ref ka, .ref ta, .int asz, .int arn, .int aac])), (ka, .inl (Y 0, 50, .inl fk)), (ta, .inl (Y 0, 24, .inl fta))]) (fun i6 i u5 kc hI_15 ih_15 => ?_) (0 : Int32) 0 kd k ?_) rfl rfl rfl rfl
  · obtain ⟨ti6, tu5, hi3, hkc, hfb⟩ := hI_15
    refine V_to (ls' := [(0, .ref at_), (1, .int kd), (2, .int ac), (3, .int x), (4, .int dp), (5, .int u5), (6, .int i6)]) (ws' := [(at_, .inr (0, [.ref ka, .ref ta, .int asz, .int arn, .int aac])), (ka, .inl (Y 0, 50, .inl fk)), (ta, .inl (Y 0, 24, .inl fta))]) ?_ rfl rfl rfl rfl
    refine V_iload X 6 rfl dX0_runFrom_15 ?_
    refine V_bipush (v := (8 : Int32)) X (by decide) dX0_runFrom_17 ?_
    refine V_icmp_ge X ti6 (show (8 : Int32).toInt = 8 from by decide) 44 dX0_runFrom_19 (by decide) (fun c_19 => False.elim (by omega)) (fun c_19 => ?_)
    refine V_iload X 5 rfl dX0_runFrom_22 ?_
    refine V_iload_n X 2 rfl dX0_runFrom_24 ?_
    refine V_callS (wr := [(at_, .inr (0, [.ref ka, .ref ta, .int asz, .int arn, .int aac])), (ka, .inl (Y 0, 50, .inl fk)), (ta, .inl (Y 0, 24, .inl fta))]) (st := []) X (c_X0_ownBody l D Y u5 kc ac a tu5 hkc tac ha4) 2 gX0_runFrom_X0_ownBody rfl (by decide +kernel) ⟨rfl, rfl⟩ ⟨(by simp only [headSpec]; omega), (by simp only [headSpec]; omega)⟩ [] [0, 1, 2] rfl rfl rfl rfl (by decide) rfl rfl (Nat.le_of_ble_eq_true rfl) ⟨Nat.le_of_ble_eq_true rfl, Nat.le_of_ble_eq_true rfl⟩ dX0_runFrom_25 (fun v_25 w_25 h_25 => ?_)
    obtain ⟨rfl, rfl⟩ := h_25
    refine V_to (pc' := 28) (ls' := [(0, .ref at_), (1, .int kd), (2, .int ac), (3, .int x), (4, .int dp), (5, .int u5), (6, .int i6)]) (st' := [.int (tOwn (4 * kc + a))]) (ws' := [(at_, .inr (0, [.ref ka, .ref ta, .int asz, .int arn, .int aac])), (ka, .inl (Y 0, 50, .inl fk)), (ta, .inl (Y 0, 24, .inl fta))]) ?_ rfl rfl rfl rfl
    refine V_if_ne X rfl 44 dX0_runFrom_28 (by decide) (fun c_28 => ?_) (fun c_28 => ?_)
    · have hkk : fB k a = kc := hfb.symm.trans (fB_own kc hkc a ha4 c_28)
      have hfo := fB_ok k hk8 a ha4
      have hav := aV_s (K := K) (b := aac) (f := f) (x := x) hk8 ha4
      rw [hkk] at hav hfo
      have hbg : tr_.length + (1 + (wV K aac f (tOwn (4 * kc + a)).toInt x).2.length) ≤ 1000 := by have h9 := hbig; rw [hav] at h9; simp only [List.length_cons] at h9; omega
      have hqn : (tOwn (4 * kc + a)).toInt = (((tOwn (4 * kc + a)).toInt.toNat : Nat) : Int) := by have h9 := own_some kc hkc a ha4 c_28; omega
      refine V_iload X 5 rfl dX0_runFrom_44 ?_
      refine V_iload_n X 2 rfl dX0_runFrom_46 ?_
      refine V_callS (wr := [(at_, .inr (0, [.ref ka, .ref ta, .int asz, .int arn, .int aac])), (ka, .inl (Y 0, 50, .inl fk)), (ta, .inl (Y 0, 24, .inl fta))]) (st := []) X (c_X0_ownBody l D Y u5 kc ac a tu5 hkc tac ha4) 2 gX0_runFrom_X0_ownBody rfl (by decide +kernel) ⟨rfl, rfl⟩ ⟨(by simp only [headSpec]; omega), (by simp only [headSpec]; omega)⟩ [] [0, 1, 2] rfl rfl rfl rfl (by decide) rfl rfl (Nat.le_of_ble_eq_true rfl) ⟨Nat.le_of_ble_eq_true rfl, Nat.le_of_ble_eq_true rfl⟩ dX0_runFrom_47 (fun v_47 w_47 h_47 => ?_)
      obtain ⟨rfl, rfl⟩ := h_47
      refine V_to (pc' := 50) (ls' := [(0, .ref at_), (1, .int kd), (2, .int ac), (3, .int x), (4, .int dp), (5, .int u5), (6, .int i6)]) (st' := [.int (tOwn (4 * kc + a))]) (ws' := [(at_, .inr (0, [.ref ka, .ref ta, .int asz, .int arn, .int aac])), (ka, .inl (Y 0, 50, .inl fk)), (ta, .inl (Y 0, 24, .inl fta))]) ?_ rfl rfl rfl rfl
      refine V_istore (ls' := [(6, .int (tOwn (4 * kc + a))), (0, .ref at_), (1, .int kd), (2, .int ac), (3, .int x), (4, .int dp), (5, .int u5)]) X (by decide) rfl dX0_runFrom_50 ?_
      rcases Nat.lt_or_ge tr_.length 24 with h24 | h24
      · refine V_aload_n X 1 rfl dX0_runFrom_52 ?_
        refine V_get (C := RX0) (T := TX0) (N := 5) (ci := 0) (v := .ref ta) X in_X0_runFrom_X0 0 rfl rfl 1 (by decide) (List.mem_of_getElem? (i := 1) rfl) rfl rfl dX0_runFrom_53 ?_
        refine V_aload_n X 1 rfl dX0_runFrom_56 ?_
        refine V_get (C := RX0) (T := TX0) (N := 5) (ci := 0) (v := .int arn) X in_X0_runFrom_X0 0 rfl rfl 3 (by decide) (List.mem_of_getElem? (i := 2) rfl) rfl rfl dX0_runFrom_57 ?_
        refine V_iload X 0 rfl dX0_runFrom_60 ?_
        refine V_callS (wr := [(at_, .inr (0, [.ref ka, .ref ta, .int asz, .int arn, .int aac])), (ka, .inl (Y 0, 50, .inl fk))]) (st := []) X (c_X1_set l D Y ta arn tr_.length (tOwn (4 * kc + a)) 24 fta tarn h24 (by omega)) 3 gX0_runFrom_X1_set rfl (by decide +kernel) ⟨rfl, rfl⟩ ⟨(by simp only [headSpec]; omega), (by simp only [headSpec]; omega)⟩ [2] [0, 1] rfl rfl rfl rfl (by decide) rfl rfl (Nat.le_of_ble_eq_true rfl) ⟨Nat.le_of_ble_eq_true rfl, Nat.le_of_ble_eq_true rfl⟩ dX0_runFrom_62 (fun v_62 w_62 h_62 => ?_)
        obtain ⟨rfl, rfl⟩ := h_62
        refine V_to (pc' := 65) (ls' := [(6, .int (tOwn (4 * kc + a))), (0, .ref at_), (1, .int kd), (2, .int ac), (3, .int x), (4, .int dp), (5, .int u5)]) (st' := []) (ws' := [(at_, .inr (0, [.ref ka, .ref ta, .int asz, .int arn, .int aac])), (ka, .inl (Y 0, 50, .inl fk)), (ta, .inl (Y 0, 24, .inl (upd fta tr_.length (tOwn (4 * kc + a)))))]) ?_ rfl rfl rfl rfl
        refine V_aload_n X 1 rfl dX0_runFrom_65 ?_
        refine V_dup X rfl dX0_runFrom_66 ?_
        refine V_get (C := RX0) (T := TX0) (N := 5) (ci := 0) (v := .int arn) X in_X0_runFrom_X0 0 rfl rfl 3 (by decide) (List.mem_of_getElem? (i := 2) rfl) rfl rfl dX0_runFrom_67 ?_
        refine V_iconst (v := (1 : Int32)) X (by decide) dX0_runFrom_70 ?_
        refine V_iaddZ X tarn (show (1 : Int32).toInt = 1 from by decide) (by omega) (by omega) dX0_runFrom_71 (fun x_4 ex_4 tx_4 => ?_)
        have tx_4 : x_4.toInt = (((tr_.length + 1) : Nat) : Int) := by omega
        refine V_put (C := RX0) (T := TX0) (N := 5) (ci := 0) (v := .int x_4) (ty := tyX0 3) (ws' := [(at_, .inr (0, [.ref ka, .ref ta, .int asz, .int x_4, .int aac])), (ka, .inl (Y 0, 50, .inl fk)), (ta, .inl (Y 0, 24, .inl (upd fta tr_.length (tOwn (4 * kc + a)))))]) X in_X0_runFrom_X0 0 rfl rfl 3 (by decide) (List.mem_of_getElem? (i := 2) rfl) rfl tyX0 tyX0_ok nmX0 rfl (tyX0_ok 3 (by decide)) rfl rfl (Nat.le_of_ble_eq_true rfl) rfl dX0_runFrom_72 ?_
        refine V_aload_n X 1 rfl dX0_runFrom_75 ?_
        refine V_iload X 0 rfl dX0_runFrom_76 ?_
        refine V_iload X 6 rfl dX0_runFrom_78 ?_
        refine V_callS (wr := [(at_, .inr (0, [.ref ka, .ref ta, .int asz, .int x_4, .int aac])), (ka, .inl (Y 0, 50, .inl fk)), (ta, .inl (Y 0, 24, .inl (upd fta tr_.length (tOwn (4 * kc + a)))))]) (st := [.int (tOwn (4 * kc + a)), .ref at_]) X (c_X0_nextAbove l D Y u5 kc tu5 hkc) 1 gX0_runFrom_X0_nextAbove rfl (by decide +kernel) ⟨rfl, rfl⟩ ⟨(by simp only [headSpec]; omega), (by simp only [headSpec]; omega)⟩ [] [0, 1, 2] rfl rfl rfl rfl (by decide) rfl rfl (Nat.le_of_ble_eq_true rfl) ⟨Nat.le_of_ble_eq_true rfl, Nat.le_of_ble_eq_true rfl⟩ dX0_runFrom_80 (fun v_80 w_80 h_80 => ?_)
        obtain ⟨rfl, rfl⟩ := h_80
        refine V_to (pc' := 83) (ls' := [(6, .int (tOwn (4 * kc + a))), (0, .ref at_), (1, .int kd), (2, .int ac), (3, .int x), (4, .int dp), (5, .int u5)]) (st' := [.int (tAbove kc), .int (tOwn (4 * kc + a)), .ref at_]) (ws' := [(at_, .inr (0, [.ref ka, .ref ta, .int asz, .int x_4, .int aac])), (ka, .inl (Y 0, 50, .inl fk)), (ta, .inl (Y 0, 24, .inl (upd fta tr_.length (tOwn (4 * kc + a)))))]) ?_ rfl rfl rfl rfl
        refine V_iload_n X 4 rfl dX0_runFrom_83 ?_
        refine V_iload X 5 rfl dX0_runFrom_84 ?_
        refine V_iconst (v := (1 : Int32)) X (by decide) dX0_runFrom_86 ?_
        refine V_iaddZ X tdp (show (1 : Int32).toInt = 1 from by decide) (by omega) (by omega) dX0_runFrom_87 (fun x_6 ex_6 tx_6 => ?_)
        have tx_6 : x_6.toInt = (((dn + 1) : Nat) : Int) := by omega
        refine V_callV (C := RX0) (wr := []) (st := []) X (c_X0_worked l D Y at_ ka ta asz x_4 aac K bs f kc a x x_6 (dn + 1) (tr_ ++ [(tOwn (4 * kc + a)).toInt.toNat]) fk (upd fta tr_.length (tOwn (4 * kc + a))) (by rw [List.length_append, List.length_singleton]; omega) taac hbs tkb hK8 (TRC_in hTR hqn) ha4 tx_6 hkc (by omega) (by omega) c_28 (by rw [List.length_append, List.length_singleton]; omega) ih) 4 gX0_runFrom_X0_worked rfl (by decide +kernel) ⟨rfl, rfl⟩ ⟨(by simp only [headSpec]; omega), (by simp only [headSpec]; omega)⟩ [0, 1, 2] [] rfl rfl rfl rfl (by decide) (ci := 0) rfl rfl 0 rfl rfl rfl (Nat.le_of_ble_eq_true rfl) ⟨Nat.le_of_ble_eq_true rfl, Nat.le_of_ble_eq_true rfl⟩ dX0_runFrom_88 (fun v_88 w_88 h_88 => ?_)
        obtain ⟨r_8, rn2_9, ft2_10, rfl, rfl, hhr__11, htrn2_12, hhTR2_13⟩ := h_88
        refine V_to (pc' := 91) (ls' := [(6, .int (tOwn (4 * kc + a))), (0, .ref at_), (1, .int kd), (2, .int ac), (3, .int x), (4, .int dp), (5, .int u5)]) (st' := [.int r_8]) (ws' := [(at_, .inr (0, [.ref ka, .ref ta, .int asz, .int rn2_9, .int aac])), (ka, .inl (Y 0, 50, .inl fk)), (ta, .inl (Y 0, 24, .inl ft2_10))]) ?_ rfl rfl rfl rfl
        exact V_iret X hr dX0_runFrom_91 (⟨r_8, rn2_9, ft2_10, rfl, rfl, (by rw [hav]; exact hhr__11), (by rw [hav]; show _ = (((tr_ ++ ((tOwn (4 * kc + a)).toInt.toNat :: (wV K aac f (tOwn (4 * kc + a)).toInt x).2)).length : Nat) : Int); rw [List.append_cons]; exact htrn2_12), (by rw [hav]; show TRC _ (tr_ ++ ((tOwn (4 * kc + a)).toInt.toNat :: (wV K aac f (tOwn (4 * kc + a)).toInt x).2)); rw [List.append_cons]; exact hhTR2_13)⟩)
      · refine V_aload_n X 1 rfl dX0_runFrom_52 ?_
        refine V_get (C := RX0) (T := TX0) (N := 5) (ci := 0) (v := .ref ta) X in_X0_runFrom_X0 0 rfl rfl 1 (by decide) (List.mem_of_getElem? (i := 1) rfl) rfl rfl dX0_runFrom_53 ?_
        refine V_aload_n X 1 rfl dX0_runFrom_56 ?_
        refine V_get (C := RX0) (T := TX0) (N := 5) (ci := 0) (v := .int arn) X in_X0_runFrom_X0 0 rfl rfl 3 (by decide) (List.mem_of_getElem? (i := 2) rfl) rfl rfl dX0_runFrom_57 ?_
        refine V_iload X 0 rfl dX0_runFrom_60 ?_
        refine V_callS (wr := [(at_, .inr (0, [.ref ka, .ref ta, .int asz, .int arn, .int aac])), (ka, .inl (Y 0, 50, .inl fk))]) (st := []) X (c_X1_set_out l D Y ta arn (tOwn (4 * kc + a)) 24 fta (by omega) (by omega)) 3 gX0_runFrom_X1_set rfl (by decide +kernel) ⟨rfl, rfl⟩ ⟨(by simp only [headSpec]; omega), (by simp only [headSpec]; omega)⟩ [2] [0, 1] rfl rfl rfl rfl (by decide) rfl rfl (Nat.le_of_ble_eq_true rfl) ⟨Nat.le_of_ble_eq_true rfl, Nat.le_of_ble_eq_true rfl⟩ dX0_runFrom_62 (fun v_62 w_62 h_62 => ?_)
        obtain ⟨rfl, rfl⟩ := h_62
        refine V_to (pc' := 65) (ls' := [(6, .int (tOwn (4 * kc + a))), (0, .ref at_), (1, .int kd), (2, .int ac), (3, .int x), (4, .int dp), (5, .int u5)]) (st' := []) (ws' := [(at_, .inr (0, [.ref ka, .ref ta, .int asz, .int arn, .int aac])), (ka, .inl (Y 0, 50, .inl fk)), (ta, .inl (Y 0, 24, .inl fta))]) ?_ rfl rfl rfl rfl
        refine V_aload_n X 1 rfl dX0_runFrom_65 ?_
        refine V_dup X rfl dX0_runFrom_66 ?_
        refine V_get (C := RX0) (T := TX0) (N := 5) (ci := 0) (v := .int arn) X in_X0_runFrom_X0 0 rfl rfl 3 (by decide) (List.mem_of_getElem? (i := 2) rfl) rfl rfl dX0_runFrom_67 ?_
        refine V_iconst (v := (1 : Int32)) X (by decide) dX0_runFrom_70 ?_
        refine V_iaddZ X tarn (show (1 : Int32).toInt = 1 from by decide) (by omega) (by omega) dX0_runFrom_71 (fun x_15 ex_15 tx_15 => ?_)
        have tx_15 : x_15.toInt = (((tr_.length + 1) : Nat) : Int) := by omega
        refine V_put (C := RX0) (T := TX0) (N := 5) (ci := 0) (v := .int x_15) (ty := tyX0 3) (ws' := [(at_, .inr (0, [.ref ka, .ref ta, .int asz, .int x_15, .int aac])), (ka, .inl (Y 0, 50, .inl fk)), (ta, .inl (Y 0, 24, .inl fta))]) X in_X0_runFrom_X0 0 rfl rfl 3 (by decide) (List.mem_of_getElem? (i := 2) rfl) rfl tyX0 tyX0_ok nmX0 rfl (tyX0_ok 3 (by decide)) rfl rfl (Nat.le_of_ble_eq_true rfl) rfl dX0_runFrom_72 ?_
        refine V_aload_n X 1 rfl dX0_runFrom_75 ?_
        refine V_iload X 0 rfl dX0_runFrom_76 ?_
        refine V_iload X 6 rfl dX0_runFrom_78 ?_
        refine V_callS (wr := [(at_, .inr (0, [.ref ka, .ref ta, .int asz, .int x_15, .int aac])), (ka, .inl (Y 0, 50, .inl fk)), (ta, .inl (Y 0, 24, .inl fta))]) (st := [.int (tOwn (4 * kc + a)), .ref at_]) X (c_X0_nextAbove l D Y u5 kc tu5 hkc) 1 gX0_runFrom_X0_nextAbove rfl (by decide +kernel) ⟨rfl, rfl⟩ ⟨(by simp only [headSpec]; omega), (by simp only [headSpec]; omega)⟩ [] [0, 1, 2] rfl rfl rfl rfl (by decide) rfl rfl (Nat.le_of_ble_eq_true rfl) ⟨Nat.le_of_ble_eq_true rfl, Nat.le_of_ble_eq_true rfl⟩ dX0_runFrom_80 (fun v_80 w_80 h_80 => ?_)
        obtain ⟨rfl, rfl⟩ := h_80
        refine V_to (pc' := 83) (ls' := [(6, .int (tOwn (4 * kc + a))), (0, .ref at_), (1, .int kd), (2, .int ac), (3, .int x), (4, .int dp), (5, .int u5)]) (st' := [.int (tAbove kc), .int (tOwn (4 * kc + a)), .ref at_]) (ws' := [(at_, .inr (0, [.ref ka, .ref ta, .int asz, .int x_15, .int aac])), (ka, .inl (Y 0, 50, .inl fk)), (ta, .inl (Y 0, 24, .inl fta))]) ?_ rfl rfl rfl rfl
        refine V_iload_n X 4 rfl dX0_runFrom_83 ?_
        refine V_iload X 5 rfl dX0_runFrom_84 ?_
        refine V_iconst (v := (1 : Int32)) X (by decide) dX0_runFrom_86 ?_
        refine V_iaddZ X tdp (show (1 : Int32).toInt = 1 from by decide) (by omega) (by omega) dX0_runFrom_87 (fun x_17 ex_17 tx_17 => ?_)
        have tx_17 : x_17.toInt = (((dn + 1) : Nat) : Int) := by omega
        refine V_callV (C := RX0) (wr := []) (st := []) X (c_X0_worked l D Y at_ ka ta asz x_15 aac K bs f kc a x x_17 (dn + 1) (tr_ ++ [(tOwn (4 * kc + a)).toInt.toNat]) fk fta (by rw [List.length_append, List.length_singleton]; omega) taac hbs tkb hK8 (TRC_out hTR h24) ha4 tx_17 hkc (by omega) (by omega) c_28 (by rw [List.length_append, List.length_singleton]; omega) ih) 4 gX0_runFrom_X0_worked rfl (by decide +kernel) ⟨rfl, rfl⟩ ⟨(by simp only [headSpec]; omega), (by simp only [headSpec]; omega)⟩ [0, 1, 2] [] rfl rfl rfl rfl (by decide) (ci := 0) rfl rfl 0 rfl rfl rfl (Nat.le_of_ble_eq_true rfl) ⟨Nat.le_of_ble_eq_true rfl, Nat.le_of_ble_eq_true rfl⟩ dX0_runFrom_88 (fun v_88 w_88 h_88 => ?_)
        obtain ⟨r_19, rn2_20, ft2_21, rfl, rfl, hhr__22, htrn2_23, hhTR2_24⟩ := h_88
        refine V_to (pc' := 91) (ls' := [(6, .int (tOwn (4 * kc + a))), (0, .ref at_), (1, .int kd), (2, .int ac), (3, .int x), (4, .int dp), (5, .int u5)]) (st' := [.int r_19]) (ws' := [(at_, .inr (0, [.ref ka, .ref ta, .int asz, .int rn2_20, .int aac])), (ka, .inl (Y 0, 50, .inl fk)), (ta, .inl (Y 0, 24, .inl ft2_21))]) ?_ rfl rfl rfl rfl
        exact V_iret X hr dX0_runFrom_91 (⟨r_19, rn2_20, ft2_21, rfl, rfl, (by rw [hav]; exact hhr__22), (by rw [hav]; show _ = (((tr_ ++ ((tOwn (4 * kc + a)).toInt.toNat :: (wV K aac f (tOwn (4 * kc + a)).toInt x).2)).length : Nat) : Int); rw [List.append_cons]; exact htrn2_23), (by rw [hav]; show TRC _ (tr_ ++ ((tOwn (4 * kc + a)).toInt.toNat :: (wV K aac f (tOwn (4 * kc + a)).toInt x).2)); rw [List.append_cons]; exact hhTR2_24)⟩)
    · have hup := fB_up kc hkc a ha4 c_28
      refine V_iload X 5 rfl dX0_runFrom_31 ?_
      refine V_callS (wr := [(at_, .inr (0, [.ref ka, .ref ta, .int asz, .int arn, .int aac])), (ka, .inl (Y 0, 50, .inl fk)), (ta, .inl (Y 0, 24, .inl fta))]) (st := []) X (c_X0_nextAbove l D Y u5 kc tu5 hkc) 1 gX0_runFrom_X0_nextAbove rfl (by decide +kernel) ⟨rfl, rfl⟩ ⟨(by simp only [headSpec]; omega), (by simp only [headSpec]; omega)⟩ [] [0, 1, 2] rfl rfl rfl rfl (by decide) rfl rfl (Nat.le_of_ble_eq_true rfl) ⟨Nat.le_of_ble_eq_true rfl, Nat.le_of_ble_eq_true rfl⟩ dX0_runFrom_33 (fun v_33 w_33 h_33 => ?_)
      obtain ⟨rfl, rfl⟩ := h_33
      refine V_to (pc' := 36) (ls' := [(0, .ref at_), (1, .int kd), (2, .int ac), (3, .int x), (4, .int dp), (5, .int u5), (6, .int i6)]) (st' := [.int (tAbove kc)]) (ws' := [(at_, .inr (0, [.ref ka, .ref ta, .int asz, .int arn, .int aac])), (ka, .inl (Y 0, 50, .inl fk)), (ta, .inl (Y 0, 24, .inl fta))]) ?_ rfl rfl rfl rfl
      refine V_istore (ls' := [(5, .int (tAbove kc)), (0, .ref at_), (1, .int kd), (2, .int ac), (3, .int x), (4, .int dp), (6, .int i6)]) X (by decide) rfl dX0_runFrom_36 ?_
      refine V_iincZ X (fun vv_ => [(6, .int vv_), (5, .int (tAbove kc)), (0, .ref at_), (1, .int kd), (2, .int ac), (3, .int x), (4, .int dp)]) ti6 (by omega) (by omega) (by decide) 6 rfl (by decide) (fun _ => rfl) dX0_runFrom_38 (fun x_26 ex_26 tx_26 => ?_)
      have tx_26 : x_26.toInt = (((i + 1) : Nat) : Int) := by omega
      refine V_goto X 15 (by decide) dX0_runFrom_41 ?_
      refine V_ls (ls' := [(0, .ref at_), (1, .int kd), (2, .int ac), (3, .int x), (4, .int dp), (5, .int (tAbove kc)), (6, .int x_26)]) [2, 3, 4, 5, 6, 1, 0] rfl ?_
      exact V_to (ih_15 x_26 (i + 1) (tAbove kc) ((tAbove kc).toInt.toNat) ⟨(by omega), (by omega), (by omega), (by omega), (hup.2.2.1.trans hfb)⟩ (by omega)) rfl rfl rfl rfl
  · exact ⟨(by have h9 : (0 : Int32).toInt = 0 := (show (0 : Int32).toInt = 0 from by decide); omega), (by omega), (by omega), hk8, rfl⟩


set_option maxHeartbeats 4000000 in
set_option maxRecDepth 100000 in
/-- every depth -/
theorem c_X0_runFrom_all : ∀ f : Nat, ∀ (l : Launch) (D : va_G) (Y : Nat → ClassId) (at_ : Nat) (ka : Nat) (ta : Nat) (asz : Int32) (arn : Int32) (aac : Int32) (K : Nat) (bs : Nat) (k : Nat) (a : Nat) (x : Int32) (dp : Int32) (dn : Nat) (tr_ : List Nat) (fk : Nat → Int32) (fta : Nat → Int32) (kd : Int32) (ac : Int32) (tarn : arn.toInt = ((tr_.length : Nat) : Int)) (taac : aac.toInt = ((bs : Nat) : Int)) (hbs : bs < 50) (tkb : (fk bs).toInt = ((K : Nat) : Int)) (hK8 : K < 8) (hTR : TRC fta tr_) (tac : ac.toInt = ((a : Nat) : Int)) (ha4 : a < 4) (tdp : dp.toInt = ((dn : Nat) : Int)) (tkd : kd.toInt = ((k : Nat) : Int)) (hk8 : k < 8) (hmz : mzr k a < f) (hdn : dn + f ≤ 39) (hbig : tr_.length + (aV K aac f k a x).2.length ≤ 1000), Mg l yX0_runFrom wsX0_runFrom ({ frames := 3 * (f) + 6, cells := 0, slots := 0, locals := 120 * (f) + 240 }) D Y [(at_, .inr (0, [.ref ka, .ref ta, .int asz, .int arn, .int aac])), (ka, .inl (Y 0, 50, .inl fk)), (ta, .inl (Y 0, 24, .inl fta))] [.ref at_, .int kd, .int ac, .int x, .int dp] 0 0 (fun vv__ ww__ => (∃ (r : Int32), ∃ (rn2 : Int32), ∃ (ft2 : Nat → Int32), vv__ = some (.int r) ∧ ww__ = [(at_, .inr (0, [.ref ka, .ref ta, .int asz, .int rn2, .int aac])), (ka, .inl (Y 0, 50, .inl fk)), (ta, .inl (Y 0, 24, .inl ft2))] ∧ (r = (aV K aac f k a x).1) ∧ (rn2.toInt = (((tr_ ++ (aV K aac f k a x).2).length : Nat) : Int)) ∧ (TRC ft2 (tr_ ++ (aV K aac f k a x).2)))) := by
  intro f
  induction f with
  | zero => intro l D Y at_ ka ta asz arn aac K bs k a x dp dn tr_ fk fta kd ac tarn taac hbs tkb hK8 hTR tac ha4 tdp tkd hk8 hmz hdn hbig; exact absurd hmz (Nat.not_lt_zero _)
  | succ f ih => intro l D Y at_ ka ta asz arn aac K bs k a x dp dn tr_ fk fta kd ac tarn taac hbs tkb hK8 hTR tac ha4 tdp tkd hk8 hmz hdn hbig; exact c_X0_runFrom_s l D Y at_ ka ta asz arn aac K bs f k a x dp dn tr_ fk fta kd ac tarn taac hbs tkb hK8 hTR tac ha4 tdp tkd hk8 hmz hdn hbig ih
/-- the bodies that run -/
def trL (K : Nat) : Nat → Nat → Nat → List Nat
  | 0, _, _ => []
  | f + 1, k, a =>
    if (tOwn (4 * fB k a + a)).toInt = 1 then [1]
    else if (tOwn (4 * fB k a + a)).toInt = 2 then [2] ++ (trL K f K 1 ++ trL K f K 2)
    else if (tOwn (4 * fB k a + a)).toInt = 10 then [10] ++ trL K f K 0
    else if (tOwn (4 * fB k a + a)).toInt = 11 then [11]
    else if (tOwn (4 * fB k a + a)).toInt = 20 then [20] ++ trL K f 0 0
    else if (tOwn (4 * fB k a + a)).toInt = 30 then [30] ++ trL K f 0 1
    else if (tOwn (4 * fB k a + a)).toInt = 40 then [40] ++ trL K f 2 2
    else if (tOwn (4 * fB k a + a)).toInt = 41 then [41] ++ trL K f 2 1
    else if (tOwn (4 * fB k a + a)).toInt = 50 then [50] ++ trL K f 1 3
    else if (tOwn (4 * fB k a + a)).toInt = 60 then [60] ++ (trL K f 3 2 ++ trL K f K 0)
    else if (tOwn (4 * fB k a + a)).toInt = 61 then [61] ++ trL K f 3 3
    else if (tOwn (4 * fB k a + a)).toInt = 70 then [70] ++ trL K f 0 0
    else if (tOwn (4 * fB k a + a)).toInt = 80 then [80] ++ (trL K f 6 1 ++ trL K f K 2)
    else if (tOwn (4 * fB k a + a)).toInt = 81 then [81] ++ trL K f 6 0
    else []
set_option maxHeartbeats 4000000 in
theorem aV_tr (K : Nat) : ∀ (f k a : Nat) (b x : Int32), (aV K b f k a x).2 = trL K f k a := by
  intro f
  induction f with
  | zero => intro k a b x; rfl
  | succ f ih =>
    intro k a b x
    rw [aV, trL]
    by_cases h1 : (tOwn (4 * fB k a + a)).toInt = 1
    · rw [if_pos h1, if_pos h1]
    rw [if_neg h1, if_neg h1]
    by_cases h2 : (tOwn (4 * fB k a + a)).toInt = 2
    · rw [if_pos h2, if_pos h2]; simp only [ih]
    rw [if_neg h2, if_neg h2]
    by_cases h10 : (tOwn (4 * fB k a + a)).toInt = 10
    · rw [if_pos h10, if_pos h10]; simp only [ih]
    rw [if_neg h10, if_neg h10]
    by_cases h11 : (tOwn (4 * fB k a + a)).toInt = 11
    · rw [if_pos h11, if_pos h11]
    rw [if_neg h11, if_neg h11]
    by_cases h20 : (tOwn (4 * fB k a + a)).toInt = 20
    · rw [if_pos h20, if_pos h20]; simp only [ih]
    rw [if_neg h20, if_neg h20]
    by_cases h30 : (tOwn (4 * fB k a + a)).toInt = 30
    · rw [if_pos h30, if_pos h30]; simp only [ih]
    rw [if_neg h30, if_neg h30]
    by_cases h40 : (tOwn (4 * fB k a + a)).toInt = 40
    · rw [if_pos h40, if_pos h40]; simp only [ih]
    rw [if_neg h40, if_neg h40]
    by_cases h41 : (tOwn (4 * fB k a + a)).toInt = 41
    · rw [if_pos h41, if_pos h41]; simp only [ih]
    rw [if_neg h41, if_neg h41]
    by_cases h50 : (tOwn (4 * fB k a + a)).toInt = 50
    · rw [if_pos h50, if_pos h50]; simp only [ih]
    rw [if_neg h50, if_neg h50]
    by_cases h60 : (tOwn (4 * fB k a + a)).toInt = 60
    · rw [if_pos h60, if_pos h60]; simp only [ih]
    rw [if_neg h60, if_neg h60]
    by_cases h61 : (tOwn (4 * fB k a + a)).toInt = 61
    · rw [if_pos h61, if_pos h61]; simp only [ih]
    rw [if_neg h61, if_neg h61]
    by_cases h70 : (tOwn (4 * fB k a + a)).toInt = 70
    · rw [if_pos h70, if_pos h70]; simp only [ih]
    rw [if_neg h70, if_neg h70]
    by_cases h80 : (tOwn (4 * fB k a + a)).toInt = 80
    · rw [if_pos h80, if_pos h80]; simp only [ih]
    rw [if_neg h80, if_neg h80]
    by_cases h81 : (tOwn (4 * fB k a + a)).toInt = 81
    · rw [if_pos h81, if_pos h81]; simp only [ih]
    rw [if_neg h81, if_neg h81]
set_option maxRecDepth 100000 in
theorem trL_20 : ∀ K, K < 8 → ∀ a, a < 4 → (trL K 16 K a).length ≤ 20 := by decide +kernel
theorem aV_20 {K a : Nat} (hK : K < 8) (ha : a < 4) (b x : Int32) : (aV K b 16 K a x).2.length ≤ 20 := by rw [aV_tr]; exact trL_20 K hK a ha

set_option maxHeartbeats 4000000 in
set_option maxRecDepth 100000 in
theorem c_X0_run_16 (l : Launch) (D : va_G) (Y : Nat → ClassId) (at_ : Nat) (ka : Nat) (ta : Nat) (asz : Int32) (arn : Int32) (aac : Int32) (K : Nat) (bs : Nat) (a : Nat) (x : Int32) (dp : Int32) (dn : Nat) (tr_ : List Nat) (fk : Nat → Int32) (fta : Nat → Int32) (ac : Int32) (tarn : arn.toInt = ((tr_.length : Nat) : Int)) (taac : aac.toInt = ((bs : Nat) : Int)) (hbs : bs < 50) (tkb : (fk bs).toInt = ((K : Nat) : Int)) (hK8 : K < 8) (hTR : TRC fta tr_) (tac : ac.toInt = ((a : Nat) : Int)) (ha4 : a < 4) (tdp : dp.toInt = ((dn : Nat) : Int)) (hmz : mzr K a < 16) (hdn : dn + 16 ≤ 39) (hbig : tr_.length + (aV K aac 16 K a x).2.length ≤ 1000) : Mg l yX0_run wsX0_run ({ frames := 3 * (16) + 7, cells := 0, slots := 0, locals := 120 * (16) + 280 }) D Y [(at_, .inr (0, [.ref ka, .ref ta, .int asz, .int arn, .int aac])), (ka, .inl (Y 0, 50, .inl fk)), (ta, .inl (Y 0, 24, .inl fta))] [.ref at_, .int ac, .int x, .int dp] 0 0 (fun vv__ ww__ => (∃ (r : Int32), ∃ (rn2 : Int32), ∃ (ft2 : Nat → Int32), vv__ = some (.int r) ∧ ww__ = [(at_, .inr (0, [.ref ka, .ref ta, .int asz, .int rn2, .int aac])), (ka, .inl (Y 0, 50, .inl fk)), (ta, .inl (Y 0, 24, .inl ft2))] ∧ (r = (aV K aac 16 K a x).1) ∧ (rn2.toInt = (((tr_ ++ (aV K aac 16 K a x).2).length : Nat) : Int)) ∧ (TRC ft2 (tr_ ++ (aV K aac 16 K a x).2)))) := c_X0_run l D Y at_ ka ta asz arn aac K bs 16 a x dp dn tr_ fk fta ac tarn taac hbs tkb hK8 hTR tac ha4 tdp hmz hdn hbig (c_X0_runFrom_all 16)
