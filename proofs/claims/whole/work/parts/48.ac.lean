
/-! ===== the reference: AN IMAGE, ACTS, SHELVES ===== -/
theorem cp_s {f g : Nat → Int32} {k : Nat} (h : ∀ j, j < k → f j = g j) : ∀ j, j < k + 1 → upd f k (g k) j = g j := by
  intro j hj; unfold upd
  by_cases e : j = k
  · rw [if_pos e, e]
  · rw [if_neg e]; exact h j (by omega)
theorem cp_0 {f g : Nat → Int32} : ∀ j, j < 0 → f j = g j := fun j hj => absurd hj (Nat.not_lt_zero j)
def aPB (b x : Int32) : Int32 × List Nat := (x + b, [1])
def aWB (b x : Int32) : Int32 × List Nat := ((aPB b x).1 * 2, [70] ++ (aPB b x).2)
def aB (K : Nat) (b x : Int32) : Int32 × List Nat := if K = 1 ∨ K = 4 then ((aPB b x).1 + 3, [20] ++ (aPB b x).2) else if K = 7 then ((aWB b x).1 - 1, [81] ++ (aWB b x).2) else if K = 6 then aWB b x else aPB b x
def aPH (K : Nat) (b x : Int32) : Int32 × List Nat := ((aB K b x).1 * 2, [10] ++ (aB K b x).2)
def aWH (K : Nat) (b x : Int32) : Int32 × List Nat := (-(aPH K b x).1, [30] ++ (aPH K b x).2)
def aPS (b x : Int32) : Int32 × List Nat := (x ^^^ b, [11])
def aRS (b x : Int32) : Int32 × List Nat := ((aPS b x).1 * 3, [40] ++ (aPS b x).2)
def aS (K : Nat) (b x : Int32) : Int32 × List Nat := if K = 5 then ((aRS b x).1 - (aB K b 2).1, [60] ++ ((aRS b x).2 ++ (aB K b 2).2)) else if K = 3 then aRS b x else aPS b x
def aH (K : Nat) (b x : Int32) : Int32 × List Nat := if K = 3 ∨ K = 5 then ((aWH K b (x + 1)).1, [41] ++ (aWH K b (x + 1)).2) else if K = 7 then ((aPH K b x).1 + (aS K b 2).1, [80] ++ ((aPH K b x).2 ++ (aS K b 2).2)) else if K = 2 then aWH K b x else aPH K b x
def aPT (K : Nat) (b x : Int32) : Int32 × List Nat := ((aH K b x).1 - (aS K b 1).1, [2] ++ ((aH K b x).2 ++ (aS K b 1).2))
def aT (K : Nat) (b x : Int32) : Int32 × List Nat := if K = 4 then ((aPT K b x).1 ^^^ 5, [50] ++ (aPT K b x).2) else if K = 5 then ((aPT K b x).1 + 1, [61] ++ (aPT K b x).2) else aPT K b x
theorem aV_m {K : Nat} (h : K < 8) (b x : Int32) : aV K b 16 K 0 x = aB K b x ∧ aV K b 16 K 1 x = aH K b x ∧ aV K b 16 K 2 x = aS K b x ∧ aV K b 16 K 3 x = aT K b x := by
  rcases (by omega : K = 0 ∨ K = 1 ∨ K = 2 ∨ K = 3 ∨ K = 4 ∨ K = 5 ∨ K = 6 ∨ K = 7) with rfl | rfl | rfl | rfl | rfl | rfl | rfl | rfl <;> exact ⟨rfl, rfl, rfl, rfl⟩
theorem aPB_l (b x : Int32) : (aPB b x).2.length = 1 := rfl
theorem aWB_l (b x : Int32) : (aWB b x).2.length = 2 := rfl
theorem aB_l (K : Nat) (b x : Int32) : (aB K b x).2.length ≤ 3 := by
  unfold aB
  split
  · show 2 ≤ 3; decide
  · split
    · show 3 ≤ 3; decide
    · split
      · show 2 ≤ 3; decide
      · show 1 ≤ 3; decide
theorem aPH_l (K : Nat) (b x : Int32) : (aPH K b x).2.length ≤ 4 := by have := aB_l K b x; show (aB K b x).2.length + 1 ≤ 4; omega
theorem aWH_l (K : Nat) (b x : Int32) : (aWH K b x).2.length ≤ 5 := by have := aPH_l K b x; show (aPH K b x).2.length + 1 ≤ 5; omega
theorem aS_l (K : Nat) (b x : Int32) : (aS K b x).2.length ≤ 6 := by
  unfold aS
  split
  · have := aB_l K b 2
    show ([60] ++ ((aRS b x).2 ++ (aB K b 2).2)).length ≤ 6
    rw [List.length_append, List.length_append]; show 1 + (2 + _) ≤ 6; omega
  · split
    · show 2 ≤ 6; decide
    · show 1 ≤ 6; decide
theorem aH_l (K : Nat) (b x : Int32) : (aH K b x).2.length ≤ 11 := by
  unfold aH
  split
  · have := aWH_l K b (x + 1); show (aWH K b (x + 1)).2.length + 1 ≤ 11; omega
  · split
    · have h1 := aPH_l K b x
      have h2 := aS_l K b 2
      show ([80] ++ ((aPH K b x).2 ++ (aS K b 2).2)).length ≤ 11
      rw [List.length_append, List.length_append]; show 1 + (_ + _) ≤ 11; omega
    · split
      · have := aWH_l K b x; omega
      · have := aPH_l K b x; omega
theorem aPT_l (K : Nat) (b x : Int32) : (aPT K b x).2.length ≤ 18 := by
  have h1 := aH_l K b x
  have h2 := aS_l K b 1
  show ([2] ++ ((aH K b x).2 ++ (aS K b 1).2)).length ≤ 18
  rw [List.length_append, List.length_append]; show 1 + (_ + _) ≤ 18; omega
def chkU (K a : Nat) : Bool := (List.range 8).any (fun j => decide (abv K j = ((a : Nat) : Int)) && (List.range (j + 1)).all (fun i => decide (0 ≤ abv K i)))
theorem chkU_iff (K a : Nat) : UND K ((a : Nat) : Int) ↔ chkU K a = true := by
  unfold UND chkU
  simp only [List.any_eq_true, List.mem_range, Bool.and_eq_true, decide_eq_true_eq, List.all_eq_true]
  constructor
  · rintro ⟨j, h1, h2, h3⟩; exact ⟨j, h1, h2, fun i hi => h3 i (by omega)⟩
  · rintro ⟨j, h1, h2, h3⟩; exact ⟨j, h1, h2, fun i hi => h3 i (by omega)⟩
def undB (K a : Nat) : Bool := decide (a = 0 ∨ K = a ∨ (a = 1 ∧ K = 4) ∨ (a = 2 ∧ (K = 3 ∨ K = 5)) ∨ (a = 3 ∧ K = 5) ∨ (a = 6 ∧ K = 7))
theorem chkU_d : ∀ K, K < 8 → ∀ a, a < 8 → chkU K a = undB K a := by decide +kernel
theorem und_iff {K a : Nat} (hK : K < 8) (ha : a < 8) : UND K ((a : Nat) : Int) ↔ (a = 0 ∨ K = a ∨ (a = 1 ∧ K = 4) ∨ (a = 2 ∧ (K = 3 ∨ K = 5)) ∨ (a = 3 ∧ K = 5) ∨ (a = 6 ∧ K = 7)) := (chkU_iff K a).trans (by rw [chkU_d K hK a ha]; exact decide_eq_true_iff)
theorem aRS_l (b x : Int32) : (aRS b x).2.length = 2 := rfl
section ACb
variable {K : Nat} (b x : Int32)
theorem aB_1 (h : K = 1 ∨ K = 4) : aB K b x = ((aPB b x).1 + 3, [20] ++ (aPB b x).2) := by unfold aB; rw [if_pos h]
theorem aB_7 (h : K = 7) : aB K b x = ((aWB b x).1 - 1, [81] ++ (aWB b x).2) := by unfold aB; rw [if_neg (by omega), if_pos h]
theorem aB_6 (h : K = 6) : aB K b x = aWB b x := by unfold aB; rw [if_neg (by omega), if_neg (by omega), if_pos h]
theorem aB_0 (h1 : ¬ (K = 1 ∨ K = 4)) (h2 : K ≠ 7) (h3 : K ≠ 6) : aB K b x = aPB b x := by unfold aB; rw [if_neg h1, if_neg h2, if_neg h3]
theorem aS_5 (h : K = 5) : aS K b x = ((aRS b x).1 - (aB K b 2).1, [60] ++ ((aRS b x).2 ++ (aB K b 2).2)) := by unfold aS; rw [if_pos h]
theorem aS_3 (h : K = 3) : aS K b x = aRS b x := by unfold aS; rw [if_neg (by omega), if_pos h]
theorem aS_0 (h1 : K ≠ 5) (h2 : K ≠ 3) : aS K b x = aPS b x := by unfold aS; rw [if_neg h1, if_neg h2]
theorem aH_5 (h : K = 3 ∨ K = 5) : aH K b x = ((aWH K b (x + 1)).1, [41] ++ (aWH K b (x + 1)).2) := by unfold aH; rw [if_pos h]
theorem aH_7 (h : K = 7) : aH K b x = ((aPH K b x).1 + (aS K b 2).1, [80] ++ ((aPH K b x).2 ++ (aS K b 2).2)) := by unfold aH; rw [if_neg (by omega), if_pos h]
theorem aH_2 (h : K = 2) : aH K b x = aWH K b x := by unfold aH; rw [if_neg (by omega), if_neg (by omega), if_pos h]
theorem aH_0 (h1 : ¬ (K = 3 ∨ K = 5)) (h2 : K ≠ 7) (h3 : K ≠ 2) : aH K b x = aPH K b x := by unfold aH; rw [if_neg h1, if_neg h2, if_neg h3]
theorem aT_4 (h : K = 4) : aT K b x = ((aPT K b x).1 ^^^ 5, [50] ++ (aPT K b x).2) := by unfold aT; rw [if_pos h]
theorem aT_5 (h : K = 5) : aT K b x = ((aPT K b x).1 + 1, [61] ++ (aPT K b x).2) := by unfold aT; rw [if_neg (by omega), if_pos h]
theorem aT_0 (h1 : K ≠ 4) (h2 : K ≠ 5) : aT K b x = aPT K b x := by unfold aT; rw [if_neg h1, if_neg h2]
end ACb
/-- a shelf's row, in the reference's row of all -/
theorem ap3 {t a b : List Nat} : (t ++ a) ++ b = t ++ (a ++ b) := List.append_assoc _ _ _
theorem ap4 {t a b c : List Nat} : ((t ++ a) ++ b) ++ c = t ++ (a ++ (b ++ c)) := by rw [List.append_assoc, List.append_assoc]
theorem in_X11_image_X11 : ∀ w ∈ wsX110, w ∈ wsX11_image := fun w h => List.mem_cons_of_mem _ (List.mem_append_right _ h)
set_option maxHeartbeats 4000000 in
set_option maxRecDepth 100000 in
theorem c_X11_image (l : Launch) (D : va_G) (Y : Nat → ClassId) (m : Nat) (R : Nat → Nat) (v0 : Int32) (v7 : Int32) (v8 : Int32) (v9 : Int32) (v15 : Int32) (v16 : Int32) (v17 : Int32) (v18 : Int32) (v19 : Int32) (v27 : Int32) (v31 : Int32) (v32 : Int32) (v33 : Int32) (v34 : Int32) (v38 : Int32) (v42 : Int32) (v44 : Int32) (a5 : Nat → Int32) (a36 : Nat → Int32) (a37 : Nat → Int32) (a39 : Nat → Int32) (a40 : Nat → Int32) (a41 : Nat → Int32) : Mg l yX11_image wsX11_image ({ frames := 0, cells := 0, slots := 0, locals := 0 }) D Y [(m, .inr (10, mF R v0 v7 v8 v9 v15 v16 v17 v18 v19 v27 v31 v32 v33 v34 v38 v42 v44)), ((R 5), .inl (Y 0, 24, .inl a5)), ((R 36), .inl (Y 0, 7, .inl a36)), ((R 37), .inl (Y 0, 12, .inl a37)), ((R 39), .inl (Y 0, 7, .inl a39)), ((R 40), .inl (Y 0, 12, .inl a40)), ((R 41), .inl (Y 0, 24, .inl a41))] [.ref m] 0 0 (fun vv__ ww__ => (∃ (b39 : Nat → Int32), ∃ (b40 : Nat → Int32), ∃ (b41 : Nat → Int32), vv__ = some (.int (a36 0)) ∧ ww__ = [(m, .inr (10, mF R v0 v7 v8 v9 v15 v16 v17 v18 v19 v27 v31 v32 v33 v34 (1 : Int32) v42 v44)), ((R 5), .inl (Y 0, 24, .inl a5)), ((R 36), .inl (Y 0, 7, .inl a36)), ((R 37), .inl (Y 0, 12, .inl a37)), ((R 39), .inl (Y 0, 7, .inl b39)), ((R 40), .inl (Y 0, 12, .inl b40)), ((R 41), .inl (Y 0, 24, .inl b41))] ∧ (∀ j, j < 7 → b39 j = a36 j) ∧ (∀ j, j < 12 → b40 j = a37 j) ∧ (∀ j, j < 24 → b41 j = a5 j))) := by
  refine Mg_of (cc := cX11_image) (maxL := 2) (ret := (some .int)) (ls0 := [(0, .ref m)]) RX11 (by decide) rfl rfl rfl (Nat.le_of_ble_eq_true rfl) (fun p__ e__ s__ m__ b__ t__ c__ X hr hn => ?_)
  refine V_aload_n X 0 rfl dX11_image_0 ?_
  refine V_iconst (v := (1 : Int32)) X (by decide) dX11_image_1 ?_
  refine V_put (C := RX11) (T := TX11) (N := 50) (ci := 10) (v := .int (1 : Int32)) (ty := tyX11 38) (ws' := [(m, .inr (10, mF R v0 v7 v8 v9 v15 v16 v17 v18 v19 v27 v31 v32 v33 v34 (1 : Int32) v42 v44)), ((R 5), .inl (Y 0, 24, .inl a5)), ((R 36), .inl (Y 0, 7, .inl a36)), ((R 37), .inl (Y 0, 12, .inl a37)), ((R 39), .inl (Y 0, 7, .inl a39)), ((R 40), .inl (Y 0, 12, .inl a40)), ((R 41), .inl (Y 0, 24, .inl a41))]) X in_X11_image_X11 0 rfl rfl 38 (by decide) (List.mem_of_getElem? (i := 1) rfl) rfl tyX11 tyX11_ok nmX11 rfl (tyX11_ok 38 (by decide)) rfl rfl (Nat.le_of_ble_eq_true rfl) rfl dX11_image_2 ?_
  refine V_iconst (v := (0 : Int32)) X (by decide) dX11_image_5 ?_
  refine V_istore_n (ls' := [(1, .int (0 : Int32)), (0, .ref m)]) X (by decide) rfl dX11_image_6 ?_
  refine V_ls (ls' := [(0, .ref m), (1, .int (0 : Int32))]) [1, 0] rfl ?_
  refine V_to (V_ind3 (fun (i1 : Int32) (k : Nat) (g39 : Nat → Int32) => (i1.toInt = ((k : Nat) : Int)) ∧ (k ≤ 7) ∧ (∀ j, j < k → g39 j = a36 j)) (fun (i1 : Int32) (k : Nat) (g39 : Nat → Int32) => 7 - k) (fun (i1 : Int32) (k : Nat) (g39 : Nat → Int32) => [(0, .ref m), (1, .int i1)]) (fun (i1 : Int32) (k : Nat) (g39 : Nat → Int32) => [(m, .inr (10, mF R v0 v7 v8 v9 v15 v16 v17 v18 v19 v27 v31 v32 v33 v34 (1 : Int32) v42 v44)), ((R 5), .inl (Y 0, 24, .inl a5)), ((R 36), .inl (Y 0, 7, .inl a36)), ((R 37), .inl (Y 0, 12, .inl a37)), ((R 39), .inl (Y 0, 7, .inl g39)), ((R 40), .inl (Y 0, 12, .inl a40)), ((R 41), .inl (Y 0, 24, .inl a41))]) (fun i1 k g39 hI_7 ih_7 => ?_) (0 : Int32) 0 a39 ?_) rfl rfl rfl rfl
  · obtain ⟨ti1, hka, hca⟩ := hI_7
    refine V_to (ls' := [(0, .ref m), (1, .int i1)]) (ws' := [(m, .inr (10, mF R v0 v7 v8 v9 v15 v16 v17 v18 v19 v27 v31 v32 v33 v34 (1 : Int32) v42 v44)), ((R 5), .inl (Y 0, 24, .inl a5)), ((R 36), .inl (Y 0, 7, .inl a36)), ((R 37), .inl (Y 0, 12, .inl a37)), ((R 39), .inl (Y 0, 7, .inl g39)), ((R 40), .inl (Y 0, 12, .inl a40)), ((R 41), .inl (Y 0, 24, .inl a41))]) ?_ rfl rfl rfl rfl
    refine V_iload_n X 1 rfl dX11_image_7 ?_
    refine V_bipush (v := (7 : Int32)) X (by decide) dX11_image_8 ?_
    refine V_icmp_ge X ti1 (show (7 : Int32).toInt = 7 from by decide) 31 dX11_image_10 (by decide) (fun c_10 => ?_) (fun c_10 => ?_)
    · refine V_iconst (v := (0 : Int32)) X (by decide) dX11_image_31 ?_
      refine V_istore_n (ls' := [(1, .int (0 : Int32)), (0, .ref m)]) X (by decide) rfl dX11_image_32 ?_
      refine V_ls (ls' := [(0, .ref m), (1, .int (0 : Int32))]) [1, 0] rfl ?_
      refine V_to (V_ind3 (fun (i1 : Int32) (k : Nat) (g40 : Nat → Int32) => (i1.toInt = ((k : Nat) : Int)) ∧ (k ≤ 12) ∧ (∀ j, j < k → g40 j = a37 j)) (fun (i1 : Int32) (k : Nat) (g40 : Nat → Int32) => 12 - k) (fun (i1 : Int32) (k : Nat) (g40 : Nat → Int32) => [(0, .ref m), (1, .int i1)]) (fun (i1 : Int32) (k : Nat) (g40 : Nat → Int32) => [(m, .inr (10, mF R v0 v7 v8 v9 v15 v16 v17 v18 v19 v27 v31 v32 v33 v34 (1 : Int32) v42 v44)), ((R 5), .inl (Y 0, 24, .inl a5)), ((R 36), .inl (Y 0, 7, .inl a36)), ((R 37), .inl (Y 0, 12, .inl a37)), ((R 39), .inl (Y 0, 7, .inl g39)), ((R 40), .inl (Y 0, 12, .inl g40)), ((R 41), .inl (Y 0, 24, .inl a41))]) (fun i1 k g40 hI_33 ih_33 => ?_) (0 : Int32) 0 a40 ?_) rfl rfl rfl rfl
      · obtain ⟨ti1, hkb, hcb⟩ := hI_33
        refine V_to (ls' := [(0, .ref m), (1, .int i1)]) (ws' := [(m, .inr (10, mF R v0 v7 v8 v9 v15 v16 v17 v18 v19 v27 v31 v32 v33 v34 (1 : Int32) v42 v44)), ((R 5), .inl (Y 0, 24, .inl a5)), ((R 36), .inl (Y 0, 7, .inl a36)), ((R 37), .inl (Y 0, 12, .inl a37)), ((R 39), .inl (Y 0, 7, .inl g39)), ((R 40), .inl (Y 0, 12, .inl g40)), ((R 41), .inl (Y 0, 24, .inl a41))]) ?_ rfl rfl rfl rfl
        refine V_iload_n X 1 rfl dX11_image_33 ?_
        refine V_bipush (v := (12 : Int32)) X (by decide) dX11_image_34 ?_
        refine V_icmp_ge X ti1 (show (12 : Int32).toInt = 12 from by decide) 57 dX11_image_36 (by decide) (fun c_36 => ?_) (fun c_36 => ?_)
        · refine V_iconst (v := (0 : Int32)) X (by decide) dX11_image_57 ?_
          refine V_istore_n (ls' := [(1, .int (0 : Int32)), (0, .ref m)]) X (by decide) rfl dX11_image_58 ?_
          refine V_ls (ls' := [(0, .ref m), (1, .int (0 : Int32))]) [1, 0] rfl ?_
          refine V_to (V_ind3 (fun (i1 : Int32) (k : Nat) (g41 : Nat → Int32) => (i1.toInt = ((k : Nat) : Int)) ∧ (k ≤ 24) ∧ (∀ j, j < k → g41 j = a5 j)) (fun (i1 : Int32) (k : Nat) (g41 : Nat → Int32) => 24 - k) (fun (i1 : Int32) (k : Nat) (g41 : Nat → Int32) => [(0, .ref m), (1, .int i1)]) (fun (i1 : Int32) (k : Nat) (g41 : Nat → Int32) => [(m, .inr (10, mF R v0 v7 v8 v9 v15 v16 v17 v18 v19 v27 v31 v32 v33 v34 (1 : Int32) v42 v44)), ((R 5), .inl (Y 0, 24, .inl a5)), ((R 36), .inl (Y 0, 7, .inl a36)), ((R 37), .inl (Y 0, 12, .inl a37)), ((R 39), .inl (Y 0, 7, .inl g39)), ((R 40), .inl (Y 0, 12, .inl g40)), ((R 41), .inl (Y 0, 24, .inl g41))]) (fun i1 k g41 hI_59 ih_59 => ?_) (0 : Int32) 0 a41 ?_) rfl rfl rfl rfl
          · obtain ⟨ti1, hkc, hcc⟩ := hI_59
            refine V_to (ls' := [(0, .ref m), (1, .int i1)]) (ws' := [(m, .inr (10, mF R v0 v7 v8 v9 v15 v16 v17 v18 v19 v27 v31 v32 v33 v34 (1 : Int32) v42 v44)), ((R 5), .inl (Y 0, 24, .inl a5)), ((R 36), .inl (Y 0, 7, .inl a36)), ((R 37), .inl (Y 0, 12, .inl a37)), ((R 39), .inl (Y 0, 7, .inl g39)), ((R 40), .inl (Y 0, 12, .inl g40)), ((R 41), .inl (Y 0, 24, .inl g41))]) ?_ rfl rfl rfl rfl
            refine V_iload_n X 1 rfl dX11_image_59 ?_
            refine V_bipush (v := (24 : Int32)) X (by decide) dX11_image_60 ?_
            refine V_icmp_ge X ti1 (show (24 : Int32).toInt = 24 from by decide) 83 dX11_image_62 (by decide) (fun c_62 => ?_) (fun c_62 => ?_)
            · refine V_aload_n X 0 rfl dX11_image_83 ?_
              refine V_get (C := RX11) (T := TX11) (N := 50) (ci := 10) (v := .ref (R 36)) X in_X11_image_X11 0 rfl rfl 36 (by decide) (List.mem_of_getElem? (i := 3) rfl) rfl rfl dX11_image_84 ?_
              refine V_iconst (v := (0 : Int32)) X (by decide) dX11_image_87 ?_
              refine V_iald X 2 0 rfl (show (0 : Int32).toInt = ((0 : Nat) : Int) from (show (0 : Int32).toInt = 0 from by decide)) (by omega) dX11_image_88 ?_
              exact V_iret X hr dX11_image_89 (⟨g39, g40, g41, rfl, rfl, (fun j hj => hca j (by omega)), (fun j hj => hcb j (by omega)), (fun j hj => hcc j (by omega))⟩)
            · refine V_aload_n X 0 rfl dX11_image_65 ?_
              refine V_get (C := RX11) (T := TX11) (N := 50) (ci := 10) (v := .ref (R 41)) X in_X11_image_X11 0 rfl rfl 41 (by decide) (List.mem_of_getElem? (i := 6) rfl) rfl rfl dX11_image_66 ?_
              refine V_iload_n X 1 rfl dX11_image_69 ?_
              refine V_aload_n X 0 rfl dX11_image_70 ?_
              refine V_get (C := RX11) (T := TX11) (N := 50) (ci := 10) (v := .ref (R 5)) X in_X11_image_X11 0 rfl rfl 5 (by decide) (List.mem_of_getElem? (i := 7) rfl) rfl rfl dX11_image_71 ?_
              refine V_iload_n X 1 rfl dX11_image_74 ?_
              refine V_iald X 1 k rfl ti1 (by omega) dX11_image_75 ?_
              refine V_iast (ws' := [(m, .inr (10, mF R v0 v7 v8 v9 v15 v16 v17 v18 v19 v27 v31 v32 v33 v34 (1 : Int32) v42 v44)), ((R 5), .inl (Y 0, 24, .inl a5)), ((R 36), .inl (Y 0, 7, .inl a36)), ((R 37), .inl (Y 0, 12, .inl a37)), ((R 39), .inl (Y 0, 7, .inl g39)), ((R 40), .inl (Y 0, 12, .inl g40)), ((R 41), .inl (Y 0, 24, .inl (upd g41 k (a5 k))))]) X 6 k rfl ti1 (by omega) rfl dX11_image_76 ?_
              refine V_iincZ X (fun vv_ => [(1, .int vv_), (0, .ref m)]) ti1 (by omega) (by omega) (by decide) 1 rfl (by decide) (fun _ => rfl) dX11_image_77 (fun x_1 ex_1 tx_1 => ?_)
              have tx_1 : x_1.toInt = (((k + 1) : Nat) : Int) := by omega
              refine V_goto X 59 (by decide) dX11_image_80 ?_
              refine V_ls (ls' := [(0, .ref m), (1, .int x_1)]) [1, 0] rfl ?_
              exact V_to (ih_59 x_1 (k + 1) (upd g41 k (a5 k)) ⟨(by omega), (by omega), (cp_s hcc)⟩ (by omega)) rfl rfl rfl rfl
          · exact ⟨(by have h9 : (0 : Int32).toInt = 0 := (show (0 : Int32).toInt = 0 from by decide); omega), (by omega), cp_0⟩
        · refine V_aload_n X 0 rfl dX11_image_39 ?_
          refine V_get (C := RX11) (T := TX11) (N := 50) (ci := 10) (v := .ref (R 40)) X in_X11_image_X11 0 rfl rfl 40 (by decide) (List.mem_of_getElem? (i := 4) rfl) rfl rfl dX11_image_40 ?_
          refine V_iload_n X 1 rfl dX11_image_43 ?_
          refine V_aload_n X 0 rfl dX11_image_44 ?_
          refine V_get (C := RX11) (T := TX11) (N := 50) (ci := 10) (v := .ref (R 37)) X in_X11_image_X11 0 rfl rfl 37 (by decide) (List.mem_of_getElem? (i := 5) rfl) rfl rfl dX11_image_45 ?_
          refine V_iload_n X 1 rfl dX11_image_48 ?_
          refine V_iald X 3 k rfl ti1 (by omega) dX11_image_49 ?_
          refine V_iast (ws' := [(m, .inr (10, mF R v0 v7 v8 v9 v15 v16 v17 v18 v19 v27 v31 v32 v33 v34 (1 : Int32) v42 v44)), ((R 5), .inl (Y 0, 24, .inl a5)), ((R 36), .inl (Y 0, 7, .inl a36)), ((R 37), .inl (Y 0, 12, .inl a37)), ((R 39), .inl (Y 0, 7, .inl g39)), ((R 40), .inl (Y 0, 12, .inl (upd g40 k (a37 k)))), ((R 41), .inl (Y 0, 24, .inl a41))]) X 5 k rfl ti1 (by omega) rfl dX11_image_50 ?_
          refine V_iincZ X (fun vv_ => [(1, .int vv_), (0, .ref m)]) ti1 (by omega) (by omega) (by decide) 1 rfl (by decide) (fun _ => rfl) dX11_image_51 (fun x_2 ex_2 tx_2 => ?_)
          have tx_2 : x_2.toInt = (((k + 1) : Nat) : Int) := by omega
          refine V_goto X 33 (by decide) dX11_image_54 ?_
          refine V_ls (ls' := [(0, .ref m), (1, .int x_2)]) [1, 0] rfl ?_
          exact V_to (ih_33 x_2 (k + 1) (upd g40 k (a37 k)) ⟨(by omega), (by omega), (cp_s hcb)⟩ (by omega)) rfl rfl rfl rfl
      · exact ⟨(by have h9 : (0 : Int32).toInt = 0 := (show (0 : Int32).toInt = 0 from by decide); omega), (by omega), cp_0⟩
    · refine V_aload_n X 0 rfl dX11_image_13 ?_
      refine V_get (C := RX11) (T := TX11) (N := 50) (ci := 10) (v := .ref (R 39)) X in_X11_image_X11 0 rfl rfl 39 (by decide) (List.mem_of_getElem? (i := 2) rfl) rfl rfl dX11_image_14 ?_
      refine V_iload_n X 1 rfl dX11_image_17 ?_
      refine V_aload_n X 0 rfl dX11_image_18 ?_
      refine V_get (C := RX11) (T := TX11) (N := 50) (ci := 10) (v := .ref (R 36)) X in_X11_image_X11 0 rfl rfl 36 (by decide) (List.mem_of_getElem? (i := 3) rfl) rfl rfl dX11_image_19 ?_
      refine V_iload_n X 1 rfl dX11_image_22 ?_
      refine V_iald X 2 k rfl ti1 (by omega) dX11_image_23 ?_
      refine V_iast (ws' := [(m, .inr (10, mF R v0 v7 v8 v9 v15 v16 v17 v18 v19 v27 v31 v32 v33 v34 (1 : Int32) v42 v44)), ((R 5), .inl (Y 0, 24, .inl a5)), ((R 36), .inl (Y 0, 7, .inl a36)), ((R 37), .inl (Y 0, 12, .inl a37)), ((R 39), .inl (Y 0, 7, .inl (upd g39 k (a36 k)))), ((R 40), .inl (Y 0, 12, .inl a40)), ((R 41), .inl (Y 0, 24, .inl a41))]) X 4 k rfl ti1 (by omega) rfl dX11_image_24 ?_
      refine V_iincZ X (fun vv_ => [(1, .int vv_), (0, .ref m)]) ti1 (by omega) (by omega) (by decide) 1 rfl (by decide) (fun _ => rfl) dX11_image_25 (fun x_3 ex_3 tx_3 => ?_)
      have tx_3 : x_3.toInt = (((k + 1) : Nat) : Int) := by omega
      refine V_goto X 7 (by decide) dX11_image_28 ?_
      refine V_ls (ls' := [(0, .ref m), (1, .int x_3)]) [1, 0] rfl ?_
      exact V_to (ih_7 x_3 (k + 1) (upd g39 k (a36 k)) ⟨(by omega), (by omega), (cp_s hca)⟩ (by omega)) rfl rfl rfl rfl
  · exact ⟨(by have h9 : (0 : Int32).toInt = 0 := (show (0 : Int32).toInt = 0 from by decide); omega), (by omega), cp_0⟩

theorem in_X11_back_X11 : ∀ w ∈ wsX110, w ∈ wsX11_back := fun w h => List.mem_cons_of_mem _ (List.mem_append_right _ h)
set_option maxHeartbeats 4000000 in
set_option maxRecDepth 100000 in
theorem c_X11_back (l : Launch) (D : va_G) (Y : Nat → ClassId) (m : Nat) (R : Nat → Nat) (v0 : Int32) (v7 : Int32) (v8 : Int32) (v9 : Int32) (v15 : Int32) (v16 : Int32) (v17 : Int32) (v18 : Int32) (v19 : Int32) (v27 : Int32) (v31 : Int32) (v32 : Int32) (v33 : Int32) (v34 : Int32) (v38 : Int32) (v42 : Int32) (v44 : Int32) (a5 : Nat → Int32) (a36 : Nat → Int32) (a37 : Nat → Int32) (a39 : Nat → Int32) (a40 : Nat → Int32) (a41 : Nat → Int32) : Mg l yX11_back wsX11_back ({ frames := 0, cells := 0, slots := 0, locals := 0 }) D Y [(m, .inr (10, mF R v0 v7 v8 v9 v15 v16 v17 v18 v19 v27 v31 v32 v33 v34 v38 v42 v44)), ((R 5), .inl (Y 0, 24, .inl a5)), ((R 36), .inl (Y 0, 7, .inl a36)), ((R 37), .inl (Y 0, 12, .inl a37)), ((R 39), .inl (Y 0, 7, .inl a39)), ((R 40), .inl (Y 0, 12, .inl a40)), ((R 41), .inl (Y 0, 24, .inl a41))] [.ref m] 0 0 (fun vv__ ww__ => (vv__ = some (.int (-5 : Int32)) ∧ ww__ = [(m, .inr (10, mF R v0 v7 v8 v9 v15 v16 v17 v18 v19 v27 v31 v32 v33 v34 v38 v42 v44)), ((R 5), .inl (Y 0, 24, .inl a5)), ((R 36), .inl (Y 0, 7, .inl a36)), ((R 37), .inl (Y 0, 12, .inl a37)), ((R 39), .inl (Y 0, 7, .inl a39)), ((R 40), .inl (Y 0, 12, .inl a40)), ((R 41), .inl (Y 0, 24, .inl a41))] ∧ (v38.toInt = 0)) ∨ (∃ (b36 : Nat → Int32), ∃ (b37 : Nat → Int32), ∃ (b5 : Nat → Int32), vv__ = some (.int (b36 0)) ∧ ww__ = [(m, .inr (10, mF R v0 v7 v8 v9 v15 v16 v17 v18 v19 v27 v31 v32 v33 v34 v38 v42 v44)), ((R 5), .inl (Y 0, 24, .inl b5)), ((R 36), .inl (Y 0, 7, .inl b36)), ((R 37), .inl (Y 0, 12, .inl b37)), ((R 39), .inl (Y 0, 7, .inl a39)), ((R 40), .inl (Y 0, 12, .inl a40)), ((R 41), .inl (Y 0, 24, .inl a41))] ∧ (v38.toInt ≠ 0) ∧ (∀ j, j < 7 → b36 j = a39 j) ∧ (∀ j, j < 12 → b37 j = a40 j) ∧ (∀ j, j < 24 → b5 j = a41 j))) := by
  refine Mg_of (cc := cX11_back) (maxL := 2) (ret := (some .int)) (ls0 := [(0, .ref m)]) RX11 (by decide) rfl rfl rfl (Nat.le_of_ble_eq_true rfl) (fun p__ e__ s__ m__ b__ t__ c__ X hr hn => ?_)
  refine V_aload_n X 0 rfl dX11_back_0 ?_
  refine V_get (C := RX11) (T := TX11) (N := 50) (ci := 10) (v := .int v38) X in_X11_back_X11 0 rfl rfl 38 (by decide) (List.mem_of_getElem? (i := 1) rfl) rfl rfl dX11_back_1 ?_
  refine V_if_ne X rfl 10 dX11_back_4 (by decide) (fun c_4 => ?_) (fun c_4 => ?_)
  · refine V_iconst (v := (0 : Int32)) X (by decide) dX11_back_10 ?_
    refine V_istore_n (ls' := [(1, .int (0 : Int32)), (0, .ref m)]) X (by decide) rfl dX11_back_11 ?_
    refine V_ls (ls' := [(0, .ref m), (1, .int (0 : Int32))]) [1, 0] rfl ?_
    refine V_to (V_ind3 (fun (i1 : Int32) (k : Nat) (g36 : Nat → Int32) => (i1.toInt = ((k : Nat) : Int)) ∧ (k ≤ 7) ∧ (∀ j, j < k → g36 j = a39 j)) (fun (i1 : Int32) (k : Nat) (g36 : Nat → Int32) => 7 - k) (fun (i1 : Int32) (k : Nat) (g36 : Nat → Int32) => [(0, .ref m), (1, .int i1)]) (fun (i1 : Int32) (k : Nat) (g36 : Nat → Int32) => [(m, .inr (10, mF R v0 v7 v8 v9 v15 v16 v17 v18 v19 v27 v31 v32 v33 v34 v38 v42 v44)), ((R 5), .inl (Y 0, 24, .inl a5)), ((R 36), .inl (Y 0, 7, .inl g36)), ((R 37), .inl (Y 0, 12, .inl a37)), ((R 39), .inl (Y 0, 7, .inl a39)), ((R 40), .inl (Y 0, 12, .inl a40)), ((R 41), .inl (Y 0, 24, .inl a41))]) (fun i1 k g36 hI_12 ih_12 => ?_) (0 : Int32) 0 a36 ?_) rfl rfl rfl rfl
    · obtain ⟨ti1, hka, hca⟩ := hI_12
      refine V_to (ls' := [(0, .ref m), (1, .int i1)]) (ws' := [(m, .inr (10, mF R v0 v7 v8 v9 v15 v16 v17 v18 v19 v27 v31 v32 v33 v34 v38 v42 v44)), ((R 5), .inl (Y 0, 24, .inl a5)), ((R 36), .inl (Y 0, 7, .inl g36)), ((R 37), .inl (Y 0, 12, .inl a37)), ((R 39), .inl (Y 0, 7, .inl a39)), ((R 40), .inl (Y 0, 12, .inl a40)), ((R 41), .inl (Y 0, 24, .inl a41))]) ?_ rfl rfl rfl rfl
      refine V_iload_n X 1 rfl dX11_back_12 ?_
      refine V_bipush (v := (7 : Int32)) X (by decide) dX11_back_13 ?_
      refine V_icmp_ge X ti1 (show (7 : Int32).toInt = 7 from by decide) 36 dX11_back_15 (by decide) (fun c_15 => ?_) (fun c_15 => ?_)
      · refine V_iconst (v := (0 : Int32)) X (by decide) dX11_back_36 ?_
        refine V_istore_n (ls' := [(1, .int (0 : Int32)), (0, .ref m)]) X (by decide) rfl dX11_back_37 ?_
        refine V_ls (ls' := [(0, .ref m), (1, .int (0 : Int32))]) [1, 0] rfl ?_
        refine V_to (V_ind3 (fun (i1 : Int32) (k : Nat) (g37 : Nat → Int32) => (i1.toInt = ((k : Nat) : Int)) ∧ (k ≤ 12) ∧ (∀ j, j < k → g37 j = a40 j)) (fun (i1 : Int32) (k : Nat) (g37 : Nat → Int32) => 12 - k) (fun (i1 : Int32) (k : Nat) (g37 : Nat → Int32) => [(0, .ref m), (1, .int i1)]) (fun (i1 : Int32) (k : Nat) (g37 : Nat → Int32) => [(m, .inr (10, mF R v0 v7 v8 v9 v15 v16 v17 v18 v19 v27 v31 v32 v33 v34 v38 v42 v44)), ((R 5), .inl (Y 0, 24, .inl a5)), ((R 36), .inl (Y 0, 7, .inl g36)), ((R 37), .inl (Y 0, 12, .inl g37)), ((R 39), .inl (Y 0, 7, .inl a39)), ((R 40), .inl (Y 0, 12, .inl a40)), ((R 41), .inl (Y 0, 24, .inl a41))]) (fun i1 k g37 hI_38 ih_38 => ?_) (0 : Int32) 0 a37 ?_) rfl rfl rfl rfl
        · obtain ⟨ti1, hkb, hcb⟩ := hI_38
          refine V_to (ls' := [(0, .ref m), (1, .int i1)]) (ws' := [(m, .inr (10, mF R v0 v7 v8 v9 v15 v16 v17 v18 v19 v27 v31 v32 v33 v34 v38 v42 v44)), ((R 5), .inl (Y 0, 24, .inl a5)), ((R 36), .inl (Y 0, 7, .inl g36)), ((R 37), .inl (Y 0, 12, .inl g37)), ((R 39), .inl (Y 0, 7, .inl a39)), ((R 40), .inl (Y 0, 12, .inl a40)), ((R 41), .inl (Y 0, 24, .inl a41))]) ?_ rfl rfl rfl rfl
          refine V_iload_n X 1 rfl dX11_back_38 ?_
          refine V_bipush (v := (12 : Int32)) X (by decide) dX11_back_39 ?_
          refine V_icmp_ge X ti1 (show (12 : Int32).toInt = 12 from by decide) 62 dX11_back_41 (by decide) (fun c_41 => ?_) (fun c_41 => ?_)
          · refine V_iconst (v := (0 : Int32)) X (by decide) dX11_back_62 ?_
            refine V_istore_n (ls' := [(1, .int (0 : Int32)), (0, .ref m)]) X (by decide) rfl dX11_back_63 ?_
            refine V_ls (ls' := [(0, .ref m), (1, .int (0 : Int32))]) [1, 0] rfl ?_
            refine V_to (V_ind3 (fun (i1 : Int32) (k : Nat) (g5 : Nat → Int32) => (i1.toInt = ((k : Nat) : Int)) ∧ (k ≤ 24) ∧ (∀ j, j < k → g5 j = a41 j)) (fun (i1 : Int32) (k : Nat) (g5 : Nat → Int32) => 24 - k) (fun (i1 : Int32) (k : Nat) (g5 : Nat → Int32) => [(0, .ref m), (1, .int i1)]) (fun (i1 : Int32) (k : Nat) (g5 : Nat → Int32) => [(m, .inr (10, mF R v0 v7 v8 v9 v15 v16 v17 v18 v19 v27 v31 v32 v33 v34 v38 v42 v44)), ((R 5), .inl (Y 0, 24, .inl g5)), ((R 36), .inl (Y 0, 7, .inl g36)), ((R 37), .inl (Y 0, 12, .inl g37)), ((R 39), .inl (Y 0, 7, .inl a39)), ((R 40), .inl (Y 0, 12, .inl a40)), ((R 41), .inl (Y 0, 24, .inl a41))]) (fun i1 k g5 hI_64 ih_64 => ?_) (0 : Int32) 0 a5 ?_) rfl rfl rfl rfl
            · obtain ⟨ti1, hkc, hcc⟩ := hI_64
              refine V_to (ls' := [(0, .ref m), (1, .int i1)]) (ws' := [(m, .inr (10, mF R v0 v7 v8 v9 v15 v16 v17 v18 v19 v27 v31 v32 v33 v34 v38 v42 v44)), ((R 5), .inl (Y 0, 24, .inl g5)), ((R 36), .inl (Y 0, 7, .inl g36)), ((R 37), .inl (Y 0, 12, .inl g37)), ((R 39), .inl (Y 0, 7, .inl a39)), ((R 40), .inl (Y 0, 12, .inl a40)), ((R 41), .inl (Y 0, 24, .inl a41))]) ?_ rfl rfl rfl rfl
              refine V_iload_n X 1 rfl dX11_back_64 ?_
              refine V_bipush (v := (24 : Int32)) X (by decide) dX11_back_65 ?_
              refine V_icmp_ge X ti1 (show (24 : Int32).toInt = 24 from by decide) 88 dX11_back_67 (by decide) (fun c_67 => ?_) (fun c_67 => ?_)
              · refine V_aload_n X 0 rfl dX11_back_88 ?_
                refine V_get (C := RX11) (T := TX11) (N := 50) (ci := 10) (v := .ref (R 36)) X in_X11_back_X11 0 rfl rfl 36 (by decide) (List.mem_of_getElem? (i := 2) rfl) rfl rfl dX11_back_89 ?_
                refine V_iconst (v := (0 : Int32)) X (by decide) dX11_back_92 ?_
                refine V_iald X 2 0 rfl (show (0 : Int32).toInt = ((0 : Nat) : Int) from (show (0 : Int32).toInt = 0 from by decide)) (by omega) dX11_back_93 ?_
                exact V_iret X hr dX11_back_94 (Or.inr (⟨g36, g37, g5, (by first | rfl | (congr 2)), rfl, c_4, (fun j hj => hca j (by omega)), (fun j hj => hcb j (by omega)), (fun j hj => hcc j (by omega))⟩))
              · refine V_aload_n X 0 rfl dX11_back_70 ?_
                refine V_get (C := RX11) (T := TX11) (N := 50) (ci := 10) (v := .ref (R 5)) X in_X11_back_X11 0 rfl rfl 5 (by decide) (List.mem_of_getElem? (i := 6) rfl) rfl rfl dX11_back_71 ?_
                refine V_iload_n X 1 rfl dX11_back_74 ?_
                refine V_aload_n X 0 rfl dX11_back_75 ?_
                refine V_get (C := RX11) (T := TX11) (N := 50) (ci := 10) (v := .ref (R 41)) X in_X11_back_X11 0 rfl rfl 41 (by decide) (List.mem_of_getElem? (i := 7) rfl) rfl rfl dX11_back_76 ?_
                refine V_iload_n X 1 rfl dX11_back_79 ?_
                refine V_iald X 6 k rfl ti1 (by omega) dX11_back_80 ?_
                refine V_iast (ws' := [(m, .inr (10, mF R v0 v7 v8 v9 v15 v16 v17 v18 v19 v27 v31 v32 v33 v34 v38 v42 v44)), ((R 5), .inl (Y 0, 24, .inl (upd g5 k (a41 k)))), ((R 36), .inl (Y 0, 7, .inl g36)), ((R 37), .inl (Y 0, 12, .inl g37)), ((R 39), .inl (Y 0, 7, .inl a39)), ((R 40), .inl (Y 0, 12, .inl a40)), ((R 41), .inl (Y 0, 24, .inl a41))]) X 1 k rfl ti1 (by omega) rfl dX11_back_81 ?_
                refine V_iincZ X (fun vv_ => [(1, .int vv_), (0, .ref m)]) ti1 (by omega) (by omega) (by decide) 1 rfl (by decide) (fun _ => rfl) dX11_back_82 (fun x_1 ex_1 tx_1 => ?_)
                have tx_1 : x_1.toInt = (((k + 1) : Nat) : Int) := by omega
                refine V_goto X 64 (by decide) dX11_back_85 ?_
                refine V_ls (ls' := [(0, .ref m), (1, .int x_1)]) [1, 0] rfl ?_
                exact V_to (ih_64 x_1 (k + 1) (upd g5 k (a41 k)) ⟨(by omega), (by omega), (cp_s hcc)⟩ (by omega)) rfl rfl rfl rfl
            · exact ⟨(by have h9 : (0 : Int32).toInt = 0 := (show (0 : Int32).toInt = 0 from by decide); omega), (by omega), cp_0⟩
          · refine V_aload_n X 0 rfl dX11_back_44 ?_
            refine V_get (C := RX11) (T := TX11) (N := 50) (ci := 10) (v := .ref (R 37)) X in_X11_back_X11 0 rfl rfl 37 (by decide) (List.mem_of_getElem? (i := 4) rfl) rfl rfl dX11_back_45 ?_
            refine V_iload_n X 1 rfl dX11_back_48 ?_
            refine V_aload_n X 0 rfl dX11_back_49 ?_
            refine V_get (C := RX11) (T := TX11) (N := 50) (ci := 10) (v := .ref (R 40)) X in_X11_back_X11 0 rfl rfl 40 (by decide) (List.mem_of_getElem? (i := 5) rfl) rfl rfl dX11_back_50 ?_
            refine V_iload_n X 1 rfl dX11_back_53 ?_
            refine V_iald X 5 k rfl ti1 (by omega) dX11_back_54 ?_
            refine V_iast (ws' := [(m, .inr (10, mF R v0 v7 v8 v9 v15 v16 v17 v18 v19 v27 v31 v32 v33 v34 v38 v42 v44)), ((R 5), .inl (Y 0, 24, .inl a5)), ((R 36), .inl (Y 0, 7, .inl g36)), ((R 37), .inl (Y 0, 12, .inl (upd g37 k (a40 k)))), ((R 39), .inl (Y 0, 7, .inl a39)), ((R 40), .inl (Y 0, 12, .inl a40)), ((R 41), .inl (Y 0, 24, .inl a41))]) X 3 k rfl ti1 (by omega) rfl dX11_back_55 ?_
            refine V_iincZ X (fun vv_ => [(1, .int vv_), (0, .ref m)]) ti1 (by omega) (by omega) (by decide) 1 rfl (by decide) (fun _ => rfl) dX11_back_56 (fun x_2 ex_2 tx_2 => ?_)
            have tx_2 : x_2.toInt = (((k + 1) : Nat) : Int) := by omega
            refine V_goto X 38 (by decide) dX11_back_59 ?_
            refine V_ls (ls' := [(0, .ref m), (1, .int x_2)]) [1, 0] rfl ?_
            exact V_to (ih_38 x_2 (k + 1) (upd g37 k (a40 k)) ⟨(by omega), (by omega), (cp_s hcb)⟩ (by omega)) rfl rfl rfl rfl
        · exact ⟨(by have h9 : (0 : Int32).toInt = 0 := (show (0 : Int32).toInt = 0 from by decide); omega), (by omega), cp_0⟩
      · refine V_aload_n X 0 rfl dX11_back_18 ?_
        refine V_get (C := RX11) (T := TX11) (N := 50) (ci := 10) (v := .ref (R 36)) X in_X11_back_X11 0 rfl rfl 36 (by decide) (List.mem_of_getElem? (i := 2) rfl) rfl rfl dX11_back_19 ?_
        refine V_iload_n X 1 rfl dX11_back_22 ?_
        refine V_aload_n X 0 rfl dX11_back_23 ?_
        refine V_get (C := RX11) (T := TX11) (N := 50) (ci := 10) (v := .ref (R 39)) X in_X11_back_X11 0 rfl rfl 39 (by decide) (List.mem_of_getElem? (i := 3) rfl) rfl rfl dX11_back_24 ?_
        refine V_iload_n X 1 rfl dX11_back_27 ?_
        refine V_iald X 4 k rfl ti1 (by omega) dX11_back_28 ?_
        refine V_iast (ws' := [(m, .inr (10, mF R v0 v7 v8 v9 v15 v16 v17 v18 v19 v27 v31 v32 v33 v34 v38 v42 v44)), ((R 5), .inl (Y 0, 24, .inl a5)), ((R 36), .inl (Y 0, 7, .inl (upd g36 k (a39 k)))), ((R 37), .inl (Y 0, 12, .inl a37)), ((R 39), .inl (Y 0, 7, .inl a39)), ((R 40), .inl (Y 0, 12, .inl a40)), ((R 41), .inl (Y 0, 24, .inl a41))]) X 2 k rfl ti1 (by omega) rfl dX11_back_29 ?_
        refine V_iincZ X (fun vv_ => [(1, .int vv_), (0, .ref m)]) ti1 (by omega) (by omega) (by decide) 1 rfl (by decide) (fun _ => rfl) dX11_back_30 (fun x_3 ex_3 tx_3 => ?_)
        have tx_3 : x_3.toInt = (((k + 1) : Nat) : Int) := by omega
        refine V_goto X 12 (by decide) dX11_back_33 ?_
        refine V_ls (ls' := [(0, .ref m), (1, .int x_3)]) [1, 0] rfl ?_
        exact V_to (ih_12 x_3 (k + 1) (upd g36 k (a39 k)) ⟨(by omega), (by omega), (cp_s hca)⟩ (by omega)) rfl rfl rfl rfl
    · exact ⟨(by have h9 : (0 : Int32).toInt = 0 := (show (0 : Int32).toInt = 0 from by decide); omega), (by omega), cp_0⟩
  · refine V_bipush (v := (-5 : Int32)) X (by decide) dX11_back_7 ?_
    exact V_iret X hr dX11_back_9 (Or.inl ⟨rfl, rfl, c_4⟩)

theorem in_X11_isBody_X11 : ∀ w ∈ wsX110, w ∈ wsX11_isBody := fun w h => List.mem_cons_of_mem _ (List.mem_append_right _ h)
set_option maxHeartbeats 4000000 in
set_option maxRecDepth 100000 in
theorem c_X11_isBody (l : Launch) (D : va_G) (Y : Nat → ClassId) (m : Nat) (R : Nat → Nat) (v0 : Int32) (v7 : Int32) (v8 : Int32) (v9 : Int32) (v15 : Int32) (v16 : Int32) (v17 : Int32) (v18 : Int32) (v19 : Int32) (v27 : Int32) (v31 : Int32) (v32 : Int32) (v33 : Int32) (v34 : Int32) (v38 : Int32) (v42 : Int32) (v44 : Int32) (nb_ : Nat) (b : Int32) (tv42 : v42.toInt = ((nb_ : Nat) : Int)) (hnb : nb_ ≤ 50) : Mg l yX11_isBody wsX11_isBody ({ frames := 1, cells := 0, slots := 0, locals := 22 }) D Y [(m, .inr (10, mF R v0 v7 v8 v9 v15 v16 v17 v18 v19 v27 v31 v32 v33 v34 v38 v42 v44))] [.ref m, .int b] 0 0 (fun vv__ ww__ => (vv__ = some (.int (1 : Int32)) ∧ ww__ = [(m, .inr (10, mF R v0 v7 v8 v9 v15 v16 v17 v18 v19 v27 v31 v32 v33 v34 v38 v42 v44))] ∧ (0 ≤ b.toInt ∧ b.toInt < ((nb_ : Nat) : Int))) ∨ (vv__ = some (.int (0 : Int32)) ∧ ww__ = [(m, .inr (10, mF R v0 v7 v8 v9 v15 v16 v17 v18 v19 v27 v31 v32 v33 v34 v38 v42 v44))] ∧ (¬ (0 ≤ b.toInt ∧ b.toInt < ((nb_ : Nat) : Int))))) := by
  refine Mg_of (cc := cX11_isBody) (maxL := 2) (ret := (some .boolean)) (ls0 := [(0, .ref m), (1, .int b)]) RX11 (by decide) rfl rfl rfl (Nat.le_of_ble_eq_true rfl) (fun p__ e__ s__ m__ b__ t__ c__ X hr hn => ?_)
  refine V_iload_n X 1 rfl dX11_isBody_0 ?_
  refine V_iconst (v := (0 : Int32)) X (by decide) dX11_isBody_1 ?_
  refine V_aload_n X 0 rfl dX11_isBody_2 ?_
  refine V_get (C := RX11) (T := TX11) (N := 50) (ci := 10) (v := .int v42) X in_X11_isBody_X11 0 rfl rfl 42 (by decide) (List.mem_of_getElem? (i := 1) rfl) rfl rfl dX11_isBody_3 ?_
  refine V_iconst (v := (1 : Int32)) X (by decide) dX11_isBody_6 ?_
  refine V_isubZ X tv42 (show (1 : Int32).toInt = 1 from by decide) (by omega) (by omega) dX11_isBody_7 (fun x_1 ex_1 tx_1 => ?_)
  refine V_callS (wr := [(m, .inr (10, mF R v0 v7 v8 v9 v15 v16 v17 v18 v19 v27 v31 v32 v33 v34 v38 v42 v44))]) (st := []) X (c_X11_in l D Y b (0 : Int32) x_1) 3 gX11_isBody_X11_in rfl (by decide +kernel) ⟨rfl, rfl⟩ ⟨Nat.le_of_ble_eq_true rfl, Nat.le_of_ble_eq_true rfl⟩ [] [0] rfl rfl rfl rfl (by decide) rfl rfl (Nat.le_of_ble_eq_true rfl) ⟨Nat.le_of_ble_eq_true rfl, Nat.le_of_ble_eq_true rfl⟩ dX11_isBody_8 (fun v_8 w_8 h_8 => ?_)
  rcases h_8 with ⟨rfl, rfl, hhy_3⟩ | ⟨rfl, rfl, hhn_4⟩
  · refine V_to (pc' := 11) (ls' := [(0, .ref m), (1, .int b)]) (st' := [.int (1 : Int32)]) (ws' := [(m, .inr (10, mF R v0 v7 v8 v9 v15 v16 v17 v18 v19 v27 v31 v32 v33 v34 v38 v42 v44))]) ?_ rfl rfl rfl rfl
    have hc_0 : (0 : Int32).toInt = 0 := by decide
    exact V_zret X hr rfl dX11_isBody_11 (Or.inl ⟨rfl, rfl, (by omega)⟩)
  · refine V_to (pc' := 11) (ls' := [(0, .ref m), (1, .int b)]) (st' := [.int (0 : Int32)]) (ws' := [(m, .inr (10, mF R v0 v7 v8 v9 v15 v16 v17 v18 v19 v27 v31 v32 v33 v34 v38 v42 v44))]) ?_ rfl rfl rfl rfl
    have hc_0 : (0 : Int32).toInt = 0 := by decide
    exact V_zret X hr rfl dX11_isBody_11 (Or.inr (⟨rfl, rfl, (by omega)⟩))

theorem in_X11_body_X11 : ∀ w ∈ wsX110, w ∈ wsX11_body := fun w h => List.mem_cons_of_mem _ (List.mem_append_right _ h)
set_option maxHeartbeats 4000000 in
set_option maxRecDepth 100000 in
theorem c_X11_body (l : Launch) (D : va_G) (Y : Nat → ClassId) (m : Nat) (R : Nat → Nat) (v0 : Int32) (v7 : Int32) (v8 : Int32) (v9 : Int32) (v15 : Int32) (v16 : Int32) (v17 : Int32) (v18 : Int32) (v19 : Int32) (v27 : Int32) (v31 : Int32) (v32 : Int32) (v33 : Int32) (v34 : Int32) (v38 : Int32) (v42 : Int32) (v44 : Int32) (a43 : Nat → Int32) (nb_ : Nat) (i : Int32) (tv42 : v42.toInt = ((nb_ : Nat) : Int)) (hnb : nb_ ≤ 50) : Mg l yX11_body wsX11_body ({ frames := 1, cells := 0, slots := 0, locals := 22 }) D Y [(m, .inr (10, mF R v0 v7 v8 v9 v15 v16 v17 v18 v19 v27 v31 v32 v33 v34 v38 v42 v44)), ((R 43), .inl (Y 0, 50, .inl a43))] [.ref m, .int i] 0 0 (fun vv__ ww__ => (vv__ = some (.int (-1 : Int32)) ∧ ww__ = [(m, .inr (10, mF R v0 v7 v8 v9 v15 v16 v17 v18 v19 v27 v31 v32 v33 v34 v38 v42 v44)), ((R 43), .inl (Y 0, 50, .inl a43))] ∧ (¬ (0 ≤ i.toInt ∧ i.toInt < 8))) ∨ (vv__ = some (.int (-3 : Int32)) ∧ ww__ = [(m, .inr (10, mF R v0 v7 v8 v9 v15 v16 v17 v18 v19 v27 v31 v32 v33 v34 v38 v42 v44)), ((R 43), .inl (Y 0, 50, .inl a43))] ∧ (0 ≤ i.toInt ∧ i.toInt < 8) ∧ (nb_ = 50)) ∨ (∃ (r : Int32), ∃ (z42 : Int32), vv__ = some (.int r) ∧ ww__ = [(m, .inr (10, mF R v0 v7 v8 v9 v15 v16 v17 v18 v19 v27 v31 v32 v33 v34 v38 z42 v44)), ((R 43), .inl (Y 0, 50, .inl (upd a43 nb_ i)))] ∧ (0 ≤ i.toInt ∧ i.toInt < 8) ∧ (nb_ < 50) ∧ (r.toInt = ((nb_ : Nat) : Int)) ∧ (z42.toInt = ((nb_ + 1 : Nat) : Int)))) := by
  refine Mg_of (cc := cX11_body) (maxL := 2) (ret := (some .int)) (ls0 := [(0, .ref m), (1, .int i)]) RX11 (by decide) rfl rfl rfl (Nat.le_of_ble_eq_true rfl) (fun p__ e__ s__ m__ b__ t__ c__ X hr hn => ?_)
  refine V_iload_n X 1 rfl dX11_body_0 ?_
  refine V_iconst (v := (0 : Int32)) X (by decide) dX11_body_1 ?_
  refine V_bipush (v := (7 : Int32)) X (by decide) dX11_body_2 ?_
  refine V_callS (wr := [(m, .inr (10, mF R v0 v7 v8 v9 v15 v16 v17 v18 v19 v27 v31 v32 v33 v34 v38 v42 v44)), ((R 43), .inl (Y 0, 50, .inl a43))]) (st := []) X (c_X11_in l D Y i (0 : Int32) (7 : Int32)) 3 gX11_body_X11_in rfl (by decide +kernel) ⟨rfl, rfl⟩ ⟨Nat.le_of_ble_eq_true rfl, Nat.le_of_ble_eq_true rfl⟩ [] [0, 1] rfl rfl rfl rfl (by decide) rfl rfl (Nat.le_of_ble_eq_true rfl) ⟨Nat.le_of_ble_eq_true rfl, Nat.le_of_ble_eq_true rfl⟩ dX11_body_4 (fun v_4 w_4 h_4 => ?_)
  rcases h_4 with ⟨rfl, rfl, hhy_2⟩ | ⟨rfl, rfl, hhn_3⟩
  · refine V_to (pc' := 7) (ls' := [(0, .ref m), (1, .int i)]) (st' := [.int (1 : Int32)]) (ws' := [(m, .inr (10, mF R v0 v7 v8 v9 v15 v16 v17 v18 v19 v27 v31 v32 v33 v34 v38 v42 v44)), ((R 43), .inl (Y 0, 50, .inl a43))]) ?_ rfl rfl rfl rfl
    have hc_0 : (0 : Int32).toInt = 0 := by decide
    have hc_7 : (7 : Int32).toInt = 7 := by decide
    refine V_if_ne X (show (1 : Int32).toInt = 1 from by decide) 12 dX11_body_7 (by decide) (fun _ => ?_) (fun c_7 => absurd c_7 (by decide))
    refine V_aload_n X 0 rfl dX11_body_12 ?_
    refine V_get (C := RX11) (T := TX11) (N := 50) (ci := 10) (v := .int v42) X in_X11_body_X11 0 rfl rfl 42 (by decide) (List.mem_of_getElem? (i := 1) rfl) rfl rfl dX11_body_13 ?_
    refine V_bipush (v := (50 : Int32)) X (by decide) dX11_body_16 ?_
    refine V_icmp_ne X tv42 (show (50 : Int32).toInt = 50 from by decide) 24 dX11_body_18 (by decide) (fun c_18 => ?_) (fun c_18 => ?_)
    · refine V_aload_n X 0 rfl dX11_body_24 ?_
      refine V_get (C := RX11) (T := TX11) (N := 50) (ci := 10) (v := .ref (R 43)) X in_X11_body_X11 0 rfl rfl 43 (by decide) (List.mem_of_getElem? (i := 2) rfl) rfl rfl dX11_body_25 ?_
      refine V_aload_n X 0 rfl dX11_body_28 ?_
      refine V_get (C := RX11) (T := TX11) (N := 50) (ci := 10) (v := .int v42) X in_X11_body_X11 0 rfl rfl 42 (by decide) (List.mem_of_getElem? (i := 1) rfl) rfl rfl dX11_body_29 ?_
      refine V_iload_n X 1 rfl dX11_body_32 ?_
      refine V_iast (ws' := [(m, .inr (10, mF R v0 v7 v8 v9 v15 v16 v17 v18 v19 v27 v31 v32 v33 v34 v38 v42 v44)), ((R 43), .inl (Y 0, 50, .inl (upd a43 nb_ i)))]) X 1 nb_ rfl tv42 (by omega) rfl dX11_body_33 ?_
      refine V_aload_n X 0 rfl dX11_body_34 ?_
      refine V_dup X rfl dX11_body_35 ?_
      refine V_get (C := RX11) (T := TX11) (N := 50) (ci := 10) (v := .int v42) X in_X11_body_X11 0 rfl rfl 42 (by decide) (List.mem_of_getElem? (i := 1) rfl) rfl rfl dX11_body_36 ?_
      refine V_iconst (v := (1 : Int32)) X (by decide) dX11_body_39 ?_
      refine V_iaddZ X tv42 (show (1 : Int32).toInt = 1 from by decide) (by omega) (by omega) dX11_body_40 (fun x_4 ex_4 tx_4 => ?_)
      have tx_4 : x_4.toInt = (((nb_ + 1) : Nat) : Int) := by omega
      refine V_put (C := RX11) (T := TX11) (N := 50) (ci := 10) (v := .int x_4) (ty := tyX11 42) (ws' := [(m, .inr (10, mF R v0 v7 v8 v9 v15 v16 v17 v18 v19 v27 v31 v32 v33 v34 v38 x_4 v44)), ((R 43), .inl (Y 0, 50, .inl (upd a43 nb_ i)))]) X in_X11_body_X11 0 rfl rfl 42 (by decide) (List.mem_of_getElem? (i := 1) rfl) rfl tyX11 tyX11_ok nmX11 rfl (tyX11_ok 42 (by decide)) rfl rfl (Nat.le_of_ble_eq_true rfl) rfl dX11_body_41 ?_
      refine V_aload_n X 0 rfl dX11_body_44 ?_
      refine V_get (C := RX11) (T := TX11) (N := 50) (ci := 10) (v := .int x_4) X in_X11_body_X11 0 rfl rfl 42 (by decide) (List.mem_of_getElem? (i := 1) rfl) rfl rfl dX11_body_45 ?_
      refine V_iconst (v := (1 : Int32)) X (by decide) dX11_body_48 ?_
      refine V_isubZ X tx_4 (show (1 : Int32).toInt = 1 from by decide) (by omega) (by omega) dX11_body_49 (fun x_5 ex_5 tx_5 => ?_)
      exact V_iret X hr dX11_body_50 (Or.inr (Or.inr (⟨x_5, x_4, rfl, rfl, (by omega), (by omega), (by omega), (by omega)⟩)))
    · refine V_bipush (v := (-3 : Int32)) X (by decide) dX11_body_21 ?_
      exact V_iret X hr dX11_body_23 (Or.inr (Or.inl ⟨rfl, rfl, (by omega), (by omega)⟩))
  · refine V_to (pc' := 7) (ls' := [(0, .ref m), (1, .int i)]) (st' := [.int (0 : Int32)]) (ws' := [(m, .inr (10, mF R v0 v7 v8 v9 v15 v16 v17 v18 v19 v27 v31 v32 v33 v34 v38 v42 v44)), ((R 43), .inl (Y 0, 50, .inl a43))]) ?_ rfl rfl rfl rfl
    have hc_0 : (0 : Int32).toInt = 0 := by decide
    have hc_7 : (7 : Int32).toInt = 7 := by decide
    refine V_if_ne X (show (0 : Int32).toInt = 0 from by decide) 12 dX11_body_7 (by decide) (fun c_7 => absurd c_7 (by decide)) (fun _ => ?_)
    refine V_iconst (v := (-1 : Int32)) X (by decide) dX11_body_10 ?_
    exact V_iret X hr dX11_body_11 (Or.inl ⟨rfl, rfl, (by omega)⟩)

theorem in_X11_ran_X11 : ∀ w ∈ wsX110, w ∈ wsX11_ran := fun w h => List.mem_cons_of_mem _ (List.mem_append_right _ h)
set_option maxHeartbeats 4000000 in
set_option maxRecDepth 100000 in
theorem c_X11_ran (l : Launch) (D : va_G) (Y : Nat → ClassId) (m : Nat) (R : Nat → Nat) (v0 : Int32) (v7 : Int32) (v8 : Int32) (v9 : Int32) (v15 : Int32) (v16 : Int32) (v17 : Int32) (v18 : Int32) (v19 : Int32) (v27 : Int32) (v31 : Int32) (v32 : Int32) (v33 : Int32) (v34 : Int32) (v38 : Int32) (v42 : Int32) (v44 : Int32) (a45 : Nat → Int32) (t_ : List Nat) (x : Int32) (q : Nat) (tv44 : v44.toInt = ((t_.length : Nat) : Int)) (hTR : TRC a45 t_) (htl : t_.length + 1 ≤ 60) (tx : x.toInt = ((q : Nat) : Int)) : Mg l yX11_ran wsX11_ran ({ frames := 0, cells := 0, slots := 0, locals := 0 }) D Y [(m, .inr (10, mF R v0 v7 v8 v9 v15 v16 v17 v18 v19 v27 v31 v32 v33 v34 v38 v42 v44)), ((R 45), .inl (Y 0, 24, .inl a45))] [.ref m, .int x] 0 0 (fun vv__ ww__ => (∃ (z44 : Int32), ∃ (b45 : Nat → Int32), vv__ = none ∧ ww__ = [(m, .inr (10, mF R v0 v7 v8 v9 v15 v16 v17 v18 v19 v27 v31 v32 v33 v34 v38 v42 z44)), ((R 45), .inl (Y 0, 24, .inl b45))] ∧ (z44.toInt = (((t_ ++ [q]).length : Nat) : Int)) ∧ (TRC b45 (t_ ++ [q])))) := by
  refine Mg_of (cc := cX11_ran) (maxL := 2) (ret := none) (ls0 := [(0, .ref m), (1, .int x)]) RX11 (by decide) rfl rfl rfl (Nat.le_of_ble_eq_true rfl) (fun p__ e__ s__ m__ b__ t__ c__ X hr hn => ?_)
  refine V_aload_n X 0 rfl dX11_ran_0 ?_
  refine V_get (C := RX11) (T := TX11) (N := 50) (ci := 10) (v := .int v44) X in_X11_ran_X11 0 rfl rfl 44 (by decide) (List.mem_of_getElem? (i := 1) rfl) rfl rfl dX11_ran_1 ?_
  refine V_bipush (v := (24 : Int32)) X (by decide) dX11_ran_4 ?_
  refine V_icmp_ge X tv44 (show (24 : Int32).toInt = 24 from by decide) 19 dX11_ran_6 (by decide) (fun c_6 => ?_) (fun c_6 => ?_)
  · refine V_aload_n X 0 rfl dX11_ran_19 ?_
    refine V_dup X rfl dX11_ran_20 ?_
    refine V_get (C := RX11) (T := TX11) (N := 50) (ci := 10) (v := .int v44) X in_X11_ran_X11 0 rfl rfl 44 (by decide) (List.mem_of_getElem? (i := 1) rfl) rfl rfl dX11_ran_21 ?_
    refine V_iconst (v := (1 : Int32)) X (by decide) dX11_ran_24 ?_
    refine V_iaddZ X tv44 (show (1 : Int32).toInt = 1 from by decide) (by omega) (by omega) dX11_ran_25 (fun x_1 ex_1 tx_1 => ?_)
    have tx_1 : x_1.toInt = (((t_.length + 1) : Nat) : Int) := by omega
    refine V_put (C := RX11) (T := TX11) (N := 50) (ci := 10) (v := .int x_1) (ty := tyX11 44) (ws' := [(m, .inr (10, mF R v0 v7 v8 v9 v15 v16 v17 v18 v19 v27 v31 v32 v33 v34 v38 v42 x_1)), ((R 45), .inl (Y 0, 24, .inl a45))]) X in_X11_ran_X11 0 rfl rfl 44 (by decide) (List.mem_of_getElem? (i := 1) rfl) rfl tyX11 tyX11_ok nmX11 rfl (tyX11_ok 44 (by decide)) rfl rfl (Nat.le_of_ble_eq_true rfl) rfl dX11_ran_26 ?_
    exact V_vret X hr dX11_ran_29 (⟨x_1, a45, rfl, rfl, (by rw [List.length_append, List.length_singleton]; omega), (TRC_out hTR (by omega))⟩)
  · refine V_aload_n X 0 rfl dX11_ran_9 ?_
    refine V_get (C := RX11) (T := TX11) (N := 50) (ci := 10) (v := .ref (R 45)) X in_X11_ran_X11 0 rfl rfl 45 (by decide) (List.mem_of_getElem? (i := 2) rfl) rfl rfl dX11_ran_10 ?_
    refine V_aload_n X 0 rfl dX11_ran_13 ?_
    refine V_get (C := RX11) (T := TX11) (N := 50) (ci := 10) (v := .int v44) X in_X11_ran_X11 0 rfl rfl 44 (by decide) (List.mem_of_getElem? (i := 1) rfl) rfl rfl dX11_ran_14 ?_
    refine V_iload_n X 1 rfl dX11_ran_17 ?_
    refine V_iast (ws' := [(m, .inr (10, mF R v0 v7 v8 v9 v15 v16 v17 v18 v19 v27 v31 v32 v33 v34 v38 v42 v44)), ((R 45), .inl (Y 0, 24, .inl (upd a45 t_.length x)))]) X 1 t_.length rfl tv44 (by omega) rfl dX11_ran_18 ?_
    refine V_aload_n X 0 rfl dX11_ran_19 ?_
    refine V_dup X rfl dX11_ran_20 ?_
    refine V_get (C := RX11) (T := TX11) (N := 50) (ci := 10) (v := .int v44) X in_X11_ran_X11 0 rfl rfl 44 (by decide) (List.mem_of_getElem? (i := 1) rfl) rfl rfl dX11_ran_21 ?_
    refine V_iconst (v := (1 : Int32)) X (by decide) dX11_ran_24 ?_
    refine V_iaddZ X tv44 (show (1 : Int32).toInt = 1 from by decide) (by omega) (by omega) dX11_ran_25 (fun x_2 ex_2 tx_2 => ?_)
    have tx_2 : x_2.toInt = (((t_.length + 1) : Nat) : Int) := by omega
    refine V_put (C := RX11) (T := TX11) (N := 50) (ci := 10) (v := .int x_2) (ty := tyX11 44) (ws' := [(m, .inr (10, mF R v0 v7 v8 v9 v15 v16 v17 v18 v19 v27 v31 v32 v33 v34 v38 v42 x_2)), ((R 45), .inl (Y 0, 24, .inl (upd a45 t_.length x)))]) X in_X11_ran_X11 0 rfl rfl 44 (by decide) (List.mem_of_getElem? (i := 1) rfl) rfl tyX11 tyX11_ok nmX11 rfl (tyX11_ok 44 (by decide)) rfl rfl (Nat.le_of_ble_eq_true rfl) rfl dX11_ran_26 ?_
    exact V_vret X hr dX11_ran_29 (⟨x_2, (upd a45 t_.length x), rfl, rfl, (by rw [List.length_append, List.length_singleton]; omega), (TRC_in hTR tx)⟩)

theorem in_X11_trace_X11 : ∀ w ∈ wsX110, w ∈ wsX11_trace := fun w h => List.mem_cons_of_mem _ (List.mem_append_right _ h)
set_option maxHeartbeats 4000000 in
set_option maxRecDepth 100000 in
theorem c_X11_trace (l : Launch) (D : va_G) (Y : Nat → ClassId) (m : Nat) (R : Nat → Nat) (v0 : Int32) (v7 : Int32) (v8 : Int32) (v9 : Int32) (v15 : Int32) (v16 : Int32) (v17 : Int32) (v18 : Int32) (v19 : Int32) (v27 : Int32) (v31 : Int32) (v32 : Int32) (v33 : Int32) (v34 : Int32) (v38 : Int32) (v42 : Int32) (v44 : Int32) (a45 : Nat → Int32) (i : Int32) : Mg l yX11_trace wsX11_trace ({ frames := 0, cells := 0, slots := 0, locals := 0 }) D Y [(m, .inr (10, mF R v0 v7 v8 v9 v15 v16 v17 v18 v19 v27 v31 v32 v33 v34 v38 v42 v44)), ((R 45), .inl (Y 0, 24, .inl a45))] [.ref m, .int i] 0 0 (fun vv__ ww__ => (vv__ = some (.int (-1 : Int32)) ∧ ww__ = [(m, .inr (10, mF R v0 v7 v8 v9 v15 v16 v17 v18 v19 v27 v31 v32 v33 v34 v38 v42 v44)), ((R 45), .inl (Y 0, 24, .inl a45))] ∧ (¬ (0 ≤ i.toInt ∧ i.toInt < v44.toInt ∧ i.toInt < 24))) ∨ (∃ (r : Int32), ∃ (k : Nat), vv__ = some (.int r) ∧ ww__ = [(m, .inr (10, mF R v0 v7 v8 v9 v15 v16 v17 v18 v19 v27 v31 v32 v33 v34 v38 v42 v44)), ((R 45), .inl (Y 0, 24, .inl a45))] ∧ (i.toInt = ((k : Nat) : Int)) ∧ (i.toInt < v44.toInt ∧ k < 24) ∧ (r = a45 k))) := by
  refine Mg_of (cc := cX11_trace) (maxL := 2) (ret := (some .int)) (ls0 := [(0, .ref m), (1, .int i)]) RX11 (by decide) rfl rfl rfl (Nat.le_of_ble_eq_true rfl) (fun p__ e__ s__ m__ b__ t__ c__ X hr hn => ?_)
  refine V_iload_n X 1 rfl dX11_trace_0 ?_
  refine V_if_lt X rfl 27 dX11_trace_1 (by decide) (fun c_1 => ?_) (fun c_1 => ?_)
  · refine V_iconst (v := (-1 : Int32)) X (by decide) dX11_trace_27 ?_
    exact V_iret X hr dX11_trace_28 (Or.inl ⟨rfl, rfl, (by omega)⟩)
  · refine V_iload_n X 1 rfl dX11_trace_4 ?_
    refine V_aload_n X 0 rfl dX11_trace_5 ?_
    refine V_get (C := RX11) (T := TX11) (N := 50) (ci := 10) (v := .int v44) X in_X11_trace_X11 0 rfl rfl 44 (by decide) (List.mem_of_getElem? (i := 1) rfl) rfl rfl dX11_trace_6 ?_
    refine V_icmp_ge X rfl rfl 27 dX11_trace_9 (by decide) (fun c_9 => ?_) (fun c_9 => ?_)
    · refine V_iconst (v := (-1 : Int32)) X (by decide) dX11_trace_27 ?_
      exact V_iret X hr dX11_trace_28 (Or.inl ⟨rfl, rfl, (by omega)⟩)
    · refine V_iload_n X 1 rfl dX11_trace_12 ?_
      refine V_bipush (v := (24 : Int32)) X (by decide) dX11_trace_13 ?_
      refine V_icmp_ge X rfl (show (24 : Int32).toInt = 24 from by decide) 27 dX11_trace_15 (by decide) (fun c_15 => ?_) (fun c_15 => ?_)
      · refine V_iconst (v := (-1 : Int32)) X (by decide) dX11_trace_27 ?_
        exact V_iret X hr dX11_trace_28 (Or.inl ⟨rfl, rfl, (by omega)⟩)
      · obtain ⟨k, tik⟩ : ∃ k : Nat, i.toInt = ((k : Nat) : Int) := ⟨i.toInt.toNat, by omega⟩
        · refine V_aload_n X 0 rfl dX11_trace_18 ?_
          refine V_get (C := RX11) (T := TX11) (N := 50) (ci := 10) (v := .ref (R 45)) X in_X11_trace_X11 0 rfl rfl 45 (by decide) (List.mem_of_getElem? (i := 2) rfl) rfl rfl dX11_trace_19 ?_
          refine V_iload_n X 1 rfl dX11_trace_22 ?_
          refine V_iald X 1 k rfl tik (by omega) dX11_trace_23 ?_
          refine V_goto X 28 (by decide) dX11_trace_24 ?_
          exact V_iret X hr dX11_trace_28 (Or.inr (⟨(a45 k), k, rfl, rfl, tik, (by omega), rfl⟩))

set_option maxHeartbeats 4000000 in
set_option maxRecDepth 100000 in
theorem c_X11_isUnder (l : Launch) (D : va_G) (Y : Nat → ClassId) (x : Int32) (K : Nat) (y : Int32) (an : Nat) (tx : x.toInt = ((K : Nat) : Int)) (ty : y.toInt = ((an : Nat) : Int)) : Mg l yX11_isUnder wsX11_isUnder ({ frames := 0, cells := 0, slots := 0, locals := 0 }) D Y [] [.int x, .int y] 0 0 (fun vv__ ww__ => (vv__ = some (.int (1 : Int32)) ∧ ww__ = [] ∧ (an = 0 ∨ K = an ∨ (an = 1 ∧ K = 4) ∨ (an = 2 ∧ (K = 3 ∨ K = 5)) ∨ (an = 3 ∧ K = 5) ∨ (an = 6 ∧ K = 7))) ∨ (vv__ = some (.int (0 : Int32)) ∧ ww__ = [] ∧ (¬ (an = 0 ∨ K = an ∨ (an = 1 ∧ K = 4) ∨ (an = 2 ∧ (K = 3 ∨ K = 5)) ∨ (an = 3 ∧ K = 5) ∨ (an = 6 ∧ K = 7))))) := by
  refine Mg_of (cc := cX11_isUnder) (maxL := 2) (ret := (some .boolean)) (ls0 := [(0, .int x), (1, .int y)]) RX11 (by decide) rfl rfl rfl (Nat.le_of_ble_eq_true rfl) (fun p__ e__ s__ m__ b__ t__ c__ X hr hn => ?_)
  refine V_iload_n X 1 rfl dX11_isUnder_0 ?_
  refine V_if_eq X ty 56 dX11_isUnder_1 (by decide) (fun c_1 => ?_) (fun c_1 => ?_)
  · refine V_iconst (v := (1 : Int32)) X (by decide) dX11_isUnder_56 ?_
    refine V_goto X 61 (by decide) dX11_isUnder_57 ?_
    exact V_zret X hr rfl dX11_isUnder_61 (Or.inl ⟨rfl, rfl, (by omega)⟩)
  · refine V_iload_n X 0 rfl dX11_isUnder_4 ?_
    refine V_iload_n X 1 rfl dX11_isUnder_5 ?_
    refine V_icmp_eq X tx ty 56 dX11_isUnder_6 (by decide) (fun c_6 => ?_) (fun c_6 => ?_)
    · refine V_iconst (v := (1 : Int32)) X (by decide) dX11_isUnder_56 ?_
      refine V_goto X 61 (by decide) dX11_isUnder_57 ?_
      exact V_zret X hr rfl dX11_isUnder_61 (Or.inl ⟨rfl, rfl, (by omega)⟩)
    · refine V_iload_n X 1 rfl dX11_isUnder_9 ?_
      refine V_iconst (v := (1 : Int32)) X (by decide) dX11_isUnder_10 ?_
      refine V_icmp_ne X ty (show (1 : Int32).toInt = 1 from by decide) 19 dX11_isUnder_11 (by decide) (fun c_11 => ?_) (fun c_11 => ?_)
      · refine V_iload_n X 1 rfl dX11_isUnder_19 ?_
        refine V_iconst (v := (2 : Int32)) X (by decide) dX11_isUnder_20 ?_
        refine V_icmp_ne X ty (show (2 : Int32).toInt = 2 from by decide) 34 dX11_isUnder_21 (by decide) (fun c_21 => ?_) (fun c_21 => ?_)
        · refine V_iload_n X 1 rfl dX11_isUnder_34 ?_
          refine V_iconst (v := (3 : Int32)) X (by decide) dX11_isUnder_35 ?_
          refine V_icmp_ne X ty (show (3 : Int32).toInt = 3 from by decide) 44 dX11_isUnder_36 (by decide) (fun c_36 => ?_) (fun c_36 => ?_)
          · refine V_iload_n X 1 rfl dX11_isUnder_44 ?_
            refine V_bipush (v := (6 : Int32)) X (by decide) dX11_isUnder_45 ?_
            refine V_icmp_ne X ty (show (6 : Int32).toInt = 6 from by decide) 60 dX11_isUnder_47 (by decide) (fun c_47 => ?_) (fun c_47 => ?_)
            · refine V_iconst (v := (0 : Int32)) X (by decide) dX11_isUnder_60 ?_
              exact V_zret X hr rfl dX11_isUnder_61 (Or.inr (⟨rfl, rfl, (by omega)⟩))
            · refine V_iload_n X 0 rfl dX11_isUnder_50 ?_
              refine V_bipush (v := (7 : Int32)) X (by decide) dX11_isUnder_51 ?_
              refine V_icmp_ne X tx (show (7 : Int32).toInt = 7 from by decide) 60 dX11_isUnder_53 (by decide) (fun c_53 => ?_) (fun c_53 => ?_)
              · refine V_iconst (v := (0 : Int32)) X (by decide) dX11_isUnder_60 ?_
                exact V_zret X hr rfl dX11_isUnder_61 (Or.inr (⟨rfl, rfl, (by omega)⟩))
              · refine V_iconst (v := (1 : Int32)) X (by decide) dX11_isUnder_56 ?_
                refine V_goto X 61 (by decide) dX11_isUnder_57 ?_
                exact V_zret X hr rfl dX11_isUnder_61 (Or.inl ⟨rfl, rfl, (by omega)⟩)
          · refine V_iload_n X 0 rfl dX11_isUnder_39 ?_
            refine V_iconst (v := (5 : Int32)) X (by decide) dX11_isUnder_40 ?_
            refine V_icmp_eq X tx (show (5 : Int32).toInt = 5 from by decide) 56 dX11_isUnder_41 (by decide) (fun c_41 => ?_) (fun c_41 => ?_)
            · refine V_iconst (v := (1 : Int32)) X (by decide) dX11_isUnder_56 ?_
              refine V_goto X 61 (by decide) dX11_isUnder_57 ?_
              exact V_zret X hr rfl dX11_isUnder_61 (Or.inl ⟨rfl, rfl, (by omega)⟩)
            · refine V_iload_n X 1 rfl dX11_isUnder_44 ?_
              refine V_bipush (v := (6 : Int32)) X (by decide) dX11_isUnder_45 ?_
              refine V_icmp_ne X ty (show (6 : Int32).toInt = 6 from by decide) 60 dX11_isUnder_47 (by decide) (fun c_47 => ?_) (fun c_47 => ?_)
              · refine V_iconst (v := (0 : Int32)) X (by decide) dX11_isUnder_60 ?_
                exact V_zret X hr rfl dX11_isUnder_61 (Or.inr (⟨rfl, rfl, (by omega)⟩))
              · refine V_iload_n X 0 rfl dX11_isUnder_50 ?_
                refine V_bipush (v := (7 : Int32)) X (by decide) dX11_isUnder_51 ?_
                refine V_icmp_ne X tx (show (7 : Int32).toInt = 7 from by decide) 60 dX11_isUnder_53 (by decide) (fun c_53 => ?_) (fun c_53 => ?_)
                · refine V_iconst (v := (0 : Int32)) X (by decide) dX11_isUnder_60 ?_
                  exact V_zret X hr rfl dX11_isUnder_61 (Or.inr (⟨rfl, rfl, (by omega)⟩))
                · refine V_iconst (v := (1 : Int32)) X (by decide) dX11_isUnder_56 ?_
                  refine V_goto X 61 (by decide) dX11_isUnder_57 ?_
                  exact V_zret X hr rfl dX11_isUnder_61 (Or.inl ⟨rfl, rfl, (by omega)⟩)
        · refine V_iload_n X 0 rfl dX11_isUnder_24 ?_
          refine V_iconst (v := (3 : Int32)) X (by decide) dX11_isUnder_25 ?_
          refine V_icmp_eq X tx (show (3 : Int32).toInt = 3 from by decide) 56 dX11_isUnder_26 (by decide) (fun c_26 => ?_) (fun c_26 => ?_)
          · refine V_iconst (v := (1 : Int32)) X (by decide) dX11_isUnder_56 ?_
            refine V_goto X 61 (by decide) dX11_isUnder_57 ?_
            exact V_zret X hr rfl dX11_isUnder_61 (Or.inl ⟨rfl, rfl, (by omega)⟩)
          · refine V_iload_n X 0 rfl dX11_isUnder_29 ?_
            refine V_iconst (v := (5 : Int32)) X (by decide) dX11_isUnder_30 ?_
            refine V_icmp_eq X tx (show (5 : Int32).toInt = 5 from by decide) 56 dX11_isUnder_31 (by decide) (fun c_31 => ?_) (fun c_31 => ?_)
            · refine V_iconst (v := (1 : Int32)) X (by decide) dX11_isUnder_56 ?_
              refine V_goto X 61 (by decide) dX11_isUnder_57 ?_
              exact V_zret X hr rfl dX11_isUnder_61 (Or.inl ⟨rfl, rfl, (by omega)⟩)
            · refine V_iload_n X 1 rfl dX11_isUnder_34 ?_
              refine V_iconst (v := (3 : Int32)) X (by decide) dX11_isUnder_35 ?_
              refine V_icmp_ne X ty (show (3 : Int32).toInt = 3 from by decide) 44 dX11_isUnder_36 (by decide) (fun c_36 => ?_) (fun c_36 => ?_)
              · refine V_iload_n X 1 rfl dX11_isUnder_44 ?_
                refine V_bipush (v := (6 : Int32)) X (by decide) dX11_isUnder_45 ?_
                refine V_icmp_ne X ty (show (6 : Int32).toInt = 6 from by decide) 60 dX11_isUnder_47 (by decide) (fun c_47 => ?_) (fun c_47 => ?_)
                · refine V_iconst (v := (0 : Int32)) X (by decide) dX11_isUnder_60 ?_
                  exact V_zret X hr rfl dX11_isUnder_61 (Or.inr (⟨rfl, rfl, (by omega)⟩))
                · refine V_iload_n X 0 rfl dX11_isUnder_50 ?_
                  refine V_bipush (v := (7 : Int32)) X (by decide) dX11_isUnder_51 ?_
                  refine V_icmp_ne X tx (show (7 : Int32).toInt = 7 from by decide) 60 dX11_isUnder_53 (by decide) (fun c_53 => ?_) (fun c_53 => ?_)
                  · refine V_iconst (v := (0 : Int32)) X (by decide) dX11_isUnder_60 ?_
                    exact V_zret X hr rfl dX11_isUnder_61 (Or.inr (⟨rfl, rfl, (by omega)⟩))
                  · refine V_iconst (v := (1 : Int32)) X (by decide) dX11_isUnder_56 ?_
                    refine V_goto X 61 (by decide) dX11_isUnder_57 ?_
                    exact V_zret X hr rfl dX11_isUnder_61 (Or.inl ⟨rfl, rfl, (by omega)⟩)
              · refine V_iload_n X 0 rfl dX11_isUnder_39 ?_
                refine V_iconst (v := (5 : Int32)) X (by decide) dX11_isUnder_40 ?_
                refine V_icmp_eq X tx (show (5 : Int32).toInt = 5 from by decide) 56 dX11_isUnder_41 (by decide) (fun c_41 => ?_) (fun c_41 => ?_)
                · refine V_iconst (v := (1 : Int32)) X (by decide) dX11_isUnder_56 ?_
                  refine V_goto X 61 (by decide) dX11_isUnder_57 ?_
                  exact V_zret X hr rfl dX11_isUnder_61 (Or.inl ⟨rfl, rfl, (by omega)⟩)
                · refine V_iload_n X 1 rfl dX11_isUnder_44 ?_
                  refine V_bipush (v := (6 : Int32)) X (by decide) dX11_isUnder_45 ?_
                  refine V_icmp_ne X ty (show (6 : Int32).toInt = 6 from by decide) 60 dX11_isUnder_47 (by decide) (fun c_47 => ?_) (fun c_47 => ?_)
                  · refine V_iconst (v := (0 : Int32)) X (by decide) dX11_isUnder_60 ?_
                    exact V_zret X hr rfl dX11_isUnder_61 (Or.inr (⟨rfl, rfl, (by omega)⟩))
                  · refine V_iload_n X 0 rfl dX11_isUnder_50 ?_
                    refine V_bipush (v := (7 : Int32)) X (by decide) dX11_isUnder_51 ?_
                    refine V_icmp_ne X tx (show (7 : Int32).toInt = 7 from by decide) 60 dX11_isUnder_53 (by decide) (fun c_53 => ?_) (fun c_53 => ?_)
                    · refine V_iconst (v := (0 : Int32)) X (by decide) dX11_isUnder_60 ?_
                      exact V_zret X hr rfl dX11_isUnder_61 (Or.inr (⟨rfl, rfl, (by omega)⟩))
                    · refine V_iconst (v := (1 : Int32)) X (by decide) dX11_isUnder_56 ?_
                      refine V_goto X 61 (by decide) dX11_isUnder_57 ?_
                      exact V_zret X hr rfl dX11_isUnder_61 (Or.inl ⟨rfl, rfl, (by omega)⟩)
      · refine V_iload_n X 0 rfl dX11_isUnder_14 ?_
        refine V_iconst (v := (4 : Int32)) X (by decide) dX11_isUnder_15 ?_
        refine V_icmp_eq X tx (show (4 : Int32).toInt = 4 from by decide) 56 dX11_isUnder_16 (by decide) (fun c_16 => ?_) (fun c_16 => ?_)
        · refine V_iconst (v := (1 : Int32)) X (by decide) dX11_isUnder_56 ?_
          refine V_goto X 61 (by decide) dX11_isUnder_57 ?_
          exact V_zret X hr rfl dX11_isUnder_61 (Or.inl ⟨rfl, rfl, (by omega)⟩)
        · refine V_iload_n X 1 rfl dX11_isUnder_19 ?_
          refine V_iconst (v := (2 : Int32)) X (by decide) dX11_isUnder_20 ?_
          refine V_icmp_ne X ty (show (2 : Int32).toInt = 2 from by decide) 34 dX11_isUnder_21 (by decide) (fun c_21 => ?_) (fun c_21 => ?_)
          · refine V_iload_n X 1 rfl dX11_isUnder_34 ?_
            refine V_iconst (v := (3 : Int32)) X (by decide) dX11_isUnder_35 ?_
            refine V_icmp_ne X ty (show (3 : Int32).toInt = 3 from by decide) 44 dX11_isUnder_36 (by decide) (fun c_36 => ?_) (fun c_36 => ?_)
            · refine V_iload_n X 1 rfl dX11_isUnder_44 ?_
              refine V_bipush (v := (6 : Int32)) X (by decide) dX11_isUnder_45 ?_
              refine V_icmp_ne X ty (show (6 : Int32).toInt = 6 from by decide) 60 dX11_isUnder_47 (by decide) (fun c_47 => ?_) (fun c_47 => ?_)
              · refine V_iconst (v := (0 : Int32)) X (by decide) dX11_isUnder_60 ?_
                exact V_zret X hr rfl dX11_isUnder_61 (Or.inr (⟨rfl, rfl, (by omega)⟩))
              · refine V_iload_n X 0 rfl dX11_isUnder_50 ?_
                refine V_bipush (v := (7 : Int32)) X (by decide) dX11_isUnder_51 ?_
                refine V_icmp_ne X tx (show (7 : Int32).toInt = 7 from by decide) 60 dX11_isUnder_53 (by decide) (fun c_53 => ?_) (fun c_53 => ?_)
                · refine V_iconst (v := (0 : Int32)) X (by decide) dX11_isUnder_60 ?_
                  exact V_zret X hr rfl dX11_isUnder_61 (Or.inr (⟨rfl, rfl, (by omega)⟩))
                · refine V_iconst (v := (1 : Int32)) X (by decide) dX11_isUnder_56 ?_
                  refine V_goto X 61 (by decide) dX11_isUnder_57 ?_
                  exact V_zret X hr rfl dX11_isUnder_61 (Or.inl ⟨rfl, rfl, (by omega)⟩)
            · refine V_iload_n X 0 rfl dX11_isUnder_39 ?_
              refine V_iconst (v := (5 : Int32)) X (by decide) dX11_isUnder_40 ?_
              refine V_icmp_eq X tx (show (5 : Int32).toInt = 5 from by decide) 56 dX11_isUnder_41 (by decide) (fun c_41 => ?_) (fun c_41 => ?_)
              · refine V_iconst (v := (1 : Int32)) X (by decide) dX11_isUnder_56 ?_
                refine V_goto X 61 (by decide) dX11_isUnder_57 ?_
                exact V_zret X hr rfl dX11_isUnder_61 (Or.inl ⟨rfl, rfl, (by omega)⟩)
              · refine V_iload_n X 1 rfl dX11_isUnder_44 ?_
                refine V_bipush (v := (6 : Int32)) X (by decide) dX11_isUnder_45 ?_
                refine V_icmp_ne X ty (show (6 : Int32).toInt = 6 from by decide) 60 dX11_isUnder_47 (by decide) (fun c_47 => ?_) (fun c_47 => ?_)
                · refine V_iconst (v := (0 : Int32)) X (by decide) dX11_isUnder_60 ?_
                  exact V_zret X hr rfl dX11_isUnder_61 (Or.inr (⟨rfl, rfl, (by omega)⟩))
                · refine V_iload_n X 0 rfl dX11_isUnder_50 ?_
                  refine V_bipush (v := (7 : Int32)) X (by decide) dX11_isUnder_51 ?_
                  refine V_icmp_ne X tx (show (7 : Int32).toInt = 7 from by decide) 60 dX11_isUnder_53 (by decide) (fun c_53 => ?_) (fun c_53 => ?_)
                  · refine V_iconst (v := (0 : Int32)) X (by decide) dX11_isUnder_60 ?_
                    exact V_zret X hr rfl dX11_isUnder_61 (Or.inr (⟨rfl, rfl, (by omega)⟩))
                  · refine V_iconst (v := (1 : Int32)) X (by decide) dX11_isUnder_56 ?_
                    refine V_goto X 61 (by decide) dX11_isUnder_57 ?_
                    exact V_zret X hr rfl dX11_isUnder_61 (Or.inl ⟨rfl, rfl, (by omega)⟩)
          · refine V_iload_n X 0 rfl dX11_isUnder_24 ?_
            refine V_iconst (v := (3 : Int32)) X (by decide) dX11_isUnder_25 ?_
            refine V_icmp_eq X tx (show (3 : Int32).toInt = 3 from by decide) 56 dX11_isUnder_26 (by decide) (fun c_26 => ?_) (fun c_26 => ?_)
            · refine V_iconst (v := (1 : Int32)) X (by decide) dX11_isUnder_56 ?_
              refine V_goto X 61 (by decide) dX11_isUnder_57 ?_
              exact V_zret X hr rfl dX11_isUnder_61 (Or.inl ⟨rfl, rfl, (by omega)⟩)
            · refine V_iload_n X 0 rfl dX11_isUnder_29 ?_
              refine V_iconst (v := (5 : Int32)) X (by decide) dX11_isUnder_30 ?_
              refine V_icmp_eq X tx (show (5 : Int32).toInt = 5 from by decide) 56 dX11_isUnder_31 (by decide) (fun c_31 => ?_) (fun c_31 => ?_)
              · refine V_iconst (v := (1 : Int32)) X (by decide) dX11_isUnder_56 ?_
                refine V_goto X 61 (by decide) dX11_isUnder_57 ?_
                exact V_zret X hr rfl dX11_isUnder_61 (Or.inl ⟨rfl, rfl, (by omega)⟩)
              · refine V_iload_n X 1 rfl dX11_isUnder_34 ?_
                refine V_iconst (v := (3 : Int32)) X (by decide) dX11_isUnder_35 ?_
                refine V_icmp_ne X ty (show (3 : Int32).toInt = 3 from by decide) 44 dX11_isUnder_36 (by decide) (fun c_36 => ?_) (fun c_36 => ?_)
                · refine V_iload_n X 1 rfl dX11_isUnder_44 ?_
                  refine V_bipush (v := (6 : Int32)) X (by decide) dX11_isUnder_45 ?_
                  refine V_icmp_ne X ty (show (6 : Int32).toInt = 6 from by decide) 60 dX11_isUnder_47 (by decide) (fun c_47 => ?_) (fun c_47 => ?_)
                  · refine V_iconst (v := (0 : Int32)) X (by decide) dX11_isUnder_60 ?_
                    exact V_zret X hr rfl dX11_isUnder_61 (Or.inr (⟨rfl, rfl, (by omega)⟩))
                  · refine V_iload_n X 0 rfl dX11_isUnder_50 ?_
                    refine V_bipush (v := (7 : Int32)) X (by decide) dX11_isUnder_51 ?_
                    refine V_icmp_ne X tx (show (7 : Int32).toInt = 7 from by decide) 60 dX11_isUnder_53 (by decide) (fun c_53 => ?_) (fun c_53 => ?_)
                    · refine V_iconst (v := (0 : Int32)) X (by decide) dX11_isUnder_60 ?_
                      exact V_zret X hr rfl dX11_isUnder_61 (Or.inr (⟨rfl, rfl, (by omega)⟩))
                    · refine V_iconst (v := (1 : Int32)) X (by decide) dX11_isUnder_56 ?_
                      refine V_goto X 61 (by decide) dX11_isUnder_57 ?_
                      exact V_zret X hr rfl dX11_isUnder_61 (Or.inl ⟨rfl, rfl, (by omega)⟩)
                · refine V_iload_n X 0 rfl dX11_isUnder_39 ?_
                  refine V_iconst (v := (5 : Int32)) X (by decide) dX11_isUnder_40 ?_
                  refine V_icmp_eq X tx (show (5 : Int32).toInt = 5 from by decide) 56 dX11_isUnder_41 (by decide) (fun c_41 => ?_) (fun c_41 => ?_)
                  · refine V_iconst (v := (1 : Int32)) X (by decide) dX11_isUnder_56 ?_
                    refine V_goto X 61 (by decide) dX11_isUnder_57 ?_
                    exact V_zret X hr rfl dX11_isUnder_61 (Or.inl ⟨rfl, rfl, (by omega)⟩)
                  · refine V_iload_n X 1 rfl dX11_isUnder_44 ?_
                    refine V_bipush (v := (6 : Int32)) X (by decide) dX11_isUnder_45 ?_
                    refine V_icmp_ne X ty (show (6 : Int32).toInt = 6 from by decide) 60 dX11_isUnder_47 (by decide) (fun c_47 => ?_) (fun c_47 => ?_)
                    · refine V_iconst (v := (0 : Int32)) X (by decide) dX11_isUnder_60 ?_
                      exact V_zret X hr rfl dX11_isUnder_61 (Or.inr (⟨rfl, rfl, (by omega)⟩))
                    · refine V_iload_n X 0 rfl dX11_isUnder_50 ?_
                      refine V_bipush (v := (7 : Int32)) X (by decide) dX11_isUnder_51 ?_
                      refine V_icmp_ne X tx (show (7 : Int32).toInt = 7 from by decide) 60 dX11_isUnder_53 (by decide) (fun c_53 => ?_) (fun c_53 => ?_)
                      · refine V_iconst (v := (0 : Int32)) X (by decide) dX11_isUnder_60 ?_
                        exact V_zret X hr rfl dX11_isUnder_61 (Or.inr (⟨rfl, rfl, (by omega)⟩))
                      · refine V_iconst (v := (1 : Int32)) X (by decide) dX11_isUnder_56 ?_
                        refine V_goto X 61 (by decide) dX11_isUnder_57 ?_
                        exact V_zret X hr rfl dX11_isUnder_61 (Or.inl ⟨rfl, rfl, (by omega)⟩)

set_option maxHeartbeats 4000000 in
set_option maxRecDepth 100000 in
theorem c_X11_plainBegins (l : Launch) (D : va_G) (Y : Nat → ClassId) (m : Nat) (R : Nat → Nat) (v0 : Int32) (v7 : Int32) (v8 : Int32) (v9 : Int32) (v15 : Int32) (v16 : Int32) (v17 : Int32) (v18 : Int32) (v19 : Int32) (v27 : Int32) (v31 : Int32) (v32 : Int32) (v33 : Int32) (v34 : Int32) (v38 : Int32) (v42 : Int32) (v44 : Int32) (a43 : Nat → Int32) (a45 : Nat → Int32) (t_ : List Nat) (b : Int32) (bn : Nat) (K : Nat) (x : Int32) (tv44 : v44.toInt = ((t_.length : Nat) : Int)) (hTR : TRC a45 t_) (tb : b.toInt = ((bn : Nat) : Int)) (hbn : bn < 50) (hKb : (a43 bn).toInt = ((K : Nat) : Int)) (hK8 : K < 8) (htl : t_.length + 1 ≤ 60) : Mg l yX11_plainBegins wsX11_plainBegins ({ frames := 1, cells := 0, slots := 0, locals := 21 }) D Y [(m, .inr (10, mF R v0 v7 v8 v9 v15 v16 v17 v18 v19 v27 v31 v32 v33 v34 v38 v42 v44)), ((R 43), .inl (Y 0, 50, .inl a43)), ((R 45), .inl (Y 0, 24, .inl a45))] [.ref m, .int b, .int x] 0 0 (fun vv__ ww__ => (∃ (r : Int32), ∃ (z44 : Int32), ∃ (b45 : Nat → Int32), vv__ = some (.int r) ∧ ww__ = [(m, .inr (10, mF R v0 v7 v8 v9 v15 v16 v17 v18 v19 v27 v31 v32 v33 v34 v38 v42 z44)), ((R 43), .inl (Y 0, 50, .inl a43)), ((R 45), .inl (Y 0, 24, .inl b45))] ∧ (r = (aPB b x).1) ∧ (z44.toInt = (((t_ ++ (aPB b x).2).length : Nat) : Int)) ∧ (TRC b45 (t_ ++ (aPB b x).2)))) := by
  refine Mg_of (cc := cX11_plainBegins) (maxL := 3) (ret := (some .int)) (ls0 := [(0, .ref m), (1, .int b), (2, .int x)]) RX11 (by decide) rfl rfl rfl (Nat.le_of_ble_eq_true rfl) (fun p__ e__ s__ m__ b__ t__ c__ X hr hn => ?_)
  refine V_aload_n X 0 rfl dX11_plainBegins_0 ?_
  refine V_iconst (v := (1 : Int32)) X (by decide) dX11_plainBegins_1 ?_
  refine V_callV (C := RX11) (wr := [((R 43), .inl (Y 0, 50, .inl a43))]) (st := []) X (c_X11_ran l D Y m R v0 v7 v8 v9 v15 v16 v17 v18 v19 v27 v31 v32 v33 v34 v38 v42 v44 a45 t_ (1 : Int32) 1 tv44 hTR (by (try simp only [List.length_append, List.length_cons, List.length_nil]); omega) (by decide)) 1 gX11_plainBegins_X11_ran rfl (by decide +kernel) ⟨rfl, rfl⟩ ⟨Nat.le_of_ble_eq_true rfl, Nat.le_of_ble_eq_true rfl⟩ [0, 2] [1] rfl rfl rfl rfl (by decide) (ci := 10) rfl rfl 0 rfl rfl rfl (Nat.le_of_ble_eq_true rfl) ⟨Nat.le_of_ble_eq_true rfl, Nat.le_of_ble_eq_true rfl⟩ dX11_plainBegins_2 (fun v_2 w_2 h_2 => ?_)
  obtain ⟨z44_2, b45_3, rfl, rfl, htz44_4, hhTR2_5⟩ := h_2
  refine V_to (pc' := 5) (ls' := [(0, .ref m), (1, .int b), (2, .int x)]) (st' := []) (ws' := [((R 43), .inl (Y 0, 50, .inl a43)), (m, .inr (10, mF R v0 v7 v8 v9 v15 v16 v17 v18 v19 v27 v31 v32 v33 v34 v38 v42 z44_2)), ((R 45), .inl (Y 0, 24, .inl b45_3))]) ?_ rfl rfl rfl rfl
  refine V_iload_n X 2 rfl dX11_plainBegins_5 ?_
  refine V_iload_n X 1 rfl dX11_plainBegins_6 ?_
  refine V_iadd X dX11_plainBegins_7 (fun x_6 ex_6 => ?_)
  refine V_ws (ws' := [(m, .inr (10, mF R v0 v7 v8 v9 v15 v16 v17 v18 v19 v27 v31 v32 v33 v34 v38 v42 z44_2)), ((R 43), .inl (Y 0, 50, .inl a43)), ((R 45), .inl (Y 0, 24, .inl b45_3))]) [1, 0, 2] rfl rfl rfl ?_
  exact V_iret X hr dX11_plainBegins_8 (⟨x_6, z44_2, b45_3, rfl, rfl, (by show _ = x + b; exact ex_6), (by show _ = (((t_ ++ [1]).length : Nat) : Int); exact htz44_4), (by show TRC _ (t_ ++ [1]); exact hhTR2_5)⟩)

set_option maxHeartbeats 4000000 in
set_option maxRecDepth 100000 in
theorem c_X11_wholeBegins (l : Launch) (D : va_G) (Y : Nat → ClassId) (m : Nat) (R : Nat → Nat) (v0 : Int32) (v7 : Int32) (v8 : Int32) (v9 : Int32) (v15 : Int32) (v16 : Int32) (v17 : Int32) (v18 : Int32) (v19 : Int32) (v27 : Int32) (v31 : Int32) (v32 : Int32) (v33 : Int32) (v34 : Int32) (v38 : Int32) (v42 : Int32) (v44 : Int32) (a43 : Nat → Int32) (a45 : Nat → Int32) (t_ : List Nat) (b : Int32) (bn : Nat) (K : Nat) (x : Int32) (tv44 : v44.toInt = ((t_.length : Nat) : Int)) (hTR : TRC a45 t_) (tb : b.toInt = ((bn : Nat) : Int)) (hbn : bn < 50) (hKb : (a43 bn).toInt = ((K : Nat) : Int)) (hK8 : K < 8) (htl : t_.length + 2 ≤ 60) : Mg l yX11_wholeBegins wsX11_wholeBegins ({ frames := 2, cells := 0, slots := 0, locals := 43 }) D Y [(m, .inr (10, mF R v0 v7 v8 v9 v15 v16 v17 v18 v19 v27 v31 v32 v33 v34 v38 v42 v44)), ((R 43), .inl (Y 0, 50, .inl a43)), ((R 45), .inl (Y 0, 24, .inl a45))] [.ref m, .int b, .int x] 0 0 (fun vv__ ww__ => (∃ (r : Int32), ∃ (z44 : Int32), ∃ (b45 : Nat → Int32), vv__ = some (.int r) ∧ ww__ = [(m, .inr (10, mF R v0 v7 v8 v9 v15 v16 v17 v18 v19 v27 v31 v32 v33 v34 v38 v42 z44)), ((R 43), .inl (Y 0, 50, .inl a43)), ((R 45), .inl (Y 0, 24, .inl b45))] ∧ (r = (aWB b x).1) ∧ (z44.toInt = (((t_ ++ (aWB b x).2).length : Nat) : Int)) ∧ (TRC b45 (t_ ++ (aWB b x).2)))) := by
  refine Mg_of (cc := cX11_wholeBegins) (maxL := 3) (ret := (some .int)) (ls0 := [(0, .ref m), (1, .int b), (2, .int x)]) RX11 (by decide) rfl rfl rfl (Nat.le_of_ble_eq_true rfl) (fun p__ e__ s__ m__ b__ t__ c__ X hr hn => ?_)
  refine V_aload_n X 0 rfl dX11_wholeBegins_0 ?_
  refine V_bipush (v := (70 : Int32)) X (by decide) dX11_wholeBegins_1 ?_
  refine V_callV (C := RX11) (wr := [((R 43), .inl (Y 0, 50, .inl a43))]) (st := []) X (c_X11_ran l D Y m R v0 v7 v8 v9 v15 v16 v17 v18 v19 v27 v31 v32 v33 v34 v38 v42 v44 a45 t_ (70 : Int32) 70 tv44 hTR (by (try simp only [List.length_append, List.length_cons, List.length_nil]); omega) (by decide)) 1 gX11_wholeBegins_X11_ran rfl (by decide +kernel) ⟨rfl, rfl⟩ ⟨Nat.le_of_ble_eq_true rfl, Nat.le_of_ble_eq_true rfl⟩ [0, 2] [1] rfl rfl rfl rfl (by decide) (ci := 10) rfl rfl 0 rfl rfl rfl (Nat.le_of_ble_eq_true rfl) ⟨Nat.le_of_ble_eq_true rfl, Nat.le_of_ble_eq_true rfl⟩ dX11_wholeBegins_3 (fun v_3 w_3 h_3 => ?_)
  obtain ⟨z44_2, b45_3, rfl, rfl, htz44_4, hhTR2_5⟩ := h_3
  refine V_to (pc' := 6) (ls' := [(0, .ref m), (1, .int b), (2, .int x)]) (st' := []) (ws' := [((R 43), .inl (Y 0, 50, .inl a43)), (m, .inr (10, mF R v0 v7 v8 v9 v15 v16 v17 v18 v19 v27 v31 v32 v33 v34 v38 v42 z44_2)), ((R 45), .inl (Y 0, 24, .inl b45_3))]) ?_ rfl rfl rfl rfl
  refine V_aload_n X 0 rfl dX11_wholeBegins_6 ?_
  refine V_iload_n X 1 rfl dX11_wholeBegins_7 ?_
  refine V_iload_n X 2 rfl dX11_wholeBegins_8 ?_
  refine V_callV (C := RX11) (wr := []) (st := []) X (c_X11_plainBegins l D Y m R v0 v7 v8 v9 v15 v16 v17 v18 v19 v27 v31 v32 v33 v34 v38 v42 z44_2 a43 b45_3 (t_ ++ [ 70 ]) b bn K x (by have h9 : z44_2.toInt = (((t_ ++ [70]).length : Nat) : Int) := htz44_4; omega) hhTR2_5 tb hbn hKb hK8 (by (try simp only [List.length_append, List.length_cons, List.length_nil]); omega)) 2 gX11_wholeBegins_X11_plainBegins rfl (by decide +kernel) ⟨rfl, rfl⟩ ⟨Nat.le_of_ble_eq_true rfl, Nat.le_of_ble_eq_true rfl⟩ [1, 0, 2] [] rfl rfl rfl rfl (by decide) (ci := 10) rfl rfl 0 rfl rfl rfl (Nat.le_of_ble_eq_true rfl) ⟨Nat.le_of_ble_eq_true rfl, Nat.le_of_ble_eq_true rfl⟩ dX11_wholeBegins_9 (fun v_9 w_9 h_9 => ?_)
  obtain ⟨r_7, z44_8, b45_9, rfl, rfl, hhr__10, htz44_11, hhTR2_12⟩ := h_9
  refine V_to (pc' := 12) (ls' := [(0, .ref m), (1, .int b), (2, .int x)]) (st' := [.int r_7]) (ws' := [(m, .inr (10, mF R v0 v7 v8 v9 v15 v16 v17 v18 v19 v27 v31 v32 v33 v34 v38 v42 z44_8)), ((R 43), .inl (Y 0, 50, .inl a43)), ((R 45), .inl (Y 0, 24, .inl b45_9))]) ?_ rfl rfl rfl rfl
  refine V_iconst (v := (2 : Int32)) X (by decide) dX11_wholeBegins_12 ?_
  refine V_imul X dX11_wholeBegins_13 (fun x_13 ex_13 => ?_)
  exact V_iret X hr dX11_wholeBegins_14 (⟨x_13, z44_8, b45_9, rfl, rfl, (by show _ = (aPB b x).1 * 2; rw [ex_13, hhr__10]), (by show _ = (((t_ ++ ([70] ++ (aPB b x).2)).length : Nat) : Int); rw [← ap3]; exact htz44_11), (by show TRC _ (t_ ++ ([70] ++ (aPB b x).2)); rw [← ap3]; exact hhTR2_12)⟩)

theorem in_X11_beginning_X11 : ∀ w ∈ wsX110, w ∈ wsX11_beginning := fun w h => List.mem_cons_of_mem _ (List.mem_append_right _ h)
set_option maxHeartbeats 4000000 in
set_option maxRecDepth 100000 in
theorem c_X11_beginning (l : Launch) (D : va_G) (Y : Nat → ClassId) (m : Nat) (R : Nat → Nat) (v0 : Int32) (v7 : Int32) (v8 : Int32) (v9 : Int32) (v15 : Int32) (v16 : Int32) (v17 : Int32) (v18 : Int32) (v19 : Int32) (v27 : Int32) (v31 : Int32) (v32 : Int32) (v33 : Int32) (v34 : Int32) (v38 : Int32) (v42 : Int32) (v44 : Int32) (a43 : Nat → Int32) (a45 : Nat → Int32) (t_ : List Nat) (b : Int32) (bn : Nat) (K : Nat) (x : Int32) (tv44 : v44.toInt = ((t_.length : Nat) : Int)) (hTR : TRC a45 t_) (tb : b.toInt = ((bn : Nat) : Int)) (hbn : bn < 50) (hKb : (a43 bn).toInt = ((K : Nat) : Int)) (hK8 : K < 8) (htl : t_.length + 3 ≤ 60) : Mg l yX11_beginning wsX11_beginning ({ frames := 3, cells := 0, slots := 0, locals := 65 }) D Y [(m, .inr (10, mF R v0 v7 v8 v9 v15 v16 v17 v18 v19 v27 v31 v32 v33 v34 v38 v42 v44)), ((R 43), .inl (Y 0, 50, .inl a43)), ((R 45), .inl (Y 0, 24, .inl a45))] [.ref m, .int b, .int x] 0 0 (fun vv__ ww__ => (∃ (r : Int32), ∃ (z44 : Int32), ∃ (b45 : Nat → Int32), vv__ = some (.int r) ∧ ww__ = [(m, .inr (10, mF R v0 v7 v8 v9 v15 v16 v17 v18 v19 v27 v31 v32 v33 v34 v38 v42 z44)), ((R 43), .inl (Y 0, 50, .inl a43)), ((R 45), .inl (Y 0, 24, .inl b45))] ∧ (r = (aB K b x).1) ∧ (z44.toInt = (((t_ ++ (aB K b x).2).length : Nat) : Int)) ∧ (TRC b45 (t_ ++ (aB K b x).2)))) := by
  refine Mg_of (cc := cX11_beginning) (maxL := 3) (ret := (some .int)) (ls0 := [(0, .ref m), (1, .int b), (2, .int x)]) RX11 (by decide) rfl rfl rfl (Nat.le_of_ble_eq_true rfl) (fun p__ e__ s__ m__ b__ t__ c__ X hr hn => ?_)
  refine V_aload_n X 0 rfl dX11_beginning_0 ?_
  refine V_get (C := RX11) (T := TX11) (N := 50) (ci := 10) (v := .ref (R 43)) X in_X11_beginning_X11 0 rfl rfl 43 (by decide) (List.mem_of_getElem? (i := 1) rfl) rfl rfl dX11_beginning_1 ?_
  refine V_iload_n X 1 rfl dX11_beginning_4 ?_
  refine V_iald X 1 bn rfl tb (by omega) dX11_beginning_5 ?_
  refine V_nm (fun x_1 ex_1 => ?_)
  have tx_1 : x_1.toInt = ((K : Nat) : Int) := by rw [ex_1]; exact hKb
  refine V_iconst (v := (1 : Int32)) X (by decide) dX11_beginning_6 ?_
  refine V_callS (wr := [(m, .inr (10, mF R v0 v7 v8 v9 v15 v16 v17 v18 v19 v27 v31 v32 v33 v34 v38 v42 v44)), ((R 43), .inl (Y 0, 50, .inl a43)), ((R 45), .inl (Y 0, 24, .inl a45))]) (st := []) X (c_X11_isUnder l D Y x_1 K (1 : Int32) 1 tx_1 (by have h9 : (1 : Int32).toInt = 1 := (show (1 : Int32).toInt = 1 from by decide); omega)) 2 gX11_beginning_X11_isUnder rfl (by decide +kernel) ⟨rfl, rfl⟩ ⟨Nat.le_of_ble_eq_true rfl, Nat.le_of_ble_eq_true rfl⟩ [] [0, 1, 2] rfl rfl rfl rfl (by decide) rfl rfl (Nat.le_of_ble_eq_true rfl) ⟨Nat.le_of_ble_eq_true rfl, Nat.le_of_ble_eq_true rfl⟩ dX11_beginning_7 (fun v_7 w_7 h_7 => ?_)
  rcases h_7 with ⟨rfl, rfl, hhy_3⟩ | ⟨rfl, rfl, hhn_4⟩
  · refine V_to (pc' := 10) (ls' := [(0, .ref m), (1, .int b), (2, .int x)]) (st' := [.int (1 : Int32)]) (ws' := [(m, .inr (10, mF R v0 v7 v8 v9 v15 v16 v17 v18 v19 v27 v31 v32 v33 v34 v38 v42 v44)), ((R 43), .inl (Y 0, 50, .inl a43)), ((R 45), .inl (Y 0, 24, .inl a45))]) ?_ rfl rfl rfl rfl
    refine V_if_eq X (show (1 : Int32).toInt = 1 from by decide) 28 dX11_beginning_10 (by decide) (fun c_10 => absurd c_10 (by decide)) (fun _ => ?_)
    refine V_aload_n X 0 rfl dX11_beginning_13 ?_
    refine V_bipush (v := (20 : Int32)) X (by decide) dX11_beginning_14 ?_
    refine V_callV (C := RX11) (wr := [((R 43), .inl (Y 0, 50, .inl a43))]) (st := []) X (c_X11_ran l D Y m R v0 v7 v8 v9 v15 v16 v17 v18 v19 v27 v31 v32 v33 v34 v38 v42 v44 a45 t_ (20 : Int32) 20 tv44 hTR (by (try simp only [List.length_append, List.length_cons, List.length_nil]); omega) (by decide)) 1 gX11_beginning_X11_ran rfl (by decide +kernel) ⟨rfl, rfl⟩ ⟨Nat.le_of_ble_eq_true rfl, Nat.le_of_ble_eq_true rfl⟩ [0, 2] [1] rfl rfl rfl rfl (by decide) (ci := 10) rfl rfl 0 rfl rfl rfl (Nat.le_of_ble_eq_true rfl) ⟨Nat.le_of_ble_eq_true rfl, Nat.le_of_ble_eq_true rfl⟩ dX11_beginning_16 (fun v_16 w_16 h_16 => ?_)
    obtain ⟨z44_6, b45_7, rfl, rfl, htz44_8, hhTR2_9⟩ := h_16
    refine V_to (pc' := 19) (ls' := [(0, .ref m), (1, .int b), (2, .int x)]) (st' := []) (ws' := [((R 43), .inl (Y 0, 50, .inl a43)), (m, .inr (10, mF R v0 v7 v8 v9 v15 v16 v17 v18 v19 v27 v31 v32 v33 v34 v38 v42 z44_6)), ((R 45), .inl (Y 0, 24, .inl b45_7))]) ?_ rfl rfl rfl rfl
    refine V_aload_n X 0 rfl dX11_beginning_19 ?_
    refine V_iload_n X 1 rfl dX11_beginning_20 ?_
    refine V_iload_n X 2 rfl dX11_beginning_21 ?_
    refine V_callV (C := RX11) (wr := []) (st := []) X (c_X11_plainBegins l D Y m R v0 v7 v8 v9 v15 v16 v17 v18 v19 v27 v31 v32 v33 v34 v38 v42 z44_6 a43 b45_7 (t_ ++ [ 20 ]) b bn K x (by have h9 : z44_6.toInt = (((t_ ++ [20]).length : Nat) : Int) := htz44_8; omega) hhTR2_9 tb hbn hKb hK8 (by (try simp only [List.length_append, List.length_cons, List.length_nil]); omega)) 2 gX11_beginning_X11_plainBegins rfl (by decide +kernel) ⟨rfl, rfl⟩ ⟨Nat.le_of_ble_eq_true rfl, Nat.le_of_ble_eq_true rfl⟩ [1, 0, 2] [] rfl rfl rfl rfl (by decide) (ci := 10) rfl rfl 0 rfl rfl rfl (Nat.le_of_ble_eq_true rfl) ⟨Nat.le_of_ble_eq_true rfl, Nat.le_of_ble_eq_true rfl⟩ dX11_beginning_22 (fun v_22 w_22 h_22 => ?_)
    obtain ⟨r_11, z44_12, b45_13, rfl, rfl, hhr__14, htz44_15, hhTR2_16⟩ := h_22
    refine V_to (pc' := 25) (ls' := [(0, .ref m), (1, .int b), (2, .int x)]) (st' := [.int r_11]) (ws' := [(m, .inr (10, mF R v0 v7 v8 v9 v15 v16 v17 v18 v19 v27 v31 v32 v33 v34 v38 v42 z44_12)), ((R 43), .inl (Y 0, 50, .inl a43)), ((R 45), .inl (Y 0, 24, .inl b45_13))]) ?_ rfl rfl rfl rfl
    refine V_iconst (v := (3 : Int32)) X (by decide) dX11_beginning_25 ?_
    refine V_iadd X dX11_beginning_26 (fun x_17 ex_17 => ?_)
    exact V_iret X hr dX11_beginning_27 (⟨x_17, z44_12, b45_13, rfl, rfl, (by rw [(aB_1 b x (by omega))]; show _ = (aPB b x).1 + 3; rw [ex_17, hhr__14]), (by rw [(aB_1 b x (by omega))]; show _ = (((t_ ++ ([20] ++ (aPB b x).2)).length : Nat) : Int); rw [← ap3]; exact htz44_15), (by rw [(aB_1 b x (by omega))]; show TRC _ (t_ ++ ([20] ++ (aPB b x).2)); rw [← ap3]; exact hhTR2_16)⟩)
  · refine V_to (pc' := 10) (ls' := [(0, .ref m), (1, .int b), (2, .int x)]) (st' := [.int (0 : Int32)]) (ws' := [(m, .inr (10, mF R v0 v7 v8 v9 v15 v16 v17 v18 v19 v27 v31 v32 v33 v34 v38 v42 v44)), ((R 43), .inl (Y 0, 50, .inl a43)), ((R 45), .inl (Y 0, 24, .inl a45))]) ?_ rfl rfl rfl rfl
    refine V_if_eq X (show (0 : Int32).toInt = 0 from by decide) 28 dX11_beginning_10 (by decide) (fun _ => ?_) (fun c_10 => absurd c_10 (by decide))
    refine V_aload_n X 0 rfl dX11_beginning_28 ?_
    refine V_get (C := RX11) (T := TX11) (N := 50) (ci := 10) (v := .ref (R 43)) X in_X11_beginning_X11 0 rfl rfl 43 (by decide) (List.mem_of_getElem? (i := 1) rfl) rfl rfl dX11_beginning_29 ?_
    refine V_iload_n X 1 rfl dX11_beginning_32 ?_
    refine V_iald X 1 bn rfl tb (by omega) dX11_beginning_33 ?_
    refine V_nm (fun x_18 ex_18 => ?_)
    have tx_18 : x_18.toInt = ((K : Nat) : Int) := by rw [ex_18]; exact hKb
    refine V_bipush (v := (7 : Int32)) X (by decide) dX11_beginning_34 ?_
    refine V_icmp_ne X tx_18 (show (7 : Int32).toInt = 7 from by decide) 54 dX11_beginning_36 (by decide) (fun c_36 => ?_) (fun c_36 => ?_)
    · refine V_aload_n X 0 rfl dX11_beginning_54 ?_
      refine V_get (C := RX11) (T := TX11) (N := 50) (ci := 10) (v := .ref (R 43)) X in_X11_beginning_X11 0 rfl rfl 43 (by decide) (List.mem_of_getElem? (i := 1) rfl) rfl rfl dX11_beginning_55 ?_
      refine V_iload_n X 1 rfl dX11_beginning_58 ?_
      refine V_iald X 1 bn rfl tb (by omega) dX11_beginning_59 ?_
      refine V_nm (fun x_19 ex_19 => ?_)
      have tx_19 : x_19.toInt = ((K : Nat) : Int) := by rw [ex_19]; exact hKb
      refine V_bipush (v := (6 : Int32)) X (by decide) dX11_beginning_60 ?_
      refine V_icmp_ne X tx_19 (show (6 : Int32).toInt = 6 from by decide) 74 dX11_beginning_62 (by decide) (fun c_62 => ?_) (fun c_62 => ?_)
      · refine V_aload_n X 0 rfl dX11_beginning_74 ?_
        refine V_iload_n X 1 rfl dX11_beginning_75 ?_
        refine V_iload_n X 2 rfl dX11_beginning_76 ?_
        refine V_callV (C := RX11) (wr := []) (st := []) X (c_X11_plainBegins l D Y m R v0 v7 v8 v9 v15 v16 v17 v18 v19 v27 v31 v32 v33 v34 v38 v42 v44 a43 a45 t_ b bn K x tv44 hTR tb hbn hKb hK8 (by omega)) 2 gX11_beginning_X11_plainBegins rfl (by decide +kernel) ⟨rfl, rfl⟩ ⟨Nat.le_of_ble_eq_true rfl, Nat.le_of_ble_eq_true rfl⟩ [0, 1, 2] [] rfl rfl rfl rfl (by decide) (ci := 10) rfl rfl 0 rfl rfl rfl (Nat.le_of_ble_eq_true rfl) ⟨Nat.le_of_ble_eq_true rfl, Nat.le_of_ble_eq_true rfl⟩ dX11_beginning_77 (fun v_77 w_77 h_77 => ?_)
        obtain ⟨r_21, z44_22, b45_23, rfl, rfl, hhr__24, htz44_25, hhTR2_26⟩ := h_77
        refine V_to (pc' := 80) (ls' := [(0, .ref m), (1, .int b), (2, .int x)]) (st' := [.int r_21]) (ws' := [(m, .inr (10, mF R v0 v7 v8 v9 v15 v16 v17 v18 v19 v27 v31 v32 v33 v34 v38 v42 z44_22)), ((R 43), .inl (Y 0, 50, .inl a43)), ((R 45), .inl (Y 0, 24, .inl b45_23))]) ?_ rfl rfl rfl rfl
        exact V_iret X hr dX11_beginning_80 (⟨r_21, z44_22, b45_23, rfl, rfl, (by rw [(aB_0 b x (by omega) (by omega) (by omega))]; exact hhr__24), (by rw [(aB_0 b x (by omega) (by omega) (by omega))]; show _ = (((t_ ++ (aPB b x).2).length : Nat) : Int); exact htz44_25), (by rw [(aB_0 b x (by omega) (by omega) (by omega))]; show TRC _ (t_ ++ (aPB b x).2); exact hhTR2_26)⟩)
      · refine V_aload_n X 0 rfl dX11_beginning_65 ?_
        refine V_iload_n X 1 rfl dX11_beginning_66 ?_
        refine V_iload_n X 2 rfl dX11_beginning_67 ?_
        refine V_callV (C := RX11) (wr := []) (st := []) X (c_X11_wholeBegins l D Y m R v0 v7 v8 v9 v15 v16 v17 v18 v19 v27 v31 v32 v33 v34 v38 v42 v44 a43 a45 t_ b bn K x tv44 hTR tb hbn hKb hK8 (by omega)) 2 gX11_beginning_X11_wholeBegins rfl (by decide +kernel) ⟨rfl, rfl⟩ ⟨Nat.le_of_ble_eq_true rfl, Nat.le_of_ble_eq_true rfl⟩ [0, 1, 2] [] rfl rfl rfl rfl (by decide) (ci := 10) rfl rfl 0 rfl rfl rfl (Nat.le_of_ble_eq_true rfl) ⟨Nat.le_of_ble_eq_true rfl, Nat.le_of_ble_eq_true rfl⟩ dX11_beginning_68 (fun v_68 w_68 h_68 => ?_)
        obtain ⟨r_28, z44_29, b45_30, rfl, rfl, hhr__31, htz44_32, hhTR2_33⟩ := h_68
        refine V_to (pc' := 71) (ls' := [(0, .ref m), (1, .int b), (2, .int x)]) (st' := [.int r_28]) (ws' := [(m, .inr (10, mF R v0 v7 v8 v9 v15 v16 v17 v18 v19 v27 v31 v32 v33 v34 v38 v42 z44_29)), ((R 43), .inl (Y 0, 50, .inl a43)), ((R 45), .inl (Y 0, 24, .inl b45_30))]) ?_ rfl rfl rfl rfl
        refine V_goto X 80 (by decide) dX11_beginning_71 ?_
        exact V_iret X hr dX11_beginning_80 (⟨r_28, z44_29, b45_30, rfl, rfl, (by rw [(aB_6 b x (by omega))]; exact hhr__31), (by rw [(aB_6 b x (by omega))]; show _ = (((t_ ++ (aWB b x).2).length : Nat) : Int); exact htz44_32), (by rw [(aB_6 b x (by omega))]; show TRC _ (t_ ++ (aWB b x).2); exact hhTR2_33)⟩)
    · refine V_aload_n X 0 rfl dX11_beginning_39 ?_
      refine V_bipush (v := (81 : Int32)) X (by decide) dX11_beginning_40 ?_
      refine V_callV (C := RX11) (wr := [((R 43), .inl (Y 0, 50, .inl a43))]) (st := []) X (c_X11_ran l D Y m R v0 v7 v8 v9 v15 v16 v17 v18 v19 v27 v31 v32 v33 v34 v38 v42 v44 a45 t_ (81 : Int32) 81 tv44 hTR (by (try simp only [List.length_append, List.length_cons, List.length_nil]); omega) (by decide)) 1 gX11_beginning_X11_ran rfl (by decide +kernel) ⟨rfl, rfl⟩ ⟨Nat.le_of_ble_eq_true rfl, Nat.le_of_ble_eq_true rfl⟩ [0, 2] [1] rfl rfl rfl rfl (by decide) (ci := 10) rfl rfl 0 rfl rfl rfl (Nat.le_of_ble_eq_true rfl) ⟨Nat.le_of_ble_eq_true rfl, Nat.le_of_ble_eq_true rfl⟩ dX11_beginning_42 (fun v_42 w_42 h_42 => ?_)
      obtain ⟨z44_35, b45_36, rfl, rfl, htz44_37, hhTR2_38⟩ := h_42
      refine V_to (pc' := 45) (ls' := [(0, .ref m), (1, .int b), (2, .int x)]) (st' := []) (ws' := [((R 43), .inl (Y 0, 50, .inl a43)), (m, .inr (10, mF R v0 v7 v8 v9 v15 v16 v17 v18 v19 v27 v31 v32 v33 v34 v38 v42 z44_35)), ((R 45), .inl (Y 0, 24, .inl b45_36))]) ?_ rfl rfl rfl rfl
      refine V_aload_n X 0 rfl dX11_beginning_45 ?_
      refine V_iload_n X 1 rfl dX11_beginning_46 ?_
      refine V_iload_n X 2 rfl dX11_beginning_47 ?_
      refine V_callV (C := RX11) (wr := []) (st := []) X (c_X11_wholeBegins l D Y m R v0 v7 v8 v9 v15 v16 v17 v18 v19 v27 v31 v32 v33 v34 v38 v42 z44_35 a43 b45_36 (t_ ++ [ 81 ]) b bn K x (by have h9 : z44_35.toInt = (((t_ ++ [81]).length : Nat) : Int) := htz44_37; omega) hhTR2_38 tb hbn hKb hK8 (by (try simp only [List.length_append, List.length_cons, List.length_nil]); omega)) 2 gX11_beginning_X11_wholeBegins rfl (by decide +kernel) ⟨rfl, rfl⟩ ⟨Nat.le_of_ble_eq_true rfl, Nat.le_of_ble_eq_true rfl⟩ [1, 0, 2] [] rfl rfl rfl rfl (by decide) (ci := 10) rfl rfl 0 rfl rfl rfl (Nat.le_of_ble_eq_true rfl) ⟨Nat.le_of_ble_eq_true rfl, Nat.le_of_ble_eq_true rfl⟩ dX11_beginning_48 (fun v_48 w_48 h_48 => ?_)
      obtain ⟨r_40, z44_41, b45_42, rfl, rfl, hhr__43, htz44_44, hhTR2_45⟩ := h_48
      refine V_to (pc' := 51) (ls' := [(0, .ref m), (1, .int b), (2, .int x)]) (st' := [.int r_40]) (ws' := [(m, .inr (10, mF R v0 v7 v8 v9 v15 v16 v17 v18 v19 v27 v31 v32 v33 v34 v38 v42 z44_41)), ((R 43), .inl (Y 0, 50, .inl a43)), ((R 45), .inl (Y 0, 24, .inl b45_42))]) ?_ rfl rfl rfl rfl
      refine V_iconst (v := (1 : Int32)) X (by decide) dX11_beginning_51 ?_
      refine V_isub X dX11_beginning_52 (fun x_46 ex_46 => ?_)
      exact V_iret X hr dX11_beginning_53 (⟨x_46, z44_41, b45_42, rfl, rfl, (by rw [(aB_7 b x (by omega))]; show _ = (aWB b x).1 - 1; rw [ex_46, hhr__43]), (by rw [(aB_7 b x (by omega))]; show _ = (((t_ ++ ([81] ++ (aWB b x).2)).length : Nat) : Int); rw [← ap3]; exact htz44_44), (by rw [(aB_7 b x (by omega))]; show TRC _ (t_ ++ ([81] ++ (aWB b x).2)); rw [← ap3]; exact hhTR2_45)⟩)

set_option maxHeartbeats 4000000 in
set_option maxRecDepth 100000 in
theorem c_X11_plainHums (l : Launch) (D : va_G) (Y : Nat → ClassId) (m : Nat) (R : Nat → Nat) (v0 : Int32) (v7 : Int32) (v8 : Int32) (v9 : Int32) (v15 : Int32) (v16 : Int32) (v17 : Int32) (v18 : Int32) (v19 : Int32) (v27 : Int32) (v31 : Int32) (v32 : Int32) (v33 : Int32) (v34 : Int32) (v38 : Int32) (v42 : Int32) (v44 : Int32) (a43 : Nat → Int32) (a45 : Nat → Int32) (t_ : List Nat) (b : Int32) (bn : Nat) (K : Nat) (x : Int32) (tv44 : v44.toInt = ((t_.length : Nat) : Int)) (hTR : TRC a45 t_) (tb : b.toInt = ((bn : Nat) : Int)) (hbn : bn < 50) (hKb : (a43 bn).toInt = ((K : Nat) : Int)) (hK8 : K < 8) (htl : t_.length + 4 ≤ 60) : Mg l yX11_plainHums wsX11_plainHums ({ frames := 4, cells := 0, slots := 0, locals := 87 }) D Y [(m, .inr (10, mF R v0 v7 v8 v9 v15 v16 v17 v18 v19 v27 v31 v32 v33 v34 v38 v42 v44)), ((R 43), .inl (Y 0, 50, .inl a43)), ((R 45), .inl (Y 0, 24, .inl a45))] [.ref m, .int b, .int x] 0 0 (fun vv__ ww__ => (∃ (r : Int32), ∃ (z44 : Int32), ∃ (b45 : Nat → Int32), vv__ = some (.int r) ∧ ww__ = [(m, .inr (10, mF R v0 v7 v8 v9 v15 v16 v17 v18 v19 v27 v31 v32 v33 v34 v38 v42 z44)), ((R 43), .inl (Y 0, 50, .inl a43)), ((R 45), .inl (Y 0, 24, .inl b45))] ∧ (r = (aPH K b x).1) ∧ (z44.toInt = (((t_ ++ (aPH K b x).2).length : Nat) : Int)) ∧ (TRC b45 (t_ ++ (aPH K b x).2)))) := by
  refine Mg_of (cc := cX11_plainHums) (maxL := 3) (ret := (some .int)) (ls0 := [(0, .ref m), (1, .int b), (2, .int x)]) RX11 (by decide) rfl rfl rfl (Nat.le_of_ble_eq_true rfl) (fun p__ e__ s__ m__ b__ t__ c__ X hr hn => ?_)
  refine V_aload_n X 0 rfl dX11_plainHums_0 ?_
  refine V_bipush (v := (10 : Int32)) X (by decide) dX11_plainHums_1 ?_
  refine V_callV (C := RX11) (wr := [((R 43), .inl (Y 0, 50, .inl a43))]) (st := []) X (c_X11_ran l D Y m R v0 v7 v8 v9 v15 v16 v17 v18 v19 v27 v31 v32 v33 v34 v38 v42 v44 a45 t_ (10 : Int32) 10 tv44 hTR (by (try simp only [List.length_append, List.length_cons, List.length_nil]); omega) (by decide)) 1 gX11_plainHums_X11_ran rfl (by decide +kernel) ⟨rfl, rfl⟩ ⟨Nat.le_of_ble_eq_true rfl, Nat.le_of_ble_eq_true rfl⟩ [0, 2] [1] rfl rfl rfl rfl (by decide) (ci := 10) rfl rfl 0 rfl rfl rfl (Nat.le_of_ble_eq_true rfl) ⟨Nat.le_of_ble_eq_true rfl, Nat.le_of_ble_eq_true rfl⟩ dX11_plainHums_3 (fun v_3 w_3 h_3 => ?_)
  obtain ⟨z44_2, b45_3, rfl, rfl, htz44_4, hhTR2_5⟩ := h_3
  refine V_to (pc' := 6) (ls' := [(0, .ref m), (1, .int b), (2, .int x)]) (st' := []) (ws' := [((R 43), .inl (Y 0, 50, .inl a43)), (m, .inr (10, mF R v0 v7 v8 v9 v15 v16 v17 v18 v19 v27 v31 v32 v33 v34 v38 v42 z44_2)), ((R 45), .inl (Y 0, 24, .inl b45_3))]) ?_ rfl rfl rfl rfl
  refine V_aload_n X 0 rfl dX11_plainHums_6 ?_
  refine V_iload_n X 1 rfl dX11_plainHums_7 ?_
  refine V_iload_n X 2 rfl dX11_plainHums_8 ?_
  refine V_callV (C := RX11) (wr := []) (st := []) X (c_X11_beginning l D Y m R v0 v7 v8 v9 v15 v16 v17 v18 v19 v27 v31 v32 v33 v34 v38 v42 z44_2 a43 b45_3 (t_ ++ [ 10 ]) b bn K x (by have h9 : z44_2.toInt = (((t_ ++ [10]).length : Nat) : Int) := htz44_4; omega) hhTR2_5 tb hbn hKb hK8 (by (try simp only [List.length_append, List.length_cons, List.length_nil]); omega)) 2 gX11_plainHums_X11_beginning rfl (by decide +kernel) ⟨rfl, rfl⟩ ⟨Nat.le_of_ble_eq_true rfl, Nat.le_of_ble_eq_true rfl⟩ [1, 0, 2] [] rfl rfl rfl rfl (by decide) (ci := 10) rfl rfl 0 rfl rfl rfl (Nat.le_of_ble_eq_true rfl) ⟨Nat.le_of_ble_eq_true rfl, Nat.le_of_ble_eq_true rfl⟩ dX11_plainHums_9 (fun v_9 w_9 h_9 => ?_)
  obtain ⟨r_7, z44_8, b45_9, rfl, rfl, hhr__10, htz44_11, hhTR2_12⟩ := h_9
  refine V_to (pc' := 12) (ls' := [(0, .ref m), (1, .int b), (2, .int x)]) (st' := [.int r_7]) (ws' := [(m, .inr (10, mF R v0 v7 v8 v9 v15 v16 v17 v18 v19 v27 v31 v32 v33 v34 v38 v42 z44_8)), ((R 43), .inl (Y 0, 50, .inl a43)), ((R 45), .inl (Y 0, 24, .inl b45_9))]) ?_ rfl rfl rfl rfl
  refine V_iconst (v := (2 : Int32)) X (by decide) dX11_plainHums_12 ?_
  refine V_imul X dX11_plainHums_13 (fun x_13 ex_13 => ?_)
  exact V_iret X hr dX11_plainHums_14 (⟨x_13, z44_8, b45_9, rfl, rfl, (by show _ = (aB K b x).1 * 2; rw [ex_13, hhr__10]), (by show _ = (((t_ ++ ([10] ++ (aB K b x).2)).length : Nat) : Int); rw [← ap3]; exact htz44_11), (by show TRC _ (t_ ++ ([10] ++ (aB K b x).2)); rw [← ap3]; exact hhTR2_12)⟩)

set_option maxHeartbeats 4000000 in
set_option maxRecDepth 100000 in
theorem c_X11_wordedHums (l : Launch) (D : va_G) (Y : Nat → ClassId) (m : Nat) (R : Nat → Nat) (v0 : Int32) (v7 : Int32) (v8 : Int32) (v9 : Int32) (v15 : Int32) (v16 : Int32) (v17 : Int32) (v18 : Int32) (v19 : Int32) (v27 : Int32) (v31 : Int32) (v32 : Int32) (v33 : Int32) (v34 : Int32) (v38 : Int32) (v42 : Int32) (v44 : Int32) (a43 : Nat → Int32) (a45 : Nat → Int32) (t_ : List Nat) (b : Int32) (bn : Nat) (K : Nat) (x : Int32) (tv44 : v44.toInt = ((t_.length : Nat) : Int)) (hTR : TRC a45 t_) (tb : b.toInt = ((bn : Nat) : Int)) (hbn : bn < 50) (hKb : (a43 bn).toInt = ((K : Nat) : Int)) (hK8 : K < 8) (htl : t_.length + 5 ≤ 60) : Mg l yX11_wordedHums wsX11_wordedHums ({ frames := 5, cells := 0, slots := 0, locals := 109 }) D Y [(m, .inr (10, mF R v0 v7 v8 v9 v15 v16 v17 v18 v19 v27 v31 v32 v33 v34 v38 v42 v44)), ((R 43), .inl (Y 0, 50, .inl a43)), ((R 45), .inl (Y 0, 24, .inl a45))] [.ref m, .int b, .int x] 0 0 (fun vv__ ww__ => (∃ (r : Int32), ∃ (z44 : Int32), ∃ (b45 : Nat → Int32), vv__ = some (.int r) ∧ ww__ = [(m, .inr (10, mF R v0 v7 v8 v9 v15 v16 v17 v18 v19 v27 v31 v32 v33 v34 v38 v42 z44)), ((R 43), .inl (Y 0, 50, .inl a43)), ((R 45), .inl (Y 0, 24, .inl b45))] ∧ (r = (aWH K b x).1) ∧ (z44.toInt = (((t_ ++ (aWH K b x).2).length : Nat) : Int)) ∧ (TRC b45 (t_ ++ (aWH K b x).2)))) := by
  refine Mg_of (cc := cX11_wordedHums) (maxL := 3) (ret := (some .int)) (ls0 := [(0, .ref m), (1, .int b), (2, .int x)]) RX11 (by decide) rfl rfl rfl (Nat.le_of_ble_eq_true rfl) (fun p__ e__ s__ m__ b__ t__ c__ X hr hn => ?_)
  refine V_aload_n X 0 rfl dX11_wordedHums_0 ?_
  refine V_bipush (v := (30 : Int32)) X (by decide) dX11_wordedHums_1 ?_
  refine V_callV (C := RX11) (wr := [((R 43), .inl (Y 0, 50, .inl a43))]) (st := []) X (c_X11_ran l D Y m R v0 v7 v8 v9 v15 v16 v17 v18 v19 v27 v31 v32 v33 v34 v38 v42 v44 a45 t_ (30 : Int32) 30 tv44 hTR (by (try simp only [List.length_append, List.length_cons, List.length_nil]); omega) (by decide)) 1 gX11_wordedHums_X11_ran rfl (by decide +kernel) ⟨rfl, rfl⟩ ⟨Nat.le_of_ble_eq_true rfl, Nat.le_of_ble_eq_true rfl⟩ [0, 2] [1] rfl rfl rfl rfl (by decide) (ci := 10) rfl rfl 0 rfl rfl rfl (Nat.le_of_ble_eq_true rfl) ⟨Nat.le_of_ble_eq_true rfl, Nat.le_of_ble_eq_true rfl⟩ dX11_wordedHums_3 (fun v_3 w_3 h_3 => ?_)
  obtain ⟨z44_2, b45_3, rfl, rfl, htz44_4, hhTR2_5⟩ := h_3
  refine V_to (pc' := 6) (ls' := [(0, .ref m), (1, .int b), (2, .int x)]) (st' := []) (ws' := [((R 43), .inl (Y 0, 50, .inl a43)), (m, .inr (10, mF R v0 v7 v8 v9 v15 v16 v17 v18 v19 v27 v31 v32 v33 v34 v38 v42 z44_2)), ((R 45), .inl (Y 0, 24, .inl b45_3))]) ?_ rfl rfl rfl rfl
  refine V_aload_n X 0 rfl dX11_wordedHums_6 ?_
  refine V_iload_n X 1 rfl dX11_wordedHums_7 ?_
  refine V_iload_n X 2 rfl dX11_wordedHums_8 ?_
  refine V_callV (C := RX11) (wr := []) (st := []) X (c_X11_plainHums l D Y m R v0 v7 v8 v9 v15 v16 v17 v18 v19 v27 v31 v32 v33 v34 v38 v42 z44_2 a43 b45_3 (t_ ++ [ 30 ]) b bn K x (by have h9 : z44_2.toInt = (((t_ ++ [30]).length : Nat) : Int) := htz44_4; omega) hhTR2_5 tb hbn hKb hK8 (by (try simp only [List.length_append, List.length_cons, List.length_nil]); omega)) 2 gX11_wordedHums_X11_plainHums rfl (by decide +kernel) ⟨rfl, rfl⟩ ⟨Nat.le_of_ble_eq_true rfl, Nat.le_of_ble_eq_true rfl⟩ [1, 0, 2] [] rfl rfl rfl rfl (by decide) (ci := 10) rfl rfl 0 rfl rfl rfl (Nat.le_of_ble_eq_true rfl) ⟨Nat.le_of_ble_eq_true rfl, Nat.le_of_ble_eq_true rfl⟩ dX11_wordedHums_9 (fun v_9 w_9 h_9 => ?_)
  obtain ⟨r_7, z44_8, b45_9, rfl, rfl, hhr__10, htz44_11, hhTR2_12⟩ := h_9
  refine V_to (pc' := 12) (ls' := [(0, .ref m), (1, .int b), (2, .int x)]) (st' := [.int r_7]) (ws' := [(m, .inr (10, mF R v0 v7 v8 v9 v15 v16 v17 v18 v19 v27 v31 v32 v33 v34 v38 v42 z44_8)), ((R 43), .inl (Y 0, 50, .inl a43)), ((R 45), .inl (Y 0, 24, .inl b45_9))]) ?_ rfl rfl rfl rfl
  refine V_ineg X dX11_wordedHums_12 (fun x_13 ex_13 => ?_)
  exact V_iret X hr dX11_wordedHums_13 (⟨x_13, z44_8, b45_9, rfl, rfl, (by show _ = -(aPH K b x).1; rw [ex_13, hhr__10]), (by show _ = (((t_ ++ ([30] ++ (aPH K b x).2)).length : Nat) : Int); rw [← ap3]; exact htz44_11), (by show TRC _ (t_ ++ ([30] ++ (aPH K b x).2)); rw [← ap3]; exact hhTR2_12)⟩)

set_option maxHeartbeats 4000000 in
set_option maxRecDepth 100000 in
theorem c_X11_plainSays (l : Launch) (D : va_G) (Y : Nat → ClassId) (m : Nat) (R : Nat → Nat) (v0 : Int32) (v7 : Int32) (v8 : Int32) (v9 : Int32) (v15 : Int32) (v16 : Int32) (v17 : Int32) (v18 : Int32) (v19 : Int32) (v27 : Int32) (v31 : Int32) (v32 : Int32) (v33 : Int32) (v34 : Int32) (v38 : Int32) (v42 : Int32) (v44 : Int32) (a43 : Nat → Int32) (a45 : Nat → Int32) (t_ : List Nat) (b : Int32) (bn : Nat) (K : Nat) (x : Int32) (tv44 : v44.toInt = ((t_.length : Nat) : Int)) (hTR : TRC a45 t_) (tb : b.toInt = ((bn : Nat) : Int)) (hbn : bn < 50) (hKb : (a43 bn).toInt = ((K : Nat) : Int)) (hK8 : K < 8) (htl : t_.length + 1 ≤ 60) : Mg l yX11_plainSays wsX11_plainSays ({ frames := 1, cells := 0, slots := 0, locals := 21 }) D Y [(m, .inr (10, mF R v0 v7 v8 v9 v15 v16 v17 v18 v19 v27 v31 v32 v33 v34 v38 v42 v44)), ((R 43), .inl (Y 0, 50, .inl a43)), ((R 45), .inl (Y 0, 24, .inl a45))] [.ref m, .int b, .int x] 0 0 (fun vv__ ww__ => (∃ (r : Int32), ∃ (z44 : Int32), ∃ (b45 : Nat → Int32), vv__ = some (.int r) ∧ ww__ = [(m, .inr (10, mF R v0 v7 v8 v9 v15 v16 v17 v18 v19 v27 v31 v32 v33 v34 v38 v42 z44)), ((R 43), .inl (Y 0, 50, .inl a43)), ((R 45), .inl (Y 0, 24, .inl b45))] ∧ (r = (aPS b x).1) ∧ (z44.toInt = (((t_ ++ (aPS b x).2).length : Nat) : Int)) ∧ (TRC b45 (t_ ++ (aPS b x).2)))) := by
  refine Mg_of (cc := cX11_plainSays) (maxL := 3) (ret := (some .int)) (ls0 := [(0, .ref m), (1, .int b), (2, .int x)]) RX11 (by decide) rfl rfl rfl (Nat.le_of_ble_eq_true rfl) (fun p__ e__ s__ m__ b__ t__ c__ X hr hn => ?_)
  refine V_aload_n X 0 rfl dX11_plainSays_0 ?_
  refine V_bipush (v := (11 : Int32)) X (by decide) dX11_plainSays_1 ?_
  refine V_callV (C := RX11) (wr := [((R 43), .inl (Y 0, 50, .inl a43))]) (st := []) X (c_X11_ran l D Y m R v0 v7 v8 v9 v15 v16 v17 v18 v19 v27 v31 v32 v33 v34 v38 v42 v44 a45 t_ (11 : Int32) 11 tv44 hTR (by (try simp only [List.length_append, List.length_cons, List.length_nil]); omega) (by decide)) 1 gX11_plainSays_X11_ran rfl (by decide +kernel) ⟨rfl, rfl⟩ ⟨Nat.le_of_ble_eq_true rfl, Nat.le_of_ble_eq_true rfl⟩ [0, 2] [1] rfl rfl rfl rfl (by decide) (ci := 10) rfl rfl 0 rfl rfl rfl (Nat.le_of_ble_eq_true rfl) ⟨Nat.le_of_ble_eq_true rfl, Nat.le_of_ble_eq_true rfl⟩ dX11_plainSays_3 (fun v_3 w_3 h_3 => ?_)
  obtain ⟨z44_2, b45_3, rfl, rfl, htz44_4, hhTR2_5⟩ := h_3
  refine V_to (pc' := 6) (ls' := [(0, .ref m), (1, .int b), (2, .int x)]) (st' := []) (ws' := [((R 43), .inl (Y 0, 50, .inl a43)), (m, .inr (10, mF R v0 v7 v8 v9 v15 v16 v17 v18 v19 v27 v31 v32 v33 v34 v38 v42 z44_2)), ((R 45), .inl (Y 0, 24, .inl b45_3))]) ?_ rfl rfl rfl rfl
  refine V_iload_n X 2 rfl dX11_plainSays_6 ?_
  refine V_iload_n X 1 rfl dX11_plainSays_7 ?_
  refine V_ixor X dX11_plainSays_8 (fun x_6 ex_6 => ?_)
  refine V_ws (ws' := [(m, .inr (10, mF R v0 v7 v8 v9 v15 v16 v17 v18 v19 v27 v31 v32 v33 v34 v38 v42 z44_2)), ((R 43), .inl (Y 0, 50, .inl a43)), ((R 45), .inl (Y 0, 24, .inl b45_3))]) [1, 0, 2] rfl rfl rfl ?_
  exact V_iret X hr dX11_plainSays_9 (⟨x_6, z44_2, b45_3, rfl, rfl, (by show _ = x ^^^ b; exact ex_6), (by show _ = (((t_ ++ [11]).length : Nat) : Int); exact htz44_4), (by show TRC _ (t_ ++ [11]); exact hhTR2_5)⟩)

set_option maxHeartbeats 4000000 in
set_option maxRecDepth 100000 in
theorem c_X11_rhymedSays (l : Launch) (D : va_G) (Y : Nat → ClassId) (m : Nat) (R : Nat → Nat) (v0 : Int32) (v7 : Int32) (v8 : Int32) (v9 : Int32) (v15 : Int32) (v16 : Int32) (v17 : Int32) (v18 : Int32) (v19 : Int32) (v27 : Int32) (v31 : Int32) (v32 : Int32) (v33 : Int32) (v34 : Int32) (v38 : Int32) (v42 : Int32) (v44 : Int32) (a43 : Nat → Int32) (a45 : Nat → Int32) (t_ : List Nat) (b : Int32) (bn : Nat) (K : Nat) (x : Int32) (tv44 : v44.toInt = ((t_.length : Nat) : Int)) (hTR : TRC a45 t_) (tb : b.toInt = ((bn : Nat) : Int)) (hbn : bn < 50) (hKb : (a43 bn).toInt = ((K : Nat) : Int)) (hK8 : K < 8) (htl : t_.length + 2 ≤ 60) : Mg l yX11_rhymedSays wsX11_rhymedSays ({ frames := 2, cells := 0, slots := 0, locals := 43 }) D Y [(m, .inr (10, mF R v0 v7 v8 v9 v15 v16 v17 v18 v19 v27 v31 v32 v33 v34 v38 v42 v44)), ((R 43), .inl (Y 0, 50, .inl a43)), ((R 45), .inl (Y 0, 24, .inl a45))] [.ref m, .int b, .int x] 0 0 (fun vv__ ww__ => (∃ (r : Int32), ∃ (z44 : Int32), ∃ (b45 : Nat → Int32), vv__ = some (.int r) ∧ ww__ = [(m, .inr (10, mF R v0 v7 v8 v9 v15 v16 v17 v18 v19 v27 v31 v32 v33 v34 v38 v42 z44)), ((R 43), .inl (Y 0, 50, .inl a43)), ((R 45), .inl (Y 0, 24, .inl b45))] ∧ (r = (aRS b x).1) ∧ (z44.toInt = (((t_ ++ (aRS b x).2).length : Nat) : Int)) ∧ (TRC b45 (t_ ++ (aRS b x).2)))) := by
  refine Mg_of (cc := cX11_rhymedSays) (maxL := 3) (ret := (some .int)) (ls0 := [(0, .ref m), (1, .int b), (2, .int x)]) RX11 (by decide) rfl rfl rfl (Nat.le_of_ble_eq_true rfl) (fun p__ e__ s__ m__ b__ t__ c__ X hr hn => ?_)
  refine V_aload_n X 0 rfl dX11_rhymedSays_0 ?_
  refine V_bipush (v := (40 : Int32)) X (by decide) dX11_rhymedSays_1 ?_
  refine V_callV (C := RX11) (wr := [((R 43), .inl (Y 0, 50, .inl a43))]) (st := []) X (c_X11_ran l D Y m R v0 v7 v8 v9 v15 v16 v17 v18 v19 v27 v31 v32 v33 v34 v38 v42 v44 a45 t_ (40 : Int32) 40 tv44 hTR (by (try simp only [List.length_append, List.length_cons, List.length_nil]); omega) (by decide)) 1 gX11_rhymedSays_X11_ran rfl (by decide +kernel) ⟨rfl, rfl⟩ ⟨Nat.le_of_ble_eq_true rfl, Nat.le_of_ble_eq_true rfl⟩ [0, 2] [1] rfl rfl rfl rfl (by decide) (ci := 10) rfl rfl 0 rfl rfl rfl (Nat.le_of_ble_eq_true rfl) ⟨Nat.le_of_ble_eq_true rfl, Nat.le_of_ble_eq_true rfl⟩ dX11_rhymedSays_3 (fun v_3 w_3 h_3 => ?_)
  obtain ⟨z44_2, b45_3, rfl, rfl, htz44_4, hhTR2_5⟩ := h_3
  refine V_to (pc' := 6) (ls' := [(0, .ref m), (1, .int b), (2, .int x)]) (st' := []) (ws' := [((R 43), .inl (Y 0, 50, .inl a43)), (m, .inr (10, mF R v0 v7 v8 v9 v15 v16 v17 v18 v19 v27 v31 v32 v33 v34 v38 v42 z44_2)), ((R 45), .inl (Y 0, 24, .inl b45_3))]) ?_ rfl rfl rfl rfl
  refine V_aload_n X 0 rfl dX11_rhymedSays_6 ?_
  refine V_iload_n X 1 rfl dX11_rhymedSays_7 ?_
  refine V_iload_n X 2 rfl dX11_rhymedSays_8 ?_
  refine V_callV (C := RX11) (wr := []) (st := []) X (c_X11_plainSays l D Y m R v0 v7 v8 v9 v15 v16 v17 v18 v19 v27 v31 v32 v33 v34 v38 v42 z44_2 a43 b45_3 (t_ ++ [ 40 ]) b bn K x (by have h9 : z44_2.toInt = (((t_ ++ [40]).length : Nat) : Int) := htz44_4; omega) hhTR2_5 tb hbn hKb hK8 (by (try simp only [List.length_append, List.length_cons, List.length_nil]); omega)) 2 gX11_rhymedSays_X11_plainSays rfl (by decide +kernel) ⟨rfl, rfl⟩ ⟨Nat.le_of_ble_eq_true rfl, Nat.le_of_ble_eq_true rfl⟩ [1, 0, 2] [] rfl rfl rfl rfl (by decide) (ci := 10) rfl rfl 0 rfl rfl rfl (Nat.le_of_ble_eq_true rfl) ⟨Nat.le_of_ble_eq_true rfl, Nat.le_of_ble_eq_true rfl⟩ dX11_rhymedSays_9 (fun v_9 w_9 h_9 => ?_)
  obtain ⟨r_7, z44_8, b45_9, rfl, rfl, hhr__10, htz44_11, hhTR2_12⟩ := h_9
  refine V_to (pc' := 12) (ls' := [(0, .ref m), (1, .int b), (2, .int x)]) (st' := [.int r_7]) (ws' := [(m, .inr (10, mF R v0 v7 v8 v9 v15 v16 v17 v18 v19 v27 v31 v32 v33 v34 v38 v42 z44_8)), ((R 43), .inl (Y 0, 50, .inl a43)), ((R 45), .inl (Y 0, 24, .inl b45_9))]) ?_ rfl rfl rfl rfl
  refine V_iconst (v := (3 : Int32)) X (by decide) dX11_rhymedSays_12 ?_
  refine V_imul X dX11_rhymedSays_13 (fun x_13 ex_13 => ?_)
  exact V_iret X hr dX11_rhymedSays_14 (⟨x_13, z44_8, b45_9, rfl, rfl, (by show _ = (aPS b x).1 * 3; rw [ex_13, hhr__10]), (by show _ = (((t_ ++ ([40] ++ (aPS b x).2)).length : Nat) : Int); rw [← ap3]; exact htz44_11), (by show TRC _ (t_ ++ ([40] ++ (aPS b x).2)); rw [← ap3]; exact hhTR2_12)⟩)

theorem in_X11_saying_X11 : ∀ w ∈ wsX110, w ∈ wsX11_saying := fun w h => List.mem_cons_of_mem _ (List.mem_append_right _ h)
set_option maxHeartbeats 4000000 in
set_option maxRecDepth 100000 in
theorem c_X11_saying (l : Launch) (D : va_G) (Y : Nat → ClassId) (m : Nat) (R : Nat → Nat) (v0 : Int32) (v7 : Int32) (v8 : Int32) (v9 : Int32) (v15 : Int32) (v16 : Int32) (v17 : Int32) (v18 : Int32) (v19 : Int32) (v27 : Int32) (v31 : Int32) (v32 : Int32) (v33 : Int32) (v34 : Int32) (v38 : Int32) (v42 : Int32) (v44 : Int32) (a43 : Nat → Int32) (a45 : Nat → Int32) (t_ : List Nat) (b : Int32) (bn : Nat) (K : Nat) (x : Int32) (tv44 : v44.toInt = ((t_.length : Nat) : Int)) (hTR : TRC a45 t_) (tb : b.toInt = ((bn : Nat) : Int)) (hbn : bn < 50) (hKb : (a43 bn).toInt = ((K : Nat) : Int)) (hK8 : K < 8) (htl : t_.length + 6 ≤ 60) : Mg l yX11_saying wsX11_saying ({ frames := 4, cells := 0, slots := 0, locals := 87 }) D Y [(m, .inr (10, mF R v0 v7 v8 v9 v15 v16 v17 v18 v19 v27 v31 v32 v33 v34 v38 v42 v44)), ((R 43), .inl (Y 0, 50, .inl a43)), ((R 45), .inl (Y 0, 24, .inl a45))] [.ref m, .int b, .int x] 0 0 (fun vv__ ww__ => (∃ (r : Int32), ∃ (z44 : Int32), ∃ (b45 : Nat → Int32), vv__ = some (.int r) ∧ ww__ = [(m, .inr (10, mF R v0 v7 v8 v9 v15 v16 v17 v18 v19 v27 v31 v32 v33 v34 v38 v42 z44)), ((R 43), .inl (Y 0, 50, .inl a43)), ((R 45), .inl (Y 0, 24, .inl b45))] ∧ (r = (aS K b x).1) ∧ (z44.toInt = (((t_ ++ (aS K b x).2).length : Nat) : Int)) ∧ (TRC b45 (t_ ++ (aS K b x).2)))) := by
  refine Mg_of (cc := cX11_saying) (maxL := 4) (ret := (some .int)) (ls0 := [(0, .ref m), (1, .int b), (2, .int x)]) RX11 (by decide) rfl rfl rfl (Nat.le_of_ble_eq_true rfl) (fun p__ e__ s__ m__ b__ t__ c__ X hr hn => ?_)
  refine V_aload_n X 0 rfl dX11_saying_0 ?_
  refine V_get (C := RX11) (T := TX11) (N := 50) (ci := 10) (v := .ref (R 43)) X in_X11_saying_X11 0 rfl rfl 43 (by decide) (List.mem_of_getElem? (i := 1) rfl) rfl rfl dX11_saying_1 ?_
  refine V_iload_n X 1 rfl dX11_saying_4 ?_
  refine V_iald X 1 bn rfl tb (by omega) dX11_saying_5 ?_
  refine V_nm (fun x_1 ex_1 => ?_)
  have tx_1 : x_1.toInt = ((K : Nat) : Int) := by rw [ex_1]; exact hKb
  refine V_iconst (v := (5 : Int32)) X (by decide) dX11_saying_6 ?_
  refine V_icmp_ne X tx_1 (show (5 : Int32).toInt = 5 from by decide) 32 dX11_saying_7 (by decide) (fun c_7 => ?_) (fun c_7 => ?_)
  · refine V_aload_n X 0 rfl dX11_saying_32 ?_
    refine V_get (C := RX11) (T := TX11) (N := 50) (ci := 10) (v := .ref (R 43)) X in_X11_saying_X11 0 rfl rfl 43 (by decide) (List.mem_of_getElem? (i := 1) rfl) rfl rfl dX11_saying_33 ?_
    refine V_iload_n X 1 rfl dX11_saying_36 ?_
    refine V_iald X 1 bn rfl tb (by omega) dX11_saying_37 ?_
    refine V_nm (fun x_2 ex_2 => ?_)
    have tx_2 : x_2.toInt = ((K : Nat) : Int) := by rw [ex_2]; exact hKb
    refine V_iconst (v := (3 : Int32)) X (by decide) dX11_saying_38 ?_
    refine V_icmp_ne X tx_2 (show (3 : Int32).toInt = 3 from by decide) 51 dX11_saying_39 (by decide) (fun c_39 => ?_) (fun c_39 => ?_)
    · refine V_aload_n X 0 rfl dX11_saying_51 ?_
      refine V_iload_n X 1 rfl dX11_saying_52 ?_
      refine V_iload_n X 2 rfl dX11_saying_53 ?_
      refine V_callV (C := RX11) (wr := []) (st := []) X (c_X11_plainSays l D Y m R v0 v7 v8 v9 v15 v16 v17 v18 v19 v27 v31 v32 v33 v34 v38 v42 v44 a43 a45 t_ b bn K x tv44 hTR tb hbn hKb hK8 (by omega)) 2 gX11_saying_X11_plainSays rfl (by decide +kernel) ⟨rfl, rfl⟩ ⟨Nat.le_of_ble_eq_true rfl, Nat.le_of_ble_eq_true rfl⟩ [0, 1, 2] [] rfl rfl rfl rfl (by decide) (ci := 10) rfl rfl 0 rfl rfl rfl (Nat.le_of_ble_eq_true rfl) ⟨Nat.le_of_ble_eq_true rfl, Nat.le_of_ble_eq_true rfl⟩ dX11_saying_54 (fun v_54 w_54 h_54 => ?_)
      obtain ⟨r_4, z44_5, b45_6, rfl, rfl, hhr__7, htz44_8, hhTR2_9⟩ := h_54
      refine V_to (pc' := 57) (ls' := [(0, .ref m), (1, .int b), (2, .int x)]) (st' := [.int r_4]) (ws' := [(m, .inr (10, mF R v0 v7 v8 v9 v15 v16 v17 v18 v19 v27 v31 v32 v33 v34 v38 v42 z44_5)), ((R 43), .inl (Y 0, 50, .inl a43)), ((R 45), .inl (Y 0, 24, .inl b45_6))]) ?_ rfl rfl rfl rfl
      exact V_iret X hr dX11_saying_57 (⟨r_4, z44_5, b45_6, rfl, rfl, (by rw [(aS_0 b x (by omega) (by omega))]; exact hhr__7), (by rw [(aS_0 b x (by omega) (by omega))]; show _ = (((t_ ++ (aPS b x).2).length : Nat) : Int); exact htz44_8), (by rw [(aS_0 b x (by omega) (by omega))]; show TRC _ (t_ ++ (aPS b x).2); exact hhTR2_9)⟩)
    · refine V_aload_n X 0 rfl dX11_saying_42 ?_
      refine V_iload_n X 1 rfl dX11_saying_43 ?_
      refine V_iload_n X 2 rfl dX11_saying_44 ?_
      refine V_callV (C := RX11) (wr := []) (st := []) X (c_X11_rhymedSays l D Y m R v0 v7 v8 v9 v15 v16 v17 v18 v19 v27 v31 v32 v33 v34 v38 v42 v44 a43 a45 t_ b bn K x tv44 hTR tb hbn hKb hK8 (by omega)) 2 gX11_saying_X11_rhymedSays rfl (by decide +kernel) ⟨rfl, rfl⟩ ⟨Nat.le_of_ble_eq_true rfl, Nat.le_of_ble_eq_true rfl⟩ [0, 1, 2] [] rfl rfl rfl rfl (by decide) (ci := 10) rfl rfl 0 rfl rfl rfl (Nat.le_of_ble_eq_true rfl) ⟨Nat.le_of_ble_eq_true rfl, Nat.le_of_ble_eq_true rfl⟩ dX11_saying_45 (fun v_45 w_45 h_45 => ?_)
      obtain ⟨r_11, z44_12, b45_13, rfl, rfl, hhr__14, htz44_15, hhTR2_16⟩ := h_45
      refine V_to (pc' := 48) (ls' := [(0, .ref m), (1, .int b), (2, .int x)]) (st' := [.int r_11]) (ws' := [(m, .inr (10, mF R v0 v7 v8 v9 v15 v16 v17 v18 v19 v27 v31 v32 v33 v34 v38 v42 z44_12)), ((R 43), .inl (Y 0, 50, .inl a43)), ((R 45), .inl (Y 0, 24, .inl b45_13))]) ?_ rfl rfl rfl rfl
      refine V_goto X 57 (by decide) dX11_saying_48 ?_
      exact V_iret X hr dX11_saying_57 (⟨r_11, z44_12, b45_13, rfl, rfl, (by rw [(aS_3 b x (by omega))]; exact hhr__14), (by rw [(aS_3 b x (by omega))]; show _ = (((t_ ++ (aRS b x).2).length : Nat) : Int); exact htz44_15), (by rw [(aS_3 b x (by omega))]; show TRC _ (t_ ++ (aRS b x).2); exact hhTR2_16)⟩)
  · refine V_aload_n X 0 rfl dX11_saying_10 ?_
    refine V_bipush (v := (60 : Int32)) X (by decide) dX11_saying_11 ?_
    refine V_callV (C := RX11) (wr := [((R 43), .inl (Y 0, 50, .inl a43))]) (st := []) X (c_X11_ran l D Y m R v0 v7 v8 v9 v15 v16 v17 v18 v19 v27 v31 v32 v33 v34 v38 v42 v44 a45 t_ (60 : Int32) 60 tv44 hTR (by (try simp only [List.length_append, List.length_cons, List.length_nil]); omega) (by decide)) 1 gX11_saying_X11_ran rfl (by decide +kernel) ⟨rfl, rfl⟩ ⟨Nat.le_of_ble_eq_true rfl, Nat.le_of_ble_eq_true rfl⟩ [0, 2] [1] rfl rfl rfl rfl (by decide) (ci := 10) rfl rfl 0 rfl rfl rfl (Nat.le_of_ble_eq_true rfl) ⟨Nat.le_of_ble_eq_true rfl, Nat.le_of_ble_eq_true rfl⟩ dX11_saying_13 (fun v_13 w_13 h_13 => ?_)
    obtain ⟨z44_18, b45_19, rfl, rfl, htz44_20, hhTR2_21⟩ := h_13
    refine V_to (pc' := 16) (ls' := [(0, .ref m), (1, .int b), (2, .int x)]) (st' := []) (ws' := [((R 43), .inl (Y 0, 50, .inl a43)), (m, .inr (10, mF R v0 v7 v8 v9 v15 v16 v17 v18 v19 v27 v31 v32 v33 v34 v38 v42 z44_18)), ((R 45), .inl (Y 0, 24, .inl b45_19))]) ?_ rfl rfl rfl rfl
    refine V_aload_n X 0 rfl dX11_saying_16 ?_
    refine V_iload_n X 1 rfl dX11_saying_17 ?_
    refine V_iload_n X 2 rfl dX11_saying_18 ?_
    refine V_callV (C := RX11) (wr := []) (st := []) X (c_X11_rhymedSays l D Y m R v0 v7 v8 v9 v15 v16 v17 v18 v19 v27 v31 v32 v33 v34 v38 v42 z44_18 a43 b45_19 (t_ ++ [ 60 ]) b bn K x (by have h9 : z44_18.toInt = (((t_ ++ [60]).length : Nat) : Int) := htz44_20; omega) hhTR2_21 tb hbn hKb hK8 (by (try simp only [List.length_append, List.length_cons, List.length_nil]); omega)) 2 gX11_saying_X11_rhymedSays rfl (by decide +kernel) ⟨rfl, rfl⟩ ⟨Nat.le_of_ble_eq_true rfl, Nat.le_of_ble_eq_true rfl⟩ [1, 0, 2] [] rfl rfl rfl rfl (by decide) (ci := 10) rfl rfl 0 rfl rfl rfl (Nat.le_of_ble_eq_true rfl) ⟨Nat.le_of_ble_eq_true rfl, Nat.le_of_ble_eq_true rfl⟩ dX11_saying_19 (fun v_19 w_19 h_19 => ?_)
    obtain ⟨r_23, z44_24, b45_25, rfl, rfl, hhr__26, htz44_27, hhTR2_28⟩ := h_19
    refine V_to (pc' := 22) (ls' := [(0, .ref m), (1, .int b), (2, .int x)]) (st' := [.int r_23]) (ws' := [(m, .inr (10, mF R v0 v7 v8 v9 v15 v16 v17 v18 v19 v27 v31 v32 v33 v34 v38 v42 z44_24)), ((R 43), .inl (Y 0, 50, .inl a43)), ((R 45), .inl (Y 0, 24, .inl b45_25))]) ?_ rfl rfl rfl rfl
    refine V_istore_n (ls' := [(3, .int r_23), (0, .ref m), (1, .int b), (2, .int x)]) X (by decide) rfl dX11_saying_22 ?_
    refine V_iload_n X 0 rfl dX11_saying_23 ?_
    refine V_aload_n X 1 rfl dX11_saying_24 ?_
    refine V_iload_n X 2 rfl dX11_saying_25 ?_
    refine V_iconst (v := (2 : Int32)) X (by decide) dX11_saying_26 ?_
    refine V_callV (C := RX11) (wr := []) (st := [.int r_23]) X (c_X11_beginning l D Y m R v0 v7 v8 v9 v15 v16 v17 v18 v19 v27 v31 v32 v33 v34 v38 v42 z44_24 a43 b45_25 ((t_ ++ [ 60 ]) ++ (aRS b x).2) b bn K (2 : Int32) htz44_27 hhTR2_28 tb hbn hKb hK8 (by (try simp only [List.length_append, List.length_cons, List.length_nil]); have h70 := aRS_l b x; omega)) 2 gX11_saying_X11_beginning rfl (by decide +kernel) ⟨rfl, rfl⟩ ⟨Nat.le_of_ble_eq_true rfl, Nat.le_of_ble_eq_true rfl⟩ [0, 1, 2] [] rfl rfl rfl rfl (by decide) (ci := 10) rfl rfl 0 rfl rfl rfl (Nat.le_of_ble_eq_true rfl) ⟨Nat.le_of_ble_eq_true rfl, Nat.le_of_ble_eq_true rfl⟩ dX11_saying_27 (fun v_27 w_27 h_27 => ?_)
    obtain ⟨r_30, z44_31, b45_32, rfl, rfl, hhr__33, htz44_34, hhTR2_35⟩ := h_27
    refine V_to (pc' := 30) (ls' := [(3, .int r_23), (0, .ref m), (1, .int b), (2, .int x)]) (st' := [.int r_30, .int r_23]) (ws' := [(m, .inr (10, mF R v0 v7 v8 v9 v15 v16 v17 v18 v19 v27 v31 v32 v33 v34 v38 v42 z44_31)), ((R 43), .inl (Y 0, 50, .inl a43)), ((R 45), .inl (Y 0, 24, .inl b45_32))]) ?_ rfl rfl rfl rfl
    refine V_isub X dX11_saying_30 (fun x_36 ex_36 => ?_)
    exact V_iret X hr dX11_saying_31 (⟨x_36, z44_31, b45_32, rfl, rfl, (by rw [(aS_5 b x (by omega))]; show _ = (aRS b x).1 - (aB K b 2).1; rw [ex_36, hhr__26, hhr__33]), (by rw [(aS_5 b x (by omega))]; show _ = (((t_ ++ ([60] ++ ((aRS b x).2 ++ (aB K b 2).2))).length : Nat) : Int); rw [← ap4]; exact htz44_34), (by rw [(aS_5 b x (by omega))]; show TRC _ (t_ ++ ([60] ++ ((aRS b x).2 ++ (aB K b 2).2))); rw [← ap4]; exact hhTR2_35)⟩)

theorem in_X11_humming_X11 : ∀ w ∈ wsX110, w ∈ wsX11_humming := fun w h => List.mem_cons_of_mem _ (List.mem_append_right _ h)
set_option maxHeartbeats 4000000 in
set_option maxRecDepth 100000 in
theorem c_X11_humming (l : Launch) (D : va_G) (Y : Nat → ClassId) (m : Nat) (R : Nat → Nat) (v0 : Int32) (v7 : Int32) (v8 : Int32) (v9 : Int32) (v15 : Int32) (v16 : Int32) (v17 : Int32) (v18 : Int32) (v19 : Int32) (v27 : Int32) (v31 : Int32) (v32 : Int32) (v33 : Int32) (v34 : Int32) (v38 : Int32) (v42 : Int32) (v44 : Int32) (a43 : Nat → Int32) (a45 : Nat → Int32) (t_ : List Nat) (b : Int32) (bn : Nat) (K : Nat) (x : Int32) (tv44 : v44.toInt = ((t_.length : Nat) : Int)) (hTR : TRC a45 t_) (tb : b.toInt = ((bn : Nat) : Int)) (hbn : bn < 50) (hKb : (a43 bn).toInt = ((K : Nat) : Int)) (hK8 : K < 8) (htl : t_.length + 11 ≤ 60) : Mg l yX11_humming wsX11_humming ({ frames := 6, cells := 0, slots := 0, locals := 131 }) D Y [(m, .inr (10, mF R v0 v7 v8 v9 v15 v16 v17 v18 v19 v27 v31 v32 v33 v34 v38 v42 v44)), ((R 43), .inl (Y 0, 50, .inl a43)), ((R 45), .inl (Y 0, 24, .inl a45))] [.ref m, .int b, .int x] 0 0 (fun vv__ ww__ => (∃ (r : Int32), ∃ (z44 : Int32), ∃ (b45 : Nat → Int32), vv__ = some (.int r) ∧ ww__ = [(m, .inr (10, mF R v0 v7 v8 v9 v15 v16 v17 v18 v19 v27 v31 v32 v33 v34 v38 v42 z44)), ((R 43), .inl (Y 0, 50, .inl a43)), ((R 45), .inl (Y 0, 24, .inl b45))] ∧ (r = (aH K b x).1) ∧ (z44.toInt = (((t_ ++ (aH K b x).2).length : Nat) : Int)) ∧ (TRC b45 (t_ ++ (aH K b x).2)))) := by
  refine Mg_of (cc := cX11_humming) (maxL := 4) (ret := (some .int)) (ls0 := [(0, .ref m), (1, .int b), (2, .int x)]) RX11 (by decide) rfl rfl rfl (Nat.le_of_ble_eq_true rfl) (fun p__ e__ s__ m__ b__ t__ c__ X hr hn => ?_)
  refine V_aload_n X 0 rfl dX11_humming_0 ?_
  refine V_get (C := RX11) (T := TX11) (N := 50) (ci := 10) (v := .ref (R 43)) X in_X11_humming_X11 0 rfl rfl 43 (by decide) (List.mem_of_getElem? (i := 1) rfl) rfl rfl dX11_humming_1 ?_
  refine V_iload_n X 1 rfl dX11_humming_4 ?_
  refine V_iald X 1 bn rfl tb (by omega) dX11_humming_5 ?_
  refine V_nm (fun x_1 ex_1 => ?_)
  have tx_1 : x_1.toInt = ((K : Nat) : Int) := by rw [ex_1]; exact hKb
  refine V_iconst (v := (3 : Int32)) X (by decide) dX11_humming_6 ?_
  refine V_callS (wr := [(m, .inr (10, mF R v0 v7 v8 v9 v15 v16 v17 v18 v19 v27 v31 v32 v33 v34 v38 v42 v44)), ((R 43), .inl (Y 0, 50, .inl a43)), ((R 45), .inl (Y 0, 24, .inl a45))]) (st := []) X (c_X11_isUnder l D Y x_1 K (3 : Int32) 3 tx_1 (by have h9 : (3 : Int32).toInt = 3 := (show (3 : Int32).toInt = 3 from by decide); omega)) 2 gX11_humming_X11_isUnder rfl (by decide +kernel) ⟨rfl, rfl⟩ ⟨Nat.le_of_ble_eq_true rfl, Nat.le_of_ble_eq_true rfl⟩ [] [0, 1, 2] rfl rfl rfl rfl (by decide) rfl rfl (Nat.le_of_ble_eq_true rfl) ⟨Nat.le_of_ble_eq_true rfl, Nat.le_of_ble_eq_true rfl⟩ dX11_humming_7 (fun v_7 w_7 h_7 => ?_)
  rcases h_7 with ⟨rfl, rfl, hhy_3⟩ | ⟨rfl, rfl, hhn_4⟩
  · refine V_to (pc' := 10) (ls' := [(0, .ref m), (1, .int b), (2, .int x)]) (st' := [.int (1 : Int32)]) (ws' := [(m, .inr (10, mF R v0 v7 v8 v9 v15 v16 v17 v18 v19 v27 v31 v32 v33 v34 v38 v42 v44)), ((R 43), .inl (Y 0, 50, .inl a43)), ((R 45), .inl (Y 0, 24, .inl a45))]) ?_ rfl rfl rfl rfl
    refine V_if_eq X (show (1 : Int32).toInt = 1 from by decide) 28 dX11_humming_10 (by decide) (fun c_10 => absurd c_10 (by decide)) (fun _ => ?_)
    refine V_aload_n X 0 rfl dX11_humming_13 ?_
    refine V_bipush (v := (41 : Int32)) X (by decide) dX11_humming_14 ?_
    refine V_callV (C := RX11) (wr := [((R 43), .inl (Y 0, 50, .inl a43))]) (st := []) X (c_X11_ran l D Y m R v0 v7 v8 v9 v15 v16 v17 v18 v19 v27 v31 v32 v33 v34 v38 v42 v44 a45 t_ (41 : Int32) 41 tv44 hTR (by (try simp only [List.length_append, List.length_cons, List.length_nil]); omega) (by decide)) 1 gX11_humming_X11_ran rfl (by decide +kernel) ⟨rfl, rfl⟩ ⟨Nat.le_of_ble_eq_true rfl, Nat.le_of_ble_eq_true rfl⟩ [0, 2] [1] rfl rfl rfl rfl (by decide) (ci := 10) rfl rfl 0 rfl rfl rfl (Nat.le_of_ble_eq_true rfl) ⟨Nat.le_of_ble_eq_true rfl, Nat.le_of_ble_eq_true rfl⟩ dX11_humming_16 (fun v_16 w_16 h_16 => ?_)
    obtain ⟨z44_6, b45_7, rfl, rfl, htz44_8, hhTR2_9⟩ := h_16
    refine V_to (pc' := 19) (ls' := [(0, .ref m), (1, .int b), (2, .int x)]) (st' := []) (ws' := [((R 43), .inl (Y 0, 50, .inl a43)), (m, .inr (10, mF R v0 v7 v8 v9 v15 v16 v17 v18 v19 v27 v31 v32 v33 v34 v38 v42 z44_6)), ((R 45), .inl (Y 0, 24, .inl b45_7))]) ?_ rfl rfl rfl rfl
    refine V_aload_n X 0 rfl dX11_humming_19 ?_
    refine V_iload_n X 1 rfl dX11_humming_20 ?_
    refine V_iload_n X 2 rfl dX11_humming_21 ?_
    refine V_iconst (v := (1 : Int32)) X (by decide) dX11_humming_22 ?_
    refine V_iadd X dX11_humming_23 (fun x_10 ex_10 => ?_)
    refine V_callV (C := RX11) (wr := []) (st := []) X (c_X11_wordedHums l D Y m R v0 v7 v8 v9 v15 v16 v17 v18 v19 v27 v31 v32 v33 v34 v38 v42 z44_6 a43 b45_7 (t_ ++ [ 41 ]) b bn K x_10 (by have h9 : z44_6.toInt = (((t_ ++ [41]).length : Nat) : Int) := htz44_8; omega) hhTR2_9 tb hbn hKb hK8 (by (try simp only [List.length_append, List.length_cons, List.length_nil]); omega)) 2 gX11_humming_X11_wordedHums rfl (by decide +kernel) ⟨rfl, rfl⟩ ⟨Nat.le_of_ble_eq_true rfl, Nat.le_of_ble_eq_true rfl⟩ [1, 0, 2] [] rfl rfl rfl rfl (by decide) (ci := 10) rfl rfl 0 rfl rfl rfl (Nat.le_of_ble_eq_true rfl) ⟨Nat.le_of_ble_eq_true rfl, Nat.le_of_ble_eq_true rfl⟩ dX11_humming_24 (fun v_24 w_24 h_24 => ?_)
    obtain ⟨r_12, z44_13, b45_14, rfl, rfl, hhr__15, htz44_16, hhTR2_17⟩ := h_24
    refine V_to (pc' := 27) (ls' := [(0, .ref m), (1, .int b), (2, .int x)]) (st' := [.int r_12]) (ws' := [(m, .inr (10, mF R v0 v7 v8 v9 v15 v16 v17 v18 v19 v27 v31 v32 v33 v34 v38 v42 z44_13)), ((R 43), .inl (Y 0, 50, .inl a43)), ((R 45), .inl (Y 0, 24, .inl b45_14))]) ?_ rfl rfl rfl rfl
    exact V_iret X hr dX11_humming_27 (⟨r_12, z44_13, b45_14, rfl, rfl, (by rw [(aH_5 b x (by omega))]; show _ = (aWH K b (x + 1)).1; rw [← ex_10]; exact hhr__15), (by rw [(aH_5 b x (by omega))]; show _ = (((t_ ++ ([41] ++ (aWH K b (x + 1)).2)).length : Nat) : Int); rw [← ap3]; rw [← ex_10]; exact htz44_16), (by rw [(aH_5 b x (by omega))]; show TRC _ (t_ ++ ([41] ++ (aWH K b (x + 1)).2)); rw [← ap3]; rw [← ex_10]; exact hhTR2_17)⟩)
  · refine V_to (pc' := 10) (ls' := [(0, .ref m), (1, .int b), (2, .int x)]) (st' := [.int (0 : Int32)]) (ws' := [(m, .inr (10, mF R v0 v7 v8 v9 v15 v16 v17 v18 v19 v27 v31 v32 v33 v34 v38 v42 v44)), ((R 43), .inl (Y 0, 50, .inl a43)), ((R 45), .inl (Y 0, 24, .inl a45))]) ?_ rfl rfl rfl rfl
    refine V_if_eq X (show (0 : Int32).toInt = 0 from by decide) 28 dX11_humming_10 (by decide) (fun _ => ?_) (fun c_10 => absurd c_10 (by decide))
    refine V_aload_n X 0 rfl dX11_humming_28 ?_
    refine V_get (C := RX11) (T := TX11) (N := 50) (ci := 10) (v := .ref (R 43)) X in_X11_humming_X11 0 rfl rfl 43 (by decide) (List.mem_of_getElem? (i := 1) rfl) rfl rfl dX11_humming_29 ?_
    refine V_iload_n X 1 rfl dX11_humming_32 ?_
    refine V_iald X 1 bn rfl tb (by omega) dX11_humming_33 ?_
    refine V_nm (fun x_18 ex_18 => ?_)
    have tx_18 : x_18.toInt = ((K : Nat) : Int) := by rw [ex_18]; exact hKb
    refine V_bipush (v := (7 : Int32)) X (by decide) dX11_humming_34 ?_
    refine V_icmp_ne X tx_18 (show (7 : Int32).toInt = 7 from by decide) 61 dX11_humming_36 (by decide) (fun c_36 => ?_) (fun c_36 => ?_)
    · refine V_aload_n X 0 rfl dX11_humming_61 ?_
      refine V_get (C := RX11) (T := TX11) (N := 50) (ci := 10) (v := .ref (R 43)) X in_X11_humming_X11 0 rfl rfl 43 (by decide) (List.mem_of_getElem? (i := 1) rfl) rfl rfl dX11_humming_62 ?_
      refine V_iload_n X 1 rfl dX11_humming_65 ?_
      refine V_iald X 1 bn rfl tb (by omega) dX11_humming_66 ?_
      refine V_nm (fun x_19 ex_19 => ?_)
      have tx_19 : x_19.toInt = ((K : Nat) : Int) := by rw [ex_19]; exact hKb
      refine V_iconst (v := (2 : Int32)) X (by decide) dX11_humming_67 ?_
      refine V_icmp_ne X tx_19 (show (2 : Int32).toInt = 2 from by decide) 80 dX11_humming_68 (by decide) (fun c_68 => ?_) (fun c_68 => ?_)
      · refine V_aload_n X 0 rfl dX11_humming_80 ?_
        refine V_iload_n X 1 rfl dX11_humming_81 ?_
        refine V_iload_n X 2 rfl dX11_humming_82 ?_
        refine V_callV (C := RX11) (wr := []) (st := []) X (c_X11_plainHums l D Y m R v0 v7 v8 v9 v15 v16 v17 v18 v19 v27 v31 v32 v33 v34 v38 v42 v44 a43 a45 t_ b bn K x tv44 hTR tb hbn hKb hK8 (by omega)) 2 gX11_humming_X11_plainHums rfl (by decide +kernel) ⟨rfl, rfl⟩ ⟨Nat.le_of_ble_eq_true rfl, Nat.le_of_ble_eq_true rfl⟩ [0, 1, 2] [] rfl rfl rfl rfl (by decide) (ci := 10) rfl rfl 0 rfl rfl rfl (Nat.le_of_ble_eq_true rfl) ⟨Nat.le_of_ble_eq_true rfl, Nat.le_of_ble_eq_true rfl⟩ dX11_humming_83 (fun v_83 w_83 h_83 => ?_)
        obtain ⟨r_21, z44_22, b45_23, rfl, rfl, hhr__24, htz44_25, hhTR2_26⟩ := h_83
        refine V_to (pc' := 86) (ls' := [(0, .ref m), (1, .int b), (2, .int x)]) (st' := [.int r_21]) (ws' := [(m, .inr (10, mF R v0 v7 v8 v9 v15 v16 v17 v18 v19 v27 v31 v32 v33 v34 v38 v42 z44_22)), ((R 43), .inl (Y 0, 50, .inl a43)), ((R 45), .inl (Y 0, 24, .inl b45_23))]) ?_ rfl rfl rfl rfl
        exact V_iret X hr dX11_humming_86 (⟨r_21, z44_22, b45_23, rfl, rfl, (by rw [(aH_0 b x (by omega) (by omega) (by omega))]; exact hhr__24), (by rw [(aH_0 b x (by omega) (by omega) (by omega))]; show _ = (((t_ ++ (aPH K b x).2).length : Nat) : Int); exact htz44_25), (by rw [(aH_0 b x (by omega) (by omega) (by omega))]; show TRC _ (t_ ++ (aPH K b x).2); exact hhTR2_26)⟩)
      · refine V_aload_n X 0 rfl dX11_humming_71 ?_
        refine V_iload_n X 1 rfl dX11_humming_72 ?_
        refine V_iload_n X 2 rfl dX11_humming_73 ?_
        refine V_callV (C := RX11) (wr := []) (st := []) X (c_X11_wordedHums l D Y m R v0 v7 v8 v9 v15 v16 v17 v18 v19 v27 v31 v32 v33 v34 v38 v42 v44 a43 a45 t_ b bn K x tv44 hTR tb hbn hKb hK8 (by omega)) 2 gX11_humming_X11_wordedHums rfl (by decide +kernel) ⟨rfl, rfl⟩ ⟨Nat.le_of_ble_eq_true rfl, Nat.le_of_ble_eq_true rfl⟩ [0, 1, 2] [] rfl rfl rfl rfl (by decide) (ci := 10) rfl rfl 0 rfl rfl rfl (Nat.le_of_ble_eq_true rfl) ⟨Nat.le_of_ble_eq_true rfl, Nat.le_of_ble_eq_true rfl⟩ dX11_humming_74 (fun v_74 w_74 h_74 => ?_)
        obtain ⟨r_28, z44_29, b45_30, rfl, rfl, hhr__31, htz44_32, hhTR2_33⟩ := h_74
        refine V_to (pc' := 77) (ls' := [(0, .ref m), (1, .int b), (2, .int x)]) (st' := [.int r_28]) (ws' := [(m, .inr (10, mF R v0 v7 v8 v9 v15 v16 v17 v18 v19 v27 v31 v32 v33 v34 v38 v42 z44_29)), ((R 43), .inl (Y 0, 50, .inl a43)), ((R 45), .inl (Y 0, 24, .inl b45_30))]) ?_ rfl rfl rfl rfl
        refine V_goto X 86 (by decide) dX11_humming_77 ?_
        exact V_iret X hr dX11_humming_86 (⟨r_28, z44_29, b45_30, rfl, rfl, (by rw [(aH_2 b x (by omega))]; exact hhr__31), (by rw [(aH_2 b x (by omega))]; show _ = (((t_ ++ (aWH K b x).2).length : Nat) : Int); exact htz44_32), (by rw [(aH_2 b x (by omega))]; show TRC _ (t_ ++ (aWH K b x).2); exact hhTR2_33)⟩)
    · refine V_aload_n X 0 rfl dX11_humming_39 ?_
      refine V_bipush (v := (80 : Int32)) X (by decide) dX11_humming_40 ?_
      refine V_callV (C := RX11) (wr := [((R 43), .inl (Y 0, 50, .inl a43))]) (st := []) X (c_X11_ran l D Y m R v0 v7 v8 v9 v15 v16 v17 v18 v19 v27 v31 v32 v33 v34 v38 v42 v44 a45 t_ (80 : Int32) 80 tv44 hTR (by (try simp only [List.length_append, List.length_cons, List.length_nil]); omega) (by decide)) 1 gX11_humming_X11_ran rfl (by decide +kernel) ⟨rfl, rfl⟩ ⟨Nat.le_of_ble_eq_true rfl, Nat.le_of_ble_eq_true rfl⟩ [0, 2] [1] rfl rfl rfl rfl (by decide) (ci := 10) rfl rfl 0 rfl rfl rfl (Nat.le_of_ble_eq_true rfl) ⟨Nat.le_of_ble_eq_true rfl, Nat.le_of_ble_eq_true rfl⟩ dX11_humming_42 (fun v_42 w_42 h_42 => ?_)
      obtain ⟨z44_35, b45_36, rfl, rfl, htz44_37, hhTR2_38⟩ := h_42
      refine V_to (pc' := 45) (ls' := [(0, .ref m), (1, .int b), (2, .int x)]) (st' := []) (ws' := [((R 43), .inl (Y 0, 50, .inl a43)), (m, .inr (10, mF R v0 v7 v8 v9 v15 v16 v17 v18 v19 v27 v31 v32 v33 v34 v38 v42 z44_35)), ((R 45), .inl (Y 0, 24, .inl b45_36))]) ?_ rfl rfl rfl rfl
      refine V_aload_n X 0 rfl dX11_humming_45 ?_
      refine V_iload_n X 1 rfl dX11_humming_46 ?_
      refine V_iload_n X 2 rfl dX11_humming_47 ?_
      refine V_callV (C := RX11) (wr := []) (st := []) X (c_X11_plainHums l D Y m R v0 v7 v8 v9 v15 v16 v17 v18 v19 v27 v31 v32 v33 v34 v38 v42 z44_35 a43 b45_36 (t_ ++ [ 80 ]) b bn K x (by have h9 : z44_35.toInt = (((t_ ++ [80]).length : Nat) : Int) := htz44_37; omega) hhTR2_38 tb hbn hKb hK8 (by (try simp only [List.length_append, List.length_cons, List.length_nil]); omega)) 2 gX11_humming_X11_plainHums rfl (by decide +kernel) ⟨rfl, rfl⟩ ⟨Nat.le_of_ble_eq_true rfl, Nat.le_of_ble_eq_true rfl⟩ [1, 0, 2] [] rfl rfl rfl rfl (by decide) (ci := 10) rfl rfl 0 rfl rfl rfl (Nat.le_of_ble_eq_true rfl) ⟨Nat.le_of_ble_eq_true rfl, Nat.le_of_ble_eq_true rfl⟩ dX11_humming_48 (fun v_48 w_48 h_48 => ?_)
      obtain ⟨r_40, z44_41, b45_42, rfl, rfl, hhr__43, htz44_44, hhTR2_45⟩ := h_48
      refine V_to (pc' := 51) (ls' := [(0, .ref m), (1, .int b), (2, .int x)]) (st' := [.int r_40]) (ws' := [(m, .inr (10, mF R v0 v7 v8 v9 v15 v16 v17 v18 v19 v27 v31 v32 v33 v34 v38 v42 z44_41)), ((R 43), .inl (Y 0, 50, .inl a43)), ((R 45), .inl (Y 0, 24, .inl b45_42))]) ?_ rfl rfl rfl rfl
      refine V_istore_n (ls' := [(3, .int r_40), (0, .ref m), (1, .int b), (2, .int x)]) X (by decide) rfl dX11_humming_51 ?_
      refine V_iload_n X 0 rfl dX11_humming_52 ?_
      refine V_aload_n X 1 rfl dX11_humming_53 ?_
      refine V_iload_n X 2 rfl dX11_humming_54 ?_
      refine V_iconst (v := (2 : Int32)) X (by decide) dX11_humming_55 ?_
      refine V_callV (C := RX11) (wr := []) (st := [.int r_40]) X (c_X11_saying l D Y m R v0 v7 v8 v9 v15 v16 v17 v18 v19 v27 v31 v32 v33 v34 v38 v42 z44_41 a43 b45_42 ((t_ ++ [ 80 ]) ++ (aPH K b x).2) b bn K (2 : Int32) htz44_44 hhTR2_45 tb hbn hKb hK8 (by (try simp only [List.length_append, List.length_cons, List.length_nil]); have h70 := aPH_l K b x; omega)) 2 gX11_humming_X11_saying rfl (by decide +kernel) ⟨rfl, rfl⟩ ⟨Nat.le_of_ble_eq_true rfl, Nat.le_of_ble_eq_true rfl⟩ [0, 1, 2] [] rfl rfl rfl rfl (by decide) (ci := 10) rfl rfl 0 rfl rfl rfl (Nat.le_of_ble_eq_true rfl) ⟨Nat.le_of_ble_eq_true rfl, Nat.le_of_ble_eq_true rfl⟩ dX11_humming_56 (fun v_56 w_56 h_56 => ?_)
      obtain ⟨r_47, z44_48, b45_49, rfl, rfl, hhr__50, htz44_51, hhTR2_52⟩ := h_56
      refine V_to (pc' := 59) (ls' := [(3, .int r_40), (0, .ref m), (1, .int b), (2, .int x)]) (st' := [.int r_47, .int r_40]) (ws' := [(m, .inr (10, mF R v0 v7 v8 v9 v15 v16 v17 v18 v19 v27 v31 v32 v33 v34 v38 v42 z44_48)), ((R 43), .inl (Y 0, 50, .inl a43)), ((R 45), .inl (Y 0, 24, .inl b45_49))]) ?_ rfl rfl rfl rfl
      refine V_iadd X dX11_humming_59 (fun x_53 ex_53 => ?_)
      exact V_iret X hr dX11_humming_60 (⟨x_53, z44_48, b45_49, rfl, rfl, (by rw [(aH_7 b x (by omega))]; show _ = (aPH K b x).1 + (aS K b 2).1; rw [ex_53, hhr__43, hhr__50]), (by rw [(aH_7 b x (by omega))]; show _ = (((t_ ++ ([80] ++ ((aPH K b x).2 ++ (aS K b 2).2))).length : Nat) : Int); rw [← ap4]; exact htz44_51), (by rw [(aH_7 b x (by omega))]; show TRC _ (t_ ++ ([80] ++ ((aPH K b x).2 ++ (aS K b 2).2))); rw [← ap4]; exact hhTR2_52)⟩)

set_option maxHeartbeats 4000000 in
set_option maxRecDepth 100000 in
theorem c_X11_plainTells (l : Launch) (D : va_G) (Y : Nat → ClassId) (m : Nat) (R : Nat → Nat) (v0 : Int32) (v7 : Int32) (v8 : Int32) (v9 : Int32) (v15 : Int32) (v16 : Int32) (v17 : Int32) (v18 : Int32) (v19 : Int32) (v27 : Int32) (v31 : Int32) (v32 : Int32) (v33 : Int32) (v34 : Int32) (v38 : Int32) (v42 : Int32) (v44 : Int32) (a43 : Nat → Int32) (a45 : Nat → Int32) (t_ : List Nat) (b : Int32) (bn : Nat) (K : Nat) (x : Int32) (tv44 : v44.toInt = ((t_.length : Nat) : Int)) (hTR : TRC a45 t_) (tb : b.toInt = ((bn : Nat) : Int)) (hbn : bn < 50) (hKb : (a43 bn).toInt = ((K : Nat) : Int)) (hK8 : K < 8) (htl : t_.length + 18 ≤ 60) : Mg l yX11_plainTells wsX11_plainTells ({ frames := 7, cells := 0, slots := 0, locals := 154 }) D Y [(m, .inr (10, mF R v0 v7 v8 v9 v15 v16 v17 v18 v19 v27 v31 v32 v33 v34 v38 v42 v44)), ((R 43), .inl (Y 0, 50, .inl a43)), ((R 45), .inl (Y 0, 24, .inl a45))] [.ref m, .int b, .int x] 0 0 (fun vv__ ww__ => (∃ (r : Int32), ∃ (z44 : Int32), ∃ (b45 : Nat → Int32), vv__ = some (.int r) ∧ ww__ = [(m, .inr (10, mF R v0 v7 v8 v9 v15 v16 v17 v18 v19 v27 v31 v32 v33 v34 v38 v42 z44)), ((R 43), .inl (Y 0, 50, .inl a43)), ((R 45), .inl (Y 0, 24, .inl b45))] ∧ (r = (aPT K b x).1) ∧ (z44.toInt = (((t_ ++ (aPT K b x).2).length : Nat) : Int)) ∧ (TRC b45 (t_ ++ (aPT K b x).2)))) := by
  refine Mg_of (cc := cX11_plainTells) (maxL := 4) (ret := (some .int)) (ls0 := [(0, .ref m), (1, .int b), (2, .int x)]) RX11 (by decide) rfl rfl rfl (Nat.le_of_ble_eq_true rfl) (fun p__ e__ s__ m__ b__ t__ c__ X hr hn => ?_)
  refine V_aload_n X 0 rfl dX11_plainTells_0 ?_
  refine V_iconst (v := (2 : Int32)) X (by decide) dX11_plainTells_1 ?_
  refine V_callV (C := RX11) (wr := [((R 43), .inl (Y 0, 50, .inl a43))]) (st := []) X (c_X11_ran l D Y m R v0 v7 v8 v9 v15 v16 v17 v18 v19 v27 v31 v32 v33 v34 v38 v42 v44 a45 t_ (2 : Int32) 2 tv44 hTR (by (try simp only [List.length_append, List.length_cons, List.length_nil]); omega) (by decide)) 1 gX11_plainTells_X11_ran rfl (by decide +kernel) ⟨rfl, rfl⟩ ⟨Nat.le_of_ble_eq_true rfl, Nat.le_of_ble_eq_true rfl⟩ [0, 2] [1] rfl rfl rfl rfl (by decide) (ci := 10) rfl rfl 0 rfl rfl rfl (Nat.le_of_ble_eq_true rfl) ⟨Nat.le_of_ble_eq_true rfl, Nat.le_of_ble_eq_true rfl⟩ dX11_plainTells_2 (fun v_2 w_2 h_2 => ?_)
  obtain ⟨z44_2, b45_3, rfl, rfl, htz44_4, hhTR2_5⟩ := h_2
  refine V_to (pc' := 5) (ls' := [(0, .ref m), (1, .int b), (2, .int x)]) (st' := []) (ws' := [((R 43), .inl (Y 0, 50, .inl a43)), (m, .inr (10, mF R v0 v7 v8 v9 v15 v16 v17 v18 v19 v27 v31 v32 v33 v34 v38 v42 z44_2)), ((R 45), .inl (Y 0, 24, .inl b45_3))]) ?_ rfl rfl rfl rfl
  refine V_aload_n X 0 rfl dX11_plainTells_5 ?_
  refine V_iload_n X 1 rfl dX11_plainTells_6 ?_
  refine V_iload_n X 2 rfl dX11_plainTells_7 ?_
  refine V_callV (C := RX11) (wr := []) (st := []) X (c_X11_humming l D Y m R v0 v7 v8 v9 v15 v16 v17 v18 v19 v27 v31 v32 v33 v34 v38 v42 z44_2 a43 b45_3 (t_ ++ [ 2 ]) b bn K x (by have h9 : z44_2.toInt = (((t_ ++ [2]).length : Nat) : Int) := htz44_4; omega) hhTR2_5 tb hbn hKb hK8 (by (try simp only [List.length_append, List.length_cons, List.length_nil]); omega)) 2 gX11_plainTells_X11_humming rfl (by decide +kernel) ⟨rfl, rfl⟩ ⟨Nat.le_of_ble_eq_true rfl, Nat.le_of_ble_eq_true rfl⟩ [1, 0, 2] [] rfl rfl rfl rfl (by decide) (ci := 10) rfl rfl 0 rfl rfl rfl (Nat.le_of_ble_eq_true rfl) ⟨Nat.le_of_ble_eq_true rfl, Nat.le_of_ble_eq_true rfl⟩ dX11_plainTells_8 (fun v_8 w_8 h_8 => ?_)
  obtain ⟨r_7, z44_8, b45_9, rfl, rfl, hhr__10, htz44_11, hhTR2_12⟩ := h_8
  refine V_to (pc' := 11) (ls' := [(0, .ref m), (1, .int b), (2, .int x)]) (st' := [.int r_7]) (ws' := [(m, .inr (10, mF R v0 v7 v8 v9 v15 v16 v17 v18 v19 v27 v31 v32 v33 v34 v38 v42 z44_8)), ((R 43), .inl (Y 0, 50, .inl a43)), ((R 45), .inl (Y 0, 24, .inl b45_9))]) ?_ rfl rfl rfl rfl
  refine V_istore_n (ls' := [(3, .int r_7), (0, .ref m), (1, .int b), (2, .int x)]) X (by decide) rfl dX11_plainTells_11 ?_
  refine V_iload_n X 0 rfl dX11_plainTells_12 ?_
  refine V_aload_n X 1 rfl dX11_plainTells_13 ?_
  refine V_iload_n X 2 rfl dX11_plainTells_14 ?_
  refine V_iconst (v := (1 : Int32)) X (by decide) dX11_plainTells_15 ?_
  refine V_callV (C := RX11) (wr := []) (st := [.int r_7]) X (c_X11_saying l D Y m R v0 v7 v8 v9 v15 v16 v17 v18 v19 v27 v31 v32 v33 v34 v38 v42 z44_8 a43 b45_9 ((t_ ++ [ 2 ]) ++ (aH K b x).2) b bn K (1 : Int32) htz44_11 hhTR2_12 tb hbn hKb hK8 (by (try simp only [List.length_append, List.length_cons, List.length_nil]); have h70 := aH_l K b x; omega)) 2 gX11_plainTells_X11_saying rfl (by decide +kernel) ⟨rfl, rfl⟩ ⟨Nat.le_of_ble_eq_true rfl, Nat.le_of_ble_eq_true rfl⟩ [0, 1, 2] [] rfl rfl rfl rfl (by decide) (ci := 10) rfl rfl 0 rfl rfl rfl (Nat.le_of_ble_eq_true rfl) ⟨Nat.le_of_ble_eq_true rfl, Nat.le_of_ble_eq_true rfl⟩ dX11_plainTells_16 (fun v_16 w_16 h_16 => ?_)
  obtain ⟨r_14, z44_15, b45_16, rfl, rfl, hhr__17, htz44_18, hhTR2_19⟩ := h_16
  refine V_to (pc' := 19) (ls' := [(3, .int r_7), (0, .ref m), (1, .int b), (2, .int x)]) (st' := [.int r_14, .int r_7]) (ws' := [(m, .inr (10, mF R v0 v7 v8 v9 v15 v16 v17 v18 v19 v27 v31 v32 v33 v34 v38 v42 z44_15)), ((R 43), .inl (Y 0, 50, .inl a43)), ((R 45), .inl (Y 0, 24, .inl b45_16))]) ?_ rfl rfl rfl rfl
  refine V_isub X dX11_plainTells_19 (fun x_20 ex_20 => ?_)
  exact V_iret X hr dX11_plainTells_20 (⟨x_20, z44_15, b45_16, rfl, rfl, (by show _ = (aH K b x).1 - (aS K b 1).1; rw [ex_20, hhr__10, hhr__17]), (by show _ = (((t_ ++ ([2] ++ ((aH K b x).2 ++ (aS K b 1).2))).length : Nat) : Int); rw [← ap4]; exact htz44_18), (by show TRC _ (t_ ++ ([2] ++ ((aH K b x).2 ++ (aS K b 1).2))); rw [← ap4]; exact hhTR2_19)⟩)

theorem in_X11_telling_X11 : ∀ w ∈ wsX110, w ∈ wsX11_telling := fun w h => List.mem_cons_of_mem _ (List.mem_append_right _ h)
set_option maxHeartbeats 4000000 in
set_option maxRecDepth 100000 in
theorem c_X11_telling (l : Launch) (D : va_G) (Y : Nat → ClassId) (m : Nat) (R : Nat → Nat) (v0 : Int32) (v7 : Int32) (v8 : Int32) (v9 : Int32) (v15 : Int32) (v16 : Int32) (v17 : Int32) (v18 : Int32) (v19 : Int32) (v27 : Int32) (v31 : Int32) (v32 : Int32) (v33 : Int32) (v34 : Int32) (v38 : Int32) (v42 : Int32) (v44 : Int32) (a43 : Nat → Int32) (a45 : Nat → Int32) (t_ : List Nat) (b : Int32) (bn : Nat) (K : Nat) (x : Int32) (tv44 : v44.toInt = ((t_.length : Nat) : Int)) (hTR : TRC a45 t_) (tb : b.toInt = ((bn : Nat) : Int)) (hbn : bn < 50) (hKb : (a43 bn).toInt = ((K : Nat) : Int)) (hK8 : K < 8) (htl : t_.length + 19 ≤ 60) : Mg l yX11_telling wsX11_telling ({ frames := 8, cells := 0, slots := 0, locals := 177 }) D Y [(m, .inr (10, mF R v0 v7 v8 v9 v15 v16 v17 v18 v19 v27 v31 v32 v33 v34 v38 v42 v44)), ((R 43), .inl (Y 0, 50, .inl a43)), ((R 45), .inl (Y 0, 24, .inl a45))] [.ref m, .int b, .int x] 0 0 (fun vv__ ww__ => (∃ (r : Int32), ∃ (z44 : Int32), ∃ (b45 : Nat → Int32), vv__ = some (.int r) ∧ ww__ = [(m, .inr (10, mF R v0 v7 v8 v9 v15 v16 v17 v18 v19 v27 v31 v32 v33 v34 v38 v42 z44)), ((R 43), .inl (Y 0, 50, .inl a43)), ((R 45), .inl (Y 0, 24, .inl b45))] ∧ (r = (aT K b x).1) ∧ (z44.toInt = (((t_ ++ (aT K b x).2).length : Nat) : Int)) ∧ (TRC b45 (t_ ++ (aT K b x).2)))) := by
  refine Mg_of (cc := cX11_telling) (maxL := 3) (ret := (some .int)) (ls0 := [(0, .ref m), (1, .int b), (2, .int x)]) RX11 (by decide) rfl rfl rfl (Nat.le_of_ble_eq_true rfl) (fun p__ e__ s__ m__ b__ t__ c__ X hr hn => ?_)
  refine V_aload_n X 0 rfl dX11_telling_0 ?_
  refine V_get (C := RX11) (T := TX11) (N := 50) (ci := 10) (v := .ref (R 43)) X in_X11_telling_X11 0 rfl rfl 43 (by decide) (List.mem_of_getElem? (i := 1) rfl) rfl rfl dX11_telling_1 ?_
  refine V_iload_n X 1 rfl dX11_telling_4 ?_
  refine V_iald X 1 bn rfl tb (by omega) dX11_telling_5 ?_
  refine V_nm (fun x_1 ex_1 => ?_)
  have tx_1 : x_1.toInt = ((K : Nat) : Int) := by rw [ex_1]; exact hKb
  refine V_iconst (v := (4 : Int32)) X (by decide) dX11_telling_6 ?_
  refine V_icmp_ne X tx_1 (show (4 : Int32).toInt = 4 from by decide) 25 dX11_telling_7 (by decide) (fun c_7 => ?_) (fun c_7 => ?_)
  · refine V_aload_n X 0 rfl dX11_telling_25 ?_
    refine V_get (C := RX11) (T := TX11) (N := 50) (ci := 10) (v := .ref (R 43)) X in_X11_telling_X11 0 rfl rfl 43 (by decide) (List.mem_of_getElem? (i := 1) rfl) rfl rfl dX11_telling_26 ?_
    refine V_iload_n X 1 rfl dX11_telling_29 ?_
    refine V_iald X 1 bn rfl tb (by omega) dX11_telling_30 ?_
    refine V_nm (fun x_2 ex_2 => ?_)
    have tx_2 : x_2.toInt = ((K : Nat) : Int) := by rw [ex_2]; exact hKb
    refine V_iconst (v := (5 : Int32)) X (by decide) dX11_telling_31 ?_
    refine V_icmp_ne X tx_2 (show (5 : Int32).toInt = 5 from by decide) 50 dX11_telling_32 (by decide) (fun c_32 => ?_) (fun c_32 => ?_)
    · refine V_aload_n X 0 rfl dX11_telling_50 ?_
      refine V_iload_n X 1 rfl dX11_telling_51 ?_
      refine V_iload_n X 2 rfl dX11_telling_52 ?_
      refine V_callV (C := RX11) (wr := []) (st := []) X (c_X11_plainTells l D Y m R v0 v7 v8 v9 v15 v16 v17 v18 v19 v27 v31 v32 v33 v34 v38 v42 v44 a43 a45 t_ b bn K x tv44 hTR tb hbn hKb hK8 (by omega)) 2 gX11_telling_X11_plainTells rfl (by decide +kernel) ⟨rfl, rfl⟩ ⟨Nat.le_of_ble_eq_true rfl, Nat.le_of_ble_eq_true rfl⟩ [0, 1, 2] [] rfl rfl rfl rfl (by decide) (ci := 10) rfl rfl 0 rfl rfl rfl (Nat.le_of_ble_eq_true rfl) ⟨Nat.le_of_ble_eq_true rfl, Nat.le_of_ble_eq_true rfl⟩ dX11_telling_53 (fun v_53 w_53 h_53 => ?_)
      obtain ⟨r_4, z44_5, b45_6, rfl, rfl, hhr__7, htz44_8, hhTR2_9⟩ := h_53
      refine V_to (pc' := 56) (ls' := [(0, .ref m), (1, .int b), (2, .int x)]) (st' := [.int r_4]) (ws' := [(m, .inr (10, mF R v0 v7 v8 v9 v15 v16 v17 v18 v19 v27 v31 v32 v33 v34 v38 v42 z44_5)), ((R 43), .inl (Y 0, 50, .inl a43)), ((R 45), .inl (Y 0, 24, .inl b45_6))]) ?_ rfl rfl rfl rfl
      exact V_iret X hr dX11_telling_56 (⟨r_4, z44_5, b45_6, rfl, rfl, (by rw [(aT_0 b x (by omega) (by omega))]; exact hhr__7), (by rw [(aT_0 b x (by omega) (by omega))]; show _ = (((t_ ++ (aPT K b x).2).length : Nat) : Int); exact htz44_8), (by rw [(aT_0 b x (by omega) (by omega))]; show TRC _ (t_ ++ (aPT K b x).2); exact hhTR2_9)⟩)
    · refine V_aload_n X 0 rfl dX11_telling_35 ?_
      refine V_bipush (v := (61 : Int32)) X (by decide) dX11_telling_36 ?_
      refine V_callV (C := RX11) (wr := [((R 43), .inl (Y 0, 50, .inl a43))]) (st := []) X (c_X11_ran l D Y m R v0 v7 v8 v9 v15 v16 v17 v18 v19 v27 v31 v32 v33 v34 v38 v42 v44 a45 t_ (61 : Int32) 61 tv44 hTR (by (try simp only [List.length_append, List.length_cons, List.length_nil]); omega) (by decide)) 1 gX11_telling_X11_ran rfl (by decide +kernel) ⟨rfl, rfl⟩ ⟨Nat.le_of_ble_eq_true rfl, Nat.le_of_ble_eq_true rfl⟩ [0, 2] [1] rfl rfl rfl rfl (by decide) (ci := 10) rfl rfl 0 rfl rfl rfl (Nat.le_of_ble_eq_true rfl) ⟨Nat.le_of_ble_eq_true rfl, Nat.le_of_ble_eq_true rfl⟩ dX11_telling_38 (fun v_38 w_38 h_38 => ?_)
      obtain ⟨z44_11, b45_12, rfl, rfl, htz44_13, hhTR2_14⟩ := h_38
      refine V_to (pc' := 41) (ls' := [(0, .ref m), (1, .int b), (2, .int x)]) (st' := []) (ws' := [((R 43), .inl (Y 0, 50, .inl a43)), (m, .inr (10, mF R v0 v7 v8 v9 v15 v16 v17 v18 v19 v27 v31 v32 v33 v34 v38 v42 z44_11)), ((R 45), .inl (Y 0, 24, .inl b45_12))]) ?_ rfl rfl rfl rfl
      refine V_aload_n X 0 rfl dX11_telling_41 ?_
      refine V_iload_n X 1 rfl dX11_telling_42 ?_
      refine V_iload_n X 2 rfl dX11_telling_43 ?_
      refine V_callV (C := RX11) (wr := []) (st := []) X (c_X11_plainTells l D Y m R v0 v7 v8 v9 v15 v16 v17 v18 v19 v27 v31 v32 v33 v34 v38 v42 z44_11 a43 b45_12 (t_ ++ [ 61 ]) b bn K x (by have h9 : z44_11.toInt = (((t_ ++ [61]).length : Nat) : Int) := htz44_13; omega) hhTR2_14 tb hbn hKb hK8 (by (try simp only [List.length_append, List.length_cons, List.length_nil]); omega)) 2 gX11_telling_X11_plainTells rfl (by decide +kernel) ⟨rfl, rfl⟩ ⟨Nat.le_of_ble_eq_true rfl, Nat.le_of_ble_eq_true rfl⟩ [1, 0, 2] [] rfl rfl rfl rfl (by decide) (ci := 10) rfl rfl 0 rfl rfl rfl (Nat.le_of_ble_eq_true rfl) ⟨Nat.le_of_ble_eq_true rfl, Nat.le_of_ble_eq_true rfl⟩ dX11_telling_44 (fun v_44 w_44 h_44 => ?_)
      obtain ⟨r_16, z44_17, b45_18, rfl, rfl, hhr__19, htz44_20, hhTR2_21⟩ := h_44
      refine V_to (pc' := 47) (ls' := [(0, .ref m), (1, .int b), (2, .int x)]) (st' := [.int r_16]) (ws' := [(m, .inr (10, mF R v0 v7 v8 v9 v15 v16 v17 v18 v19 v27 v31 v32 v33 v34 v38 v42 z44_17)), ((R 43), .inl (Y 0, 50, .inl a43)), ((R 45), .inl (Y 0, 24, .inl b45_18))]) ?_ rfl rfl rfl rfl
      refine V_iconst (v := (1 : Int32)) X (by decide) dX11_telling_47 ?_
      refine V_iadd X dX11_telling_48 (fun x_22 ex_22 => ?_)
      exact V_iret X hr dX11_telling_49 (⟨x_22, z44_17, b45_18, rfl, rfl, (by rw [(aT_5 b x (by omega))]; show _ = (aPT K b x).1 + 1; rw [ex_22, hhr__19]), (by rw [(aT_5 b x (by omega))]; show _ = (((t_ ++ ([61] ++ (aPT K b x).2)).length : Nat) : Int); rw [← ap3]; exact htz44_20), (by rw [(aT_5 b x (by omega))]; show TRC _ (t_ ++ ([61] ++ (aPT K b x).2)); rw [← ap3]; exact hhTR2_21)⟩)
  · refine V_aload_n X 0 rfl dX11_telling_10 ?_
    refine V_bipush (v := (50 : Int32)) X (by decide) dX11_telling_11 ?_
    refine V_callV (C := RX11) (wr := [((R 43), .inl (Y 0, 50, .inl a43))]) (st := []) X (c_X11_ran l D Y m R v0 v7 v8 v9 v15 v16 v17 v18 v19 v27 v31 v32 v33 v34 v38 v42 v44 a45 t_ (50 : Int32) 50 tv44 hTR (by (try simp only [List.length_append, List.length_cons, List.length_nil]); omega) (by decide)) 1 gX11_telling_X11_ran rfl (by decide +kernel) ⟨rfl, rfl⟩ ⟨Nat.le_of_ble_eq_true rfl, Nat.le_of_ble_eq_true rfl⟩ [0, 2] [1] rfl rfl rfl rfl (by decide) (ci := 10) rfl rfl 0 rfl rfl rfl (Nat.le_of_ble_eq_true rfl) ⟨Nat.le_of_ble_eq_true rfl, Nat.le_of_ble_eq_true rfl⟩ dX11_telling_13 (fun v_13 w_13 h_13 => ?_)
    obtain ⟨z44_24, b45_25, rfl, rfl, htz44_26, hhTR2_27⟩ := h_13
    refine V_to (pc' := 16) (ls' := [(0, .ref m), (1, .int b), (2, .int x)]) (st' := []) (ws' := [((R 43), .inl (Y 0, 50, .inl a43)), (m, .inr (10, mF R v0 v7 v8 v9 v15 v16 v17 v18 v19 v27 v31 v32 v33 v34 v38 v42 z44_24)), ((R 45), .inl (Y 0, 24, .inl b45_25))]) ?_ rfl rfl rfl rfl
    refine V_aload_n X 0 rfl dX11_telling_16 ?_
    refine V_iload_n X 1 rfl dX11_telling_17 ?_
    refine V_iload_n X 2 rfl dX11_telling_18 ?_
    refine V_callV (C := RX11) (wr := []) (st := []) X (c_X11_plainTells l D Y m R v0 v7 v8 v9 v15 v16 v17 v18 v19 v27 v31 v32 v33 v34 v38 v42 z44_24 a43 b45_25 (t_ ++ [ 50 ]) b bn K x (by have h9 : z44_24.toInt = (((t_ ++ [50]).length : Nat) : Int) := htz44_26; omega) hhTR2_27 tb hbn hKb hK8 (by (try simp only [List.length_append, List.length_cons, List.length_nil]); omega)) 2 gX11_telling_X11_plainTells rfl (by decide +kernel) ⟨rfl, rfl⟩ ⟨Nat.le_of_ble_eq_true rfl, Nat.le_of_ble_eq_true rfl⟩ [1, 0, 2] [] rfl rfl rfl rfl (by decide) (ci := 10) rfl rfl 0 rfl rfl rfl (Nat.le_of_ble_eq_true rfl) ⟨Nat.le_of_ble_eq_true rfl, Nat.le_of_ble_eq_true rfl⟩ dX11_telling_19 (fun v_19 w_19 h_19 => ?_)
    obtain ⟨r_29, z44_30, b45_31, rfl, rfl, hhr__32, htz44_33, hhTR2_34⟩ := h_19
    refine V_to (pc' := 22) (ls' := [(0, .ref m), (1, .int b), (2, .int x)]) (st' := [.int r_29]) (ws' := [(m, .inr (10, mF R v0 v7 v8 v9 v15 v16 v17 v18 v19 v27 v31 v32 v33 v34 v38 v42 z44_30)), ((R 43), .inl (Y 0, 50, .inl a43)), ((R 45), .inl (Y 0, 24, .inl b45_31))]) ?_ rfl rfl rfl rfl
    refine V_iconst (v := (5 : Int32)) X (by decide) dX11_telling_22 ?_
    refine V_ixor X dX11_telling_23 (fun x_35 ex_35 => ?_)
    exact V_iret X hr dX11_telling_24 (⟨x_35, z44_30, b45_31, rfl, rfl, (by rw [(aT_4 b x (by omega))]; show _ = (aPT K b x).1 ^^^ 5; rw [ex_35, hhr__32]), (by rw [(aT_4 b x (by omega))]; show _ = (((t_ ++ ([50] ++ (aPT K b x).2)).length : Nat) : Int); rw [← ap3]; exact htz44_33), (by rw [(aT_4 b x (by omega))]; show TRC _ (t_ ++ ([50] ++ (aPT K b x).2)); rw [← ap3]; exact hhTR2_34)⟩)

theorem in_X11_act_X11 : ∀ w ∈ wsX110, w ∈ wsX11_act := fun w h => List.mem_cons_of_mem _ (List.mem_append_right _ h)
set_option maxHeartbeats 4000000 in
set_option maxRecDepth 100000 in
theorem c_X11_act (l : Launch) (D : va_G) (Y : Nat → ClassId) (m : Nat) (R : Nat → Nat) (v0 : Int32) (v7 : Int32) (v8 : Int32) (v9 : Int32) (v15 : Int32) (v16 : Int32) (v17 : Int32) (v18 : Int32) (v19 : Int32) (v27 : Int32) (v31 : Int32) (v32 : Int32) (v33 : Int32) (v34 : Int32) (v38 : Int32) (v42 : Int32) (v44 : Int32) (a43 : Nat → Int32) (a45 : Nat → Int32) (nb_ : Nat) (b : Int32) (bn : Nat) (K : Nat) (w_ : Int32) (a : Nat) (x : Int32) (tv42 : v42.toInt = ((nb_ : Nat) : Int)) (hnb : nb_ ≤ 50) (hkb : 0 ≤ b.toInt → b.toInt < ((nb_ : Nat) : Int) → b.toInt = ((bn : Nat) : Int) ∧ bn < 50 ∧ (a43 bn).toInt = ((K : Nat) : Int)) (hK8 : K < 8) (haw : 0 ≤ w_.toInt → w_.toInt < 4 → w_.toInt = ((a : Nat) : Int)) : Mg l yX11_act wsX11_act ({ frames := 9, cells := 0, slots := 0, locals := 199 }) D Y [(m, .inr (10, mF R v0 v7 v8 v9 v15 v16 v17 v18 v19 v27 v31 v32 v33 v34 v38 v42 v44)), ((R 43), .inl (Y 0, 50, .inl a43)), ((R 45), .inl (Y 0, 24, .inl a45))] [.ref m, .int b, .int w_, .int x] 0 0 (fun vv__ ww__ => (vv__ = some (.int (0 : Int32)) ∧ ww__ = [(m, .inr (10, mF R v0 v7 v8 v9 v15 v16 v17 v18 v19 v27 v31 v32 v33 v34 v38 v42 (0 : Int32))), ((R 43), .inl (Y 0, 50, .inl a43)), ((R 45), .inl (Y 0, 24, .inl a45))] ∧ (¬ (0 ≤ b.toInt ∧ b.toInt < ((nb_ : Nat) : Int) ∧ 0 ≤ w_.toInt ∧ w_.toInt < 4))) ∨ (∃ (r : Int32), ∃ (z44 : Int32), ∃ (b45 : Nat → Int32), vv__ = some (.int r) ∧ ww__ = [(m, .inr (10, mF R v0 v7 v8 v9 v15 v16 v17 v18 v19 v27 v31 v32 v33 v34 v38 v42 z44)), ((R 43), .inl (Y 0, 50, .inl a43)), ((R 45), .inl (Y 0, 24, .inl b45))] ∧ (0 ≤ b.toInt ∧ b.toInt < ((nb_ : Nat) : Int) ∧ 0 ≤ w_.toInt ∧ w_.toInt < 4) ∧ (r = (aV K b 16 K a x).1) ∧ (z44.toInt = (((aV K b 16 K a x).2.length : Nat) : Int)) ∧ (TRC b45 (aV K b 16 K a x).2))) := by
  refine Mg_of (cc := cX11_act) (maxL := 4) (ret := (some .int)) (ls0 := [(0, .ref m), (1, .int b), (2, .int w_), (3, .int x)]) RX11 (by decide) rfl rfl rfl (Nat.le_of_ble_eq_true rfl) (fun p__ e__ s__ m__ b__ t__ c__ X hr hn => ?_)
  refine V_aload_n X 0 rfl dX11_act_0 ?_
  refine V_iconst (v := (0 : Int32)) X (by decide) dX11_act_1 ?_
  refine V_put (C := RX11) (T := TX11) (N := 50) (ci := 10) (v := .int (0 : Int32)) (ty := tyX11 44) (ws' := [(m, .inr (10, mF R v0 v7 v8 v9 v15 v16 v17 v18 v19 v27 v31 v32 v33 v34 v38 v42 (0 : Int32))), ((R 43), .inl (Y 0, 50, .inl a43)), ((R 45), .inl (Y 0, 24, .inl a45))]) X in_X11_act_X11 0 rfl rfl 44 (by decide) (List.mem_of_getElem? (i := 1) rfl) rfl tyX11 tyX11_ok nmX11 rfl (tyX11_ok 44 (by decide)) rfl rfl (Nat.le_of_ble_eq_true rfl) rfl dX11_act_2 ?_
  refine V_aload_n X 0 rfl dX11_act_5 ?_
  refine V_iload_n X 1 rfl dX11_act_6 ?_
  refine V_callV (C := RX11) (wr := [((R 43), .inl (Y 0, 50, .inl a43)), ((R 45), .inl (Y 0, 24, .inl a45))]) (st := []) X (c_X11_isBody l D Y m R v0 v7 v8 v9 v15 v16 v17 v18 v19 v27 v31 v32 v33 v34 v38 v42 (0 : Int32) nb_ b tv42 hnb) 1 gX11_act_X11_isBody rfl (by decide +kernel) ⟨rfl, rfl⟩ ⟨Nat.le_of_ble_eq_true rfl, Nat.le_of_ble_eq_true rfl⟩ [0] [1, 2] rfl rfl rfl rfl (by decide) (ci := 10) rfl rfl 0 rfl rfl rfl (Nat.le_of_ble_eq_true rfl) ⟨Nat.le_of_ble_eq_true rfl, Nat.le_of_ble_eq_true rfl⟩ dX11_act_7 (fun v_7 w_7 h_7 => ?_)
  rcases h_7 with ⟨rfl, rfl, hhy_2⟩ | ⟨rfl, rfl, hhn_3⟩
  · refine V_to (pc' := 10) (ls' := [(0, .ref m), (1, .int b), (2, .int w_), (3, .int x)]) (st' := [.int (1 : Int32)]) (ws' := [((R 43), .inl (Y 0, 50, .inl a43)), ((R 45), .inl (Y 0, 24, .inl a45)), (m, .inr (10, mF R v0 v7 v8 v9 v15 v16 v17 v18 v19 v27 v31 v32 v33 v34 v38 v42 (0 : Int32)))]) ?_ rfl rfl rfl rfl
    refine V_if_eq X (show (1 : Int32).toInt = 1 from by decide) 22 dX11_act_10 (by decide) (fun c_10 => absurd c_10 (by decide)) (fun _ => ?_)
    refine V_iload_n X 2 rfl dX11_act_13 ?_
    refine V_iconst (v := (0 : Int32)) X (by decide) dX11_act_14 ?_
    refine V_iconst (v := (3 : Int32)) X (by decide) dX11_act_15 ?_
    refine V_callS (wr := [((R 43), .inl (Y 0, 50, .inl a43)), ((R 45), .inl (Y 0, 24, .inl a45)), (m, .inr (10, mF R v0 v7 v8 v9 v15 v16 v17 v18 v19 v27 v31 v32 v33 v34 v38 v42 (0 : Int32)))]) (st := []) X (c_X11_in l D Y w_ (0 : Int32) (3 : Int32)) 3 gX11_act_X11_in rfl (by decide +kernel) ⟨rfl, rfl⟩ ⟨Nat.le_of_ble_eq_true rfl, Nat.le_of_ble_eq_true rfl⟩ [] [0, 1, 2] rfl rfl rfl rfl (by decide) rfl rfl (Nat.le_of_ble_eq_true rfl) ⟨Nat.le_of_ble_eq_true rfl, Nat.le_of_ble_eq_true rfl⟩ dX11_act_16 (fun v_16 w_16 h_16 => ?_)
    rcases h_16 with ⟨rfl, rfl, hhy_5⟩ | ⟨rfl, rfl, hhn_6⟩
    · refine V_to (pc' := 19) (ls' := [(0, .ref m), (1, .int b), (2, .int w_), (3, .int x)]) (st' := [.int (1 : Int32)]) (ws' := [((R 43), .inl (Y 0, 50, .inl a43)), ((R 45), .inl (Y 0, 24, .inl a45)), (m, .inr (10, mF R v0 v7 v8 v9 v15 v16 v17 v18 v19 v27 v31 v32 v33 v34 v38 v42 (0 : Int32)))]) ?_ rfl rfl rfl rfl
      have hc_0 : (0 : Int32).toInt = 0 := by decide
      have hc_3 : (3 : Int32).toInt = 3 := by decide
      refine V_if_ne X (show (1 : Int32).toInt = 1 from by decide) 24 dX11_act_19 (by decide) (fun _ => ?_) (fun c_19 => absurd c_19 (by decide))
      obtain ⟨tb, hbn, hKb⟩ := hkb (by omega) (by omega); have haw2 := haw (by omega) (by omega); have hm := aV_m hK8 b x
      · refine V_iload_n X 2 rfl dX11_act_24 ?_
        refine V_if_ne X rfl 37 dX11_act_25 (by decide) (fun c_25 => ?_) (fun c_25 => ?_)
        · refine V_iload_n X 2 rfl dX11_act_37 ?_
          refine V_iconst (v := (1 : Int32)) X (by decide) dX11_act_38 ?_
          refine V_icmp_ne X rfl (show (1 : Int32).toInt = 1 from by decide) 51 dX11_act_39 (by decide) (fun c_39 => ?_) (fun c_39 => ?_)
          · refine V_iload_n X 2 rfl dX11_act_51 ?_
            refine V_iconst (v := (2 : Int32)) X (by decide) dX11_act_52 ?_
            refine V_icmp_ne X rfl (show (2 : Int32).toInt = 2 from by decide) 65 dX11_act_53 (by decide) (fun c_53 => ?_) (fun c_53 => ?_)
            · refine V_aload_n X 0 rfl dX11_act_65 ?_
              refine V_iload_n X 1 rfl dX11_act_66 ?_
              refine V_iload_n X 3 rfl dX11_act_67 ?_
              refine V_callV (C := RX11) (wr := []) (st := []) X (c_X11_telling l D Y m R v0 v7 v8 v9 v15 v16 v17 v18 v19 v27 v31 v32 v33 v34 v38 v42 (0 : Int32) a43 a45 ([] : List Nat) b bn K x (show (0 : Int32).toInt = ((0 : Nat) : Int) by decide) (fun j hj => absurd hj (Nat.not_lt_zero j)) tb hbn hKb hK8 (by decide)) 2 gX11_act_X11_telling rfl (by decide +kernel) ⟨rfl, rfl⟩ ⟨Nat.le_of_ble_eq_true rfl, Nat.le_of_ble_eq_true rfl⟩ [2, 0, 1] [] rfl rfl rfl rfl (by decide) (ci := 10) rfl rfl 0 rfl rfl rfl (Nat.le_of_ble_eq_true rfl) ⟨Nat.le_of_ble_eq_true rfl, Nat.le_of_ble_eq_true rfl⟩ dX11_act_68 (fun v_68 w_68 h_68 => ?_)
              obtain ⟨r_8, z44_9, b45_10, rfl, rfl, hhr__11, htz44_12, hhTR2_13⟩ := h_68
              refine V_to (pc' := 71) (ls' := [(0, .ref m), (1, .int b), (2, .int w_), (3, .int x)]) (st' := [.int r_8]) (ws' := [(m, .inr (10, mF R v0 v7 v8 v9 v15 v16 v17 v18 v19 v27 v31 v32 v33 v34 v38 v42 z44_9)), ((R 43), .inl (Y 0, 50, .inl a43)), ((R 45), .inl (Y 0, 24, .inl b45_10))]) ?_ rfl rfl rfl rfl
              exact V_iret X hr dX11_act_71 (Or.inr (⟨r_8, z44_9, b45_10, rfl, rfl, (by omega), (by rw [show a = 3 by omega, hm.2.2.2]; exact hhr__11), (by rw [show a = 3 by omega, hm.2.2.2]; exact htz44_12), (by rw [show a = 3 by omega, hm.2.2.2]; exact hhTR2_13)⟩))
            · refine V_aload_n X 0 rfl dX11_act_56 ?_
              refine V_iload_n X 1 rfl dX11_act_57 ?_
              refine V_iload_n X 3 rfl dX11_act_58 ?_
              refine V_callV (C := RX11) (wr := []) (st := []) X (c_X11_saying l D Y m R v0 v7 v8 v9 v15 v16 v17 v18 v19 v27 v31 v32 v33 v34 v38 v42 (0 : Int32) a43 a45 ([] : List Nat) b bn K x (show (0 : Int32).toInt = ((0 : Nat) : Int) by decide) (fun j hj => absurd hj (Nat.not_lt_zero j)) tb hbn hKb hK8 (by decide)) 2 gX11_act_X11_saying rfl (by decide +kernel) ⟨rfl, rfl⟩ ⟨Nat.le_of_ble_eq_true rfl, Nat.le_of_ble_eq_true rfl⟩ [2, 0, 1] [] rfl rfl rfl rfl (by decide) (ci := 10) rfl rfl 0 rfl rfl rfl (Nat.le_of_ble_eq_true rfl) ⟨Nat.le_of_ble_eq_true rfl, Nat.le_of_ble_eq_true rfl⟩ dX11_act_59 (fun v_59 w_59 h_59 => ?_)
              obtain ⟨r_15, z44_16, b45_17, rfl, rfl, hhr__18, htz44_19, hhTR2_20⟩ := h_59
              refine V_to (pc' := 62) (ls' := [(0, .ref m), (1, .int b), (2, .int w_), (3, .int x)]) (st' := [.int r_15]) (ws' := [(m, .inr (10, mF R v0 v7 v8 v9 v15 v16 v17 v18 v19 v27 v31 v32 v33 v34 v38 v42 z44_16)), ((R 43), .inl (Y 0, 50, .inl a43)), ((R 45), .inl (Y 0, 24, .inl b45_17))]) ?_ rfl rfl rfl rfl
              refine V_goto X 71 (by decide) dX11_act_62 ?_
              exact V_iret X hr dX11_act_71 (Or.inr (⟨r_15, z44_16, b45_17, rfl, rfl, (by omega), (by rw [show a = 2 by omega, hm.2.2.1]; exact hhr__18), (by rw [show a = 2 by omega, hm.2.2.1]; exact htz44_19), (by rw [show a = 2 by omega, hm.2.2.1]; exact hhTR2_20)⟩))
          · refine V_aload_n X 0 rfl dX11_act_42 ?_
            refine V_iload_n X 1 rfl dX11_act_43 ?_
            refine V_iload_n X 3 rfl dX11_act_44 ?_
            refine V_callV (C := RX11) (wr := []) (st := []) X (c_X11_humming l D Y m R v0 v7 v8 v9 v15 v16 v17 v18 v19 v27 v31 v32 v33 v34 v38 v42 (0 : Int32) a43 a45 ([] : List Nat) b bn K x (show (0 : Int32).toInt = ((0 : Nat) : Int) by decide) (fun j hj => absurd hj (Nat.not_lt_zero j)) tb hbn hKb hK8 (by decide)) 2 gX11_act_X11_humming rfl (by decide +kernel) ⟨rfl, rfl⟩ ⟨Nat.le_of_ble_eq_true rfl, Nat.le_of_ble_eq_true rfl⟩ [2, 0, 1] [] rfl rfl rfl rfl (by decide) (ci := 10) rfl rfl 0 rfl rfl rfl (Nat.le_of_ble_eq_true rfl) ⟨Nat.le_of_ble_eq_true rfl, Nat.le_of_ble_eq_true rfl⟩ dX11_act_45 (fun v_45 w_45 h_45 => ?_)
            obtain ⟨r_22, z44_23, b45_24, rfl, rfl, hhr__25, htz44_26, hhTR2_27⟩ := h_45
            refine V_to (pc' := 48) (ls' := [(0, .ref m), (1, .int b), (2, .int w_), (3, .int x)]) (st' := [.int r_22]) (ws' := [(m, .inr (10, mF R v0 v7 v8 v9 v15 v16 v17 v18 v19 v27 v31 v32 v33 v34 v38 v42 z44_23)), ((R 43), .inl (Y 0, 50, .inl a43)), ((R 45), .inl (Y 0, 24, .inl b45_24))]) ?_ rfl rfl rfl rfl
            refine V_goto X 71 (by decide) dX11_act_48 ?_
            exact V_iret X hr dX11_act_71 (Or.inr (⟨r_22, z44_23, b45_24, rfl, rfl, (by omega), (by rw [show a = 1 by omega, hm.2.1]; exact hhr__25), (by rw [show a = 1 by omega, hm.2.1]; exact htz44_26), (by rw [show a = 1 by omega, hm.2.1]; exact hhTR2_27)⟩))
        · refine V_aload_n X 0 rfl dX11_act_28 ?_
          refine V_iload_n X 1 rfl dX11_act_29 ?_
          refine V_iload_n X 3 rfl dX11_act_30 ?_
          refine V_callV (C := RX11) (wr := []) (st := []) X (c_X11_beginning l D Y m R v0 v7 v8 v9 v15 v16 v17 v18 v19 v27 v31 v32 v33 v34 v38 v42 (0 : Int32) a43 a45 ([] : List Nat) b bn K x (show (0 : Int32).toInt = ((0 : Nat) : Int) by decide) (fun j hj => absurd hj (Nat.not_lt_zero j)) tb hbn hKb hK8 (by decide)) 2 gX11_act_X11_beginning rfl (by decide +kernel) ⟨rfl, rfl⟩ ⟨Nat.le_of_ble_eq_true rfl, Nat.le_of_ble_eq_true rfl⟩ [2, 0, 1] [] rfl rfl rfl rfl (by decide) (ci := 10) rfl rfl 0 rfl rfl rfl (Nat.le_of_ble_eq_true rfl) ⟨Nat.le_of_ble_eq_true rfl, Nat.le_of_ble_eq_true rfl⟩ dX11_act_31 (fun v_31 w_31 h_31 => ?_)
          obtain ⟨r_29, z44_30, b45_31, rfl, rfl, hhr__32, htz44_33, hhTR2_34⟩ := h_31
          refine V_to (pc' := 34) (ls' := [(0, .ref m), (1, .int b), (2, .int w_), (3, .int x)]) (st' := [.int r_29]) (ws' := [(m, .inr (10, mF R v0 v7 v8 v9 v15 v16 v17 v18 v19 v27 v31 v32 v33 v34 v38 v42 z44_30)), ((R 43), .inl (Y 0, 50, .inl a43)), ((R 45), .inl (Y 0, 24, .inl b45_31))]) ?_ rfl rfl rfl rfl
          refine V_goto X 71 (by decide) dX11_act_34 ?_
          exact V_iret X hr dX11_act_71 (Or.inr (⟨r_29, z44_30, b45_31, rfl, rfl, (by omega), (by rw [show a = 0 by omega, hm.1]; exact hhr__32), (by rw [show a = 0 by omega, hm.1]; exact htz44_33), (by rw [show a = 0 by omega, hm.1]; exact hhTR2_34)⟩))
    · refine V_to (pc' := 19) (ls' := [(0, .ref m), (1, .int b), (2, .int w_), (3, .int x)]) (st' := [.int (0 : Int32)]) (ws' := [((R 43), .inl (Y 0, 50, .inl a43)), ((R 45), .inl (Y 0, 24, .inl a45)), (m, .inr (10, mF R v0 v7 v8 v9 v15 v16 v17 v18 v19 v27 v31 v32 v33 v34 v38 v42 (0 : Int32)))]) ?_ rfl rfl rfl rfl
      have hc_0 : (0 : Int32).toInt = 0 := by decide
      have hc_3 : (3 : Int32).toInt = 3 := by decide
      refine V_if_ne X (show (0 : Int32).toInt = 0 from by decide) 24 dX11_act_19 (by decide) (fun c_19 => absurd c_19 (by decide)) (fun _ => ?_)
      refine V_iconst (v := (0 : Int32)) X (by decide) dX11_act_22 ?_
      refine V_ws (ws' := [(m, .inr (10, mF R v0 v7 v8 v9 v15 v16 v17 v18 v19 v27 v31 v32 v33 v34 v38 v42 (0 : Int32))), ((R 43), .inl (Y 0, 50, .inl a43)), ((R 45), .inl (Y 0, 24, .inl a45))]) [2, 0, 1] rfl rfl rfl ?_
      exact V_iret X hr dX11_act_23 (Or.inl ⟨rfl, rfl, (by omega)⟩)
  · refine V_to (pc' := 10) (ls' := [(0, .ref m), (1, .int b), (2, .int w_), (3, .int x)]) (st' := [.int (0 : Int32)]) (ws' := [((R 43), .inl (Y 0, 50, .inl a43)), ((R 45), .inl (Y 0, 24, .inl a45)), (m, .inr (10, mF R v0 v7 v8 v9 v15 v16 v17 v18 v19 v27 v31 v32 v33 v34 v38 v42 (0 : Int32)))]) ?_ rfl rfl rfl rfl
    refine V_if_eq X (show (0 : Int32).toInt = 0 from by decide) 22 dX11_act_10 (by decide) (fun _ => ?_) (fun c_10 => absurd c_10 (by decide))
    refine V_iconst (v := (0 : Int32)) X (by decide) dX11_act_22 ?_
    refine V_ws (ws' := [(m, .inr (10, mF R v0 v7 v8 v9 v15 v16 v17 v18 v19 v27 v31 v32 v33 v34 v38 v42 (0 : Int32))), ((R 43), .inl (Y 0, 50, .inl a43)), ((R 45), .inl (Y 0, 24, .inl a45))]) [2, 0, 1] rfl rfl rfl ?_
    exact V_iret X hr dX11_act_23 (Or.inl ⟨rfl, rfl, (by omega)⟩)

theorem in_X11_count_X11 : ∀ w ∈ wsX110, w ∈ wsX11_count := fun w h => List.mem_cons_of_mem _ (List.mem_append_right _ h)
set_option maxHeartbeats 4000000 in
set_option maxRecDepth 100000 in
theorem c_X11_count (l : Launch) (D : va_G) (Y : Nat → ClassId) (m : Nat) (R : Nat → Nat) (v0 : Int32) (v7 : Int32) (v8 : Int32) (v9 : Int32) (v15 : Int32) (v16 : Int32) (v17 : Int32) (v18 : Int32) (v19 : Int32) (v27 : Int32) (v31 : Int32) (v32 : Int32) (v33 : Int32) (v34 : Int32) (v38 : Int32) (v42 : Int32) (v44 : Int32) (a1 : Nat → Int32) (a5 : Nat → Int32) (n : Nat → Nat) (B : Nat → Nat → Bool) (w_ : Int32) (hLN : LNR a1 n) (hMH : MHV a5 B) : Mg l yX11_count wsX11_count ({ frames := 2, cells := 0, slots := 0, locals := 45 }) D Y [(m, .inr (10, mF R v0 v7 v8 v9 v15 v16 v17 v18 v19 v27 v31 v32 v33 v34 v38 v42 v44)), ((R 1), .inl (Y 0, 3, .inl a1)), ((R 5), .inl (Y 0, 24, .inl a5))] [.ref m, .int w_] 0 0 (fun vv__ ww__ => (∃ (r : Int32), vv__ = some (.int r) ∧ ww__ = [(m, .inr (10, mF R v0 v7 v8 v9 v15 v16 v17 v18 v19 v27 v31 v32 v33 v34 v38 v42 v44)), ((R 1), .inl (Y 0, 3, .inl a1)), ((R 5), .inl (Y 0, 24, .inl a5))] ∧ (w_.toInt = 0) ∧ (r.toInt = ((n 0 + n 1 + n 2 : Nat) : Int))) ∨ (∃ (r : Int32), vv__ = some (.int r) ∧ ww__ = [(m, .inr (10, mF R v0 v7 v8 v9 v15 v16 v17 v18 v19 v27 v31 v32 v33 v34 v38 v42 v44)), ((R 1), .inl (Y 0, 3, .inl a1)), ((R 5), .inl (Y 0, 24, .inl a5))] ∧ (w_.toInt = 1) ∧ (r.toInt = ((cnB (B 0) 24 + cnB (B 1) 24 + cnB (B 2) 24 : Nat) : Int))) ∨ (vv__ = some (.int v15) ∧ ww__ = [(m, .inr (10, mF R v0 v7 v8 v9 v15 v16 v17 v18 v19 v27 v31 v32 v33 v34 v38 v42 v44)), ((R 1), .inl (Y 0, 3, .inl a1)), ((R 5), .inl (Y 0, 24, .inl a5))] ∧ (w_.toInt = 2)) ∨ (vv__ = some (.int v8) ∧ ww__ = [(m, .inr (10, mF R v0 v7 v8 v9 v15 v16 v17 v18 v19 v27 v31 v32 v33 v34 v38 v42 v44)), ((R 1), .inl (Y 0, 3, .inl a1)), ((R 5), .inl (Y 0, 24, .inl a5))] ∧ (w_.toInt = 3)) ∨ (vv__ = some (.int v42) ∧ ww__ = [(m, .inr (10, mF R v0 v7 v8 v9 v15 v16 v17 v18 v19 v27 v31 v32 v33 v34 v38 v42 v44)), ((R 1), .inl (Y 0, 3, .inl a1)), ((R 5), .inl (Y 0, 24, .inl a5))] ∧ (w_.toInt = 4)) ∨ (vv__ = some (.int v44) ∧ ww__ = [(m, .inr (10, mF R v0 v7 v8 v9 v15 v16 v17 v18 v19 v27 v31 v32 v33 v34 v38 v42 v44)), ((R 1), .inl (Y 0, 3, .inl a1)), ((R 5), .inl (Y 0, 24, .inl a5))] ∧ (w_.toInt = 5)) ∨ (vv__ = some (.int (-1 : Int32)) ∧ ww__ = [(m, .inr (10, mF R v0 v7 v8 v9 v15 v16 v17 v18 v19 v27 v31 v32 v33 v34 v38 v42 v44)), ((R 1), .inl (Y 0, 3, .inl a1)), ((R 5), .inl (Y 0, 24, .inl a5))] ∧ (w_.toInt < 0 ∨ 5 < w_.toInt))) := by
  refine Mg_of (cc := cX11_count) (maxL := 2) (ret := (some .int)) (ls0 := [(0, .ref m), (1, .int w_)]) RX11 (by decide) rfl rfl rfl (Nat.le_of_ble_eq_true rfl) (fun p__ e__ s__ m__ b__ t__ c__ X hr hn => ?_)
  refine V_iload_n X 1 rfl dX11_count_0 ?_
  have t_1 : w_.toInt = w_.toInt := rfl
  rcases (by omega : w_.toInt = 0 ∨ w_.toInt = 1 ∨ w_.toInt = 2 ∨ w_.toInt = 3 ∨ w_.toInt = 4 ∨ w_.toInt = 5 ∨ (w_.toInt < 0 ∨ 5 < w_.toInt)) with c_1 | c_1 | c_1 | c_1 | c_1 | c_1 | c_1
  · refine V_tableIn X 40 0 dX11_count_1 (by omega) (by decide) rfl (by decide) ?_
    have hl0 := hLN 0 (by decide)
    have hl1 := hLN 1 (by decide)
    have hl2 := hLN 2 (by decide)
    refine V_aload_n X 0 rfl dX11_count_40 ?_
    refine V_get (C := RX11) (T := TX11) (N := 50) (ci := 10) (v := .ref (R 1)) X in_X11_count_X11 0 rfl rfl 1 (by decide) (List.mem_of_getElem? (i := 1) rfl) rfl rfl dX11_count_41 ?_
    refine V_iconst (v := (0 : Int32)) X (by decide) dX11_count_44 ?_
    refine V_iald X 1 0 rfl (show (0 : Int32).toInt = ((0 : Nat) : Int) from (show (0 : Int32).toInt = 0 from by decide)) (by omega) dX11_count_45 ?_
    refine V_nm (fun x_1 ex_1 => ?_)
    have tx_1 : x_1.toInt = ((n 0 : Nat) : Int) := by rw [ex_1]; exact hl0.1
    refine V_aload_n X 0 rfl dX11_count_46 ?_
    refine V_get (C := RX11) (T := TX11) (N := 50) (ci := 10) (v := .ref (R 1)) X in_X11_count_X11 0 rfl rfl 1 (by decide) (List.mem_of_getElem? (i := 1) rfl) rfl rfl dX11_count_47 ?_
    refine V_iconst (v := (1 : Int32)) X (by decide) dX11_count_50 ?_
    refine V_iald X 1 1 rfl (show (1 : Int32).toInt = ((1 : Nat) : Int) from (show (1 : Int32).toInt = 1 from by decide)) (by omega) dX11_count_51 ?_
    refine V_nm (fun x_2 ex_2 => ?_)
    have tx_2 : x_2.toInt = ((n 1 : Nat) : Int) := by rw [ex_2]; exact hl1.1
    refine V_iaddZ X tx_1 tx_2 (by omega) (by omega) dX11_count_52 (fun x_3 ex_3 tx_3 => ?_)
    have tx_3 : x_3.toInt = (((n 0 + n 1) : Nat) : Int) := by omega
    refine V_aload_n X 0 rfl dX11_count_53 ?_
    refine V_get (C := RX11) (T := TX11) (N := 50) (ci := 10) (v := .ref (R 1)) X in_X11_count_X11 0 rfl rfl 1 (by decide) (List.mem_of_getElem? (i := 1) rfl) rfl rfl dX11_count_54 ?_
    refine V_iconst (v := (2 : Int32)) X (by decide) dX11_count_57 ?_
    refine V_iald X 1 2 rfl (show (2 : Int32).toInt = ((2 : Nat) : Int) from (show (2 : Int32).toInt = 2 from by decide)) (by omega) dX11_count_58 ?_
    refine V_nm (fun x_4 ex_4 => ?_)
    have tx_4 : x_4.toInt = ((n 2 : Nat) : Int) := by rw [ex_4]; exact hl2.1
    refine V_iaddZ X tx_3 tx_4 (by omega) (by omega) dX11_count_59 (fun x_5 ex_5 tx_5 => ?_)
    have tx_5 : x_5.toInt = ((((n 0 + n 1) + n 2) : Nat) : Int) := by omega
    exact V_iret X hr dX11_count_60 (Or.inl ⟨x_5, rfl, rfl, c_1, (by omega)⟩)
  · refine V_tableIn X 61 1 dX11_count_1 (by omega) (by decide) rfl (by decide) ?_
    have hq0 := cnB_le (B 0) 24
    have hq1 := cnB_le (B 1) 24
    have hq2 := cnB_le (B 2) 24
    refine V_aload_n X 0 rfl dX11_count_61 ?_
    refine V_iconst (v := (0 : Int32)) X (by decide) dX11_count_62 ?_
    refine V_callV (C := RX11) (wr := [((R 1), .inl (Y 0, 3, .inl a1))]) (st := []) X (c_X11_bitsLeft l D Y m R v0 v7 v8 v9 v15 v16 v17 v18 v19 v27 v31 v32 v33 v34 v38 v42 v44 a5 B 0 (0 : Int32) hMH (by decide) (by decide)) 1 gX11_count_X11_bitsLeft rfl (by decide +kernel) ⟨rfl, rfl⟩ ⟨Nat.le_of_ble_eq_true rfl, Nat.le_of_ble_eq_true rfl⟩ [0, 2] [1] rfl rfl rfl rfl (by decide) (ci := 10) rfl rfl 0 rfl rfl rfl (Nat.le_of_ble_eq_true rfl) ⟨Nat.le_of_ble_eq_true rfl, Nat.le_of_ble_eq_true rfl⟩ dX11_count_63 (fun v_63 w_63 h_63 => ?_)
    obtain ⟨r_7, rfl, rfl, htr_8⟩ := h_63
    refine V_to (pc' := 66) (ls' := [(0, .ref m), (1, .int w_)]) (st' := [.int r_7]) (ws' := [((R 1), .inl (Y 0, 3, .inl a1)), (m, .inr (10, mF R v0 v7 v8 v9 v15 v16 v17 v18 v19 v27 v31 v32 v33 v34 v38 v42 v44)), ((R 5), .inl (Y 0, 24, .inl a5))]) ?_ rfl rfl rfl rfl
    refine V_aload_n X 0 rfl dX11_count_66 ?_
    refine V_iconst (v := (1 : Int32)) X (by decide) dX11_count_67 ?_
    refine V_callV (C := RX11) (wr := [((R 1), .inl (Y 0, 3, .inl a1))]) (st := [.int r_7]) X (c_X11_bitsLeft l D Y m R v0 v7 v8 v9 v15 v16 v17 v18 v19 v27 v31 v32 v33 v34 v38 v42 v44 a5 B 1 (1 : Int32) hMH (by decide) (by decide)) 1 gX11_count_X11_bitsLeft rfl (by decide +kernel) ⟨rfl, rfl⟩ ⟨Nat.le_of_ble_eq_true rfl, Nat.le_of_ble_eq_true rfl⟩ [1, 2] [0] rfl rfl rfl rfl (by decide) (ci := 10) rfl rfl 0 rfl rfl rfl (Nat.le_of_ble_eq_true rfl) ⟨Nat.le_of_ble_eq_true rfl, Nat.le_of_ble_eq_true rfl⟩ dX11_count_68 (fun v_68 w_68 h_68 => ?_)
    obtain ⟨r_10, rfl, rfl, htr_11⟩ := h_68
    refine V_to (pc' := 71) (ls' := [(0, .ref m), (1, .int w_)]) (st' := [.int r_10, .int r_7]) (ws' := [((R 1), .inl (Y 0, 3, .inl a1)), (m, .inr (10, mF R v0 v7 v8 v9 v15 v16 v17 v18 v19 v27 v31 v32 v33 v34 v38 v42 v44)), ((R 5), .inl (Y 0, 24, .inl a5))]) ?_ rfl rfl rfl rfl
    refine V_iaddZ X htr_8 htr_11 (by omega) (by omega) dX11_count_71 (fun x_12 ex_12 tx_12 => ?_)
    have tx_12 : x_12.toInt = (((cnB (B 0) 24 + cnB (B 1) 24) : Nat) : Int) := by omega
    refine V_aload_n X 0 rfl dX11_count_72 ?_
    refine V_iconst (v := (2 : Int32)) X (by decide) dX11_count_73 ?_
    refine V_callV (C := RX11) (wr := [((R 1), .inl (Y 0, 3, .inl a1))]) (st := [.int x_12]) X (c_X11_bitsLeft l D Y m R v0 v7 v8 v9 v15 v16 v17 v18 v19 v27 v31 v32 v33 v34 v38 v42 v44 a5 B 2 (2 : Int32) hMH (by decide) (by decide)) 1 gX11_count_X11_bitsLeft rfl (by decide +kernel) ⟨rfl, rfl⟩ ⟨Nat.le_of_ble_eq_true rfl, Nat.le_of_ble_eq_true rfl⟩ [1, 2] [0] rfl rfl rfl rfl (by decide) (ci := 10) rfl rfl 0 rfl rfl rfl (Nat.le_of_ble_eq_true rfl) ⟨Nat.le_of_ble_eq_true rfl, Nat.le_of_ble_eq_true rfl⟩ dX11_count_74 (fun v_74 w_74 h_74 => ?_)
    obtain ⟨r_14, rfl, rfl, htr_15⟩ := h_74
    refine V_to (pc' := 77) (ls' := [(0, .ref m), (1, .int w_)]) (st' := [.int r_14, .int x_12]) (ws' := [((R 1), .inl (Y 0, 3, .inl a1)), (m, .inr (10, mF R v0 v7 v8 v9 v15 v16 v17 v18 v19 v27 v31 v32 v33 v34 v38 v42 v44)), ((R 5), .inl (Y 0, 24, .inl a5))]) ?_ rfl rfl rfl rfl
    refine V_iaddZ X tx_12 htr_15 (by omega) (by omega) dX11_count_77 (fun x_16 ex_16 tx_16 => ?_)
    have tx_16 : x_16.toInt = ((((cnB (B 0) 24 + cnB (B 1) 24) + cnB (B 2) 24) : Nat) : Int) := by omega
    refine V_ws (ws' := [(m, .inr (10, mF R v0 v7 v8 v9 v15 v16 v17 v18 v19 v27 v31 v32 v33 v34 v38 v42 v44)), ((R 1), .inl (Y 0, 3, .inl a1)), ((R 5), .inl (Y 0, 24, .inl a5))]) [1, 0, 2] rfl rfl rfl ?_
    exact V_iret X hr dX11_count_78 (Or.inr (Or.inl ⟨x_16, rfl, rfl, c_1, (by omega)⟩))
  · refine V_tableIn X 79 2 dX11_count_1 (by omega) (by decide) rfl (by decide) ?_
    refine V_aload_n X 0 rfl dX11_count_79 ?_
    refine V_get (C := RX11) (T := TX11) (N := 50) (ci := 10) (v := .int v15) X in_X11_count_X11 0 rfl rfl 15 (by decide) (List.mem_of_getElem? (i := 2) rfl) rfl rfl dX11_count_80 ?_
    exact V_iret X hr dX11_count_83 (Or.inr (Or.inr (Or.inl ⟨rfl, rfl, c_1⟩)))
  · refine V_tableIn X 84 3 dX11_count_1 (by omega) (by decide) rfl (by decide) ?_
    refine V_aload_n X 0 rfl dX11_count_84 ?_
    refine V_get (C := RX11) (T := TX11) (N := 50) (ci := 10) (v := .int v8) X in_X11_count_X11 0 rfl rfl 8 (by decide) (List.mem_of_getElem? (i := 3) rfl) rfl rfl dX11_count_85 ?_
    exact V_iret X hr dX11_count_88 (Or.inr (Or.inr (Or.inr (Or.inl ⟨rfl, rfl, c_1⟩))))
  · refine V_tableIn X 89 4 dX11_count_1 (by omega) (by decide) rfl (by decide) ?_
    refine V_aload_n X 0 rfl dX11_count_89 ?_
    refine V_get (C := RX11) (T := TX11) (N := 50) (ci := 10) (v := .int v42) X in_X11_count_X11 0 rfl rfl 42 (by decide) (List.mem_of_getElem? (i := 4) rfl) rfl rfl dX11_count_90 ?_
    exact V_iret X hr dX11_count_93 (Or.inr (Or.inr (Or.inr (Or.inr (Or.inl ⟨rfl, rfl, c_1⟩)))))
  · refine V_tableIn X 94 5 dX11_count_1 (by omega) (by decide) rfl (by decide) ?_
    refine V_aload_n X 0 rfl dX11_count_94 ?_
    refine V_get (C := RX11) (T := TX11) (N := 50) (ci := 10) (v := .int v44) X in_X11_count_X11 0 rfl rfl 44 (by decide) (List.mem_of_getElem? (i := 5) rfl) rfl rfl dX11_count_95 ?_
    exact V_iret X hr dX11_count_98 (Or.inr (Or.inr (Or.inr (Or.inr (Or.inr (Or.inl ⟨rfl, rfl, c_1⟩))))))
  · refine V_tableOut X 99 dX11_count_1 (by omega) (by decide) ?_
    refine V_iconst (v := (-1 : Int32)) X (by decide) dX11_count_99 ?_
    exact V_iret X hr dX11_count_100 (Or.inr (Or.inr (Or.inr (Or.inr (Or.inr (Or.inr (⟨rfl, rfl, c_1⟩)))))))

theorem in_X11_keep_X11 : ∀ w ∈ wsX110, w ∈ wsX11_keep := fun w h => List.mem_cons_of_mem _ (List.mem_append_right _ h)
set_option maxHeartbeats 4000000 in
set_option maxRecDepth 100000 in
theorem c_X11_keep (l : Launch) (D : va_G) (Y : Nat → ClassId) (m : Nat) (R : Nat → Nat) (v0 : Int32) (v7 : Int32) (v8 : Int32) (v9 : Int32) (v15 : Int32) (v16 : Int32) (v17 : Int32) (v18 : Int32) (v19 : Int32) (v27 : Int32) (v31 : Int32) (v32 : Int32) (v33 : Int32) (v34 : Int32) (v38 : Int32) (v42 : Int32) (v44 : Int32) (a46 : Nat → Int32) (nb_ : Nat) (h0 : Nat) (j : Int32) (b : Int32) (tv42 : v42.toInt = ((nb_ : Nat) : Int)) (hnb : nb_ ≤ 50) (hho : 0 ≤ j.toInt → j.toInt < 6 → j.toInt = ((h0 : Nat) : Int)) (hh0 : h0 < 6) : Mg l yX11_keep wsX11_keep ({ frames := 2, cells := 0, slots := 0, locals := 43 }) D Y [(m, .inr (10, mF R v0 v7 v8 v9 v15 v16 v17 v18 v19 v27 v31 v32 v33 v34 v38 v42 v44)), ((R 46), .inl (Y 0, 6, .inl a46))] [.ref m, .int j, .int b] 0 0 (fun vv__ ww__ => (vv__ = some (.int (-1 : Int32)) ∧ ww__ = [(m, .inr (10, mF R v0 v7 v8 v9 v15 v16 v17 v18 v19 v27 v31 v32 v33 v34 v38 v42 v44)), ((R 46), .inl (Y 0, 6, .inl a46))] ∧ (¬ (0 ≤ j.toInt ∧ j.toInt < 6 ∧ (b.toInt = -1 ∨ (0 ≤ b.toInt ∧ b.toInt < v42.toInt))))) ∨ (vv__ = some (.int (1 : Int32)) ∧ ww__ = [(m, .inr (10, mF R v0 v7 v8 v9 v15 v16 v17 v18 v19 v27 v31 v32 v33 v34 v38 v42 v44)), ((R 46), .inl (Y 0, 6, .inl (upd a46 h0 b)))] ∧ (j.toInt = ((h0 : Nat) : Int)) ∧ (b.toInt = -1 ∨ (0 ≤ b.toInt ∧ b.toInt < v42.toInt)))) := by
  refine Mg_of (cc := cX11_keep) (maxL := 3) (ret := (some .int)) (ls0 := [(0, .ref m), (1, .int j), (2, .int b)]) RX11 (by decide) rfl rfl rfl (Nat.le_of_ble_eq_true rfl) (fun p__ e__ s__ m__ b__ t__ c__ X hr hn => ?_)
  refine V_iload_n X 1 rfl dX11_keep_0 ?_
  refine V_callS (wr := [(m, .inr (10, mF R v0 v7 v8 v9 v15 v16 v17 v18 v19 v27 v31 v32 v33 v34 v38 v42 v44)), ((R 46), .inl (Y 0, 6, .inl a46))]) (st := []) X (c_X11_isShelf l D Y j) 1 gX11_keep_X11_isShelf rfl (by decide +kernel) ⟨rfl, rfl⟩ ⟨Nat.le_of_ble_eq_true rfl, Nat.le_of_ble_eq_true rfl⟩ [] [0, 1] rfl rfl rfl rfl (by decide) rfl rfl (Nat.le_of_ble_eq_true rfl) ⟨Nat.le_of_ble_eq_true rfl, Nat.le_of_ble_eq_true rfl⟩ dX11_keep_1 (fun v_1 w_1 h_1 => ?_)
  rcases h_1 with ⟨rfl, rfl, hhy_2⟩ | ⟨rfl, rfl, hhn_3⟩
  · refine V_to (pc' := 4) (ls' := [(0, .ref m), (1, .int j), (2, .int b)]) (st' := [.int (1 : Int32)]) (ws' := [(m, .inr (10, mF R v0 v7 v8 v9 v15 v16 v17 v18 v19 v27 v31 v32 v33 v34 v38 v42 v44)), ((R 46), .inl (Y 0, 6, .inl a46))]) ?_ rfl rfl rfl rfl
    refine V_if_eq X (show (1 : Int32).toInt = 1 from by decide) 20 dX11_keep_4 (by decide) (fun c_4 => absurd c_4 (by decide)) (fun _ => ?_)
    refine V_iload_n X 2 rfl dX11_keep_7 ?_
    refine V_iconst (v := (-1 : Int32)) X (by decide) dX11_keep_8 ?_
    refine V_icmp_eq X rfl (show (-1 : Int32).toInt = (-1) from by decide) 22 dX11_keep_9 (by decide) (fun c_9 => ?_) (fun c_9 => ?_)
    · refine V_aload_n X 0 rfl dX11_keep_22 ?_
      refine V_get (C := RX11) (T := TX11) (N := 50) (ci := 10) (v := .ref (R 46)) X in_X11_keep_X11 0 rfl rfl 46 (by decide) (List.mem_of_getElem? (i := 1) rfl) rfl rfl dX11_keep_23 ?_
      refine V_iload_n X 1 rfl dX11_keep_26 ?_
      refine V_iload_n X 2 rfl dX11_keep_27 ?_
      refine V_iast (ws' := [(m, .inr (10, mF R v0 v7 v8 v9 v15 v16 v17 v18 v19 v27 v31 v32 v33 v34 v38 v42 v44)), ((R 46), .inl (Y 0, 6, .inl (upd a46 h0 b)))]) X 1 h0 rfl (by omega) (by omega) rfl dX11_keep_28 ?_
      refine V_iconst (v := (1 : Int32)) X (by decide) dX11_keep_29 ?_
      exact V_iret X hr dX11_keep_30 (Or.inr (⟨rfl, rfl, (by omega), (by omega)⟩))
    · refine V_aload_n X 0 rfl dX11_keep_12 ?_
      refine V_iload_n X 2 rfl dX11_keep_13 ?_
      refine V_callV (C := RX11) (wr := [((R 46), .inl (Y 0, 6, .inl a46))]) (st := []) X (c_X11_isBody l D Y m R v0 v7 v8 v9 v15 v16 v17 v18 v19 v27 v31 v32 v33 v34 v38 v42 v44 nb_ b tv42 hnb) 1 gX11_keep_X11_isBody rfl (by decide +kernel) ⟨rfl, rfl⟩ ⟨Nat.le_of_ble_eq_true rfl, Nat.le_of_ble_eq_true rfl⟩ [0] [1] rfl rfl rfl rfl (by decide) (ci := 10) rfl rfl 0 rfl rfl rfl (Nat.le_of_ble_eq_true rfl) ⟨Nat.le_of_ble_eq_true rfl, Nat.le_of_ble_eq_true rfl⟩ dX11_keep_14 (fun v_14 w_14 h_14 => ?_)
      rcases h_14 with ⟨rfl, rfl, hhy_5⟩ | ⟨rfl, rfl, hhn_6⟩
      · refine V_to (pc' := 17) (ls' := [(0, .ref m), (1, .int j), (2, .int b)]) (st' := [.int (1 : Int32)]) (ws' := [((R 46), .inl (Y 0, 6, .inl a46)), (m, .inr (10, mF R v0 v7 v8 v9 v15 v16 v17 v18 v19 v27 v31 v32 v33 v34 v38 v42 v44))]) ?_ rfl rfl rfl rfl
        refine V_if_ne X (show (1 : Int32).toInt = 1 from by decide) 22 dX11_keep_17 (by decide) (fun _ => ?_) (fun c_17 => absurd c_17 (by decide))
        refine V_aload_n X 0 rfl dX11_keep_22 ?_
        refine V_get (C := RX11) (T := TX11) (N := 50) (ci := 10) (v := .ref (R 46)) X in_X11_keep_X11 1 rfl rfl 46 (by decide) (List.mem_of_getElem? (i := 1) rfl) rfl rfl dX11_keep_23 ?_
        refine V_iload_n X 1 rfl dX11_keep_26 ?_
        refine V_iload_n X 2 rfl dX11_keep_27 ?_
        refine V_iast (ws' := [((R 46), .inl (Y 0, 6, .inl (upd a46 h0 b))), (m, .inr (10, mF R v0 v7 v8 v9 v15 v16 v17 v18 v19 v27 v31 v32 v33 v34 v38 v42 v44))]) X 0 h0 rfl (by omega) (by omega) rfl dX11_keep_28 ?_
        refine V_iconst (v := (1 : Int32)) X (by decide) dX11_keep_29 ?_
        refine V_ws (ws' := [(m, .inr (10, mF R v0 v7 v8 v9 v15 v16 v17 v18 v19 v27 v31 v32 v33 v34 v38 v42 v44)), ((R 46), .inl (Y 0, 6, .inl (upd a46 h0 b)))]) [1, 0] rfl rfl rfl ?_
        exact V_iret X hr dX11_keep_30 (Or.inr (⟨rfl, rfl, (by omega), (by omega)⟩))
      · refine V_to (pc' := 17) (ls' := [(0, .ref m), (1, .int j), (2, .int b)]) (st' := [.int (0 : Int32)]) (ws' := [((R 46), .inl (Y 0, 6, .inl a46)), (m, .inr (10, mF R v0 v7 v8 v9 v15 v16 v17 v18 v19 v27 v31 v32 v33 v34 v38 v42 v44))]) ?_ rfl rfl rfl rfl
        refine V_if_ne X (show (0 : Int32).toInt = 0 from by decide) 22 dX11_keep_17 (by decide) (fun c_17 => absurd c_17 (by decide)) (fun _ => ?_)
        refine V_iconst (v := (-1 : Int32)) X (by decide) dX11_keep_20 ?_
        refine V_ws (ws' := [(m, .inr (10, mF R v0 v7 v8 v9 v15 v16 v17 v18 v19 v27 v31 v32 v33 v34 v38 v42 v44)), ((R 46), .inl (Y 0, 6, .inl a46))]) [1, 0] rfl rfl rfl ?_
        exact V_iret X hr dX11_keep_21 (Or.inl ⟨rfl, rfl, (by omega)⟩)
  · refine V_to (pc' := 4) (ls' := [(0, .ref m), (1, .int j), (2, .int b)]) (st' := [.int (0 : Int32)]) (ws' := [(m, .inr (10, mF R v0 v7 v8 v9 v15 v16 v17 v18 v19 v27 v31 v32 v33 v34 v38 v42 v44)), ((R 46), .inl (Y 0, 6, .inl a46))]) ?_ rfl rfl rfl rfl
    refine V_if_eq X (show (0 : Int32).toInt = 0 from by decide) 20 dX11_keep_4 (by decide) (fun _ => ?_) (fun c_4 => absurd c_4 (by decide))
    refine V_iconst (v := (-1 : Int32)) X (by decide) dX11_keep_20 ?_
    exact V_iret X hr dX11_keep_21 (Or.inl ⟨rfl, rfl, (by omega)⟩)

theorem in_X11_row_X11 : ∀ w ∈ wsX110, w ∈ wsX11_row := fun w h => List.mem_cons_of_mem _ (List.mem_append_right _ h)
set_option maxHeartbeats 4000000 in
set_option maxRecDepth 100000 in
theorem c_X11_row (l : Launch) (D : va_G) (Y : Nat → ClassId) (m : Nat) (R : Nat → Nat) (v0 : Int32) (v7 : Int32) (v8 : Int32) (v9 : Int32) (v15 : Int32) (v16 : Int32) (v17 : Int32) (v18 : Int32) (v19 : Int32) (v27 : Int32) (v31 : Int32) (v32 : Int32) (v33 : Int32) (v34 : Int32) (v38 : Int32) (v42 : Int32) (v44 : Int32) (a46 : Nat → Int32) (a47 : Nat → Int32) (a48 : Nat → Int64) (h0 : Nat) (j : Int32) (q : Int32) (i : Int32) (hho : 0 ≤ j.toInt → j.toInt < 6 → j.toInt = ((h0 : Nat) : Int)) (hh0 : h0 < 6) : Mg l yX11_row wsX11_row ({ frames := 2, cells := 0, slots := 0, locals := 42 }) D Y [(m, .inr (10, mF R v0 v7 v8 v9 v15 v16 v17 v18 v19 v27 v31 v32 v33 v34 v38 v42 v44)), ((R 46), .inl (Y 0, 6, .inl a46)), ((R 47), .inl (Y 0, 6, .inl a47)), ((R 48), .inl (Y 1, 360, .inr (.inl a48)))] [.ref m, .int j, .int q, .int i] 0 0 (fun vv__ ww__ => (vv__ = some (.int (-1 : Int32)) ∧ ww__ = [(m, .inr (10, mF R v0 v7 v8 v9 v15 v16 v17 v18 v19 v27 v31 v32 v33 v34 v38 v42 v44)), ((R 46), .inl (Y 0, 6, .inl a46)), ((R 47), .inl (Y 0, 6, .inl a47)), ((R 48), .inl (Y 1, 360, .inr (.inl a48)))] ∧ (¬ (0 ≤ j.toInt ∧ j.toInt < 6 ∧ 0 ≤ q.toInt ∧ q.toInt < 5 ∧ i.toInt ≤ 60))) ∨ (vv__ = some (.int (-14 : Int32)) ∧ ww__ = [(m, .inr (10, mF R v0 v7 v8 v9 v15 v16 v17 v18 v19 v27 v31 v32 v33 v34 v38 v42 v44)), ((R 46), .inl (Y 0, 6, .inl a46)), ((R 47), .inl (Y 0, 6, .inl a47)), ((R 48), .inl (Y 1, 360, .inr (.inl a48)))] ∧ (j.toInt = ((h0 : Nat) : Int) ∧ 0 ≤ q.toInt ∧ q.toInt < 5) ∧ (i.toInt < 0)) ∨ (∃ (z46 : Int32), ∃ (b48 : Nat → Int64), ∃ (m2 : Nat), vv__ = some (.int (1 : Int32)) ∧ ww__ = [(m, .inr (10, mF R v0 v7 v8 v9 v15 v16 v17 v18 v19 v27 v31 v32 v33 v34 v38 v42 v44)), ((R 46), .inl (Y 0, 6, .inl (upd a46 h0 z46))), ((R 47), .inl (Y 0, 6, .inl (upd a47 h0 i))), ((R 48), .inl (Y 1, 360, .inr (.inl b48)))] ∧ (j.toInt = ((h0 : Nat) : Int) ∧ 0 ≤ q.toInt ∧ q.toInt < 5) ∧ (i.toInt = ((m2 : Nat) : Int)) ∧ (m2 ≤ 60) ∧ (z46.toInt = -2 - q.toInt) ∧ (∀ k, b48 k = if 60 * h0 ≤ k ∧ k < 60 * h0 + 60 then 0 else a48 k))) := by
  refine Mg_of (cc := cX11_row) (maxL := 5) (ret := (some .int)) (ls0 := [(0, .ref m), (1, .int j), (2, .int q), (3, .int i)]) RX11 (by decide) rfl rfl rfl (Nat.le_of_ble_eq_true rfl) (fun p__ e__ s__ m__ b__ t__ c__ X hr hn => ?_)
  refine V_iload_n X 1 rfl dX11_row_0 ?_
  refine V_callS (wr := [(m, .inr (10, mF R v0 v7 v8 v9 v15 v16 v17 v18 v19 v27 v31 v32 v33 v34 v38 v42 v44)), ((R 46), .inl (Y 0, 6, .inl a46)), ((R 47), .inl (Y 0, 6, .inl a47)), ((R 48), .inl (Y 1, 360, .inr (.inl a48)))]) (st := []) X (c_X11_isShelf l D Y j) 1 gX11_row_X11_isShelf rfl (by decide +kernel) ⟨rfl, rfl⟩ ⟨Nat.le_of_ble_eq_true rfl, Nat.le_of_ble_eq_true rfl⟩ [] [0, 1, 2, 3] rfl rfl rfl rfl (by decide) rfl rfl (Nat.le_of_ble_eq_true rfl) ⟨Nat.le_of_ble_eq_true rfl, Nat.le_of_ble_eq_true rfl⟩ dX11_row_1 (fun v_1 w_1 h_1 => ?_)
  rcases h_1 with ⟨rfl, rfl, hhy_2⟩ | ⟨rfl, rfl, hhn_3⟩
  · refine V_to (pc' := 4) (ls' := [(0, .ref m), (1, .int j), (2, .int q), (3, .int i)]) (st' := [.int (1 : Int32)]) (ws' := [(m, .inr (10, mF R v0 v7 v8 v9 v15 v16 v17 v18 v19 v27 v31 v32 v33 v34 v38 v42 v44)), ((R 46), .inl (Y 0, 6, .inl a46)), ((R 47), .inl (Y 0, 6, .inl a47)), ((R 48), .inl (Y 1, 360, .inr (.inl a48)))]) ?_ rfl rfl rfl rfl
    refine V_if_eq X (show (1 : Int32).toInt = 1 from by decide) 22 dX11_row_4 (by decide) (fun c_4 => absurd c_4 (by decide)) (fun _ => ?_)
    refine V_iload_n X 2 rfl dX11_row_7 ?_
    refine V_iconst (v := (0 : Int32)) X (by decide) dX11_row_8 ?_
    refine V_iconst (v := (4 : Int32)) X (by decide) dX11_row_9 ?_
    refine V_callS (wr := [(m, .inr (10, mF R v0 v7 v8 v9 v15 v16 v17 v18 v19 v27 v31 v32 v33 v34 v38 v42 v44)), ((R 46), .inl (Y 0, 6, .inl a46)), ((R 47), .inl (Y 0, 6, .inl a47)), ((R 48), .inl (Y 1, 360, .inr (.inl a48)))]) (st := []) X (c_X11_in l D Y q (0 : Int32) (4 : Int32)) 3 gX11_row_X11_in rfl (by decide +kernel) ⟨rfl, rfl⟩ ⟨Nat.le_of_ble_eq_true rfl, Nat.le_of_ble_eq_true rfl⟩ [] [0, 1, 2, 3] rfl rfl rfl rfl (by decide) rfl rfl (Nat.le_of_ble_eq_true rfl) ⟨Nat.le_of_ble_eq_true rfl, Nat.le_of_ble_eq_true rfl⟩ dX11_row_10 (fun v_10 w_10 h_10 => ?_)
    rcases h_10 with ⟨rfl, rfl, hhy_5⟩ | ⟨rfl, rfl, hhn_6⟩
    · refine V_to (pc' := 13) (ls' := [(0, .ref m), (1, .int j), (2, .int q), (3, .int i)]) (st' := [.int (1 : Int32)]) (ws' := [(m, .inr (10, mF R v0 v7 v8 v9 v15 v16 v17 v18 v19 v27 v31 v32 v33 v34 v38 v42 v44)), ((R 46), .inl (Y 0, 6, .inl a46)), ((R 47), .inl (Y 0, 6, .inl a47)), ((R 48), .inl (Y 1, 360, .inr (.inl a48)))]) ?_ rfl rfl rfl rfl
      have hc_0 : (0 : Int32).toInt = 0 := by decide
      have hc_4 : (4 : Int32).toInt = 4 := by decide
      refine V_if_eq X (show (1 : Int32).toInt = 1 from by decide) 22 dX11_row_13 (by decide) (fun c_13 => absurd c_13 (by decide)) (fun _ => ?_)
      refine V_iload_n X 3 rfl dX11_row_16 ?_
      refine V_bipush (v := (60 : Int32)) X (by decide) dX11_row_17 ?_
      refine V_icmp_le X rfl (show (60 : Int32).toInt = 60 from by decide) 24 dX11_row_19 (by decide) (fun c_19 => ?_) (fun c_19 => ?_)
      · refine V_iload_n X 3 rfl dX11_row_24 ?_
        refine V_if_ge X rfl 31 dX11_row_25 (by decide) (fun c_25 => ?_) (fun c_25 => ?_)
        · have hj0 := hho (by omega) (by omega); obtain ⟨m2, tm2⟩ : ∃ m2 : Nat, i.toInt = ((m2 : Nat) : Int) := ⟨i.toInt.toNat, by omega⟩
          · refine V_aload_n X 0 rfl dX11_row_31 ?_
            refine V_get (C := RX11) (T := TX11) (N := 50) (ci := 10) (v := .ref (R 46)) X in_X11_row_X11 0 rfl rfl 46 (by decide) (List.mem_of_getElem? (i := 1) rfl) rfl rfl dX11_row_32 ?_
            refine V_iload_n X 1 rfl dX11_row_35 ?_
            refine V_bipush (v := (-2 : Int32)) X (by decide) dX11_row_36 ?_
            refine V_iload_n X 2 rfl dX11_row_38 ?_
            refine V_isubZ X (show (-2 : Int32).toInt = (-2) from by decide) rfl (by omega) (by omega) dX11_row_39 (fun x_7 ex_7 tx_7 => ?_)
            refine V_iast (ws' := [(m, .inr (10, mF R v0 v7 v8 v9 v15 v16 v17 v18 v19 v27 v31 v32 v33 v34 v38 v42 v44)), ((R 46), .inl (Y 0, 6, .inl (upd a46 h0 x_7))), ((R 47), .inl (Y 0, 6, .inl a47)), ((R 48), .inl (Y 1, 360, .inr (.inl a48)))]) X 1 h0 rfl hj0 (by omega) rfl dX11_row_40 ?_
            refine V_aload_n X 0 rfl dX11_row_41 ?_
            refine V_get (C := RX11) (T := TX11) (N := 50) (ci := 10) (v := .ref (R 47)) X in_X11_row_X11 0 rfl rfl 47 (by decide) (List.mem_of_getElem? (i := 2) rfl) rfl rfl dX11_row_42 ?_
            refine V_iload_n X 1 rfl dX11_row_45 ?_
            refine V_iload_n X 3 rfl dX11_row_46 ?_
            refine V_iast (ws' := [(m, .inr (10, mF R v0 v7 v8 v9 v15 v16 v17 v18 v19 v27 v31 v32 v33 v34 v38 v42 v44)), ((R 46), .inl (Y 0, 6, .inl (upd a46 h0 x_7))), ((R 47), .inl (Y 0, 6, .inl (upd a47 h0 i))), ((R 48), .inl (Y 1, 360, .inr (.inl a48)))]) X 2 h0 rfl hj0 (by omega) rfl dX11_row_47 ?_
            refine V_bipush (v := (60 : Int32)) X (by decide) dX11_row_48 ?_
            refine V_iload_n X 1 rfl dX11_row_50 ?_
            refine V_imulZ X (show (60 : Int32).toInt = 60 from by decide) hj0 (by omega) (by omega) dX11_row_51 (fun x_8 ex_8 tx_8 => ?_)
            have tx_8 : x_8.toInt = (((60 * h0) : Nat) : Int) := by omega
            refine V_istore (ls' := [(4, .int x_8), (0, .ref m), (1, .int j), (2, .int q), (3, .int i)]) X (by decide) rfl dX11_row_52 ?_
            refine V_ls (ls' := [(0, .ref m), (1, .int j), (2, .int q), (3, .int i), (4, .int x_8)]) [1, 2, 3, 4, 0] rfl ?_
            refine V_to (V_ind3 (fun (i4 : Int32) (k : Nat) (g48 : Nat → Int64) => (i4.toInt = ((k : Nat) : Int)) ∧ (60 * h0 ≤ k ∧ k ≤ 60 * h0 + 60) ∧ (∀ j, g48 j = if 60 * h0 ≤ j ∧ j < k then 0 else a48 j)) (fun (i4 : Int32) (k : Nat) (g48 : Nat → Int64) => 60 * h0 + 60 - k) (fun (i4 : Int32) (k : Nat) (g48 : Nat → Int64) => [(0, .ref m), (1, .int j), (2, .int q), (3, .int i), (4, .int i4)]) (fun (i4 : Int32) (k : Nat) (g48 : Nat → Int64) => [(m, .inr (10, mF R v0 v7 v8 v9 v15 v16 v17 v18 v19 v27 v31 v32 v33 v34 v38 v42 v44)), ((R 46), .inl (Y 0, 6, .inl (upd a46 h0 x_7))), ((R 47), .inl (Y 0, 6, .inl (upd a47 h0 i))), ((R 48), .inl (Y 1, 360, .inr (.inl g48)))]) (fun i4 k g48 hI_54 ih_54 => ?_) x_8 (60 * h0) a48 ?_) rfl rfl rfl rfl
            · obtain ⟨ti4, hk, hg⟩ := hI_54
              refine V_to (ls' := [(0, .ref m), (1, .int j), (2, .int q), (3, .int i), (4, .int i4)]) (ws' := [(m, .inr (10, mF R v0 v7 v8 v9 v15 v16 v17 v18 v19 v27 v31 v32 v33 v34 v38 v42 v44)), ((R 46), .inl (Y 0, 6, .inl (upd a46 h0 x_7))), ((R 47), .inl (Y 0, 6, .inl (upd a47 h0 i))), ((R 48), .inl (Y 1, 360, .inr (.inl g48)))]) ?_ rfl rfl rfl rfl
              refine V_iload X 4 rfl dX11_row_54 ?_
              refine V_bipush (v := (60 : Int32)) X (by decide) dX11_row_56 ?_
              refine V_iload_n X 1 rfl dX11_row_58 ?_
              refine V_imulZ X (show (60 : Int32).toInt = 60 from by decide) hj0 (by omega) (by omega) dX11_row_59 (fun x_9 ex_9 tx_9 => ?_)
              have tx_9 : x_9.toInt = (((60 * h0) : Nat) : Int) := by omega
              refine V_bipush (v := (60 : Int32)) X (by decide) dX11_row_60 ?_
              refine V_iaddZ X tx_9 (show (60 : Int32).toInt = 60 from by decide) (by omega) (by omega) dX11_row_62 (fun x_10 ex_10 tx_10 => ?_)
              have tx_10 : x_10.toInt = ((((60 * h0) + 60) : Nat) : Int) := by omega
              refine V_icmp_ge X ti4 tx_10 80 dX11_row_63 (by decide) (fun c_63 => ?_) (fun c_63 => ?_)
              · refine V_iconst (v := (1 : Int32)) X (by decide) dX11_row_80 ?_
                exact V_iret X hr dX11_row_81 (Or.inr (Or.inr (⟨x_7, g48, m2, rfl, rfl, (by omega), tm2, (by omega), (by omega), (fun j => by rw [hg j, show k = 60 * h0 + 60 by omega])⟩)))
              · refine V_aload_n X 0 rfl dX11_row_66 ?_
                refine V_get (C := RX11) (T := TX11) (N := 50) (ci := 10) (v := .ref (R 48)) X in_X11_row_X11 0 rfl rfl 48 (by decide) (List.mem_of_getElem? (i := 3) rfl) rfl rfl dX11_row_67 ?_
                refine V_iload X 4 rfl dX11_row_70 ?_
                refine V_lconst (v := 0) X (by decide) dX11_row_72 ?_
                refine V_last (ws' := [(m, .inr (10, mF R v0 v7 v8 v9 v15 v16 v17 v18 v19 v27 v31 v32 v33 v34 v38 v42 v44)), ((R 46), .inl (Y 0, 6, .inl (upd a46 h0 x_7))), ((R 47), .inl (Y 0, 6, .inl (upd a47 h0 i))), ((R 48), .inl (Y 1, 360, .inr (.inl (vp_updL g48 k 0))))]) X 3 k rfl ti4 (by omega) rfl dX11_row_73 ?_
                refine V_iincZ X (fun vv_ => [(4, .int vv_), (0, .ref m), (1, .int j), (2, .int q), (3, .int i)]) ti4 (by omega) (by omega) (by decide) 4 rfl (by decide) (fun _ => rfl) dX11_row_74 (fun x_11 ex_11 tx_11 => ?_)
                have tx_11 : x_11.toInt = (((k + 1) : Nat) : Int) := by omega
                refine V_goto X 54 (by decide) dX11_row_77 ?_
                refine V_ls (ls' := [(0, .ref m), (1, .int j), (2, .int q), (3, .int i), (4, .int x_11)]) [1, 2, 3, 4, 0] rfl ?_
                exact V_to (ih_54 x_11 (k + 1) (vp_updL g48 k 0) ⟨(by omega), (by omega), (fun j => by unfold vp_updL; by_cases e : j = k; (rw [if_pos e, if_pos (by omega)]); (rw [if_neg e, hg j]; by_cases c : 60 * h0 ≤ j ∧ j < k; (rw [if_pos c, if_pos (by omega)]); (rw [if_neg c, if_neg (by omega)])))⟩ (by omega)) rfl rfl rfl rfl
            · exact ⟨(by omega), (by omega), (fun j => by rw [if_neg (by omega)])⟩
        · refine V_bipush (v := (-14 : Int32)) X (by decide) dX11_row_28 ?_
          exact V_iret X hr dX11_row_30 (Or.inr (Or.inl ⟨rfl, rfl, (by omega), c_25⟩))
      · refine V_iconst (v := (-1 : Int32)) X (by decide) dX11_row_22 ?_
        exact V_iret X hr dX11_row_23 (Or.inl ⟨rfl, rfl, (by omega)⟩)
    · refine V_to (pc' := 13) (ls' := [(0, .ref m), (1, .int j), (2, .int q), (3, .int i)]) (st' := [.int (0 : Int32)]) (ws' := [(m, .inr (10, mF R v0 v7 v8 v9 v15 v16 v17 v18 v19 v27 v31 v32 v33 v34 v38 v42 v44)), ((R 46), .inl (Y 0, 6, .inl a46)), ((R 47), .inl (Y 0, 6, .inl a47)), ((R 48), .inl (Y 1, 360, .inr (.inl a48)))]) ?_ rfl rfl rfl rfl
      have hc_0 : (0 : Int32).toInt = 0 := by decide
      have hc_4 : (4 : Int32).toInt = 4 := by decide
      refine V_if_eq X (show (0 : Int32).toInt = 0 from by decide) 22 dX11_row_13 (by decide) (fun _ => ?_) (fun c_13 => absurd c_13 (by decide))
      refine V_iconst (v := (-1 : Int32)) X (by decide) dX11_row_22 ?_
      exact V_iret X hr dX11_row_23 (Or.inl ⟨rfl, rfl, (by omega)⟩)
  · refine V_to (pc' := 4) (ls' := [(0, .ref m), (1, .int j), (2, .int q), (3, .int i)]) (st' := [.int (0 : Int32)]) (ws' := [(m, .inr (10, mF R v0 v7 v8 v9 v15 v16 v17 v18 v19 v27 v31 v32 v33 v34 v38 v42 v44)), ((R 46), .inl (Y 0, 6, .inl a46)), ((R 47), .inl (Y 0, 6, .inl a47)), ((R 48), .inl (Y 1, 360, .inr (.inl a48)))]) ?_ rfl rfl rfl rfl
    refine V_if_eq X (show (0 : Int32).toInt = 0 from by decide) 22 dX11_row_4 (by decide) (fun _ => ?_) (fun c_4 => absurd c_4 (by decide))
    refine V_iconst (v := (-1 : Int32)) X (by decide) dX11_row_22 ?_
    exact V_iret X hr dX11_row_23 (Or.inl ⟨rfl, rfl, (by omega)⟩)

theorem in_X11_whyNoPlace_X11 : ∀ w ∈ wsX110, w ∈ wsX11_whyNoPlace := fun w h => List.mem_cons_of_mem _ (List.mem_append_right _ h)
set_option maxHeartbeats 4000000 in
set_option maxRecDepth 100000 in
theorem c_X11_whyNoPlace (l : Launch) (D : va_G) (Y : Nat → ClassId) (m : Nat) (R : Nat → Nat) (v0 : Int32) (v7 : Int32) (v8 : Int32) (v9 : Int32) (v15 : Int32) (v16 : Int32) (v17 : Int32) (v18 : Int32) (v19 : Int32) (v27 : Int32) (v31 : Int32) (v32 : Int32) (v33 : Int32) (v34 : Int32) (v38 : Int32) (v42 : Int32) (v44 : Int32) (a46 : Nat → Int32) (a47 : Nat → Int32) (h0 : Nat) (m_ : Nat) (j : Int32) (i : Int32) (hho : 0 ≤ j.toInt → j.toInt < 6 → j.toInt = ((h0 : Nat) : Int)) (hh0 : h0 < 6) (hsz : (a47 h0).toInt = ((m_ : Nat) : Int)) (hm : m_ ≤ 60) : Mg l yX11_whyNoPlace wsX11_whyNoPlace ({ frames := 2, cells := 0, slots := 0, locals := 42 }) D Y [(m, .inr (10, mF R v0 v7 v8 v9 v15 v16 v17 v18 v19 v27 v31 v32 v33 v34 v38 v42 v44)), ((R 46), .inl (Y 0, 6, .inl a46)), ((R 47), .inl (Y 0, 6, .inl a47))] [.ref m, .int j, .int i] 0 0 (fun vv__ ww__ => (vv__ = some (.int (-1 : Int32)) ∧ ww__ = [(m, .inr (10, mF R v0 v7 v8 v9 v15 v16 v17 v18 v19 v27 v31 v32 v33 v34 v38 v42 v44)), ((R 46), .inl (Y 0, 6, .inl a46)), ((R 47), .inl (Y 0, 6, .inl a47))] ∧ (¬ (0 ≤ j.toInt ∧ j.toInt < 6))) ∨ (vv__ = some (.int (-11 : Int32)) ∧ ww__ = [(m, .inr (10, mF R v0 v7 v8 v9 v15 v16 v17 v18 v19 v27 v31 v32 v33 v34 v38 v42 v44)), ((R 46), .inl (Y 0, 6, .inl a46)), ((R 47), .inl (Y 0, 6, .inl a47))] ∧ (j.toInt = ((h0 : Nat) : Int)) ∧ ((a46 h0).toInt = -1)) ∨ (vv__ = some (.int (-12 : Int32)) ∧ ww__ = [(m, .inr (10, mF R v0 v7 v8 v9 v15 v16 v17 v18 v19 v27 v31 v32 v33 v34 v38 v42 v44)), ((R 46), .inl (Y 0, 6, .inl a46)), ((R 47), .inl (Y 0, 6, .inl a47))] ∧ (j.toInt = ((h0 : Nat) : Int)) ∧ (0 ≤ (a46 h0).toInt)) ∨ (vv__ = some (.int (-13 : Int32)) ∧ ww__ = [(m, .inr (10, mF R v0 v7 v8 v9 v15 v16 v17 v18 v19 v27 v31 v32 v33 v34 v38 v42 v44)), ((R 46), .inl (Y 0, 6, .inl a46)), ((R 47), .inl (Y 0, 6, .inl a47))] ∧ (j.toInt = ((h0 : Nat) : Int)) ∧ ((a46 h0).toInt < -1) ∧ (¬ (0 ≤ i.toInt ∧ i.toInt < ((m_ : Nat) : Int)))) ∨ (vv__ = some (.int (0 : Int32)) ∧ ww__ = [(m, .inr (10, mF R v0 v7 v8 v9 v15 v16 v17 v18 v19 v27 v31 v32 v33 v34 v38 v42 v44)), ((R 46), .inl (Y 0, 6, .inl a46)), ((R 47), .inl (Y 0, 6, .inl a47))] ∧ (j.toInt = ((h0 : Nat) : Int)) ∧ ((a46 h0).toInt < -1) ∧ (0 ≤ i.toInt ∧ i.toInt < ((m_ : Nat) : Int)))) := by
  refine Mg_of (cc := cX11_whyNoPlace) (maxL := 3) (ret := (some .int)) (ls0 := [(0, .ref m), (1, .int j), (2, .int i)]) RX11 (by decide) rfl rfl rfl (Nat.le_of_ble_eq_true rfl) (fun p__ e__ s__ m__ b__ t__ c__ X hr hn => ?_)
  refine V_iload_n X 1 rfl dX11_whyNoPlace_0 ?_
  refine V_callS (wr := [(m, .inr (10, mF R v0 v7 v8 v9 v15 v16 v17 v18 v19 v27 v31 v32 v33 v34 v38 v42 v44)), ((R 46), .inl (Y 0, 6, .inl a46)), ((R 47), .inl (Y 0, 6, .inl a47))]) (st := []) X (c_X11_isShelf l D Y j) 1 gX11_whyNoPlace_X11_isShelf rfl (by decide +kernel) ⟨rfl, rfl⟩ ⟨Nat.le_of_ble_eq_true rfl, Nat.le_of_ble_eq_true rfl⟩ [] [0, 1, 2] rfl rfl rfl rfl (by decide) rfl rfl (Nat.le_of_ble_eq_true rfl) ⟨Nat.le_of_ble_eq_true rfl, Nat.le_of_ble_eq_true rfl⟩ dX11_whyNoPlace_1 (fun v_1 w_1 h_1 => ?_)
  rcases h_1 with ⟨rfl, rfl, hhy_2⟩ | ⟨rfl, rfl, hhn_3⟩
  · refine V_to (pc' := 4) (ls' := [(0, .ref m), (1, .int j), (2, .int i)]) (st' := [.int (1 : Int32)]) (ws' := [(m, .inr (10, mF R v0 v7 v8 v9 v15 v16 v17 v18 v19 v27 v31 v32 v33 v34 v38 v42 v44)), ((R 46), .inl (Y 0, 6, .inl a46)), ((R 47), .inl (Y 0, 6, .inl a47))]) ?_ rfl rfl rfl rfl
    refine V_if_ne X (show (1 : Int32).toInt = 1 from by decide) 9 dX11_whyNoPlace_4 (by decide) (fun _ => ?_) (fun c_4 => absurd c_4 (by decide))
    refine V_aload_n X 0 rfl dX11_whyNoPlace_9 ?_
    refine V_get (C := RX11) (T := TX11) (N := 50) (ci := 10) (v := .ref (R 46)) X in_X11_whyNoPlace_X11 0 rfl rfl 46 (by decide) (List.mem_of_getElem? (i := 1) rfl) rfl rfl dX11_whyNoPlace_10 ?_
    refine V_iload_n X 1 rfl dX11_whyNoPlace_13 ?_
    refine V_iald X 1 h0 rfl (by omega) (by omega) dX11_whyNoPlace_14 ?_
    refine V_iconst (v := (-1 : Int32)) X (by decide) dX11_whyNoPlace_15 ?_
    refine V_icmp_ne X rfl (show (-1 : Int32).toInt = (-1) from by decide) 22 dX11_whyNoPlace_16 (by decide) (fun c_16 => ?_) (fun c_16 => ?_)
    · refine V_aload_n X 0 rfl dX11_whyNoPlace_22 ?_
      refine V_get (C := RX11) (T := TX11) (N := 50) (ci := 10) (v := .ref (R 46)) X in_X11_whyNoPlace_X11 0 rfl rfl 46 (by decide) (List.mem_of_getElem? (i := 1) rfl) rfl rfl dX11_whyNoPlace_23 ?_
      refine V_iload_n X 1 rfl dX11_whyNoPlace_26 ?_
      refine V_iald X 1 h0 rfl (by omega) (by omega) dX11_whyNoPlace_27 ?_
      refine V_if_lt X rfl 34 dX11_whyNoPlace_28 (by decide) (fun c_28 => ?_) (fun c_28 => ?_)
      · refine V_iload_n X 2 rfl dX11_whyNoPlace_34 ?_
        refine V_iconst (v := (0 : Int32)) X (by decide) dX11_whyNoPlace_35 ?_
        refine V_aload_n X 0 rfl dX11_whyNoPlace_36 ?_
        refine V_get (C := RX11) (T := TX11) (N := 50) (ci := 10) (v := .ref (R 47)) X in_X11_whyNoPlace_X11 0 rfl rfl 47 (by decide) (List.mem_of_getElem? (i := 2) rfl) rfl rfl dX11_whyNoPlace_37 ?_
        refine V_iload_n X 1 rfl dX11_whyNoPlace_40 ?_
        refine V_iald X 2 h0 rfl (by omega) (by omega) dX11_whyNoPlace_41 ?_
        refine V_nm (fun x_4 ex_4 => ?_)
        have tx_4 : x_4.toInt = ((m_ : Nat) : Int) := by rw [ex_4]; exact hsz
        refine V_iconst (v := (1 : Int32)) X (by decide) dX11_whyNoPlace_42 ?_
        refine V_isubZ X tx_4 (show (1 : Int32).toInt = 1 from by decide) (by omega) (by omega) dX11_whyNoPlace_43 (fun x_5 ex_5 tx_5 => ?_)
        refine V_callS (wr := [(m, .inr (10, mF R v0 v7 v8 v9 v15 v16 v17 v18 v19 v27 v31 v32 v33 v34 v38 v42 v44)), ((R 46), .inl (Y 0, 6, .inl a46)), ((R 47), .inl (Y 0, 6, .inl a47))]) (st := []) X (c_X11_in l D Y i (0 : Int32) x_5) 3 gX11_whyNoPlace_X11_in rfl (by decide +kernel) ⟨rfl, rfl⟩ ⟨Nat.le_of_ble_eq_true rfl, Nat.le_of_ble_eq_true rfl⟩ [] [0, 1, 2] rfl rfl rfl rfl (by decide) rfl rfl (Nat.le_of_ble_eq_true rfl) ⟨Nat.le_of_ble_eq_true rfl, Nat.le_of_ble_eq_true rfl⟩ dX11_whyNoPlace_44 (fun v_44 w_44 h_44 => ?_)
        rcases h_44 with ⟨rfl, rfl, hhy_7⟩ | ⟨rfl, rfl, hhn_8⟩
        · refine V_to (pc' := 47) (ls' := [(0, .ref m), (1, .int j), (2, .int i)]) (st' := [.int (1 : Int32)]) (ws' := [(m, .inr (10, mF R v0 v7 v8 v9 v15 v16 v17 v18 v19 v27 v31 v32 v33 v34 v38 v42 v44)), ((R 46), .inl (Y 0, 6, .inl a46)), ((R 47), .inl (Y 0, 6, .inl a47))]) ?_ rfl rfl rfl rfl
          have hc_0 : (0 : Int32).toInt = 0 := by decide
          refine V_if_eq X (show (1 : Int32).toInt = 1 from by decide) 54 dX11_whyNoPlace_47 (by decide) (fun c_47 => absurd c_47 (by decide)) (fun _ => ?_)
          refine V_iconst (v := (0 : Int32)) X (by decide) dX11_whyNoPlace_50 ?_
          refine V_goto X 56 (by decide) dX11_whyNoPlace_51 ?_
          exact V_iret X hr dX11_whyNoPlace_56 (Or.inr (Or.inr (Or.inr (Or.inr (⟨rfl, rfl, (by omega), (by omega), (by omega)⟩)))))
        · refine V_to (pc' := 47) (ls' := [(0, .ref m), (1, .int j), (2, .int i)]) (st' := [.int (0 : Int32)]) (ws' := [(m, .inr (10, mF R v0 v7 v8 v9 v15 v16 v17 v18 v19 v27 v31 v32 v33 v34 v38 v42 v44)), ((R 46), .inl (Y 0, 6, .inl a46)), ((R 47), .inl (Y 0, 6, .inl a47))]) ?_ rfl rfl rfl rfl
          have hc_0 : (0 : Int32).toInt = 0 := by decide
          refine V_if_eq X (show (0 : Int32).toInt = 0 from by decide) 54 dX11_whyNoPlace_47 (by decide) (fun _ => ?_) (fun c_47 => absurd c_47 (by decide))
          refine V_bipush (v := (-13 : Int32)) X (by decide) dX11_whyNoPlace_54 ?_
          exact V_iret X hr dX11_whyNoPlace_56 (Or.inr (Or.inr (Or.inr (Or.inl ⟨rfl, rfl, (by omega), (by omega), (by omega)⟩))))
      · refine V_bipush (v := (-12 : Int32)) X (by decide) dX11_whyNoPlace_31 ?_
        exact V_iret X hr dX11_whyNoPlace_33 (Or.inr (Or.inr (Or.inl ⟨rfl, rfl, (by omega), c_28⟩)))
    · refine V_bipush (v := (-11 : Int32)) X (by decide) dX11_whyNoPlace_19 ?_
      exact V_iret X hr dX11_whyNoPlace_21 (Or.inr (Or.inl ⟨rfl, rfl, (by omega), (by omega)⟩))
  · refine V_to (pc' := 4) (ls' := [(0, .ref m), (1, .int j), (2, .int i)]) (st' := [.int (0 : Int32)]) (ws' := [(m, .inr (10, mF R v0 v7 v8 v9 v15 v16 v17 v18 v19 v27 v31 v32 v33 v34 v38 v42 v44)), ((R 46), .inl (Y 0, 6, .inl a46)), ((R 47), .inl (Y 0, 6, .inl a47))]) ?_ rfl rfl rfl rfl
    refine V_if_ne X (show (0 : Int32).toInt = 0 from by decide) 9 dX11_whyNoPlace_4 (by decide) (fun c_4 => absurd c_4 (by decide)) (fun _ => ?_)
    refine V_iconst (v := (-1 : Int32)) X (by decide) dX11_whyNoPlace_7 ?_
    exact V_iret X hr dX11_whyNoPlace_8 (Or.inl ⟨rfl, rfl, hhn_3⟩)

theorem in_X11_put_X11 : ∀ w ∈ wsX110, w ∈ wsX11_put := fun w h => List.mem_cons_of_mem _ (List.mem_append_right _ h)
set_option maxHeartbeats 4000000 in
set_option maxRecDepth 100000 in
theorem c_X11_put (l : Launch) (D : va_G) (Y : Nat → ClassId) (m : Nat) (R : Nat → Nat) (v0 : Int32) (v7 : Int32) (v8 : Int32) (v9 : Int32) (v15 : Int32) (v16 : Int32) (v17 : Int32) (v18 : Int32) (v19 : Int32) (v27 : Int32) (v31 : Int32) (v32 : Int32) (v33 : Int32) (v34 : Int32) (v38 : Int32) (v42 : Int32) (v44 : Int32) (a46 : Nat → Int32) (a47 : Nat → Int32) (a48 : Nat → Int64) (h0 : Nat) (m_ : Nat) (j : Int32) (i : Int32) (v : Int64) (hho : 0 ≤ j.toInt → j.toInt < 6 → j.toInt = ((h0 : Nat) : Int)) (hh0 : h0 < 6) (hsz : (a47 h0).toInt = ((m_ : Nat) : Int)) (hm : m_ ≤ 60) (hsr : -6 ≤ (a46 h0).toInt) : Mg l yX11_put wsX11_put ({ frames := 3, cells := 0, slots := 0, locals := 64 }) D Y [(m, .inr (10, mF R v0 v7 v8 v9 v15 v16 v17 v18 v19 v27 v31 v32 v33 v34 v38 v42 v44)), ((R 46), .inl (Y 0, 6, .inl a46)), ((R 47), .inl (Y 0, 6, .inl a47)), ((R 48), .inl (Y 1, 360, .inr (.inl a48)))] [.ref m, .int j, .int i, .long v] 0 0 (fun vv__ ww__ => (vv__ = some (.int (-1 : Int32)) ∧ ww__ = [(m, .inr (10, mF R v0 v7 v8 v9 v15 v16 v17 v18 v19 v27 v31 v32 v33 v34 v38 v42 v44)), ((R 46), .inl (Y 0, 6, .inl a46)), ((R 47), .inl (Y 0, 6, .inl a47)), ((R 48), .inl (Y 1, 360, .inr (.inl a48)))] ∧ (¬ (0 ≤ j.toInt ∧ j.toInt < 6))) ∨ (vv__ = some (.int (-11 : Int32)) ∧ ww__ = [(m, .inr (10, mF R v0 v7 v8 v9 v15 v16 v17 v18 v19 v27 v31 v32 v33 v34 v38 v42 v44)), ((R 46), .inl (Y 0, 6, .inl a46)), ((R 47), .inl (Y 0, 6, .inl a47)), ((R 48), .inl (Y 1, 360, .inr (.inl a48)))] ∧ (j.toInt = ((h0 : Nat) : Int)) ∧ ((a46 h0).toInt = -1)) ∨ (vv__ = some (.int (-12 : Int32)) ∧ ww__ = [(m, .inr (10, mF R v0 v7 v8 v9 v15 v16 v17 v18 v19 v27 v31 v32 v33 v34 v38 v42 v44)), ((R 46), .inl (Y 0, 6, .inl a46)), ((R 47), .inl (Y 0, 6, .inl a47)), ((R 48), .inl (Y 1, 360, .inr (.inl a48)))] ∧ (j.toInt = ((h0 : Nat) : Int)) ∧ (0 ≤ (a46 h0).toInt)) ∨ (vv__ = some (.int (-13 : Int32)) ∧ ww__ = [(m, .inr (10, mF R v0 v7 v8 v9 v15 v16 v17 v18 v19 v27 v31 v32 v33 v34 v38 v42 v44)), ((R 46), .inl (Y 0, 6, .inl a46)), ((R 47), .inl (Y 0, 6, .inl a47)), ((R 48), .inl (Y 1, 360, .inr (.inl a48)))] ∧ (j.toInt = ((h0 : Nat) : Int)) ∧ ((a46 h0).toInt < -1) ∧ (¬ (0 ≤ i.toInt ∧ i.toInt < ((m_ : Nat) : Int)))) ∨ (∃ (kn : Nat), ∃ (b48 : Nat → Int64), vv__ = some (.int (1 : Int32)) ∧ ww__ = [(m, .inr (10, mF R v0 v7 v8 v9 v15 v16 v17 v18 v19 v27 v31 v32 v33 v34 v38 v42 v44)), ((R 46), .inl (Y 0, 6, .inl a46)), ((R 47), .inl (Y 0, 6, .inl a47)), ((R 48), .inl (Y 1, 360, .inr (.inl b48)))] ∧ (j.toInt = ((h0 : Nat) : Int)) ∧ ((a46 h0).toInt < -1) ∧ (i.toInt = ((kn : Nat) : Int)) ∧ (kn < m_) ∧ (b48 = vp_updL a48 (60 * h0 + kn) (lowZ (-2 - (a46 h0).toInt) v)))) := by
  refine Mg_of (cc := cX11_put) (maxL := 7) (ret := (some .int)) (ls0 := [(0, .ref m), (1, .int j), (2, .int i), (3, .long v)]) RX11 (by decide) rfl rfl rfl (Nat.le_of_ble_eq_true rfl) (fun p__ e__ s__ m__ b__ t__ c__ X hr hn => ?_)
  refine V_aload_n X 0 rfl dX11_put_0 ?_
  refine V_iload_n X 1 rfl dX11_put_1 ?_
  refine V_iload_n X 2 rfl dX11_put_2 ?_
  refine V_callV (C := RX11) (wr := [((R 48), .inl (Y 1, 360, .inr (.inl a48)))]) (st := []) X (c_X11_whyNoPlace l D Y m R v0 v7 v8 v9 v15 v16 v17 v18 v19 v27 v31 v32 v33 v34 v38 v42 v44 a46 a47 h0 m_ j i hho hh0 hsz hm) 2 gX11_put_X11_whyNoPlace rfl (by decide +kernel) ⟨rfl, rfl⟩ ⟨Nat.le_of_ble_eq_true rfl, Nat.le_of_ble_eq_true rfl⟩ [0, 1, 2] [3] rfl rfl rfl rfl (by decide) (ci := 10) rfl rfl 0 rfl rfl rfl (Nat.le_of_ble_eq_true rfl) ⟨Nat.le_of_ble_eq_true rfl, Nat.le_of_ble_eq_true rfl⟩ dX11_put_3 (fun v_3 w_3 h_3 => ?_)
  rcases h_3 with ⟨rfl, rfl, hhb_2⟩ | ⟨rfl, rfl, hhv1_3, hh0e_4⟩ | ⟨rfl, rfl, hhv1_5, hh2_6⟩ | ⟨rfl, rfl, hhv1_7, hh1_8, hhp_9⟩ | ⟨rfl, rfl, hhv1_10, hh1_11, hhp_12⟩
  · refine V_to (pc' := 6) (ls' := [(0, .ref m), (1, .int j), (2, .int i), (3, .long v)]) (st' := [.int (-1 : Int32)]) (ws' := [((R 48), .inl (Y 1, 360, .inr (.inl a48))), (m, .inr (10, mF R v0 v7 v8 v9 v15 v16 v17 v18 v19 v27 v31 v32 v33 v34 v38 v42 v44)), ((R 46), .inl (Y 0, 6, .inl a46)), ((R 47), .inl (Y 0, 6, .inl a47))]) ?_ rfl rfl rfl rfl
    refine V_istore (ls' := [(5, .int (-1 : Int32)), (0, .ref m), (1, .int j), (2, .int i), (3, .long v)]) X (by decide) rfl dX11_put_6 ?_
    refine V_iload X 0 rfl dX11_put_8 ?_
    refine V_if_ge X (show (-1 : Int32).toInt = (-1) from by decide) 16 dX11_put_10 (by decide) (fun c_10 => absurd c_10 (by decide)) (fun _ => ?_)
    refine V_iload X 0 rfl dX11_put_13 ?_
    refine V_ws (ws' := [(m, .inr (10, mF R v0 v7 v8 v9 v15 v16 v17 v18 v19 v27 v31 v32 v33 v34 v38 v42 v44)), ((R 46), .inl (Y 0, 6, .inl a46)), ((R 47), .inl (Y 0, 6, .inl a47)), ((R 48), .inl (Y 1, 360, .inr (.inl a48)))]) [1, 2, 3, 0] rfl rfl rfl ?_
    exact V_iret X hr dX11_put_15 (Or.inl ⟨rfl, rfl, hhb_2⟩)
  · refine V_to (pc' := 6) (ls' := [(0, .ref m), (1, .int j), (2, .int i), (3, .long v)]) (st' := [.int (-11 : Int32)]) (ws' := [((R 48), .inl (Y 1, 360, .inr (.inl a48))), (m, .inr (10, mF R v0 v7 v8 v9 v15 v16 v17 v18 v19 v27 v31 v32 v33 v34 v38 v42 v44)), ((R 46), .inl (Y 0, 6, .inl a46)), ((R 47), .inl (Y 0, 6, .inl a47))]) ?_ rfl rfl rfl rfl
    refine V_istore (ls' := [(5, .int (-11 : Int32)), (0, .ref m), (1, .int j), (2, .int i), (3, .long v)]) X (by decide) rfl dX11_put_6 ?_
    refine V_iload X 0 rfl dX11_put_8 ?_
    refine V_if_ge X (show (-11 : Int32).toInt = (-11) from by decide) 16 dX11_put_10 (by decide) (fun c_10 => absurd c_10 (by decide)) (fun _ => ?_)
    refine V_iload X 0 rfl dX11_put_13 ?_
    refine V_ws (ws' := [(m, .inr (10, mF R v0 v7 v8 v9 v15 v16 v17 v18 v19 v27 v31 v32 v33 v34 v38 v42 v44)), ((R 46), .inl (Y 0, 6, .inl a46)), ((R 47), .inl (Y 0, 6, .inl a47)), ((R 48), .inl (Y 1, 360, .inr (.inl a48)))]) [1, 2, 3, 0] rfl rfl rfl ?_
    exact V_iret X hr dX11_put_15 (Or.inr (Or.inl ⟨rfl, rfl, hhv1_3, hh0e_4⟩))
  · refine V_to (pc' := 6) (ls' := [(0, .ref m), (1, .int j), (2, .int i), (3, .long v)]) (st' := [.int (-12 : Int32)]) (ws' := [((R 48), .inl (Y 1, 360, .inr (.inl a48))), (m, .inr (10, mF R v0 v7 v8 v9 v15 v16 v17 v18 v19 v27 v31 v32 v33 v34 v38 v42 v44)), ((R 46), .inl (Y 0, 6, .inl a46)), ((R 47), .inl (Y 0, 6, .inl a47))]) ?_ rfl rfl rfl rfl
    refine V_istore (ls' := [(5, .int (-12 : Int32)), (0, .ref m), (1, .int j), (2, .int i), (3, .long v)]) X (by decide) rfl dX11_put_6 ?_
    refine V_iload X 0 rfl dX11_put_8 ?_
    refine V_if_ge X (show (-12 : Int32).toInt = (-12) from by decide) 16 dX11_put_10 (by decide) (fun c_10 => absurd c_10 (by decide)) (fun _ => ?_)
    refine V_iload X 0 rfl dX11_put_13 ?_
    refine V_ws (ws' := [(m, .inr (10, mF R v0 v7 v8 v9 v15 v16 v17 v18 v19 v27 v31 v32 v33 v34 v38 v42 v44)), ((R 46), .inl (Y 0, 6, .inl a46)), ((R 47), .inl (Y 0, 6, .inl a47)), ((R 48), .inl (Y 1, 360, .inr (.inl a48)))]) [1, 2, 3, 0] rfl rfl rfl ?_
    exact V_iret X hr dX11_put_15 (Or.inr (Or.inr (Or.inl ⟨rfl, rfl, hhv1_5, hh2_6⟩)))
  · refine V_to (pc' := 6) (ls' := [(0, .ref m), (1, .int j), (2, .int i), (3, .long v)]) (st' := [.int (-13 : Int32)]) (ws' := [((R 48), .inl (Y 1, 360, .inr (.inl a48))), (m, .inr (10, mF R v0 v7 v8 v9 v15 v16 v17 v18 v19 v27 v31 v32 v33 v34 v38 v42 v44)), ((R 46), .inl (Y 0, 6, .inl a46)), ((R 47), .inl (Y 0, 6, .inl a47))]) ?_ rfl rfl rfl rfl
    refine V_istore (ls' := [(5, .int (-13 : Int32)), (0, .ref m), (1, .int j), (2, .int i), (3, .long v)]) X (by decide) rfl dX11_put_6 ?_
    refine V_iload X 0 rfl dX11_put_8 ?_
    refine V_if_ge X (show (-13 : Int32).toInt = (-13) from by decide) 16 dX11_put_10 (by decide) (fun c_10 => absurd c_10 (by decide)) (fun _ => ?_)
    refine V_iload X 0 rfl dX11_put_13 ?_
    refine V_ws (ws' := [(m, .inr (10, mF R v0 v7 v8 v9 v15 v16 v17 v18 v19 v27 v31 v32 v33 v34 v38 v42 v44)), ((R 46), .inl (Y 0, 6, .inl a46)), ((R 47), .inl (Y 0, 6, .inl a47)), ((R 48), .inl (Y 1, 360, .inr (.inl a48)))]) [1, 2, 3, 0] rfl rfl rfl ?_
    exact V_iret X hr dX11_put_15 (Or.inr (Or.inr (Or.inr (Or.inl ⟨rfl, rfl, hhv1_7, hh1_8, hhp_9⟩))))
  · refine V_to (pc' := 6) (ls' := [(0, .ref m), (1, .int j), (2, .int i), (3, .long v)]) (st' := [.int (0 : Int32)]) (ws' := [((R 48), .inl (Y 1, 360, .inr (.inl a48))), (m, .inr (10, mF R v0 v7 v8 v9 v15 v16 v17 v18 v19 v27 v31 v32 v33 v34 v38 v42 v44)), ((R 46), .inl (Y 0, 6, .inl a46)), ((R 47), .inl (Y 0, 6, .inl a47))]) ?_ rfl rfl rfl rfl
    refine V_istore (ls' := [(5, .int (0 : Int32)), (0, .ref m), (1, .int j), (2, .int i), (3, .long v)]) X (by decide) rfl dX11_put_6 ?_
    refine V_iload X 0 rfl dX11_put_8 ?_
    refine V_if_ge X (show (0 : Int32).toInt = 0 from by decide) 16 dX11_put_10 (by decide) (fun _ => ?_) (fun c_10 => absurd c_10 (by decide))
    have hj9 := hhv1_10; obtain ⟨kn, tkn⟩ : ∃ kn : Nat, i.toInt = ((kn : Nat) : Int) := ⟨i.toInt.toNat, by omega⟩
    · refine V_bipush (v := (-2 : Int32)) X (by decide) dX11_put_16 ?_
      refine V_aload_n X 1 rfl dX11_put_18 ?_
      refine V_get (C := RX11) (T := TX11) (N := 50) (ci := 10) (v := .ref (R 46)) X in_X11_put_X11 1 rfl rfl 46 (by decide) (List.mem_of_getElem? (i := 1) rfl) rfl rfl dX11_put_19 ?_
      refine V_iload_n X 2 rfl dX11_put_22 ?_
      refine V_iald X 2 h0 rfl hj9 (by omega) dX11_put_23 ?_
      refine V_isubZ X (show (-2 : Int32).toInt = (-2) from by decide) rfl (by omega) (by omega) dX11_put_24 (fun x_13 ex_13 tx_13 => ?_)
      refine V_istore (ls' := [(6, .int x_13), (5, .int (0 : Int32)), (0, .ref m), (1, .int j), (2, .int i), (3, .long v)]) X (by decide) rfl dX11_put_25 ?_
      refine V_aload_n X 2 rfl dX11_put_27 ?_
      refine V_get (C := RX11) (T := TX11) (N := 50) (ci := 10) (v := .ref (R 48)) X in_X11_put_X11 1 rfl rfl 48 (by decide) (List.mem_of_getElem? (i := 2) rfl) rfl rfl dX11_put_28 ?_
      refine V_bipush (v := (60 : Int32)) X (by decide) dX11_put_31 ?_
      refine V_iload_n X 3 rfl dX11_put_33 ?_
      refine V_imulZ X (show (60 : Int32).toInt = 60 from by decide) hj9 (by omega) (by omega) dX11_put_34 (fun x_14 ex_14 tx_14 => ?_)
      have tx_14 : x_14.toInt = (((60 * h0) : Nat) : Int) := by omega
      refine V_iload_n X 4 rfl dX11_put_35 ?_
      refine V_iaddZ X tx_14 tkn (by omega) (by omega) dX11_put_36 (fun x_15 ex_15 tx_15 => ?_)
      have tx_15 : x_15.toInt = ((((60 * h0) + kn) : Nat) : Int) := by omega
      refine V_iload X 0 rfl dX11_put_37 ?_
      refine V_if_ne X rfl 49 dX11_put_39 (by decide) (fun c_39 => ?_) (fun c_39 => ?_)
      · refine V_iload X 0 rfl dX11_put_49 ?_
        refine V_iconst (v := (1 : Int32)) X (by decide) dX11_put_51 ?_
        refine V_icmp_ne X rfl (show (1 : Int32).toInt = 1 from by decide) 62 dX11_put_52 (by decide) (fun c_52 => ?_) (fun c_52 => ?_)
        · refine V_iload X 0 rfl dX11_put_62 ?_
          refine V_iconst (v := (2 : Int32)) X (by decide) dX11_put_64 ?_
          refine V_icmp_ne X rfl (show (2 : Int32).toInt = 2 from by decide) 74 dX11_put_65 (by decide) (fun c_65 => ?_) (fun c_65 => ?_)
          · refine V_iload X 0 rfl dX11_put_74 ?_
            refine V_iconst (v := (3 : Int32)) X (by decide) dX11_put_76 ?_
            refine V_icmp_ne X rfl (show (3 : Int32).toInt = 3 from by decide) 84 dX11_put_77 (by decide) (fun c_77 => ?_) (fun c_77 => ?_)
            · refine V_lload_n X 5 rfl dX11_put_84 ?_
              refine V_lconst (v := 0) X (by decide) dX11_put_85 ?_
              refine V_lcmp X rfl dX11_put_86 ?_
              refine V_nm (fun x_16 ex_16 => ?_)
              refine V_if_eq X rfl 94 dX11_put_87 (by decide) (fun c_87 => ?_) (fun c_87 => ?_)
              · have hl86 : (lg_cmp v 0).toInt = 0 := by rw [← ex_16]; exact c_87
                refine V_lconst (v := 0) X (by decide) dX11_put_94 ?_
                refine V_last (ws' := [((R 48), .inl (Y 1, 360, .inr (.inl (vp_updL a48 ((60 * h0) + kn) 0)))), (m, .inr (10, mF R v0 v7 v8 v9 v15 v16 v17 v18 v19 v27 v31 v32 v33 v34 v38 v42 v44)), ((R 46), .inl (Y 0, 6, .inl a46)), ((R 47), .inl (Y 0, 6, .inl a47))]) X 0 ((60 * h0) + kn) rfl tx_15 (by omega) rfl dX11_put_95 ?_
                refine V_iconst (v := (1 : Int32)) X (by decide) dX11_put_96 ?_
                refine V_ws (ws' := [(m, .inr (10, mF R v0 v7 v8 v9 v15 v16 v17 v18 v19 v27 v31 v32 v33 v34 v38 v42 v44)), ((R 46), .inl (Y 0, 6, .inl a46)), ((R 47), .inl (Y 0, 6, .inl a47)), ((R 48), .inl (Y 1, 360, .inr (.inl (vp_updL a48 ((60 * h0) + kn) 0))))]) [1, 2, 3, 0] rfl rfl rfl ?_
                exact V_iret X hr dX11_put_97 (Or.inr (Or.inr (Or.inr (Or.inr (⟨kn, (vp_updL a48 ((60 * h0) + kn) 0), rfl, rfl, hhv1_10, hh1_11, tkn, (by omega), (congrArg (vp_updL a48 (60 * h0 + kn)) (low40 (by omega) ((lcmp0 v).mp hl86)))⟩)))))
              · have hl86 : (lg_cmp v 0).toInt ≠ 0 := by rw [← ex_16]; exact c_87
                refine V_lconst (v := 1) X (by decide) dX11_put_90 ?_
                refine V_goto X 95 (by decide) dX11_put_91 ?_
                refine V_last (ws' := [((R 48), .inl (Y 1, 360, .inr (.inl (vp_updL a48 ((60 * h0) + kn) 1)))), (m, .inr (10, mF R v0 v7 v8 v9 v15 v16 v17 v18 v19 v27 v31 v32 v33 v34 v38 v42 v44)), ((R 46), .inl (Y 0, 6, .inl a46)), ((R 47), .inl (Y 0, 6, .inl a47))]) X 0 ((60 * h0) + kn) rfl tx_15 (by omega) rfl dX11_put_95 ?_
                refine V_iconst (v := (1 : Int32)) X (by decide) dX11_put_96 ?_
                refine V_ws (ws' := [(m, .inr (10, mF R v0 v7 v8 v9 v15 v16 v17 v18 v19 v27 v31 v32 v33 v34 v38 v42 v44)), ((R 46), .inl (Y 0, 6, .inl a46)), ((R 47), .inl (Y 0, 6, .inl a47)), ((R 48), .inl (Y 1, 360, .inr (.inl (vp_updL a48 ((60 * h0) + kn) 1))))]) [1, 2, 3, 0] rfl rfl rfl ?_
                exact V_iret X hr dX11_put_97 (Or.inr (Or.inr (Or.inr (Or.inr (⟨kn, (vp_updL a48 ((60 * h0) + kn) 1), rfl, rfl, hhv1_10, hh1_11, tkn, (by omega), (congrArg (vp_updL a48 (60 * h0 + kn)) (low41 (by omega) (fun q => hl86 ((lcmp0 v).mpr q))))⟩)))))
            · refine V_lload_n X 5 rfl dX11_put_80 ?_
              refine V_goto X 95 (by decide) dX11_put_81 ?_
              refine V_last (ws' := [((R 48), .inl (Y 1, 360, .inr (.inl (vp_updL a48 ((60 * h0) + kn) v)))), (m, .inr (10, mF R v0 v7 v8 v9 v15 v16 v17 v18 v19 v27 v31 v32 v33 v34 v38 v42 v44)), ((R 46), .inl (Y 0, 6, .inl a46)), ((R 47), .inl (Y 0, 6, .inl a47))]) X 0 ((60 * h0) + kn) rfl tx_15 (by omega) rfl dX11_put_95 ?_
              refine V_iconst (v := (1 : Int32)) X (by decide) dX11_put_96 ?_
              refine V_ws (ws' := [(m, .inr (10, mF R v0 v7 v8 v9 v15 v16 v17 v18 v19 v27 v31 v32 v33 v34 v38 v42 v44)), ((R 46), .inl (Y 0, 6, .inl a46)), ((R 47), .inl (Y 0, 6, .inl a47)), ((R 48), .inl (Y 1, 360, .inr (.inl (vp_updL a48 ((60 * h0) + kn) v))))]) [1, 2, 3, 0] rfl rfl rfl ?_
              exact V_iret X hr dX11_put_97 (Or.inr (Or.inr (Or.inr (Or.inr (⟨kn, (vp_updL a48 ((60 * h0) + kn) v), rfl, rfl, hhv1_10, hh1_11, tkn, (by omega), (congrArg (vp_updL a48 (60 * h0 + kn)) (low3 (by omega)))⟩)))))
          · refine V_lload_n X 5 rfl dX11_put_68 ?_
            refine V_l2i X rfl dX11_put_69 ?_
            refine V_nm (fun x_17 ex_17 => ?_)
            refine V_i2l X rfl dX11_put_70 ?_
            refine V_nmL (fun x_18 ex_18 => ?_)
            refine V_goto X 95 (by decide) dX11_put_71 ?_
            refine V_last (ws' := [((R 48), .inl (Y 1, 360, .inr (.inl (vp_updL a48 ((60 * h0) + kn) x_18)))), (m, .inr (10, mF R v0 v7 v8 v9 v15 v16 v17 v18 v19 v27 v31 v32 v33 v34 v38 v42 v44)), ((R 46), .inl (Y 0, 6, .inl a46)), ((R 47), .inl (Y 0, 6, .inl a47))]) X 0 ((60 * h0) + kn) rfl tx_15 (by omega) rfl dX11_put_95 ?_
            refine V_iconst (v := (1 : Int32)) X (by decide) dX11_put_96 ?_
            refine V_ws (ws' := [(m, .inr (10, mF R v0 v7 v8 v9 v15 v16 v17 v18 v19 v27 v31 v32 v33 v34 v38 v42 v44)), ((R 46), .inl (Y 0, 6, .inl a46)), ((R 47), .inl (Y 0, 6, .inl a47)), ((R 48), .inl (Y 1, 360, .inr (.inl (vp_updL a48 ((60 * h0) + kn) x_18))))]) [1, 2, 3, 0] rfl rfl rfl ?_
            exact V_iret X hr dX11_put_97 (Or.inr (Or.inr (Or.inr (Or.inr (⟨kn, (vp_updL a48 ((60 * h0) + kn) x_18), rfl, rfl, hhv1_10, hh1_11, tkn, (by omega), (congrArg (vp_updL a48 (60 * h0 + kn)) (low2 (by omega) (ex_18.trans (by rw [ex_17]))))⟩)))))
        · refine V_lload_n X 5 rfl dX11_put_55 ?_
          refine V_l2i X rfl dX11_put_56 ?_
          refine V_nm (fun x_19 ex_19 => ?_)
          refine V_i2s X rfl dX11_put_57 ?_
          refine V_nm (fun x_20 ex_20 => ?_)
          refine V_i2l X rfl dX11_put_58 ?_
          refine V_nmL (fun x_21 ex_21 => ?_)
          refine V_goto X 95 (by decide) dX11_put_59 ?_
          refine V_last (ws' := [((R 48), .inl (Y 1, 360, .inr (.inl (vp_updL a48 ((60 * h0) + kn) x_21)))), (m, .inr (10, mF R v0 v7 v8 v9 v15 v16 v17 v18 v19 v27 v31 v32 v33 v34 v38 v42 v44)), ((R 46), .inl (Y 0, 6, .inl a46)), ((R 47), .inl (Y 0, 6, .inl a47))]) X 0 ((60 * h0) + kn) rfl tx_15 (by omega) rfl dX11_put_95 ?_
          refine V_iconst (v := (1 : Int32)) X (by decide) dX11_put_96 ?_
          refine V_ws (ws' := [(m, .inr (10, mF R v0 v7 v8 v9 v15 v16 v17 v18 v19 v27 v31 v32 v33 v34 v38 v42 v44)), ((R 46), .inl (Y 0, 6, .inl a46)), ((R 47), .inl (Y 0, 6, .inl a47)), ((R 48), .inl (Y 1, 360, .inr (.inl (vp_updL a48 ((60 * h0) + kn) x_21))))]) [1, 2, 3, 0] rfl rfl rfl ?_
          exact V_iret X hr dX11_put_97 (Or.inr (Or.inr (Or.inr (Or.inr (⟨kn, (vp_updL a48 ((60 * h0) + kn) x_21), rfl, rfl, hhv1_10, hh1_11, tkn, (by omega), (congrArg (vp_updL a48 (60 * h0 + kn)) (low1 (by omega) (ex_21.trans (by rw [ex_20, ex_19]))))⟩)))))
      · refine V_lload_n X 5 rfl dX11_put_42 ?_
        refine V_l2i X rfl dX11_put_43 ?_
        refine V_nm (fun x_22 ex_22 => ?_)
        refine V_i2b X rfl dX11_put_44 ?_
        refine V_nm (fun x_23 ex_23 => ?_)
        refine V_i2l X rfl dX11_put_45 ?_
        refine V_nmL (fun x_24 ex_24 => ?_)
        refine V_goto X 95 (by decide) dX11_put_46 ?_
        refine V_last (ws' := [((R 48), .inl (Y 1, 360, .inr (.inl (vp_updL a48 ((60 * h0) + kn) x_24)))), (m, .inr (10, mF R v0 v7 v8 v9 v15 v16 v17 v18 v19 v27 v31 v32 v33 v34 v38 v42 v44)), ((R 46), .inl (Y 0, 6, .inl a46)), ((R 47), .inl (Y 0, 6, .inl a47))]) X 0 ((60 * h0) + kn) rfl tx_15 (by omega) rfl dX11_put_95 ?_
        refine V_iconst (v := (1 : Int32)) X (by decide) dX11_put_96 ?_
        refine V_ws (ws' := [(m, .inr (10, mF R v0 v7 v8 v9 v15 v16 v17 v18 v19 v27 v31 v32 v33 v34 v38 v42 v44)), ((R 46), .inl (Y 0, 6, .inl a46)), ((R 47), .inl (Y 0, 6, .inl a47)), ((R 48), .inl (Y 1, 360, .inr (.inl (vp_updL a48 ((60 * h0) + kn) x_24))))]) [1, 2, 3, 0] rfl rfl rfl ?_
        exact V_iret X hr dX11_put_97 (Or.inr (Or.inr (Or.inr (Or.inr (⟨kn, (vp_updL a48 ((60 * h0) + kn) x_24), rfl, rfl, hhv1_10, hh1_11, tkn, (by omega), (congrArg (vp_updL a48 (60 * h0 + kn)) (low0 (by omega) (ex_24.trans (by rw [ex_23, ex_22]))))⟩)))))

theorem in_X11_element_X11 : ∀ w ∈ wsX110, w ∈ wsX11_element := fun w h => List.mem_cons_of_mem _ (List.mem_append_right _ h)
set_option maxHeartbeats 4000000 in
set_option maxRecDepth 100000 in
theorem c_X11_element (l : Launch) (D : va_G) (Y : Nat → ClassId) (m : Nat) (R : Nat → Nat) (v0 : Int32) (v7 : Int32) (v8 : Int32) (v9 : Int32) (v15 : Int32) (v16 : Int32) (v17 : Int32) (v18 : Int32) (v19 : Int32) (v27 : Int32) (v31 : Int32) (v32 : Int32) (v33 : Int32) (v34 : Int32) (v38 : Int32) (v42 : Int32) (v44 : Int32) (a46 : Nat → Int32) (a47 : Nat → Int32) (a48 : Nat → Int64) (h0 : Nat) (m_ : Nat) (j : Int32) (i : Int32) (hho : 0 ≤ j.toInt → j.toInt < 6 → j.toInt = ((h0 : Nat) : Int)) (hh0 : h0 < 6) (hsz : (a47 h0).toInt = ((m_ : Nat) : Int)) (hm : m_ ≤ 60) : Mg l yX11_element wsX11_element ({ frames := 3, cells := 0, slots := 0, locals := 64 }) D Y [(m, .inr (10, mF R v0 v7 v8 v9 v15 v16 v17 v18 v19 v27 v31 v32 v33 v34 v38 v42 v44)), ((R 46), .inl (Y 0, 6, .inl a46)), ((R 47), .inl (Y 0, 6, .inl a47)), ((R 48), .inl (Y 1, 360, .inr (.inl a48)))] [.ref m, .int j, .int i] 0 0 (fun vv__ ww__ => (vv__ = some (.long (-9223372036854775808)) ∧ ww__ = [(m, .inr (10, mF R v0 v7 v8 v9 v15 v16 v17 v18 v19 v27 v31 v32 v33 v34 v38 v42 v44)), ((R 46), .inl (Y 0, 6, .inl a46)), ((R 47), .inl (Y 0, 6, .inl a47)), ((R 48), .inl (Y 1, 360, .inr (.inl a48)))] ∧ (¬ (0 ≤ j.toInt ∧ j.toInt < 6 ∧ (a46 h0).toInt < -1 ∧ 0 ≤ i.toInt ∧ i.toInt < ((m_ : Nat) : Int)))) ∨ (∃ (r : Int64), ∃ (kn : Nat), vv__ = some (.long r) ∧ ww__ = [(m, .inr (10, mF R v0 v7 v8 v9 v15 v16 v17 v18 v19 v27 v31 v32 v33 v34 v38 v42 v44)), ((R 46), .inl (Y 0, 6, .inl a46)), ((R 47), .inl (Y 0, 6, .inl a47)), ((R 48), .inl (Y 1, 360, .inr (.inl a48)))] ∧ (j.toInt = ((h0 : Nat) : Int)) ∧ ((a46 h0).toInt < -1) ∧ (i.toInt = ((kn : Nat) : Int)) ∧ (kn < m_) ∧ (r = a48 (60 * h0 + kn)))) := by
  refine Mg_of (cc := cX11_element) (maxL := 3) (ret := (some .long)) (ls0 := [(0, .ref m), (1, .int j), (2, .int i)]) RX11 (by decide) rfl rfl rfl (Nat.le_of_ble_eq_true rfl) (fun p__ e__ s__ m__ b__ t__ c__ X hr hn => ?_)
  refine V_aload_n X 0 rfl dX11_element_0 ?_
  refine V_iload_n X 1 rfl dX11_element_1 ?_
  refine V_iload_n X 2 rfl dX11_element_2 ?_
  refine V_callV (C := RX11) (wr := [((R 48), .inl (Y 1, 360, .inr (.inl a48)))]) (st := []) X (c_X11_whyNoPlace l D Y m R v0 v7 v8 v9 v15 v16 v17 v18 v19 v27 v31 v32 v33 v34 v38 v42 v44 a46 a47 h0 m_ j i hho hh0 hsz hm) 2 gX11_element_X11_whyNoPlace rfl (by decide +kernel) ⟨rfl, rfl⟩ ⟨Nat.le_of_ble_eq_true rfl, Nat.le_of_ble_eq_true rfl⟩ [0, 1, 2] [3] rfl rfl rfl rfl (by decide) (ci := 10) rfl rfl 0 rfl rfl rfl (Nat.le_of_ble_eq_true rfl) ⟨Nat.le_of_ble_eq_true rfl, Nat.le_of_ble_eq_true rfl⟩ dX11_element_3 (fun v_3 w_3 h_3 => ?_)
  rcases h_3 with ⟨rfl, rfl, hhb_2⟩ | ⟨rfl, rfl, hhv1_3, hh0e_4⟩ | ⟨rfl, rfl, hhv1_5, hh2_6⟩ | ⟨rfl, rfl, hhv1_7, hh1_8, hhp_9⟩ | ⟨rfl, rfl, hhv1_10, hh1_11, hhp_12⟩
  · refine V_to (pc' := 6) (ls' := [(0, .ref m), (1, .int j), (2, .int i)]) (st' := [.int (-1 : Int32)]) (ws' := [((R 48), .inl (Y 1, 360, .inr (.inl a48))), (m, .inr (10, mF R v0 v7 v8 v9 v15 v16 v17 v18 v19 v27 v31 v32 v33 v34 v38 v42 v44)), ((R 46), .inl (Y 0, 6, .inl a46)), ((R 47), .inl (Y 0, 6, .inl a47))]) ?_ rfl rfl rfl rfl
    refine V_if_ge X (show (-1 : Int32).toInt = (-1) from by decide) 15 dX11_element_6 (by decide) (fun c_6 => absurd c_6 (by decide)) (fun _ => ?_)
    refine V_ldc2 (v := (-9223372036854775808)) X (List.mem_of_getElem? (i := 1) rfl) dX11_element_9 ?_
    refine V_goto X 26 (by decide) dX11_element_12 ?_
    refine V_ws (ws' := [(m, .inr (10, mF R v0 v7 v8 v9 v15 v16 v17 v18 v19 v27 v31 v32 v33 v34 v38 v42 v44)), ((R 46), .inl (Y 0, 6, .inl a46)), ((R 47), .inl (Y 0, 6, .inl a47)), ((R 48), .inl (Y 1, 360, .inr (.inl a48)))]) [1, 2, 3, 0] rfl rfl rfl ?_
    exact V_lret X hr dX11_element_26 (Or.inl ⟨rfl, rfl, (by omega)⟩)
  · refine V_to (pc' := 6) (ls' := [(0, .ref m), (1, .int j), (2, .int i)]) (st' := [.int (-11 : Int32)]) (ws' := [((R 48), .inl (Y 1, 360, .inr (.inl a48))), (m, .inr (10, mF R v0 v7 v8 v9 v15 v16 v17 v18 v19 v27 v31 v32 v33 v34 v38 v42 v44)), ((R 46), .inl (Y 0, 6, .inl a46)), ((R 47), .inl (Y 0, 6, .inl a47))]) ?_ rfl rfl rfl rfl
    refine V_if_ge X (show (-11 : Int32).toInt = (-11) from by decide) 15 dX11_element_6 (by decide) (fun c_6 => absurd c_6 (by decide)) (fun _ => ?_)
    refine V_ldc2 (v := (-9223372036854775808)) X (List.mem_of_getElem? (i := 1) rfl) dX11_element_9 ?_
    refine V_goto X 26 (by decide) dX11_element_12 ?_
    refine V_ws (ws' := [(m, .inr (10, mF R v0 v7 v8 v9 v15 v16 v17 v18 v19 v27 v31 v32 v33 v34 v38 v42 v44)), ((R 46), .inl (Y 0, 6, .inl a46)), ((R 47), .inl (Y 0, 6, .inl a47)), ((R 48), .inl (Y 1, 360, .inr (.inl a48)))]) [1, 2, 3, 0] rfl rfl rfl ?_
    exact V_lret X hr dX11_element_26 (Or.inl ⟨rfl, rfl, (by omega)⟩)
  · refine V_to (pc' := 6) (ls' := [(0, .ref m), (1, .int j), (2, .int i)]) (st' := [.int (-12 : Int32)]) (ws' := [((R 48), .inl (Y 1, 360, .inr (.inl a48))), (m, .inr (10, mF R v0 v7 v8 v9 v15 v16 v17 v18 v19 v27 v31 v32 v33 v34 v38 v42 v44)), ((R 46), .inl (Y 0, 6, .inl a46)), ((R 47), .inl (Y 0, 6, .inl a47))]) ?_ rfl rfl rfl rfl
    refine V_if_ge X (show (-12 : Int32).toInt = (-12) from by decide) 15 dX11_element_6 (by decide) (fun c_6 => absurd c_6 (by decide)) (fun _ => ?_)
    refine V_ldc2 (v := (-9223372036854775808)) X (List.mem_of_getElem? (i := 1) rfl) dX11_element_9 ?_
    refine V_goto X 26 (by decide) dX11_element_12 ?_
    refine V_ws (ws' := [(m, .inr (10, mF R v0 v7 v8 v9 v15 v16 v17 v18 v19 v27 v31 v32 v33 v34 v38 v42 v44)), ((R 46), .inl (Y 0, 6, .inl a46)), ((R 47), .inl (Y 0, 6, .inl a47)), ((R 48), .inl (Y 1, 360, .inr (.inl a48)))]) [1, 2, 3, 0] rfl rfl rfl ?_
    exact V_lret X hr dX11_element_26 (Or.inl ⟨rfl, rfl, (by omega)⟩)
  · refine V_to (pc' := 6) (ls' := [(0, .ref m), (1, .int j), (2, .int i)]) (st' := [.int (-13 : Int32)]) (ws' := [((R 48), .inl (Y 1, 360, .inr (.inl a48))), (m, .inr (10, mF R v0 v7 v8 v9 v15 v16 v17 v18 v19 v27 v31 v32 v33 v34 v38 v42 v44)), ((R 46), .inl (Y 0, 6, .inl a46)), ((R 47), .inl (Y 0, 6, .inl a47))]) ?_ rfl rfl rfl rfl
    refine V_if_ge X (show (-13 : Int32).toInt = (-13) from by decide) 15 dX11_element_6 (by decide) (fun c_6 => absurd c_6 (by decide)) (fun _ => ?_)
    refine V_ldc2 (v := (-9223372036854775808)) X (List.mem_of_getElem? (i := 1) rfl) dX11_element_9 ?_
    refine V_goto X 26 (by decide) dX11_element_12 ?_
    refine V_ws (ws' := [(m, .inr (10, mF R v0 v7 v8 v9 v15 v16 v17 v18 v19 v27 v31 v32 v33 v34 v38 v42 v44)), ((R 46), .inl (Y 0, 6, .inl a46)), ((R 47), .inl (Y 0, 6, .inl a47)), ((R 48), .inl (Y 1, 360, .inr (.inl a48)))]) [1, 2, 3, 0] rfl rfl rfl ?_
    exact V_lret X hr dX11_element_26 (Or.inl ⟨rfl, rfl, (by omega)⟩)
  · refine V_to (pc' := 6) (ls' := [(0, .ref m), (1, .int j), (2, .int i)]) (st' := [.int (0 : Int32)]) (ws' := [((R 48), .inl (Y 1, 360, .inr (.inl a48))), (m, .inr (10, mF R v0 v7 v8 v9 v15 v16 v17 v18 v19 v27 v31 v32 v33 v34 v38 v42 v44)), ((R 46), .inl (Y 0, 6, .inl a46)), ((R 47), .inl (Y 0, 6, .inl a47))]) ?_ rfl rfl rfl rfl
    refine V_if_ge X (show (0 : Int32).toInt = 0 from by decide) 15 dX11_element_6 (by decide) (fun _ => ?_) (fun c_6 => absurd c_6 (by decide))
    have hj9 := hhv1_10; obtain ⟨kn, tkn⟩ : ∃ kn : Nat, i.toInt = ((kn : Nat) : Int) := ⟨i.toInt.toNat, by omega⟩
    · refine V_aload_n X 0 rfl dX11_element_15 ?_
      refine V_get (C := RX11) (T := TX11) (N := 50) (ci := 10) (v := .ref (R 48)) X in_X11_element_X11 1 rfl rfl 48 (by decide) (List.mem_of_getElem? (i := 2) rfl) rfl rfl dX11_element_16 ?_
      refine V_bipush (v := (60 : Int32)) X (by decide) dX11_element_19 ?_
      refine V_iload_n X 1 rfl dX11_element_21 ?_
      refine V_imulZ X (show (60 : Int32).toInt = 60 from by decide) hj9 (by omega) (by omega) dX11_element_22 (fun x_13 ex_13 tx_13 => ?_)
      have tx_13 : x_13.toInt = (((60 * h0) : Nat) : Int) := by omega
      refine V_iload_n X 2 rfl dX11_element_23 ?_
      refine V_iaddZ X tx_13 tkn (by omega) (by omega) dX11_element_24 (fun x_14 ex_14 tx_14 => ?_)
      have tx_14 : x_14.toInt = ((((60 * h0) + kn) : Nat) : Int) := by omega
      refine V_lald X 0 ((60 * h0) + kn) rfl tx_14 (by omega) dX11_element_25 ?_
      refine V_ws (ws' := [(m, .inr (10, mF R v0 v7 v8 v9 v15 v16 v17 v18 v19 v27 v31 v32 v33 v34 v38 v42 v44)), ((R 46), .inl (Y 0, 6, .inl a46)), ((R 47), .inl (Y 0, 6, .inl a47)), ((R 48), .inl (Y 1, 360, .inr (.inl a48)))]) [1, 2, 3, 0] rfl rfl rfl ?_
      exact V_lret X hr dX11_element_26 (Or.inr (⟨(a48 ((60 * h0) + kn)), kn, rfl, rfl, hhv1_10, hh1_11, tkn, (by omega), rfl⟩))

theorem in_X11_shift_X11 : ∀ w ∈ wsX110, w ∈ wsX11_shift := fun w h => List.mem_cons_of_mem _ (List.mem_append_right _ h)
set_option maxHeartbeats 4000000 in
set_option maxRecDepth 100000 in
theorem c_X11_shift (l : Launch) (D : va_G) (Y : Nat → ClassId) (m : Nat) (R : Nat → Nat) (v0 : Int32) (v7 : Int32) (v8 : Int32) (v9 : Int32) (v15 : Int32) (v16 : Int32) (v17 : Int32) (v18 : Int32) (v19 : Int32) (v27 : Int32) (v31 : Int32) (v32 : Int32) (v33 : Int32) (v34 : Int32) (v38 : Int32) (v42 : Int32) (v44 : Int32) (a46 : Nat → Int32) (a47 : Nat → Int32) (a48 : Nat → Int64) (a49 : Nat → Int64) (h0 : Nat) (m_ : Nat) (hb_ : Nat) (mB_ : Nat) (j : Int32) (i : Int32) (q : Int32) (a : Int32) (b : Int32) (hho : 0 ≤ j.toInt → j.toInt < 6 → j.toInt = ((h0 : Nat) : Int)) (hh0 : h0 < 6) (hsz : (a47 h0).toInt = ((m_ : Nat) : Int)) (hm : m_ ≤ 60) (hhoB : 0 ≤ q.toInt → q.toInt < 6 → q.toInt = ((hb_ : Nat) : Int)) (hhb : hb_ < 6) (hszB : (a47 hb_).toInt = ((mB_ : Nat) : Int)) (hmB : mB_ ≤ 60) : Mg l yX11_shift wsX11_shift ({ frames := 2, cells := 0, slots := 0, locals := 42 }) D Y [(m, .inr (10, mF R v0 v7 v8 v9 v15 v16 v17 v18 v19 v27 v31 v32 v33 v34 v38 v42 v44)), ((R 46), .inl (Y 0, 6, .inl a46)), ((R 47), .inl (Y 0, 6, .inl a47)), ((R 48), .inl (Y 1, 360, .inr (.inl a48))), ((R 49), .inl (Y 1, 60, .inr (.inl a49)))] [.ref m, .int j, .int i, .int q, .int a, .int b] 0 0 (fun vv__ ww__ => (vv__ = some (.int (-1 : Int32)) ∧ ww__ = [(m, .inr (10, mF R v0 v7 v8 v9 v15 v16 v17 v18 v19 v27 v31 v32 v33 v34 v38 v42 v44)), ((R 46), .inl (Y 0, 6, .inl a46)), ((R 47), .inl (Y 0, 6, .inl a47)), ((R 48), .inl (Y 1, 360, .inr (.inl a48))), ((R 49), .inl (Y 1, 60, .inr (.inl a49)))] ∧ (¬ (0 ≤ j.toInt ∧ j.toInt < 6 ∧ 0 ≤ q.toInt ∧ q.toInt < 6))) ∨ (vv__ = some (.int (-11 : Int32)) ∧ ww__ = [(m, .inr (10, mF R v0 v7 v8 v9 v15 v16 v17 v18 v19 v27 v31 v32 v33 v34 v38 v42 v44)), ((R 46), .inl (Y 0, 6, .inl a46)), ((R 47), .inl (Y 0, 6, .inl a47)), ((R 48), .inl (Y 1, 360, .inr (.inl a48))), ((R 49), .inl (Y 1, 60, .inr (.inl a49)))] ∧ (j.toInt = ((h0 : Nat) : Int) ∧ q.toInt = ((hb_ : Nat) : Int)) ∧ ((a46 h0).toInt = -1 ∨ (a46 hb_).toInt = -1)) ∨ (vv__ = some (.int (-12 : Int32)) ∧ ww__ = [(m, .inr (10, mF R v0 v7 v8 v9 v15 v16 v17 v18 v19 v27 v31 v32 v33 v34 v38 v42 v44)), ((R 46), .inl (Y 0, 6, .inl a46)), ((R 47), .inl (Y 0, 6, .inl a47)), ((R 48), .inl (Y 1, 360, .inr (.inl a48))), ((R 49), .inl (Y 1, 60, .inr (.inl a49)))] ∧ (j.toInt = ((h0 : Nat) : Int) ∧ q.toInt = ((hb_ : Nat) : Int)) ∧ ((a46 h0).toInt ≠ -1 ∧ (a46 hb_).toInt ≠ -1) ∧ (0 ≤ (a46 h0).toInt ∨ (a46 h0).toInt ≠ (a46 hb_).toInt)) ∨ (vv__ = some (.int (-13 : Int32)) ∧ ww__ = [(m, .inr (10, mF R v0 v7 v8 v9 v15 v16 v17 v18 v19 v27 v31 v32 v33 v34 v38 v42 v44)), ((R 46), .inl (Y 0, 6, .inl a46)), ((R 47), .inl (Y 0, 6, .inl a47)), ((R 48), .inl (Y 1, 360, .inr (.inl a48))), ((R 49), .inl (Y 1, 60, .inr (.inl a49)))] ∧ (j.toInt = ((h0 : Nat) : Int) ∧ q.toInt = ((hb_ : Nat) : Int)) ∧ ((a46 h0).toInt < -1 ∧ (a46 hb_).toInt = (a46 h0).toInt) ∧ (¬ (0 ≤ i.toInt ∧ 0 ≤ b.toInt ∧ 0 ≤ a.toInt ∧ i.toInt + b.toInt ≤ ((m_ : Nat) : Int) ∧ a.toInt + b.toInt ≤ ((mB_ : Nat) : Int)))) ∨ (∃ (ki : Nat), ∃ (ka : Nat), ∃ (kb : Nat), ∃ (b48 : Nat → Int64), ∃ (b49 : Nat → Int64), vv__ = some (.int b) ∧ ww__ = [(m, .inr (10, mF R v0 v7 v8 v9 v15 v16 v17 v18 v19 v27 v31 v32 v33 v34 v38 v42 v44)), ((R 46), .inl (Y 0, 6, .inl a46)), ((R 47), .inl (Y 0, 6, .inl a47)), ((R 48), .inl (Y 1, 360, .inr (.inl b48))), ((R 49), .inl (Y 1, 60, .inr (.inl b49)))] ∧ (j.toInt = ((h0 : Nat) : Int) ∧ q.toInt = ((hb_ : Nat) : Int)) ∧ ((a46 h0).toInt < -1 ∧ (a46 hb_).toInt = (a46 h0).toInt) ∧ (i.toInt = ((ki : Nat) : Int)) ∧ (a.toInt = ((ka : Nat) : Int)) ∧ (b.toInt = ((kb : Nat) : Int)) ∧ (ki + kb ≤ m_) ∧ (ka + kb ≤ mB_) ∧ (∀ k, b48 k = if 60 * hb_ + ka ≤ k ∧ k < 60 * hb_ + ka + kb then a48 (60 * h0 + ki + (k - (60 * hb_ + ka))) else a48 k))) := by
  refine Mg_of (cc := cX11_shift) (maxL := 7) (ret := (some .int)) (ls0 := [(0, .ref m), (1, .int j), (2, .int i), (3, .int q), (4, .int a), (5, .int b)]) RX11 (by decide) rfl rfl rfl (Nat.le_of_ble_eq_true rfl) (fun p__ e__ s__ m__ b__ t__ c__ X hr hn => ?_)
  refine V_iload_n X 1 rfl dX11_shift_0 ?_
  refine V_callS (wr := [(m, .inr (10, mF R v0 v7 v8 v9 v15 v16 v17 v18 v19 v27 v31 v32 v33 v34 v38 v42 v44)), ((R 46), .inl (Y 0, 6, .inl a46)), ((R 47), .inl (Y 0, 6, .inl a47)), ((R 48), .inl (Y 1, 360, .inr (.inl a48))), ((R 49), .inl (Y 1, 60, .inr (.inl a49)))]) (st := []) X (c_X11_isShelf l D Y j) 1 gX11_shift_X11_isShelf rfl (by decide +kernel) ⟨rfl, rfl⟩ ⟨Nat.le_of_ble_eq_true rfl, Nat.le_of_ble_eq_true rfl⟩ [] [0, 1, 2, 3, 4] rfl rfl rfl rfl (by decide) rfl rfl (Nat.le_of_ble_eq_true rfl) ⟨Nat.le_of_ble_eq_true rfl, Nat.le_of_ble_eq_true rfl⟩ dX11_shift_1 (fun v_1 w_1 h_1 => ?_)
  rcases h_1 with ⟨rfl, rfl, hhy_2⟩ | ⟨rfl, rfl, hhn_3⟩
  · refine V_to (pc' := 4) (ls' := [(0, .ref m), (1, .int j), (2, .int i), (3, .int q), (4, .int a), (5, .int b)]) (st' := [.int (1 : Int32)]) (ws' := [(m, .inr (10, mF R v0 v7 v8 v9 v15 v16 v17 v18 v19 v27 v31 v32 v33 v34 v38 v42 v44)), ((R 46), .inl (Y 0, 6, .inl a46)), ((R 47), .inl (Y 0, 6, .inl a47)), ((R 48), .inl (Y 1, 360, .inr (.inl a48))), ((R 49), .inl (Y 1, 60, .inr (.inl a49)))]) ?_ rfl rfl rfl rfl
    refine V_if_eq X (show (1 : Int32).toInt = 1 from by decide) 14 dX11_shift_4 (by decide) (fun c_4 => absurd c_4 (by decide)) (fun _ => ?_)
    refine V_iload_n X 3 rfl dX11_shift_7 ?_
    refine V_callS (wr := [(m, .inr (10, mF R v0 v7 v8 v9 v15 v16 v17 v18 v19 v27 v31 v32 v33 v34 v38 v42 v44)), ((R 46), .inl (Y 0, 6, .inl a46)), ((R 47), .inl (Y 0, 6, .inl a47)), ((R 48), .inl (Y 1, 360, .inr (.inl a48))), ((R 49), .inl (Y 1, 60, .inr (.inl a49)))]) (st := []) X (c_X11_isShelf l D Y q) 1 gX11_shift_X11_isShelf rfl (by decide +kernel) ⟨rfl, rfl⟩ ⟨Nat.le_of_ble_eq_true rfl, Nat.le_of_ble_eq_true rfl⟩ [] [0, 1, 2, 3, 4] rfl rfl rfl rfl (by decide) rfl rfl (Nat.le_of_ble_eq_true rfl) ⟨Nat.le_of_ble_eq_true rfl, Nat.le_of_ble_eq_true rfl⟩ dX11_shift_8 (fun v_8 w_8 h_8 => ?_)
    rcases h_8 with ⟨rfl, rfl, hhy_5⟩ | ⟨rfl, rfl, hhn_6⟩
    · refine V_to (pc' := 11) (ls' := [(0, .ref m), (1, .int j), (2, .int i), (3, .int q), (4, .int a), (5, .int b)]) (st' := [.int (1 : Int32)]) (ws' := [(m, .inr (10, mF R v0 v7 v8 v9 v15 v16 v17 v18 v19 v27 v31 v32 v33 v34 v38 v42 v44)), ((R 46), .inl (Y 0, 6, .inl a46)), ((R 47), .inl (Y 0, 6, .inl a47)), ((R 48), .inl (Y 1, 360, .inr (.inl a48))), ((R 49), .inl (Y 1, 60, .inr (.inl a49)))]) ?_ rfl rfl rfl rfl
      refine V_if_ne X (show (1 : Int32).toInt = 1 from by decide) 16 dX11_shift_11 (by decide) (fun _ => ?_) (fun c_11 => absurd c_11 (by decide))
      refine V_aload_n X 0 rfl dX11_shift_16 ?_
      refine V_get (C := RX11) (T := TX11) (N := 50) (ci := 10) (v := .ref (R 46)) X in_X11_shift_X11 0 rfl rfl 46 (by decide) (List.mem_of_getElem? (i := 1) rfl) rfl rfl dX11_shift_17 ?_
      refine V_iload_n X 1 rfl dX11_shift_20 ?_
      refine V_iald X 1 h0 rfl (by omega) (by omega) dX11_shift_21 ?_
      refine V_iconst (v := (-1 : Int32)) X (by decide) dX11_shift_22 ?_
      refine V_icmp_eq X rfl (show (-1 : Int32).toInt = (-1) from by decide) 36 dX11_shift_23 (by decide) (fun c_23 => ?_) (fun c_23 => ?_)
      · refine V_bipush (v := (-11 : Int32)) X (by decide) dX11_shift_36 ?_
        exact V_iret X hr dX11_shift_38 (Or.inr (Or.inl ⟨rfl, rfl, (by omega), (by omega)⟩))
      · refine V_aload_n X 0 rfl dX11_shift_26 ?_
        refine V_get (C := RX11) (T := TX11) (N := 50) (ci := 10) (v := .ref (R 46)) X in_X11_shift_X11 0 rfl rfl 46 (by decide) (List.mem_of_getElem? (i := 1) rfl) rfl rfl dX11_shift_27 ?_
        refine V_iload_n X 3 rfl dX11_shift_30 ?_
        refine V_iald X 1 hb_ rfl (by omega) (by omega) dX11_shift_31 ?_
        refine V_iconst (v := (-1 : Int32)) X (by decide) dX11_shift_32 ?_
        refine V_icmp_ne X rfl (show (-1 : Int32).toInt = (-1) from by decide) 39 dX11_shift_33 (by decide) (fun c_33 => ?_) (fun c_33 => ?_)
        · refine V_aload_n X 0 rfl dX11_shift_39 ?_
          refine V_get (C := RX11) (T := TX11) (N := 50) (ci := 10) (v := .ref (R 46)) X in_X11_shift_X11 0 rfl rfl 46 (by decide) (List.mem_of_getElem? (i := 1) rfl) rfl rfl dX11_shift_40 ?_
          refine V_iload_n X 1 rfl dX11_shift_43 ?_
          refine V_iald X 1 h0 rfl (by omega) (by omega) dX11_shift_44 ?_
          refine V_if_ge X rfl 63 dX11_shift_45 (by decide) (fun c_45 => ?_) (fun c_45 => ?_)
          · refine V_bipush (v := (-12 : Int32)) X (by decide) dX11_shift_63 ?_
            exact V_iret X hr dX11_shift_65 (Or.inr (Or.inr (Or.inl ⟨rfl, rfl, (by omega), (by omega), (by omega)⟩)))
          · refine V_aload_n X 0 rfl dX11_shift_48 ?_
            refine V_get (C := RX11) (T := TX11) (N := 50) (ci := 10) (v := .ref (R 46)) X in_X11_shift_X11 0 rfl rfl 46 (by decide) (List.mem_of_getElem? (i := 1) rfl) rfl rfl dX11_shift_49 ?_
            refine V_iload_n X 1 rfl dX11_shift_52 ?_
            refine V_iald X 1 h0 rfl (by omega) (by omega) dX11_shift_53 ?_
            refine V_aload_n X 0 rfl dX11_shift_54 ?_
            refine V_get (C := RX11) (T := TX11) (N := 50) (ci := 10) (v := .ref (R 46)) X in_X11_shift_X11 0 rfl rfl 46 (by decide) (List.mem_of_getElem? (i := 1) rfl) rfl rfl dX11_shift_55 ?_
            refine V_iload_n X 3 rfl dX11_shift_58 ?_
            refine V_iald X 1 hb_ rfl (by omega) (by omega) dX11_shift_59 ?_
            refine V_icmp_eq X rfl rfl 66 dX11_shift_60 (by decide) (fun c_60 => ?_) (fun c_60 => ?_)
            · refine V_iload X 5 rfl dX11_shift_66 ?_
              refine V_if_lt X rfl 107 dX11_shift_68 (by decide) (fun c_68 => ?_) (fun c_68 => ?_)
              · refine V_bipush (v := (-13 : Int32)) X (by decide) dX11_shift_107 ?_
                exact V_iret X hr dX11_shift_109 (Or.inr (Or.inr (Or.inr (Or.inl ⟨rfl, rfl, (by omega), (by omega), (by omega)⟩))))
              · refine V_iload_n X 2 rfl dX11_shift_71 ?_
                refine V_if_lt X rfl 107 dX11_shift_72 (by decide) (fun c_72 => ?_) (fun c_72 => ?_)
                · refine V_bipush (v := (-13 : Int32)) X (by decide) dX11_shift_107 ?_
                  exact V_iret X hr dX11_shift_109 (Or.inr (Or.inr (Or.inr (Or.inl ⟨rfl, rfl, (by omega), (by omega), (by omega)⟩))))
                · refine V_iload X 4 rfl dX11_shift_75 ?_
                  refine V_if_lt X rfl 107 dX11_shift_77 (by decide) (fun c_77 => ?_) (fun c_77 => ?_)
                  · refine V_bipush (v := (-13 : Int32)) X (by decide) dX11_shift_107 ?_
                    exact V_iret X hr dX11_shift_109 (Or.inr (Or.inr (Or.inr (Or.inl ⟨rfl, rfl, (by omega), (by omega), (by omega)⟩))))
                  · have hbb := tI_bd b
                    refine V_iload_n X 2 rfl dX11_shift_80 ?_
                    refine V_aload_n X 0 rfl dX11_shift_81 ?_
                    refine V_get (C := RX11) (T := TX11) (N := 50) (ci := 10) (v := .ref (R 47)) X in_X11_shift_X11 0 rfl rfl 47 (by decide) (List.mem_of_getElem? (i := 2) rfl) rfl rfl dX11_shift_82 ?_
                    refine V_iload_n X 1 rfl dX11_shift_85 ?_
                    refine V_iald X 2 h0 rfl (by omega) (by omega) dX11_shift_86 ?_
                    refine V_nm (fun x_7 ex_7 => ?_)
                    have tx_7 : x_7.toInt = ((m_ : Nat) : Int) := by rw [ex_7]; exact hsz
                    refine V_iload X 5 rfl dX11_shift_87 ?_
                    refine V_isubZ X tx_7 rfl (by omega) (by omega) dX11_shift_89 (fun x_8 ex_8 tx_8 => ?_)
                    refine V_icmp_gt X rfl rfl 107 dX11_shift_90 (by decide) (fun c_90 => ?_) (fun c_90 => ?_)
                    · refine V_bipush (v := (-13 : Int32)) X (by decide) dX11_shift_107 ?_
                      exact V_iret X hr dX11_shift_109 (Or.inr (Or.inr (Or.inr (Or.inl ⟨rfl, rfl, (by omega), (by omega), (by omega)⟩))))
                    · refine V_iload X 4 rfl dX11_shift_93 ?_
                      refine V_aload_n X 0 rfl dX11_shift_95 ?_
                      refine V_get (C := RX11) (T := TX11) (N := 50) (ci := 10) (v := .ref (R 47)) X in_X11_shift_X11 0 rfl rfl 47 (by decide) (List.mem_of_getElem? (i := 2) rfl) rfl rfl dX11_shift_96 ?_
                      refine V_iload_n X 3 rfl dX11_shift_99 ?_
                      refine V_iald X 2 hb_ rfl (by omega) (by omega) dX11_shift_100 ?_
                      refine V_nm (fun x_9 ex_9 => ?_)
                      have tx_9 : x_9.toInt = ((mB_ : Nat) : Int) := by rw [ex_9]; exact hszB
                      refine V_iload X 5 rfl dX11_shift_101 ?_
                      refine V_isubZ X tx_9 rfl (by omega) (by omega) dX11_shift_103 (fun x_10 ex_10 tx_10 => ?_)
                      refine V_icmp_le X rfl rfl 110 dX11_shift_104 (by decide) (fun c_104 => ?_) (fun c_104 => ?_)
                      · have hj9 := hho (by omega) (by omega); have hq9 := hhoB (by omega) (by omega); obtain ⟨ki, tki⟩ : ∃ ki : Nat, i.toInt = ((ki : Nat) : Int) := ⟨i.toInt.toNat, by omega⟩; obtain ⟨ka, tka⟩ : ∃ ka : Nat, a.toInt = ((ka : Nat) : Int) := ⟨a.toInt.toNat, by omega⟩; obtain ⟨kb, tkb⟩ : ∃ kb : Nat, b.toInt = ((kb : Nat) : Int) := ⟨b.toInt.toNat, by omega⟩
                        · refine V_iconst (v := (0 : Int32)) X (by decide) dX11_shift_110 ?_
                          refine V_istore (ls' := [(6, .int (0 : Int32)), (0, .ref m), (1, .int j), (2, .int i), (3, .int q), (4, .int a), (5, .int b)]) X (by decide) rfl dX11_shift_111 ?_
                          refine V_ls (ls' := [(0, .ref m), (1, .int j), (2, .int i), (3, .int q), (4, .int a), (5, .int b), (6, .int (0 : Int32))]) [1, 2, 3, 4, 5, 6, 0] rfl ?_
                          refine V_to (V_ind3 (fun (i6 : Int32) (k : Nat) (g49 : Nat → Int64) => (i6.toInt = ((k : Nat) : Int)) ∧ (k ≤ kb) ∧ (∀ j, j < k → g49 j = a48 (60 * h0 + ki + j))) (fun (i6 : Int32) (k : Nat) (g49 : Nat → Int64) => kb - k) (fun (i6 : Int32) (k : Nat) (g49 : Nat → Int64) => [(0, .ref m), (1, .int j), (2, .int i), (3, .int q), (4, .int a), (5, .int b), (6, .int i6)]) (fun (i6 : Int32) (k : Nat) (g49 : Nat → Int64) => [(m, .inr (10, mF R v0 v7 v8 v9 v15 v16 v17 v18 v19 v27 v31 v32 v33 v34 v38 v42 v44)), ((R 46), .inl (Y 0, 6, .inl a46)), ((R 47), .inl (Y 0, 6, .inl a47)), ((R 48), .inl (Y 1, 360, .inr (.inl a48))), ((R 49), .inl (Y 1, 60, .inr (.inl g49)))]) (fun i6 k g49 hI_113 ih_113 => ?_) (0 : Int32) 0 a49 ?_) rfl rfl rfl rfl
                          · obtain ⟨ti6, hk, hg⟩ := hI_113
                            refine V_to (ls' := [(0, .ref m), (1, .int j), (2, .int i), (3, .int q), (4, .int a), (5, .int b), (6, .int i6)]) (ws' := [(m, .inr (10, mF R v0 v7 v8 v9 v15 v16 v17 v18 v19 v27 v31 v32 v33 v34 v38 v42 v44)), ((R 46), .inl (Y 0, 6, .inl a46)), ((R 47), .inl (Y 0, 6, .inl a47)), ((R 48), .inl (Y 1, 360, .inr (.inl a48))), ((R 49), .inl (Y 1, 60, .inr (.inl g49)))]) ?_ rfl rfl rfl rfl
                            refine V_iload X 6 rfl dX11_shift_113 ?_
                            refine V_iload X 5 rfl dX11_shift_115 ?_
                            refine V_icmp_ge X ti6 tkb 147 dX11_shift_117 (by decide) (fun c_117 => ?_) (fun c_117 => ?_)
                            · refine V_iconst (v := (0 : Int32)) X (by decide) dX11_shift_147 ?_
                              refine V_istore (ls' := [(6, .int (0 : Int32)), (0, .ref m), (1, .int j), (2, .int i), (3, .int q), (4, .int a), (5, .int b)]) X (by decide) rfl dX11_shift_148 ?_
                              refine V_ls (ls' := [(0, .ref m), (1, .int j), (2, .int i), (3, .int q), (4, .int a), (5, .int b), (6, .int (0 : Int32))]) [1, 2, 3, 4, 5, 6, 0] rfl ?_
                              refine V_to (V_ind3 (fun (i6 : Int32) (k : Nat) (g48 : Nat → Int64) => (i6.toInt = ((k : Nat) : Int)) ∧ (k ≤ kb) ∧ (∀ j, g48 j = if 60 * hb_ + ka ≤ j ∧ j < 60 * hb_ + ka + k then a48 (60 * h0 + ki + (j - (60 * hb_ + ka))) else a48 j)) (fun (i6 : Int32) (k : Nat) (g48 : Nat → Int64) => kb - k) (fun (i6 : Int32) (k : Nat) (g48 : Nat → Int64) => [(0, .ref m), (1, .int j), (2, .int i), (3, .int q), (4, .int a), (5, .int b), (6, .int i6)]) (fun (i6 : Int32) (k : Nat) (g48 : Nat → Int64) => [(m, .inr (10, mF R v0 v7 v8 v9 v15 v16 v17 v18 v19 v27 v31 v32 v33 v34 v38 v42 v44)), ((R 46), .inl (Y 0, 6, .inl a46)), ((R 47), .inl (Y 0, 6, .inl a47)), ((R 48), .inl (Y 1, 360, .inr (.inl g48))), ((R 49), .inl (Y 1, 60, .inr (.inl g49)))]) (fun i6 k g48 hI_150 ih_150 => ?_) (0 : Int32) 0 a48 ?_) rfl rfl rfl rfl
                              · obtain ⟨ti6, hk2, hg2⟩ := hI_150
                                refine V_to (ls' := [(0, .ref m), (1, .int j), (2, .int i), (3, .int q), (4, .int a), (5, .int b), (6, .int i6)]) (ws' := [(m, .inr (10, mF R v0 v7 v8 v9 v15 v16 v17 v18 v19 v27 v31 v32 v33 v34 v38 v42 v44)), ((R 46), .inl (Y 0, 6, .inl a46)), ((R 47), .inl (Y 0, 6, .inl a47)), ((R 48), .inl (Y 1, 360, .inr (.inl g48))), ((R 49), .inl (Y 1, 60, .inr (.inl g49)))]) ?_ rfl rfl rfl rfl
                                refine V_iload X 6 rfl dX11_shift_150 ?_
                                refine V_iload X 5 rfl dX11_shift_152 ?_
                                refine V_icmp_ge X ti6 tkb 185 dX11_shift_154 (by decide) (fun c_154 => ?_) (fun c_154 => ?_)
                                · refine V_iload X 5 rfl dX11_shift_185 ?_
                                  exact V_iret X hr dX11_shift_187 (Or.inr (Or.inr (Or.inr (Or.inr (⟨ki, ka, kb, g48, g49, rfl, rfl, (by omega), (by omega), tki, tka, tkb, (by omega), (by omega), (fun j => by rw [hg2 j, show k = kb by omega])⟩)))))
                                · refine V_aload_n X 0 rfl dX11_shift_157 ?_
                                  refine V_get (C := RX11) (T := TX11) (N := 50) (ci := 10) (v := .ref (R 48)) X in_X11_shift_X11 0 rfl rfl 48 (by decide) (List.mem_of_getElem? (i := 4) rfl) rfl rfl dX11_shift_158 ?_
                                  refine V_bipush (v := (60 : Int32)) X (by decide) dX11_shift_161 ?_
                                  refine V_iload_n X 3 rfl dX11_shift_163 ?_
                                  refine V_imulZ X (show (60 : Int32).toInt = 60 from by decide) hq9 (by omega) (by omega) dX11_shift_164 (fun x_11 ex_11 tx_11 => ?_)
                                  have tx_11 : x_11.toInt = (((60 * hb_) : Nat) : Int) := by omega
                                  refine V_iload X 4 rfl dX11_shift_165 ?_
                                  refine V_iaddZ X tx_11 tka (by omega) (by omega) dX11_shift_167 (fun x_12 ex_12 tx_12 => ?_)
                                  have tx_12 : x_12.toInt = ((((60 * hb_) + ka) : Nat) : Int) := by omega
                                  refine V_iload X 6 rfl dX11_shift_168 ?_
                                  refine V_iaddZ X tx_12 ti6 (by omega) (by omega) dX11_shift_170 (fun x_13 ex_13 tx_13 => ?_)
                                  have tx_13 : x_13.toInt = (((((60 * hb_) + ka) + k) : Nat) : Int) := by omega
                                  refine V_aload_n X 0 rfl dX11_shift_171 ?_
                                  refine V_get (C := RX11) (T := TX11) (N := 50) (ci := 10) (v := .ref (R 49)) X in_X11_shift_X11 0 rfl rfl 49 (by decide) (List.mem_of_getElem? (i := 3) rfl) rfl rfl dX11_shift_172 ?_
                                  refine V_iload X 6 rfl dX11_shift_175 ?_
                                  refine V_lald X 4 k rfl ti6 (by omega) dX11_shift_177 ?_
                                  refine V_last (ws' := [(m, .inr (10, mF R v0 v7 v8 v9 v15 v16 v17 v18 v19 v27 v31 v32 v33 v34 v38 v42 v44)), ((R 46), .inl (Y 0, 6, .inl a46)), ((R 47), .inl (Y 0, 6, .inl a47)), ((R 48), .inl (Y 1, 360, .inr (.inl (vp_updL g48 (((60 * hb_) + ka) + k) (g49 k))))), ((R 49), .inl (Y 1, 60, .inr (.inl g49)))]) X 3 (((60 * hb_) + ka) + k) rfl tx_13 (by omega) rfl dX11_shift_178 ?_
                                  refine V_iincZ X (fun vv_ => [(6, .int vv_), (0, .ref m), (1, .int j), (2, .int i), (3, .int q), (4, .int a), (5, .int b)]) ti6 (by omega) (by omega) (by decide) 6 rfl (by decide) (fun _ => rfl) dX11_shift_179 (fun x_14 ex_14 tx_14 => ?_)
                                  have tx_14 : x_14.toInt = (((k + 1) : Nat) : Int) := by omega
                                  refine V_goto X 150 (by decide) dX11_shift_182 ?_
                                  refine V_ls (ls' := [(0, .ref m), (1, .int j), (2, .int i), (3, .int q), (4, .int a), (5, .int b), (6, .int x_14)]) [1, 2, 3, 4, 5, 6, 0] rfl ?_
                                  exact V_to (ih_150 x_14 (k + 1) (vp_updL g48 (((60 * hb_) + ka) + k) (g49 k)) ⟨(by omega), (by omega), (fun j => by unfold vp_updL; by_cases e : j = 60 * hb_ + ka + k; (rw [if_pos e, if_pos (by omega), hg k (by omega)]; congr 1; omega); (rw [if_neg e, hg2 j]; by_cases c : 60 * hb_ + ka ≤ j ∧ j < 60 * hb_ + ka + k; (rw [if_pos c, if_pos (by omega)]); (rw [if_neg c, if_neg (by omega)])))⟩ (by omega)) rfl rfl rfl rfl
                              · exact ⟨(by have h9 : (0 : Int32).toInt = 0 := (show (0 : Int32).toInt = 0 from by decide); omega), (by omega), (fun j => by rw [if_neg (by omega)])⟩
                            · refine V_aload_n X 0 rfl dX11_shift_120 ?_
                              refine V_get (C := RX11) (T := TX11) (N := 50) (ci := 10) (v := .ref (R 49)) X in_X11_shift_X11 0 rfl rfl 49 (by decide) (List.mem_of_getElem? (i := 3) rfl) rfl rfl dX11_shift_121 ?_
                              refine V_iload X 6 rfl dX11_shift_124 ?_
                              refine V_aload_n X 0 rfl dX11_shift_126 ?_
                              refine V_get (C := RX11) (T := TX11) (N := 50) (ci := 10) (v := .ref (R 48)) X in_X11_shift_X11 0 rfl rfl 48 (by decide) (List.mem_of_getElem? (i := 4) rfl) rfl rfl dX11_shift_127 ?_
                              refine V_bipush (v := (60 : Int32)) X (by decide) dX11_shift_130 ?_
                              refine V_iload_n X 1 rfl dX11_shift_132 ?_
                              refine V_imulZ X (show (60 : Int32).toInt = 60 from by decide) hj9 (by omega) (by omega) dX11_shift_133 (fun x_15 ex_15 tx_15 => ?_)
                              have tx_15 : x_15.toInt = (((60 * h0) : Nat) : Int) := by omega
                              refine V_iload_n X 2 rfl dX11_shift_134 ?_
                              refine V_iaddZ X tx_15 tki (by omega) (by omega) dX11_shift_135 (fun x_16 ex_16 tx_16 => ?_)
                              have tx_16 : x_16.toInt = ((((60 * h0) + ki) : Nat) : Int) := by omega
                              refine V_iload X 6 rfl dX11_shift_136 ?_
                              refine V_iaddZ X tx_16 ti6 (by omega) (by omega) dX11_shift_138 (fun x_17 ex_17 tx_17 => ?_)
                              have tx_17 : x_17.toInt = (((((60 * h0) + ki) + k) : Nat) : Int) := by omega
                              refine V_lald X 3 (((60 * h0) + ki) + k) rfl tx_17 (by omega) dX11_shift_139 ?_
                              refine V_last (ws' := [(m, .inr (10, mF R v0 v7 v8 v9 v15 v16 v17 v18 v19 v27 v31 v32 v33 v34 v38 v42 v44)), ((R 46), .inl (Y 0, 6, .inl a46)), ((R 47), .inl (Y 0, 6, .inl a47)), ((R 48), .inl (Y 1, 360, .inr (.inl a48))), ((R 49), .inl (Y 1, 60, .inr (.inl (vp_updL g49 k (a48 (((60 * h0) + ki) + k))))))]) X 4 k rfl ti6 (by omega) rfl dX11_shift_140 ?_
                              refine V_iincZ X (fun vv_ => [(6, .int vv_), (0, .ref m), (1, .int j), (2, .int i), (3, .int q), (4, .int a), (5, .int b)]) ti6 (by omega) (by omega) (by decide) 6 rfl (by decide) (fun _ => rfl) dX11_shift_141 (fun x_18 ex_18 tx_18 => ?_)
                              have tx_18 : x_18.toInt = (((k + 1) : Nat) : Int) := by omega
                              refine V_goto X 113 (by decide) dX11_shift_144 ?_
                              refine V_ls (ls' := [(0, .ref m), (1, .int j), (2, .int i), (3, .int q), (4, .int a), (5, .int b), (6, .int x_18)]) [1, 2, 3, 4, 5, 6, 0] rfl ?_
                              exact V_to (ih_113 x_18 (k + 1) (vp_updL g49 k (a48 (((60 * h0) + ki) + k))) ⟨(by omega), (by omega), (fun j hj => by unfold vp_updL; by_cases e : j = k; (rw [if_pos e, e]); (rw [if_neg e]; exact hg j (by omega)))⟩ (by omega)) rfl rfl rfl rfl
                          · exact ⟨(by have h9 : (0 : Int32).toInt = 0 := (show (0 : Int32).toInt = 0 from by decide); omega), (by omega), (fun j hj => absurd hj (Nat.not_lt_zero j))⟩
                      · refine V_bipush (v := (-13 : Int32)) X (by decide) dX11_shift_107 ?_
                        exact V_iret X hr dX11_shift_109 (Or.inr (Or.inr (Or.inr (Or.inl ⟨rfl, rfl, (by omega), (by omega), (by omega)⟩))))
            · refine V_bipush (v := (-12 : Int32)) X (by decide) dX11_shift_63 ?_
              exact V_iret X hr dX11_shift_65 (Or.inr (Or.inr (Or.inl ⟨rfl, rfl, (by omega), (by omega), (by omega)⟩)))
        · refine V_bipush (v := (-11 : Int32)) X (by decide) dX11_shift_36 ?_
          exact V_iret X hr dX11_shift_38 (Or.inr (Or.inl ⟨rfl, rfl, (by omega), (by omega)⟩))
    · refine V_to (pc' := 11) (ls' := [(0, .ref m), (1, .int j), (2, .int i), (3, .int q), (4, .int a), (5, .int b)]) (st' := [.int (0 : Int32)]) (ws' := [(m, .inr (10, mF R v0 v7 v8 v9 v15 v16 v17 v18 v19 v27 v31 v32 v33 v34 v38 v42 v44)), ((R 46), .inl (Y 0, 6, .inl a46)), ((R 47), .inl (Y 0, 6, .inl a47)), ((R 48), .inl (Y 1, 360, .inr (.inl a48))), ((R 49), .inl (Y 1, 60, .inr (.inl a49)))]) ?_ rfl rfl rfl rfl
      refine V_if_ne X (show (0 : Int32).toInt = 0 from by decide) 16 dX11_shift_11 (by decide) (fun c_11 => absurd c_11 (by decide)) (fun _ => ?_)
      refine V_iconst (v := (-1 : Int32)) X (by decide) dX11_shift_14 ?_
      exact V_iret X hr dX11_shift_15 (Or.inl ⟨rfl, rfl, (by omega)⟩)
  · refine V_to (pc' := 4) (ls' := [(0, .ref m), (1, .int j), (2, .int i), (3, .int q), (4, .int a), (5, .int b)]) (st' := [.int (0 : Int32)]) (ws' := [(m, .inr (10, mF R v0 v7 v8 v9 v15 v16 v17 v18 v19 v27 v31 v32 v33 v34 v38 v42 v44)), ((R 46), .inl (Y 0, 6, .inl a46)), ((R 47), .inl (Y 0, 6, .inl a47)), ((R 48), .inl (Y 1, 360, .inr (.inl a48))), ((R 49), .inl (Y 1, 60, .inr (.inl a49)))]) ?_ rfl rfl rfl rfl
    refine V_if_eq X (show (0 : Int32).toInt = 0 from by decide) 14 dX11_shift_4 (by decide) (fun _ => ?_) (fun c_4 => absurd c_4 (by decide))
    refine V_iconst (v := (-1 : Int32)) X (by decide) dX11_shift_14 ?_
    exact V_iret X hr dX11_shift_15 (Or.inl ⟨rfl, rfl, (by omega)⟩)

theorem in_X11_taken_X11 : ∀ w ∈ wsX110, w ∈ wsX11_taken := fun w h => List.mem_cons_of_mem _ (List.mem_append_right _ h)
set_option maxHeartbeats 4000000 in
set_option maxRecDepth 100000 in
theorem c_X11_taken (l : Launch) (D : va_G) (Y : Nat → ClassId) (m : Nat) (R : Nat → Nat) (v0 : Int32) (v7 : Int32) (v8 : Int32) (v9 : Int32) (v15 : Int32) (v16 : Int32) (v17 : Int32) (v18 : Int32) (v19 : Int32) (v27 : Int32) (v31 : Int32) (v32 : Int32) (v33 : Int32) (v34 : Int32) (v38 : Int32) (v42 : Int32) (v44 : Int32) (a43 : Nat → Int32) (a46 : Nat → Int32) (h0 : Nat) (bn : Nat) (K : Nat) (j : Int32) (i : Int32) (hho : 0 ≤ j.toInt → j.toInt < 6 → j.toInt = ((h0 : Nat) : Int)) (hh0 : h0 < 6) (hbd : 0 ≤ (a46 h0).toInt → (a46 h0).toInt = ((bn : Nat) : Int) ∧ bn < 50 ∧ (a43 bn).toInt = ((K : Nat) : Int)) (hK8 : K < 8) : Mg l yX11_taken wsX11_taken ({ frames := 2, cells := 0, slots := 0, locals := 42 }) D Y [(m, .inr (10, mF R v0 v7 v8 v9 v15 v16 v17 v18 v19 v27 v31 v32 v33 v34 v38 v42 v44)), ((R 43), .inl (Y 0, 50, .inl a43)), ((R 46), .inl (Y 0, 6, .inl a46))] [.ref m, .int j, .int i] 0 0 (fun vv__ ww__ => (vv__ = some (.int (-1 : Int32)) ∧ ww__ = [(m, .inr (10, mF R v0 v7 v8 v9 v15 v16 v17 v18 v19 v27 v31 v32 v33 v34 v38 v42 v44)), ((R 43), .inl (Y 0, 50, .inl a43)), ((R 46), .inl (Y 0, 6, .inl a46))] ∧ (¬ (0 ≤ j.toInt ∧ j.toInt < 6 ∧ 0 ≤ i.toInt ∧ i.toInt < 8))) ∨ (vv__ = some (.int (-11 : Int32)) ∧ ww__ = [(m, .inr (10, mF R v0 v7 v8 v9 v15 v16 v17 v18 v19 v27 v31 v32 v33 v34 v38 v42 v44)), ((R 43), .inl (Y 0, 50, .inl a43)), ((R 46), .inl (Y 0, 6, .inl a46))] ∧ (j.toInt = ((h0 : Nat) : Int)) ∧ ((a46 h0).toInt = -1)) ∨ (vv__ = some (.int (-12 : Int32)) ∧ ww__ = [(m, .inr (10, mF R v0 v7 v8 v9 v15 v16 v17 v18 v19 v27 v31 v32 v33 v34 v38 v42 v44)), ((R 43), .inl (Y 0, 50, .inl a43)), ((R 46), .inl (Y 0, 6, .inl a46))] ∧ (j.toInt = ((h0 : Nat) : Int)) ∧ ((a46 h0).toInt < -1)) ∨ (∃ (r : Int32), ∃ (an : Nat), vv__ = some (.int r) ∧ ww__ = [(m, .inr (10, mF R v0 v7 v8 v9 v15 v16 v17 v18 v19 v27 v31 v32 v33 v34 v38 v42 v44)), ((R 43), .inl (Y 0, 50, .inl a43)), ((R 46), .inl (Y 0, 6, .inl a46))] ∧ (j.toInt = ((h0 : Nat) : Int)) ∧ (0 ≤ (a46 h0).toInt) ∧ (i.toInt = ((an : Nat) : Int)) ∧ (an = 0 ∨ K = an ∨ (an = 1 ∧ K = 4) ∨ (an = 2 ∧ (K = 3 ∨ K = 5)) ∨ (an = 3 ∧ K = 5) ∨ (an = 6 ∧ K = 7)) ∧ (r.toInt = ((K : Nat) : Int))) ∨ (∃ (an : Nat), vv__ = some (.int (-12 : Int32)) ∧ ww__ = [(m, .inr (10, mF R v0 v7 v8 v9 v15 v16 v17 v18 v19 v27 v31 v32 v33 v34 v38 v42 v44)), ((R 43), .inl (Y 0, 50, .inl a43)), ((R 46), .inl (Y 0, 6, .inl a46))] ∧ (j.toInt = ((h0 : Nat) : Int)) ∧ (0 ≤ (a46 h0).toInt) ∧ (i.toInt = ((an : Nat) : Int)) ∧ (¬ (an = 0 ∨ K = an ∨ (an = 1 ∧ K = 4) ∨ (an = 2 ∧ (K = 3 ∨ K = 5)) ∨ (an = 3 ∧ K = 5) ∨ (an = 6 ∧ K = 7))))) := by
  refine Mg_of (cc := cX11_taken) (maxL := 3) (ret := (some .int)) (ls0 := [(0, .ref m), (1, .int j), (2, .int i)]) RX11 (by decide) rfl rfl rfl (Nat.le_of_ble_eq_true rfl) (fun p__ e__ s__ m__ b__ t__ c__ X hr hn => ?_)
  refine V_iload_n X 1 rfl dX11_taken_0 ?_
  refine V_callS (wr := [(m, .inr (10, mF R v0 v7 v8 v9 v15 v16 v17 v18 v19 v27 v31 v32 v33 v34 v38 v42 v44)), ((R 43), .inl (Y 0, 50, .inl a43)), ((R 46), .inl (Y 0, 6, .inl a46))]) (st := []) X (c_X11_isShelf l D Y j) 1 gX11_taken_X11_isShelf rfl (by decide +kernel) ⟨rfl, rfl⟩ ⟨Nat.le_of_ble_eq_true rfl, Nat.le_of_ble_eq_true rfl⟩ [] [0, 1, 2] rfl rfl rfl rfl (by decide) rfl rfl (Nat.le_of_ble_eq_true rfl) ⟨Nat.le_of_ble_eq_true rfl, Nat.le_of_ble_eq_true rfl⟩ dX11_taken_1 (fun v_1 w_1 h_1 => ?_)
  rcases h_1 with ⟨rfl, rfl, hhy_2⟩ | ⟨rfl, rfl, hhn_3⟩
  · refine V_to (pc' := 4) (ls' := [(0, .ref m), (1, .int j), (2, .int i)]) (st' := [.int (1 : Int32)]) (ws' := [(m, .inr (10, mF R v0 v7 v8 v9 v15 v16 v17 v18 v19 v27 v31 v32 v33 v34 v38 v42 v44)), ((R 43), .inl (Y 0, 50, .inl a43)), ((R 46), .inl (Y 0, 6, .inl a46))]) ?_ rfl rfl rfl rfl
    refine V_if_eq X (show (1 : Int32).toInt = 1 from by decide) 17 dX11_taken_4 (by decide) (fun c_4 => absurd c_4 (by decide)) (fun _ => ?_)
    refine V_iload_n X 2 rfl dX11_taken_7 ?_
    refine V_iconst (v := (0 : Int32)) X (by decide) dX11_taken_8 ?_
    refine V_bipush (v := (7 : Int32)) X (by decide) dX11_taken_9 ?_
    refine V_callS (wr := [(m, .inr (10, mF R v0 v7 v8 v9 v15 v16 v17 v18 v19 v27 v31 v32 v33 v34 v38 v42 v44)), ((R 43), .inl (Y 0, 50, .inl a43)), ((R 46), .inl (Y 0, 6, .inl a46))]) (st := []) X (c_X11_in l D Y i (0 : Int32) (7 : Int32)) 3 gX11_taken_X11_in rfl (by decide +kernel) ⟨rfl, rfl⟩ ⟨Nat.le_of_ble_eq_true rfl, Nat.le_of_ble_eq_true rfl⟩ [] [0, 1, 2] rfl rfl rfl rfl (by decide) rfl rfl (Nat.le_of_ble_eq_true rfl) ⟨Nat.le_of_ble_eq_true rfl, Nat.le_of_ble_eq_true rfl⟩ dX11_taken_11 (fun v_11 w_11 h_11 => ?_)
    rcases h_11 with ⟨rfl, rfl, hhy_5⟩ | ⟨rfl, rfl, hhn_6⟩
    · refine V_to (pc' := 14) (ls' := [(0, .ref m), (1, .int j), (2, .int i)]) (st' := [.int (1 : Int32)]) (ws' := [(m, .inr (10, mF R v0 v7 v8 v9 v15 v16 v17 v18 v19 v27 v31 v32 v33 v34 v38 v42 v44)), ((R 43), .inl (Y 0, 50, .inl a43)), ((R 46), .inl (Y 0, 6, .inl a46))]) ?_ rfl rfl rfl rfl
      have hc_0 : (0 : Int32).toInt = 0 := by decide
      have hc_7 : (7 : Int32).toInt = 7 := by decide
      refine V_if_ne X (show (1 : Int32).toInt = 1 from by decide) 19 dX11_taken_14 (by decide) (fun _ => ?_) (fun c_14 => absurd c_14 (by decide))
      refine V_aload_n X 0 rfl dX11_taken_19 ?_
      refine V_get (C := RX11) (T := TX11) (N := 50) (ci := 10) (v := .ref (R 46)) X in_X11_taken_X11 0 rfl rfl 46 (by decide) (List.mem_of_getElem? (i := 1) rfl) rfl rfl dX11_taken_20 ?_
      refine V_iload_n X 1 rfl dX11_taken_23 ?_
      refine V_iald X 2 h0 rfl (by omega) (by omega) dX11_taken_24 ?_
      refine V_iconst (v := (-1 : Int32)) X (by decide) dX11_taken_25 ?_
      refine V_icmp_ne X rfl (show (-1 : Int32).toInt = (-1) from by decide) 32 dX11_taken_26 (by decide) (fun c_26 => ?_) (fun c_26 => ?_)
      · refine V_aload_n X 0 rfl dX11_taken_32 ?_
        refine V_get (C := RX11) (T := TX11) (N := 50) (ci := 10) (v := .ref (R 46)) X in_X11_taken_X11 0 rfl rfl 46 (by decide) (List.mem_of_getElem? (i := 1) rfl) rfl rfl dX11_taken_33 ?_
        refine V_iload_n X 1 rfl dX11_taken_36 ?_
        refine V_iald X 2 h0 rfl (by omega) (by omega) dX11_taken_37 ?_
        refine V_if_lt X rfl 73 dX11_taken_38 (by decide) (fun c_38 => ?_) (fun c_38 => ?_)
        · refine V_bipush (v := (-12 : Int32)) X (by decide) dX11_taken_73 ?_
          exact V_iret X hr dX11_taken_75 (Or.inr (Or.inr (Or.inl ⟨rfl, rfl, (by omega), (by omega)⟩)))
        · obtain ⟨hb1, hb2, hb3⟩ := hbd c_38; obtain ⟨an, tan⟩ : ∃ an : Nat, i.toInt = ((an : Nat) : Int) := ⟨i.toInt.toNat, by omega⟩
          · refine V_aload_n X 0 rfl dX11_taken_41 ?_
            refine V_get (C := RX11) (T := TX11) (N := 50) (ci := 10) (v := .ref (R 43)) X in_X11_taken_X11 0 rfl rfl 43 (by decide) (List.mem_of_getElem? (i := 2) rfl) rfl rfl dX11_taken_42 ?_
            refine V_aload_n X 0 rfl dX11_taken_45 ?_
            refine V_get (C := RX11) (T := TX11) (N := 50) (ci := 10) (v := .ref (R 46)) X in_X11_taken_X11 0 rfl rfl 46 (by decide) (List.mem_of_getElem? (i := 1) rfl) rfl rfl dX11_taken_46 ?_
            refine V_iload_n X 1 rfl dX11_taken_49 ?_
            refine V_iald X 2 h0 rfl (by omega) (by omega) dX11_taken_50 ?_
            refine V_nm (fun x_7 ex_7 => ?_)
            have tx_7 : x_7.toInt = ((bn : Nat) : Int) := by rw [ex_7]; exact hb1
            refine V_iald X 1 bn rfl tx_7 (by omega) dX11_taken_51 ?_
            refine V_nm (fun x_8 ex_8 => ?_)
            have tx_8 : x_8.toInt = ((K : Nat) : Int) := by rw [ex_8]; exact hb3
            refine V_iload_n X 2 rfl dX11_taken_52 ?_
            refine V_callS (wr := [(m, .inr (10, mF R v0 v7 v8 v9 v15 v16 v17 v18 v19 v27 v31 v32 v33 v34 v38 v42 v44)), ((R 43), .inl (Y 0, 50, .inl a43)), ((R 46), .inl (Y 0, 6, .inl a46))]) (st := []) X (c_X11_isUnder l D Y x_8 K i an tx_8 tan) 2 gX11_taken_X11_isUnder rfl (by decide +kernel) ⟨rfl, rfl⟩ ⟨Nat.le_of_ble_eq_true rfl, Nat.le_of_ble_eq_true rfl⟩ [] [0, 1, 2] rfl rfl rfl rfl (by decide) rfl rfl (Nat.le_of_ble_eq_true rfl) ⟨Nat.le_of_ble_eq_true rfl, Nat.le_of_ble_eq_true rfl⟩ dX11_taken_53 (fun v_53 w_53 h_53 => ?_)
            rcases h_53 with ⟨rfl, rfl, hhy_10⟩ | ⟨rfl, rfl, hhn_11⟩
            · refine V_to (pc' := 56) (ls' := [(0, .ref m), (1, .int j), (2, .int i)]) (st' := [.int (1 : Int32)]) (ws' := [(m, .inr (10, mF R v0 v7 v8 v9 v15 v16 v17 v18 v19 v27 v31 v32 v33 v34 v38 v42 v44)), ((R 43), .inl (Y 0, 50, .inl a43)), ((R 46), .inl (Y 0, 6, .inl a46))]) ?_ rfl rfl rfl rfl
              refine V_if_eq X (show (1 : Int32).toInt = 1 from by decide) 73 dX11_taken_56 (by decide) (fun c_56 => absurd c_56 (by decide)) (fun _ => ?_)
              refine V_aload_n X 0 rfl dX11_taken_59 ?_
              refine V_get (C := RX11) (T := TX11) (N := 50) (ci := 10) (v := .ref (R 43)) X in_X11_taken_X11 0 rfl rfl 43 (by decide) (List.mem_of_getElem? (i := 2) rfl) rfl rfl dX11_taken_60 ?_
              refine V_aload_n X 0 rfl dX11_taken_63 ?_
              refine V_get (C := RX11) (T := TX11) (N := 50) (ci := 10) (v := .ref (R 46)) X in_X11_taken_X11 0 rfl rfl 46 (by decide) (List.mem_of_getElem? (i := 1) rfl) rfl rfl dX11_taken_64 ?_
              refine V_iload_n X 1 rfl dX11_taken_67 ?_
              refine V_iald X 2 h0 rfl (by omega) (by omega) dX11_taken_68 ?_
              refine V_nm (fun x_12 ex_12 => ?_)
              have tx_12 : x_12.toInt = ((bn : Nat) : Int) := by rw [ex_12]; exact hb1
              refine V_iald X 1 bn rfl tx_12 (by omega) dX11_taken_69 ?_
              refine V_nm (fun x_13 ex_13 => ?_)
              have tx_13 : x_13.toInt = ((K : Nat) : Int) := by rw [ex_13]; exact hb3
              refine V_goto X 75 (by decide) dX11_taken_70 ?_
              exact V_iret X hr dX11_taken_75 (Or.inr (Or.inr (Or.inr (Or.inl ⟨x_13, an, rfl, rfl, (by omega), c_38, tan, hhy_10, (by omega)⟩))))
            · refine V_to (pc' := 56) (ls' := [(0, .ref m), (1, .int j), (2, .int i)]) (st' := [.int (0 : Int32)]) (ws' := [(m, .inr (10, mF R v0 v7 v8 v9 v15 v16 v17 v18 v19 v27 v31 v32 v33 v34 v38 v42 v44)), ((R 43), .inl (Y 0, 50, .inl a43)), ((R 46), .inl (Y 0, 6, .inl a46))]) ?_ rfl rfl rfl rfl
              refine V_if_eq X (show (0 : Int32).toInt = 0 from by decide) 73 dX11_taken_56 (by decide) (fun _ => ?_) (fun c_56 => absurd c_56 (by decide))
              refine V_bipush (v := (-12 : Int32)) X (by decide) dX11_taken_73 ?_
              exact V_iret X hr dX11_taken_75 (Or.inr (Or.inr (Or.inr (Or.inr (⟨an, rfl, rfl, (by omega), c_38, tan, hhn_11⟩)))))
      · refine V_bipush (v := (-11 : Int32)) X (by decide) dX11_taken_29 ?_
        exact V_iret X hr dX11_taken_31 (Or.inr (Or.inl ⟨rfl, rfl, (by omega), (by omega)⟩))
    · refine V_to (pc' := 14) (ls' := [(0, .ref m), (1, .int j), (2, .int i)]) (st' := [.int (0 : Int32)]) (ws' := [(m, .inr (10, mF R v0 v7 v8 v9 v15 v16 v17 v18 v19 v27 v31 v32 v33 v34 v38 v42 v44)), ((R 43), .inl (Y 0, 50, .inl a43)), ((R 46), .inl (Y 0, 6, .inl a46))]) ?_ rfl rfl rfl rfl
      have hc_0 : (0 : Int32).toInt = 0 := by decide
      have hc_7 : (7 : Int32).toInt = 7 := by decide
      refine V_if_ne X (show (0 : Int32).toInt = 0 from by decide) 19 dX11_taken_14 (by decide) (fun c_14 => absurd c_14 (by decide)) (fun _ => ?_)
      refine V_iconst (v := (-1 : Int32)) X (by decide) dX11_taken_17 ?_
      exact V_iret X hr dX11_taken_18 (Or.inl ⟨rfl, rfl, (by omega)⟩)
  · refine V_to (pc' := 4) (ls' := [(0, .ref m), (1, .int j), (2, .int i)]) (st' := [.int (0 : Int32)]) (ws' := [(m, .inr (10, mF R v0 v7 v8 v9 v15 v16 v17 v18 v19 v27 v31 v32 v33 v34 v38 v42 v44)), ((R 43), .inl (Y 0, 50, .inl a43)), ((R 46), .inl (Y 0, 6, .inl a46))]) ?_ rfl rfl rfl rfl
    refine V_if_eq X (show (0 : Int32).toInt = 0 from by decide) 17 dX11_taken_4 (by decide) (fun _ => ?_) (fun c_4 => absurd c_4 (by decide))
    refine V_iconst (v := (-1 : Int32)) X (by decide) dX11_taken_17 ?_
    exact V_iret X hr dX11_taken_18 (Or.inl ⟨rfl, rfl, (by omega)⟩)
