
/-! ===== the reference: LINES FROM A ROW ===== -/
theorem l_sp (a : Int32) : a.toInt < 0 ∨ ∃ an : Nat, a.toInt = ((an : Nat) : Int) := by
  rcases (by omega : a.toInt < 0 ∨ 0 ≤ a.toInt) with h | h
  · exact Or.inl h
  · exact Or.inr ⟨a.toInt.toNat, by omega⟩
theorem L_bm {z : Int} (h1 : -9223372036854775808 ≤ z) (h2 : z < 9223372036854775808) : z.bmod (2 ^ 64) = z := by rw [Int.bmod_eq_of_le (by omega) (by omega)]
theorem l_at {x y : Int32} {p q r : Int64} (hp : p = x.toInt64) (hq : q = y.toInt64) (hr : r = p + q) : r.toInt = x.toInt + y.toInt := by
  have h1 := tI_bd x
  have h2 := tI_bd y
  rw [hr, hp, hq, Int64.toInt_add, Int32.toInt_toInt64, Int32.toInt_toInt64, L_bm (by omega) (by omega)]
theorem l_ad {p q r : Int64} {a b : Int} (hp : p.toInt = a) (hq : q.toInt = b) (hr : r = p + q) (h1 : -9223372036854775808 ≤ a + b) (h2 : a + b < 9223372036854775808) : r.toInt = a + b := by
  rw [hr, Int64.toInt_add, hp, hq, L_bm h1 h2]
theorem lcmp_lt {x y : Int64} {r : Int32} (h : r = lg_cmp x y) : r.toInt < 0 ↔ x.toInt < y.toInt := by
  subst h; unfold lg_cmp
  by_cases h1 : x > y
  · rw [if_pos h1]
    have := Int64.lt_iff_toInt_lt.mp h1
    exact ⟨fun q => absurd q (by decide), fun q => by omega⟩
  · rw [if_neg h1]
    by_cases h2 : x = y
    · rw [if_pos h2, h2]; exact ⟨fun q => absurd q (by decide), fun q => absurd q (by omega)⟩
    · rw [if_neg h2]
      have h3 : ¬ y.toInt < x.toInt := fun q => h1 (Int64.lt_iff_toInt_lt.mpr q)
      have h4 : x.toInt ≠ y.toInt := fun q => h2 (Int64.toInt_inj.mp q)
      exact ⟨fun _ => by omega, fun _ => by decide⟩
theorem l_i {p : Int64} {x : Int32} {a : Int} (h : x = p.toInt32) (hp : p.toInt = a) (h0 : 0 ≤ a) (h1 : a < 2147483648) : x.toInt = a := by
  rw [h, Int64.toInt_toInt32, hp, Int.bmod_eq_of_le (by omega) (by omega)]
theorem LN_add {f : Nat → Int32} {n : Nat → Nat} {s c : Nat} {z : Int32} (h : LNR f (upS n s c)) (hc : c < 12) (hz : z.toInt = ((upS n s c s + 1 : Nat) : Int)) : LNR (upd f s z) (upS n s (c + 1)) := by
  intro t ht
  have h1 := h t ht
  rw [upS_eq] at hz
  by_cases e : t = s
  · subst e; rw [upS_eq]; unfold upd; rw [if_pos rfl]; exact ⟨hz, by omega⟩
  · rw [upS_ne e] at h1 ⊢; unfold upd; rw [if_neg e]; exact h1
theorem MT_add {g2 g3 g4 : Nat → Int32} {T : Nat → Nat → Nat} {X : Nat → Nat} {s c c' : Nat} {x y z : Int32} {a b d : Int} (h : MTR g2 g3 g4 (upS T s X)) (hc : c < 12) (hc' : c' = c) (hx : x.toInt = a) (hy : y.toInt = b) (hz : z.toInt = d) (h1 : 0 ≤ a ∧ a < 8) (h2 : 0 ≤ b ∧ b < 8) (h3 : 0 ≤ d ∧ d < 8) : MTR (upd g2 (12 * s + c') x) (upd g3 (12 * s + c') y) (upd g4 (12 * s + c') z) (upS T s (up3 X c a.toNat b.toNat d.toNat)) := by
  subst hc'
  intro t ht l hl
  have h4 := h t ht l hl
  by_cases e : t = s
  · subst e
    rw [upS_eq] at h4 ⊢
    unfold upd up3 upN
    by_cases q : l = c'
    · subst q
      rw [if_pos rfl, if_pos rfl, if_pos rfl, if_neg (by omega), if_neg (by omega), if_pos rfl, if_neg (by omega), if_pos rfl, if_pos rfl]
      exact ⟨⟨by omega, by omega⟩, ⟨by omega, by omega⟩, ⟨by omega, by omega⟩⟩
    · rw [if_neg (by omega), if_neg (by omega), if_neg (by omega), if_neg (by omega), if_neg (by omega), if_neg (by omega), if_neg (by omega), if_neg (by omega), if_neg (by omega), if_neg (by omega), if_neg (by omega), if_neg (by omega)]
      exact h4
  · rw [upS_ne e] at h4 ⊢
    unfold upd
    rw [if_neg (by omega), if_neg (by omega), if_neg (by omega)]; exact h4
theorem in_X11_lines_X11 : ∀ w ∈ wsX110, w ∈ wsX11_lines := fun w h => List.mem_cons_of_mem _ (List.mem_append_right _ h)
set_option maxHeartbeats 4000000 in
set_option maxRecDepth 100000 in
theorem c_X11_lines (l : Launch) (D : va_G) (Y : Nat → ClassId) (m : Nat) (R : Nat → Nat) (v0 : Int32) (v7 : Int32) (v8 : Int32) (v9 : Int32) (v15 : Int32) (v16 : Int32) (v17 : Int32) (v18 : Int32) (v19 : Int32) (v27 : Int32) (v31 : Int32) (v32 : Int32) (v33 : Int32) (v34 : Int32) (v38 : Int32) (v42 : Int32) (v44 : Int32) (a1 : Nat → Int32) (a2 : Nat → Int32) (a3 : Nat → Int32) (a4 : Nat → Int32) (a46 : Nat → Int32) (a47 : Nat → Int32) (a48 : Nat → Int64) (n : Nat → Nat) (T : Nat → Nat → Nat) (s0 : Nat) (h0 : Nat) (m_ : Nat) (i : Int32) (j : Int32) (a : Int32) (w_ : Int32) (hLN : LNR a1 n) (hMT : MTR a2 a3 a4 T) (hs0 : s0 < 3) (hso : 0 ≤ i.toInt → i.toInt < 3 → i.toInt = ((s0 : Nat) : Int)) (hho : 0 ≤ j.toInt → j.toInt < 6 → j.toInt = ((h0 : Nat) : Int)) (hh0 : h0 < 6) (hsz : (a47 h0).toInt = ((m_ : Nat) : Int)) (hm : m_ ≤ 60) : Mg l yX11_lines wsX11_lines ({ frames := 2, cells := 0, slots := 0, locals := 42 }) D Y [(m, .inr (10, mF R v0 v7 v8 v9 v15 v16 v17 v18 v19 v27 v31 v32 v33 v34 v38 v42 v44)), ((R 1), .inl (Y 0, 3, .inl a1)), ((R 2), .inl (Y 0, 36, .inl a2)), ((R 3), .inl (Y 0, 36, .inl a3)), ((R 4), .inl (Y 0, 36, .inl a4)), ((R 46), .inl (Y 0, 6, .inl a46)), ((R 47), .inl (Y 0, 6, .inl a47)), ((R 48), .inl (Y 1, 360, .inr (.inl a48)))] [.ref m, .int i, .int j, .int a, .int w_] 0 0 (fun vv__ ww__ => (vv__ = some (.int (-1 : Int32)) ∧ ww__ = [(m, .inr (10, mF R v0 v7 v8 v9 v15 v16 v17 v18 v19 v27 v31 v32 v33 v34 v38 v42 v44)), ((R 1), .inl (Y 0, 3, .inl a1)), ((R 2), .inl (Y 0, 36, .inl a2)), ((R 3), .inl (Y 0, 36, .inl a3)), ((R 4), .inl (Y 0, 36, .inl a4)), ((R 46), .inl (Y 0, 6, .inl a46)), ((R 47), .inl (Y 0, 6, .inl a47)), ((R 48), .inl (Y 1, 360, .inr (.inl a48)))] ∧ (¬ (0 ≤ i.toInt ∧ i.toInt < 3 ∧ 0 ≤ j.toInt ∧ j.toInt < 6 ∧ 1 ≤ w_.toInt ∧ w_.toInt ≤ 12))) ∨ (vv__ = some (.int (-12 : Int32)) ∧ ww__ = [(m, .inr (10, mF R v0 v7 v8 v9 v15 v16 v17 v18 v19 v27 v31 v32 v33 v34 v38 v42 v44)), ((R 1), .inl (Y 0, 3, .inl a1)), ((R 2), .inl (Y 0, 36, .inl a2)), ((R 3), .inl (Y 0, 36, .inl a3)), ((R 4), .inl (Y 0, 36, .inl a4)), ((R 46), .inl (Y 0, 6, .inl a46)), ((R 47), .inl (Y 0, 6, .inl a47)), ((R 48), .inl (Y 1, 360, .inr (.inl a48)))] ∧ (0 ≤ i.toInt ∧ i.toInt = ((s0 : Nat) : Int) ∧ 0 ≤ j.toInt ∧ j.toInt = ((h0 : Nat) : Int) ∧ 1 ≤ w_.toInt ∧ w_.toInt ≤ 12) ∧ ((a46 h0).toInt ≠ -1 ∧ (a46 h0).toInt ≠ -2)) ∨ (vv__ = some (.int (0 : Int32)) ∧ ww__ = [(m, .inr (10, mF R v0 v7 v8 v9 v15 v16 v17 v18 v19 v27 v31 v32 v33 v34 v38 v42 v44)), ((R 1), .inl (Y 0, 3, .inl a1)), ((R 2), .inl (Y 0, 36, .inl a2)), ((R 3), .inl (Y 0, 36, .inl a3)), ((R 4), .inl (Y 0, 36, .inl a4)), ((R 46), .inl (Y 0, 6, .inl a46)), ((R 47), .inl (Y 0, 6, .inl a47)), ((R 48), .inl (Y 1, 360, .inr (.inl a48)))] ∧ (0 ≤ i.toInt ∧ i.toInt = ((s0 : Nat) : Int) ∧ 0 ≤ j.toInt ∧ j.toInt = ((h0 : Nat) : Int) ∧ 1 ≤ w_.toInt ∧ w_.toInt ≤ 12) ∧ ((a46 h0).toInt = -1 ∨ ((a46 h0).toInt = -2 ∧ a.toInt < 0))) ∨ (∃ (r : Int32), ∃ (b1 : Nat → Int32), ∃ (b2 : Nat → Int32), ∃ (b3 : Nat → Int32), ∃ (b4 : Nat → Int32), ∃ (an : Nat), ∃ (wn_ : Nat), ∃ (c_ : Nat), vv__ = some (.int r) ∧ ww__ = [(m, .inr (10, mF R v0 v7 v8 v9 v15 v16 v17 v18 v19 v27 v31 v32 v33 v34 v38 v42 v44)), ((R 1), .inl (Y 0, 3, .inl b1)), ((R 2), .inl (Y 0, 36, .inl b2)), ((R 3), .inl (Y 0, 36, .inl b3)), ((R 4), .inl (Y 0, 36, .inl b4)), ((R 46), .inl (Y 0, 6, .inl a46)), ((R 47), .inl (Y 0, 6, .inl a47)), ((R 48), .inl (Y 1, 360, .inr (.inl a48)))] ∧ (0 ≤ i.toInt ∧ i.toInt = ((s0 : Nat) : Int) ∧ 0 ≤ j.toInt ∧ j.toInt = ((h0 : Nat) : Int) ∧ 1 ≤ w_.toInt ∧ w_.toInt ≤ 12) ∧ ((a46 h0).toInt = -2) ∧ (a.toInt = ((an : Nat) : Int)) ∧ (w_.toInt = ((wn_ : Nat) : Int)) ∧ (LNc (vSh a48 h0) m_ an (n s0) wn_ c_) ∧ (r.toInt = ((c_ : Nat) : Int)) ∧ (LNR b1 (upS n s0 (n s0 + c_))) ∧ (MTR b2 b3 b4 (upS T s0 (lnT (T s0) (vSh a48 h0) an (n s0) c_))))) := by
  refine Mg_of (cc := cX11_lines) (maxL := 9) (ret := (some .int)) (ls0 := [(0, .ref m), (1, .int i), (2, .int j), (3, .int a), (4, .int w_)]) RX11 (by decide) rfl rfl rfl (Nat.le_of_ble_eq_true rfl) (fun p__ e__ s__ m__ b__ t__ c__ X hr hn => ?_)
  have hln0 : (a1 s0).toInt = ((n s0 : Nat) : Int) ∧ n s0 ≤ 12 := hLN s0 hs0
  have hn12 := hln0.2
  refine V_iload_n X 1 rfl dX11_lines_0 ?_
  refine V_callS (wr := [(m, .inr (10, mF R v0 v7 v8 v9 v15 v16 v17 v18 v19 v27 v31 v32 v33 v34 v38 v42 v44)), ((R 1), .inl (Y 0, 3, .inl a1)), ((R 2), .inl (Y 0, 36, .inl a2)), ((R 3), .inl (Y 0, 36, .inl a3)), ((R 4), .inl (Y 0, 36, .inl a4)), ((R 46), .inl (Y 0, 6, .inl a46)), ((R 47), .inl (Y 0, 6, .inl a47)), ((R 48), .inl (Y 1, 360, .inr (.inl a48)))]) (st := []) X (c_X11_isSong l D Y i) 1 gX11_lines_X11_isSong rfl (by decide +kernel) ⟨rfl, rfl⟩ ⟨Nat.le_of_ble_eq_true rfl, Nat.le_of_ble_eq_true rfl⟩ [] [0, 1, 2, 3, 4, 5, 6, 7] rfl rfl rfl rfl (by decide) rfl rfl (Nat.le_of_ble_eq_true rfl) ⟨Nat.le_of_ble_eq_true rfl, Nat.le_of_ble_eq_true rfl⟩ dX11_lines_1 (fun v_1 w_1 h_1 => ?_)
  rcases h_1 with ⟨rfl, rfl, hhy_2⟩ | ⟨rfl, rfl, hhn_3⟩
  · refine V_to (pc' := 4) (ls' := [(0, .ref m), (1, .int i), (2, .int j), (3, .int a), (4, .int w_)]) (st' := [.int (1 : Int32)]) (ws' := [(m, .inr (10, mF R v0 v7 v8 v9 v15 v16 v17 v18 v19 v27 v31 v32 v33 v34 v38 v42 v44)), ((R 1), .inl (Y 0, 3, .inl a1)), ((R 2), .inl (Y 0, 36, .inl a2)), ((R 3), .inl (Y 0, 36, .inl a3)), ((R 4), .inl (Y 0, 36, .inl a4)), ((R 46), .inl (Y 0, 6, .inl a46)), ((R 47), .inl (Y 0, 6, .inl a47)), ((R 48), .inl (Y 1, 360, .inr (.inl a48)))]) ?_ rfl rfl rfl rfl
    refine V_if_eq X (show (1 : Int32).toInt = 1 from by decide) 25 dX11_lines_4 (by decide) (fun c_4 => absurd c_4 (by decide)) (fun _ => ?_)
    refine V_iload_n X 2 rfl dX11_lines_7 ?_
    refine V_callS (wr := [(m, .inr (10, mF R v0 v7 v8 v9 v15 v16 v17 v18 v19 v27 v31 v32 v33 v34 v38 v42 v44)), ((R 1), .inl (Y 0, 3, .inl a1)), ((R 2), .inl (Y 0, 36, .inl a2)), ((R 3), .inl (Y 0, 36, .inl a3)), ((R 4), .inl (Y 0, 36, .inl a4)), ((R 46), .inl (Y 0, 6, .inl a46)), ((R 47), .inl (Y 0, 6, .inl a47)), ((R 48), .inl (Y 1, 360, .inr (.inl a48)))]) (st := []) X (c_X11_isShelf l D Y j) 1 gX11_lines_X11_isShelf rfl (by decide +kernel) ⟨rfl, rfl⟩ ⟨Nat.le_of_ble_eq_true rfl, Nat.le_of_ble_eq_true rfl⟩ [] [0, 1, 2, 3, 4, 5, 6, 7] rfl rfl rfl rfl (by decide) rfl rfl (Nat.le_of_ble_eq_true rfl) ⟨Nat.le_of_ble_eq_true rfl, Nat.le_of_ble_eq_true rfl⟩ dX11_lines_8 (fun v_8 w_8 h_8 => ?_)
    rcases h_8 with ⟨rfl, rfl, hhy_5⟩ | ⟨rfl, rfl, hhn_6⟩
    · refine V_to (pc' := 11) (ls' := [(0, .ref m), (1, .int i), (2, .int j), (3, .int a), (4, .int w_)]) (st' := [.int (1 : Int32)]) (ws' := [(m, .inr (10, mF R v0 v7 v8 v9 v15 v16 v17 v18 v19 v27 v31 v32 v33 v34 v38 v42 v44)), ((R 1), .inl (Y 0, 3, .inl a1)), ((R 2), .inl (Y 0, 36, .inl a2)), ((R 3), .inl (Y 0, 36, .inl a3)), ((R 4), .inl (Y 0, 36, .inl a4)), ((R 46), .inl (Y 0, 6, .inl a46)), ((R 47), .inl (Y 0, 6, .inl a47)), ((R 48), .inl (Y 1, 360, .inr (.inl a48)))]) ?_ rfl rfl rfl rfl
      refine V_if_eq X (show (1 : Int32).toInt = 1 from by decide) 25 dX11_lines_11 (by decide) (fun c_11 => absurd c_11 (by decide)) (fun _ => ?_)
      refine V_iload X 4 rfl dX11_lines_14 ?_
      refine V_iconst (v := (1 : Int32)) X (by decide) dX11_lines_16 ?_
      refine V_bipush (v := (12 : Int32)) X (by decide) dX11_lines_17 ?_
      refine V_callS (wr := [(m, .inr (10, mF R v0 v7 v8 v9 v15 v16 v17 v18 v19 v27 v31 v32 v33 v34 v38 v42 v44)), ((R 1), .inl (Y 0, 3, .inl a1)), ((R 2), .inl (Y 0, 36, .inl a2)), ((R 3), .inl (Y 0, 36, .inl a3)), ((R 4), .inl (Y 0, 36, .inl a4)), ((R 46), .inl (Y 0, 6, .inl a46)), ((R 47), .inl (Y 0, 6, .inl a47)), ((R 48), .inl (Y 1, 360, .inr (.inl a48)))]) (st := []) X (c_X11_in l D Y w_ (1 : Int32) (12 : Int32)) 3 gX11_lines_X11_in rfl (by decide +kernel) ⟨rfl, rfl⟩ ⟨Nat.le_of_ble_eq_true rfl, Nat.le_of_ble_eq_true rfl⟩ [] [0, 1, 2, 3, 4, 5, 6, 7] rfl rfl rfl rfl (by decide) rfl rfl (Nat.le_of_ble_eq_true rfl) ⟨Nat.le_of_ble_eq_true rfl, Nat.le_of_ble_eq_true rfl⟩ dX11_lines_19 (fun v_19 w_19 h_19 => ?_)
      rcases h_19 with ⟨rfl, rfl, hhy_8⟩ | ⟨rfl, rfl, hhn_9⟩
      · refine V_to (pc' := 22) (ls' := [(0, .ref m), (1, .int i), (2, .int j), (3, .int a), (4, .int w_)]) (st' := [.int (1 : Int32)]) (ws' := [(m, .inr (10, mF R v0 v7 v8 v9 v15 v16 v17 v18 v19 v27 v31 v32 v33 v34 v38 v42 v44)), ((R 1), .inl (Y 0, 3, .inl a1)), ((R 2), .inl (Y 0, 36, .inl a2)), ((R 3), .inl (Y 0, 36, .inl a3)), ((R 4), .inl (Y 0, 36, .inl a4)), ((R 46), .inl (Y 0, 6, .inl a46)), ((R 47), .inl (Y 0, 6, .inl a47)), ((R 48), .inl (Y 1, 360, .inr (.inl a48)))]) ?_ rfl rfl rfl rfl
        have hc_1 : (1 : Int32).toInt = 1 := by decide
        have hc_12 : (12 : Int32).toInt = 12 := by decide
        refine V_if_ne X (show (1 : Int32).toInt = 1 from by decide) 27 dX11_lines_22 (by decide) (fun _ => ?_) (fun c_22 => absurd c_22 (by decide))
        refine V_aload_n X 0 rfl dX11_lines_27 ?_
        refine V_get (C := RX11) (T := TX11) (N := 50) (ci := 10) (v := .ref (R 46)) X in_X11_lines_X11 0 rfl rfl 46 (by decide) (List.mem_of_getElem? (i := 1) rfl) rfl rfl dX11_lines_28 ?_
        refine V_iload_n X 2 rfl dX11_lines_31 ?_
        refine V_iald X 5 h0 rfl (by omega) (by omega) dX11_lines_32 ?_
        refine V_iconst (v := (-1 : Int32)) X (by decide) dX11_lines_33 ?_
        refine V_icmp_eq X rfl (show (-1 : Int32).toInt = (-1) from by decide) 51 dX11_lines_34 (by decide) (fun c_34 => ?_) (fun c_34 => ?_)
        · refine V_aload_n X 0 rfl dX11_lines_51 ?_
          refine V_get (C := RX11) (T := TX11) (N := 50) (ci := 10) (v := .ref (R 46)) X in_X11_lines_X11 0 rfl rfl 46 (by decide) (List.mem_of_getElem? (i := 1) rfl) rfl rfl dX11_lines_52 ?_
          refine V_iload_n X 2 rfl dX11_lines_55 ?_
          refine V_iald X 5 h0 rfl (by omega) (by omega) dX11_lines_56 ?_
          refine V_iconst (v := (-1 : Int32)) X (by decide) dX11_lines_57 ?_
          refine V_icmp_ne X rfl (show (-1 : Int32).toInt = (-1) from by decide) 63 dX11_lines_58 (by decide) (fun c_58 => False.elim (by omega)) (fun c_58 => ?_)
          refine V_iconst (v := (0 : Int32)) X (by decide) dX11_lines_61 ?_
          exact V_iret X hr dX11_lines_62 (Or.inr (Or.inr (Or.inl ⟨rfl, rfl, (by omega), (by omega)⟩)))
        · refine V_aload_n X 0 rfl dX11_lines_37 ?_
          refine V_get (C := RX11) (T := TX11) (N := 50) (ci := 10) (v := .ref (R 46)) X in_X11_lines_X11 0 rfl rfl 46 (by decide) (List.mem_of_getElem? (i := 1) rfl) rfl rfl dX11_lines_38 ?_
          refine V_iload_n X 2 rfl dX11_lines_41 ?_
          refine V_iald X 5 h0 rfl (by omega) (by omega) dX11_lines_42 ?_
          refine V_bipush (v := (-2 : Int32)) X (by decide) dX11_lines_43 ?_
          refine V_icmp_eq X rfl (show (-2 : Int32).toInt = (-2) from by decide) 51 dX11_lines_45 (by decide) (fun c_45 => ?_) (fun c_45 => ?_)
          · refine V_aload_n X 0 rfl dX11_lines_51 ?_
            refine V_get (C := RX11) (T := TX11) (N := 50) (ci := 10) (v := .ref (R 46)) X in_X11_lines_X11 0 rfl rfl 46 (by decide) (List.mem_of_getElem? (i := 1) rfl) rfl rfl dX11_lines_52 ?_
            refine V_iload_n X 2 rfl dX11_lines_55 ?_
            refine V_iald X 5 h0 rfl (by omega) (by omega) dX11_lines_56 ?_
            refine V_iconst (v := (-1 : Int32)) X (by decide) dX11_lines_57 ?_
            refine V_icmp_ne X rfl (show (-1 : Int32).toInt = (-1) from by decide) 63 dX11_lines_58 (by decide) (fun c_58 => ?_) (fun c_58 => False.elim (by omega))
            have hba := tI_bd a
            obtain ⟨wn_, twn⟩ : ∃ wn_ : Nat, w_.toInt = ((wn_ : Nat) : Int) := ⟨w_.toInt.toNat, by omega⟩
            have hj9 := hho (by omega) (by omega)
            have hi9 := hso (by omega) (by omega)
            have h00 : (0 : Int32).toInt = 0 := by decide
            have h0L : (0 : Int64).toInt = 0 := by decide
            have h2L : (2 : Int64).toInt = 2 := by decide
            rcases l_sp a with ha | ⟨an, tan⟩
            · refine V_iconst (v := (0 : Int32)) X (by decide) dX11_lines_63 ?_
              refine V_istore (ls' := [(5, .int (0 : Int32)), (0, .ref m), (1, .int i), (2, .int j), (3, .int a), (4, .int w_)]) X (by decide) rfl dX11_lines_64 ?_
              refine V_iload X 0 rfl dX11_lines_66 ?_
              refine V_iload X 5 rfl dX11_lines_68 ?_
              refine V_icmp_ge X (show (0 : Int32).toInt = 0 from by decide) twn 229 dX11_lines_70 (by decide) (fun c_70 => False.elim (by omega)) (fun c_70 => ?_)
              refine V_iload_n X 4 rfl dX11_lines_73 ?_
              refine V_i2l X rfl dX11_lines_74 ?_
              refine V_nmL (fun x_10 ex_10 => ?_)
              refine V_iconst (v := (3 : Int32)) X (by decide) dX11_lines_75 ?_
              refine V_iload X 0 rfl dX11_lines_76 ?_
              refine V_imulZ X (show (3 : Int32).toInt = 3 from by decide) (show (0 : Int32).toInt = 0 from by decide) (by omega) (by omega) dX11_lines_78 (fun x_11 ex_11 tx_11 => ?_)
              have tx_11 : x_11.toInt = (((3 * 0) : Nat) : Int) := by omega
              obtain rfl : x_11 = (0 : Int32) := ex_11.trans (by decide)
              refine V_i2l X rfl dX11_lines_79 ?_
              refine V_nmL (fun x_12 ex_12 => ?_)
              refine V_ladd X dX11_lines_80 (fun x_13 ex_13 => ?_)
              have hat : x_13.toInt = a.toInt + (0 : Int32).toInt := l_at ex_10 ex_12 ex_13
              refine V_lstore (ls' := [(6, .long x_13), (5, .int (0 : Int32)), (0, .ref m), (1, .int i), (2, .int j), (3, .int a), (4, .int w_)]) X (by decide) rfl dX11_lines_81 ?_
              refine V_lload X 0 rfl dX11_lines_83 ?_
              refine V_lconst (v := 0) X (by decide) dX11_lines_85 ?_
              refine V_lcmp X rfl dX11_lines_86 ?_
              refine V_nm (fun x_14 ex_14 => ?_)
              have hc86 : (x_14.toInt < 0 ↔ x_13.toInt < (0 : Int64).toInt) := (lcmp_lt ex_14)
              refine V_if_lt X rfl 118 dX11_lines_87 (by decide) (fun c_87 => ?_) (fun c_87 => False.elim (by omega))
              refine V_iload X 1 rfl dX11_lines_118 ?_
              exact V_iret X hr dX11_lines_120 (Or.inr (Or.inr (Or.inl ⟨rfl, rfl, (by omega), (by omega)⟩)))
            · refine V_iconst (v := (0 : Int32)) X (by decide) dX11_lines_63 ?_
              refine V_istore (ls' := [(5, .int (0 : Int32)), (0, .ref m), (1, .int i), (2, .int j), (3, .int a), (4, .int w_)]) X (by decide) rfl dX11_lines_64 ?_
              refine V_ls (ls' := [(0, .ref m), (1, .int i), (2, .int j), (3, .int a), (4, .int w_), (5, .int (0 : Int32))]) [1, 2, 3, 4, 5, 0] rfl ?_
              refine V_to (V_ind6 (fun (i5 : Int32) (k : Nat) (g1 : Nat → Int32) (g2 : Nat → Int32) (g3 : Nat → Int32) (g4 : Nat → Int32) => (i5.toInt = ((k : Nat) : Int)) ∧ (k ≤ wn_ ∧ n s0 + k ≤ 12) ∧ (∀ q, q < k → lnO (vSh a48 h0) m_ an (n s0) q) ∧ (LNR g1 (upS n s0 (n s0 + k))) ∧ (MTR g2 g3 g4 (upS T s0 (lnT (T s0) (vSh a48 h0) an (n s0) k)))) (fun (i5 : Int32) (k : Nat) (g1 : Nat → Int32) (g2 : Nat → Int32) (g3 : Nat → Int32) (g4 : Nat → Int32) => wn_ - k) (fun (i5 : Int32) (k : Nat) (g1 : Nat → Int32) (g2 : Nat → Int32) (g3 : Nat → Int32) (g4 : Nat → Int32) => [(0, .ref m), (1, .int i), (2, .int j), (3, .int a), (4, .int w_), (5, .int i5)]) (fun (i5 : Int32) (k : Nat) (g1 : Nat → Int32) (g2 : Nat → Int32) (g3 : Nat → Int32) (g4 : Nat → Int32) => [(m, .inr (10, mF R v0 v7 v8 v9 v15 v16 v17 v18 v19 v27 v31 v32 v33 v34 v38 v42 v44)), ((R 1), .inl (Y 0, 3, .inl g1)), ((R 2), .inl (Y 0, 36, .inl g2)), ((R 3), .inl (Y 0, 36, .inl g3)), ((R 4), .inl (Y 0, 36, .inl g4)), ((R 46), .inl (Y 0, 6, .inl a46)), ((R 47), .inl (Y 0, 6, .inl a47)), ((R 48), .inl (Y 1, 360, .inr (.inl a48)))]) (fun i5 k g1 g2 g3 g4 hI_66 ih_66 => ?_) (0 : Int32) 0 a1 a2 a3 a4 ?_) rfl rfl rfl rfl
              · obtain ⟨ti5, hk, hO, hL, hM⟩ := hI_66
                refine V_to (ls' := [(0, .ref m), (1, .int i), (2, .int j), (3, .int a), (4, .int w_), (5, .int i5)]) (ws' := [(m, .inr (10, mF R v0 v7 v8 v9 v15 v16 v17 v18 v19 v27 v31 v32 v33 v34 v38 v42 v44)), ((R 1), .inl (Y 0, 3, .inl g1)), ((R 2), .inl (Y 0, 36, .inl g2)), ((R 3), .inl (Y 0, 36, .inl g3)), ((R 4), .inl (Y 0, 36, .inl g4)), ((R 46), .inl (Y 0, 6, .inl a46)), ((R 47), .inl (Y 0, 6, .inl a47)), ((R 48), .inl (Y 1, 360, .inr (.inl a48)))]) ?_ rfl rfl rfl rfl
                refine V_iload X 5 rfl dX11_lines_66 ?_
                refine V_iload X 4 rfl dX11_lines_68 ?_
                refine V_icmp_ge X ti5 twn 229 dX11_lines_70 (by decide) (fun c_70 => ?_) (fun c_70 => ?_)
                · refine V_iload X 4 rfl dX11_lines_229 ?_
                  exact V_iret X hr dX11_lines_231 (Or.inr (Or.inr (Or.inr (⟨w_, g1, g2, g3, g4, an, wn_, k, rfl, rfl, (by omega), (by omega), tan, twn, ⟨by omega, hO, Or.inl (by omega)⟩, (by omega), hL, hM⟩))))
                · refine V_iload_n X 3 rfl dX11_lines_73 ?_
                  refine V_i2l X rfl dX11_lines_74 ?_
                  refine V_nmL (fun x_15 ex_15 => ?_)
                  refine V_iconst (v := (3 : Int32)) X (by decide) dX11_lines_75 ?_
                  refine V_iload X 5 rfl dX11_lines_76 ?_
                  refine V_imulZ X (show (3 : Int32).toInt = 3 from by decide) ti5 (by omega) (by omega) dX11_lines_78 (fun x_16 ex_16 tx_16 => ?_)
                  have tx_16 : x_16.toInt = (((3 * k) : Nat) : Int) := by omega
                  refine V_i2l X rfl dX11_lines_79 ?_
                  refine V_nmL (fun x_17 ex_17 => ?_)
                  refine V_ladd X dX11_lines_80 (fun x_18 ex_18 => ?_)
                  have hat : x_18.toInt = (((an + 3 * k) : Nat) : Int) := (by rw [l_at ex_15 ex_17 ex_18]; omega)
                  refine V_lstore (ls' := [(6, .long x_18), (0, .ref m), (1, .int i), (2, .int j), (3, .int a), (4, .int w_), (5, .int i5)]) X (by decide) rfl dX11_lines_81 ?_
                  refine V_lload X 0 rfl dX11_lines_83 ?_
                  refine V_lconst (v := 0) X (by decide) dX11_lines_85 ?_
                  refine V_lcmp X rfl dX11_lines_86 ?_
                  refine V_nm (fun x_19 ex_19 => ?_)
                  have hc86 : (x_19.toInt < 0 ↔ x_18.toInt < (0 : Int64).toInt) := (lcmp_lt ex_19)
                  refine V_if_lt X rfl 118 dX11_lines_87 (by decide) (fun c_87 => False.elim (by omega)) (fun c_87 => ?_)
                  refine V_lload X 0 rfl dX11_lines_90 ?_
                  refine V_ldc2 (v := (2)) X (List.mem_of_getElem? (i := 2) rfl) dX11_lines_92 ?_
                  refine V_ladd X dX11_lines_95 (fun x_20 ex_20 => ?_)
                  have hat2 : x_20.toInt = (((an + 3 * k) : Nat) : Int) + 2 := (l_ad hat h2L ex_20 (by omega) (by omega))
                  refine V_aload_n X 1 rfl dX11_lines_96 ?_
                  refine V_get (C := RX11) (T := TX11) (N := 50) (ci := 10) (v := .ref (R 47)) X in_X11_lines_X11 0 rfl rfl 47 (by decide) (List.mem_of_getElem? (i := 3) rfl) rfl rfl dX11_lines_97 ?_
                  refine V_iload_n X 3 rfl dX11_lines_100 ?_
                  refine V_iald X 6 h0 rfl hj9 (by omega) dX11_lines_101 ?_
                  refine V_nm (fun x_21 ex_21 => ?_)
                  have tx_21 : x_21.toInt = ((m_ : Nat) : Int) := by rw [ex_21]; exact hsz
                  refine V_i2l X rfl dX11_lines_102 ?_
                  refine V_nmL (fun x_22 ex_22 => ?_)
                  have h102 : x_22.toInt = ((m_ : Nat) : Int) := (by rw [ex_22, Int32.toInt_toInt64]; omega)
                  refine V_lcmp X rfl dX11_lines_103 ?_
                  refine V_nm (fun x_23 ex_23 => ?_)
                  have hc103 : (x_23.toInt < 0 ↔ x_20.toInt < x_22.toInt) := (lcmp_lt ex_23)
                  refine V_if_ge X rfl 118 dX11_lines_104 (by decide) (fun c_104 => ?_) (fun c_104 => ?_)
                  · refine V_iload X 6 rfl dX11_lines_118 ?_
                    exact V_iret X hr dX11_lines_120 (Or.inr (Or.inr (Or.inr (⟨i5, g1, g2, g3, g4, an, wn_, k, rfl, rfl, (by omega), (by omega), tan, twn, ⟨by omega, hO, Or.inr (fun q => by have h9 := q.2.1; omega)⟩, (by omega), hL, hM⟩))))
                  · refine V_aload_n X 1 rfl dX11_lines_107 ?_
                    refine V_get (C := RX11) (T := TX11) (N := 50) (ci := 10) (v := .ref (R 1)) X in_X11_lines_X11 0 rfl rfl 1 (by decide) (List.mem_of_getElem? (i := 4) rfl) rfl rfl dX11_lines_108 ?_
                    refine V_iload_n X 2 rfl dX11_lines_111 ?_
                    refine V_iald X 1 s0 rfl hi9 (by omega) dX11_lines_112 ?_
                    refine V_nm (fun x_24 ex_24 => ?_)
                    have tx_24 : x_24.toInt = (((n s0 + k) : Nat) : Int) := by rw [ex_24]; exact (by have h9 := (hL s0 hs0).1; rw [upS_eq] at h9; exact h9)
                    refine V_bipush (v := (12 : Int32)) X (by decide) dX11_lines_113 ?_
                    refine V_icmp_ne X tx_24 (show (12 : Int32).toInt = 12 from by decide) 121 dX11_lines_115 (by decide) (fun c_115 => ?_) (fun c_115 => ?_)
                    · refine V_bipush (v := (60 : Int32)) X (by decide) dX11_lines_121 ?_
                      refine V_iload_n X 3 rfl dX11_lines_123 ?_
                      refine V_imulZ X (show (60 : Int32).toInt = 60 from by decide) hj9 (by omega) (by omega) dX11_lines_124 (fun x_25 ex_25 tx_25 => ?_)
                      have tx_25 : x_25.toInt = (((60 * h0) : Nat) : Int) := by omega
                      refine V_lload X 0 rfl dX11_lines_125 ?_
                      refine V_l2i X rfl dX11_lines_127 ?_
                      refine V_nm (fun x_26 ex_26 => ?_)
                      have tx_26 : x_26.toInt = (((an + 3 * k) : Nat) : Int) := (l_i ex_26 hat (by omega) (by omega))
                      refine V_iaddZ X tx_25 tx_26 (by omega) (by omega) dX11_lines_128 (fun x_27 ex_27 tx_27 => ?_)
                      have tx_27 : x_27.toInt = ((((60 * h0) + (an + 3 * k)) : Nat) : Int) := by omega
                      refine V_istore (ls' := [(8, .int x_27), (6, .long x_18), (0, .ref m), (1, .int i), (2, .int j), (3, .int a), (4, .int w_), (5, .int i5)]) X (by decide) rfl dX11_lines_129 ?_
                      refine V_aload_n X 2 rfl dX11_lines_131 ?_
                      refine V_get (C := RX11) (T := TX11) (N := 50) (ci := 10) (v := .ref (R 48)) X in_X11_lines_X11 0 rfl rfl 48 (by decide) (List.mem_of_getElem? (i := 5) rfl) rfl rfl dX11_lines_132 ?_
                      refine V_iload X 0 rfl dX11_lines_135 ?_
                      refine V_lald X 7 ((60 * h0) + (an + 3 * k)) rfl tx_27 (by omega) dX11_lines_137 ?_
                      refine V_l2i X rfl dX11_lines_138 ?_
                      refine V_nm (fun x_28 ex_28 => ?_)
                      have tx_28 : x_28.toInt = (vSh a48 h0 (an + 3 * k)) := (by rw [ex_28]; rfl)
                      refine V_iconst (v := (0 : Int32)) X (by decide) dX11_lines_139 ?_
                      refine V_bipush (v := (7 : Int32)) X (by decide) dX11_lines_140 ?_
                      refine V_callS (wr := [(m, .inr (10, mF R v0 v7 v8 v9 v15 v16 v17 v18 v19 v27 v31 v32 v33 v34 v38 v42 v44)), ((R 1), .inl (Y 0, 3, .inl g1)), ((R 2), .inl (Y 0, 36, .inl g2)), ((R 3), .inl (Y 0, 36, .inl g3)), ((R 4), .inl (Y 0, 36, .inl g4)), ((R 46), .inl (Y 0, 6, .inl a46)), ((R 47), .inl (Y 0, 6, .inl a47)), ((R 48), .inl (Y 1, 360, .inr (.inl a48)))]) (st := []) X (c_X11_in l D Y x_28 (0 : Int32) (7 : Int32)) 3 gX11_lines_X11_in rfl (by decide +kernel) ⟨rfl, rfl⟩ ⟨Nat.le_of_ble_eq_true rfl, Nat.le_of_ble_eq_true rfl⟩ [] [0, 1, 2, 3, 4, 5, 6, 7] rfl rfl rfl rfl (by decide) rfl rfl (Nat.le_of_ble_eq_true rfl) ⟨Nat.le_of_ble_eq_true rfl, Nat.le_of_ble_eq_true rfl⟩ dX11_lines_142 (fun v_142 w_142 h_142 => ?_)
                      rcases h_142 with ⟨rfl, rfl, hhy_30⟩ | ⟨rfl, rfl, hhn_31⟩
                      · refine V_to (pc' := 145) (ls' := [(8, .int x_27), (6, .long x_18), (0, .ref m), (1, .int i), (2, .int j), (3, .int a), (4, .int w_), (5, .int i5)]) (st' := [.int (1 : Int32)]) (ws' := [(m, .inr (10, mF R v0 v7 v8 v9 v15 v16 v17 v18 v19 v27 v31 v32 v33 v34 v38 v42 v44)), ((R 1), .inl (Y 0, 3, .inl g1)), ((R 2), .inl (Y 0, 36, .inl g2)), ((R 3), .inl (Y 0, 36, .inl g3)), ((R 4), .inl (Y 0, 36, .inl g4)), ((R 46), .inl (Y 0, 6, .inl a46)), ((R 47), .inl (Y 0, 6, .inl a47)), ((R 48), .inl (Y 1, 360, .inr (.inl a48)))]) ?_ rfl rfl rfl rfl
                        have hc_0 : (0 : Int32).toInt = 0 := by decide
                        have hc_7 : (7 : Int32).toInt = 7 := by decide
                        refine V_if_eq X (show (1 : Int32).toInt = 1 from by decide) 186 dX11_lines_145 (by decide) (fun c_145 => absurd c_145 (by decide)) (fun _ => ?_)
                        refine V_aload_n X 2 rfl dX11_lines_148 ?_
                        refine V_get (C := RX11) (T := TX11) (N := 50) (ci := 10) (v := .ref (R 48)) X in_X11_lines_X11 0 rfl rfl 48 (by decide) (List.mem_of_getElem? (i := 5) rfl) rfl rfl dX11_lines_149 ?_
                        refine V_iload X 0 rfl dX11_lines_152 ?_
                        refine V_iconst (v := (1 : Int32)) X (by decide) dX11_lines_154 ?_
                        refine V_iaddZ X tx_27 (show (1 : Int32).toInt = 1 from by decide) (by omega) (by omega) dX11_lines_155 (fun x_32 ex_32 tx_32 => ?_)
                        have tx_32 : x_32.toInt = (((((60 * h0) + (an + 3 * k)) + 1) : Nat) : Int) := by omega
                        refine V_lald X 7 (((60 * h0) + (an + 3 * k)) + 1) rfl tx_32 (by omega) dX11_lines_156 ?_
                        refine V_l2i X rfl dX11_lines_157 ?_
                        refine V_nm (fun x_33 ex_33 => ?_)
                        have tx_33 : x_33.toInt = (vSh a48 h0 ((an + 3 * k) + 1)) := (by rw [ex_33]; rfl)
                        refine V_iconst (v := (0 : Int32)) X (by decide) dX11_lines_158 ?_
                        refine V_bipush (v := (7 : Int32)) X (by decide) dX11_lines_159 ?_
                        refine V_callS (wr := [(m, .inr (10, mF R v0 v7 v8 v9 v15 v16 v17 v18 v19 v27 v31 v32 v33 v34 v38 v42 v44)), ((R 1), .inl (Y 0, 3, .inl g1)), ((R 2), .inl (Y 0, 36, .inl g2)), ((R 3), .inl (Y 0, 36, .inl g3)), ((R 4), .inl (Y 0, 36, .inl g4)), ((R 46), .inl (Y 0, 6, .inl a46)), ((R 47), .inl (Y 0, 6, .inl a47)), ((R 48), .inl (Y 1, 360, .inr (.inl a48)))]) (st := []) X (c_X11_in l D Y x_33 (0 : Int32) (7 : Int32)) 3 gX11_lines_X11_in rfl (by decide +kernel) ⟨rfl, rfl⟩ ⟨Nat.le_of_ble_eq_true rfl, Nat.le_of_ble_eq_true rfl⟩ [] [0, 1, 2, 3, 4, 5, 6, 7] rfl rfl rfl rfl (by decide) rfl rfl (Nat.le_of_ble_eq_true rfl) ⟨Nat.le_of_ble_eq_true rfl, Nat.le_of_ble_eq_true rfl⟩ dX11_lines_161 (fun v_161 w_161 h_161 => ?_)
                        rcases h_161 with ⟨rfl, rfl, hhy_35⟩ | ⟨rfl, rfl, hhn_36⟩
                        · refine V_to (pc' := 164) (ls' := [(8, .int x_27), (6, .long x_18), (0, .ref m), (1, .int i), (2, .int j), (3, .int a), (4, .int w_), (5, .int i5)]) (st' := [.int (1 : Int32)]) (ws' := [(m, .inr (10, mF R v0 v7 v8 v9 v15 v16 v17 v18 v19 v27 v31 v32 v33 v34 v38 v42 v44)), ((R 1), .inl (Y 0, 3, .inl g1)), ((R 2), .inl (Y 0, 36, .inl g2)), ((R 3), .inl (Y 0, 36, .inl g3)), ((R 4), .inl (Y 0, 36, .inl g4)), ((R 46), .inl (Y 0, 6, .inl a46)), ((R 47), .inl (Y 0, 6, .inl a47)), ((R 48), .inl (Y 1, 360, .inr (.inl a48)))]) ?_ rfl rfl rfl rfl
                          refine V_if_eq X (show (1 : Int32).toInt = 1 from by decide) 186 dX11_lines_164 (by decide) (fun c_164 => absurd c_164 (by decide)) (fun _ => ?_)
                          refine V_aload_n X 2 rfl dX11_lines_167 ?_
                          refine V_get (C := RX11) (T := TX11) (N := 50) (ci := 10) (v := .ref (R 48)) X in_X11_lines_X11 0 rfl rfl 48 (by decide) (List.mem_of_getElem? (i := 5) rfl) rfl rfl dX11_lines_168 ?_
                          refine V_iload X 0 rfl dX11_lines_171 ?_
                          refine V_iconst (v := (2 : Int32)) X (by decide) dX11_lines_173 ?_
                          refine V_iaddZ X tx_27 (show (2 : Int32).toInt = 2 from by decide) (by omega) (by omega) dX11_lines_174 (fun x_37 ex_37 tx_37 => ?_)
                          have tx_37 : x_37.toInt = (((((60 * h0) + (an + 3 * k)) + 2) : Nat) : Int) := by omega
                          refine V_lald X 7 (((60 * h0) + (an + 3 * k)) + 2) rfl tx_37 (by omega) dX11_lines_175 ?_
                          refine V_l2i X rfl dX11_lines_176 ?_
                          refine V_nm (fun x_38 ex_38 => ?_)
                          have tx_38 : x_38.toInt = (vSh a48 h0 ((an + 3 * k) + 2)) := (by rw [ex_38]; rfl)
                          refine V_iconst (v := (0 : Int32)) X (by decide) dX11_lines_177 ?_
                          refine V_bipush (v := (7 : Int32)) X (by decide) dX11_lines_178 ?_
                          refine V_callS (wr := [(m, .inr (10, mF R v0 v7 v8 v9 v15 v16 v17 v18 v19 v27 v31 v32 v33 v34 v38 v42 v44)), ((R 1), .inl (Y 0, 3, .inl g1)), ((R 2), .inl (Y 0, 36, .inl g2)), ((R 3), .inl (Y 0, 36, .inl g3)), ((R 4), .inl (Y 0, 36, .inl g4)), ((R 46), .inl (Y 0, 6, .inl a46)), ((R 47), .inl (Y 0, 6, .inl a47)), ((R 48), .inl (Y 1, 360, .inr (.inl a48)))]) (st := []) X (c_X11_in l D Y x_38 (0 : Int32) (7 : Int32)) 3 gX11_lines_X11_in rfl (by decide +kernel) ⟨rfl, rfl⟩ ⟨Nat.le_of_ble_eq_true rfl, Nat.le_of_ble_eq_true rfl⟩ [] [0, 1, 2, 3, 4, 5, 6, 7] rfl rfl rfl rfl (by decide) rfl rfl (Nat.le_of_ble_eq_true rfl) ⟨Nat.le_of_ble_eq_true rfl, Nat.le_of_ble_eq_true rfl⟩ dX11_lines_180 (fun v_180 w_180 h_180 => ?_)
                          rcases h_180 with ⟨rfl, rfl, hhy_40⟩ | ⟨rfl, rfl, hhn_41⟩
                          · refine V_to (pc' := 183) (ls' := [(8, .int x_27), (6, .long x_18), (0, .ref m), (1, .int i), (2, .int j), (3, .int a), (4, .int w_), (5, .int i5)]) (st' := [.int (1 : Int32)]) (ws' := [(m, .inr (10, mF R v0 v7 v8 v9 v15 v16 v17 v18 v19 v27 v31 v32 v33 v34 v38 v42 v44)), ((R 1), .inl (Y 0, 3, .inl g1)), ((R 2), .inl (Y 0, 36, .inl g2)), ((R 3), .inl (Y 0, 36, .inl g3)), ((R 4), .inl (Y 0, 36, .inl g4)), ((R 46), .inl (Y 0, 6, .inl a46)), ((R 47), .inl (Y 0, 6, .inl a47)), ((R 48), .inl (Y 1, 360, .inr (.inl a48)))]) ?_ rfl rfl rfl rfl
                            refine V_if_ne X (show (1 : Int32).toInt = 1 from by decide) 189 dX11_lines_183 (by decide) (fun _ => ?_) (fun c_183 => absurd c_183 (by decide))
                            refine V_aload_n X 2 rfl dX11_lines_189 ?_
                            refine V_iload_n X 3 rfl dX11_lines_190 ?_
                            refine V_aload_n X 2 rfl dX11_lines_191 ?_
                            refine V_get (C := RX11) (T := TX11) (N := 50) (ci := 10) (v := .ref (R 48)) X in_X11_lines_X11 0 rfl rfl 48 (by decide) (List.mem_of_getElem? (i := 5) rfl) rfl rfl dX11_lines_192 ?_
                            refine V_iload X 0 rfl dX11_lines_195 ?_
                            refine V_lald X 7 ((60 * h0) + (an + 3 * k)) rfl tx_27 (by omega) dX11_lines_197 ?_
                            refine V_l2i X rfl dX11_lines_198 ?_
                            refine V_nm (fun x_42 ex_42 => ?_)
                            have tx_42 : x_42.toInt = (vSh a48 h0 (an + 3 * k)) := (by rw [ex_42]; rfl)
                            refine V_aload_n X 2 rfl dX11_lines_199 ?_
                            refine V_get (C := RX11) (T := TX11) (N := 50) (ci := 10) (v := .ref (R 48)) X in_X11_lines_X11 0 rfl rfl 48 (by decide) (List.mem_of_getElem? (i := 5) rfl) rfl rfl dX11_lines_200 ?_
                            refine V_iload X 0 rfl dX11_lines_203 ?_
                            refine V_iconst (v := (1 : Int32)) X (by decide) dX11_lines_205 ?_
                            refine V_iaddZ X tx_27 (show (1 : Int32).toInt = 1 from by decide) (by omega) (by omega) dX11_lines_206 (fun x_43 ex_43 tx_43 => ?_)
                            have tx_43 : x_43.toInt = (((((60 * h0) + (an + 3 * k)) + 1) : Nat) : Int) := by omega
                            refine V_lald X 7 (((60 * h0) + (an + 3 * k)) + 1) rfl tx_43 (by omega) dX11_lines_207 ?_
                            refine V_l2i X rfl dX11_lines_208 ?_
                            refine V_nm (fun x_44 ex_44 => ?_)
                            have tx_44 : x_44.toInt = (vSh a48 h0 ((an + 3 * k) + 1)) := (by rw [ex_44]; rfl)
                            refine V_aload_n X 2 rfl dX11_lines_209 ?_
                            refine V_get (C := RX11) (T := TX11) (N := 50) (ci := 10) (v := .ref (R 48)) X in_X11_lines_X11 0 rfl rfl 48 (by decide) (List.mem_of_getElem? (i := 5) rfl) rfl rfl dX11_lines_210 ?_
                            refine V_iload X 0 rfl dX11_lines_213 ?_
                            refine V_iconst (v := (2 : Int32)) X (by decide) dX11_lines_215 ?_
                            refine V_iaddZ X tx_27 (show (2 : Int32).toInt = 2 from by decide) (by omega) (by omega) dX11_lines_216 (fun x_45 ex_45 tx_45 => ?_)
                            have tx_45 : x_45.toInt = (((((60 * h0) + (an + 3 * k)) + 2) : Nat) : Int) := by omega
                            refine V_lald X 7 (((60 * h0) + (an + 3 * k)) + 2) rfl tx_45 (by omega) dX11_lines_217 ?_
                            refine V_l2i X rfl dX11_lines_218 ?_
                            refine V_nm (fun x_46 ex_46 => ?_)
                            have tx_46 : x_46.toInt = (vSh a48 h0 ((an + 3 * k) + 2)) := (by rw [ex_46]; rfl)
                            refine V_callV (C := RX11) (wr := [((R 46), .inl (Y 0, 6, .inl a46)), ((R 47), .inl (Y 0, 6, .inl a47)), ((R 48), .inl (Y 1, 360, .inr (.inl a48)))]) (st := []) X (c_X11_addLine l D Y m R v0 v7 v8 v9 v15 v16 v17 v18 v19 v27 v31 v32 v33 v34 v38 v42 v44 g1 g2 g3 g4 (upS n s0 (n s0 + k)) s0 i x_42 x_44 x_46 hL hs0 hi9 (by rw [upS_eq]; omega)) 4 gX11_lines_X11_addLine rfl (by decide +kernel) ⟨rfl, rfl⟩ ⟨Nat.le_of_ble_eq_true rfl, Nat.le_of_ble_eq_true rfl⟩ [0, 1, 2, 3, 4] [5, 6, 7] rfl rfl rfl rfl (by decide) (ci := 10) rfl rfl 0 rfl rfl rfl (Nat.le_of_ble_eq_true rfl) ⟨Nat.le_of_ble_eq_true rfl, Nat.le_of_ble_eq_true rfl⟩ dX11_lines_219 (fun v_219 w_219 h_219 => ?_)
                            obtain ⟨r_48, z2_49, rfl, rfl, tr_l, tz2_l⟩ := h_219
                            refine V_to (pc' := 222) (ls' := [(8, .int x_27), (6, .long x_18), (0, .ref m), (1, .int i), (2, .int j), (3, .int a), (4, .int w_), (5, .int i5)]) (st' := [.int r_48]) (ws' := [((R 46), .inl (Y 0, 6, .inl a46)), ((R 47), .inl (Y 0, 6, .inl a47)), ((R 48), .inl (Y 1, 360, .inr (.inl a48))), (m, .inr (10, mF R v0 v7 v8 v9 v15 v16 v17 v18 v19 v27 v31 v32 v33 v34 v38 v42 v44)), ((R 1), .inl (Y 0, 3, .inl (upd g1 s0 z2_49))), ((R 2), .inl (Y 0, 36, .inl (upd g2 (12 * s0 + (upS n s0 (n s0 + k)) s0) x_42))), ((R 3), .inl (Y 0, 36, .inl (upd g3 (12 * s0 + (upS n s0 (n s0 + k)) s0) x_44))), ((R 4), .inl (Y 0, 36, .inl (upd g4 (12 * s0 + (upS n s0 (n s0 + k)) s0) x_46)))]) ?_ rfl rfl rfl rfl
                            refine V_pop X rfl dX11_lines_222 ?_
                            refine V_iincZ X (fun vv_ => [(5, .int vv_), (8, .int x_27), (6, .long x_18), (0, .ref m), (1, .int i), (2, .int j), (3, .int a), (4, .int w_)]) ti5 (by omega) (by omega) (by decide) 7 rfl (by decide) (fun _ => rfl) dX11_lines_223 (fun x_52 ex_52 tx_52 => ?_)
                            have tx_52 : x_52.toInt = (((k + 1) : Nat) : Int) := by omega
                            refine V_goto X 66 (by decide) dX11_lines_226 ?_
                            refine V_ls (ls' := [(0, .ref m), (1, .int i), (2, .int j), (3, .int a), (4, .int w_), (5, .int x_52)]) [3, 4, 5, 6, 7, 0] rfl ?_
                            refine V_ws (ws' := [(m, .inr (10, mF R v0 v7 v8 v9 v15 v16 v17 v18 v19 v27 v31 v32 v33 v34 v38 v42 v44)), ((R 1), .inl (Y 0, 3, .inl (upd g1 s0 z2_49))), ((R 2), .inl (Y 0, 36, .inl (upd g2 (12 * s0 + (upS n s0 (n s0 + k)) s0) x_42))), ((R 3), .inl (Y 0, 36, .inl (upd g3 (12 * s0 + (upS n s0 (n s0 + k)) s0) x_44))), ((R 4), .inl (Y 0, 36, .inl (upd g4 (12 * s0 + (upS n s0 (n s0 + k)) s0) x_46))), ((R 46), .inl (Y 0, 6, .inl a46)), ((R 47), .inl (Y 0, 6, .inl a47)), ((R 48), .inl (Y 1, 360, .inr (.inl a48)))]) [3, 4, 5, 6, 7, 0, 1, 2] rfl rfl rfl ?_
                            exact V_to (ih_66 x_52 (k + 1) (upd g1 s0 z2_49) (upd g2 (12 * s0 + (upS n s0 (n s0 + k)) s0) x_42) (upd g3 (12 * s0 + (upS n s0 (n s0 + k)) s0) x_44) (upd g4 (12 * s0 + (upS n s0 (n s0 + k)) s0) x_46) ⟨(by omega), (by omega), (lt_snoc hO ⟨(show n s0 + k < 12 by omega), (show an + 3 * k + 2 < m_ by omega), (show 0 ≤ vSh a48 h0 (an + 3 * k) ∧ vSh a48 h0 (an + 3 * k) < 8 by omega), (show 0 ≤ vSh a48 h0 (an + 3 * k + 1) ∧ vSh a48 h0 (an + 3 * k + 1) < 8 by omega), (show 0 ≤ vSh a48 h0 (an + 3 * k + 2) ∧ vSh a48 h0 (an + 3 * k + 2) < 8 by omega)⟩), (LN_add (c := n s0 + k) hL (by omega) tz2_l), (MT_add (c := n s0 + k) hM (by omega) (by rw [upS_eq]) tx_42 tx_44 tx_46 (by omega) (by omega) (by omega))⟩ (by omega)) rfl rfl rfl rfl
                          · refine V_to (pc' := 183) (ls' := [(8, .int x_27), (6, .long x_18), (0, .ref m), (1, .int i), (2, .int j), (3, .int a), (4, .int w_), (5, .int i5)]) (st' := [.int (0 : Int32)]) (ws' := [(m, .inr (10, mF R v0 v7 v8 v9 v15 v16 v17 v18 v19 v27 v31 v32 v33 v34 v38 v42 v44)), ((R 1), .inl (Y 0, 3, .inl g1)), ((R 2), .inl (Y 0, 36, .inl g2)), ((R 3), .inl (Y 0, 36, .inl g3)), ((R 4), .inl (Y 0, 36, .inl g4)), ((R 46), .inl (Y 0, 6, .inl a46)), ((R 47), .inl (Y 0, 6, .inl a47)), ((R 48), .inl (Y 1, 360, .inr (.inl a48)))]) ?_ rfl rfl rfl rfl
                            refine V_if_ne X (show (0 : Int32).toInt = 0 from by decide) 189 dX11_lines_183 (by decide) (fun c_183 => absurd c_183 (by decide)) (fun _ => ?_)
                            refine V_iload X 7 rfl dX11_lines_186 ?_
                            exact V_iret X hr dX11_lines_188 (Or.inr (Or.inr (Or.inr (⟨i5, g1, g2, g3, g4, an, wn_, k, rfl, rfl, (by omega), (by omega), tan, twn, ⟨by omega, hO, Or.inr (fun q => by have h9 := q.2.2.2.2; omega)⟩, (by omega), hL, hM⟩))))
                        · refine V_to (pc' := 164) (ls' := [(8, .int x_27), (6, .long x_18), (0, .ref m), (1, .int i), (2, .int j), (3, .int a), (4, .int w_), (5, .int i5)]) (st' := [.int (0 : Int32)]) (ws' := [(m, .inr (10, mF R v0 v7 v8 v9 v15 v16 v17 v18 v19 v27 v31 v32 v33 v34 v38 v42 v44)), ((R 1), .inl (Y 0, 3, .inl g1)), ((R 2), .inl (Y 0, 36, .inl g2)), ((R 3), .inl (Y 0, 36, .inl g3)), ((R 4), .inl (Y 0, 36, .inl g4)), ((R 46), .inl (Y 0, 6, .inl a46)), ((R 47), .inl (Y 0, 6, .inl a47)), ((R 48), .inl (Y 1, 360, .inr (.inl a48)))]) ?_ rfl rfl rfl rfl
                          refine V_if_eq X (show (0 : Int32).toInt = 0 from by decide) 186 dX11_lines_164 (by decide) (fun _ => ?_) (fun c_164 => absurd c_164 (by decide))
                          refine V_iload X 7 rfl dX11_lines_186 ?_
                          exact V_iret X hr dX11_lines_188 (Or.inr (Or.inr (Or.inr (⟨i5, g1, g2, g3, g4, an, wn_, k, rfl, rfl, (by omega), (by omega), tan, twn, ⟨by omega, hO, Or.inr (fun q => by have h9 := q.2.2.2.1; omega)⟩, (by omega), hL, hM⟩))))
                      · refine V_to (pc' := 145) (ls' := [(8, .int x_27), (6, .long x_18), (0, .ref m), (1, .int i), (2, .int j), (3, .int a), (4, .int w_), (5, .int i5)]) (st' := [.int (0 : Int32)]) (ws' := [(m, .inr (10, mF R v0 v7 v8 v9 v15 v16 v17 v18 v19 v27 v31 v32 v33 v34 v38 v42 v44)), ((R 1), .inl (Y 0, 3, .inl g1)), ((R 2), .inl (Y 0, 36, .inl g2)), ((R 3), .inl (Y 0, 36, .inl g3)), ((R 4), .inl (Y 0, 36, .inl g4)), ((R 46), .inl (Y 0, 6, .inl a46)), ((R 47), .inl (Y 0, 6, .inl a47)), ((R 48), .inl (Y 1, 360, .inr (.inl a48)))]) ?_ rfl rfl rfl rfl
                        have hc_0 : (0 : Int32).toInt = 0 := by decide
                        have hc_7 : (7 : Int32).toInt = 7 := by decide
                        refine V_if_eq X (show (0 : Int32).toInt = 0 from by decide) 186 dX11_lines_145 (by decide) (fun _ => ?_) (fun c_145 => absurd c_145 (by decide))
                        refine V_iload X 7 rfl dX11_lines_186 ?_
                        exact V_iret X hr dX11_lines_188 (Or.inr (Or.inr (Or.inr (⟨i5, g1, g2, g3, g4, an, wn_, k, rfl, rfl, (by omega), (by omega), tan, twn, ⟨by omega, hO, Or.inr (fun q => by have h9 := q.2.2.1; omega)⟩, (by omega), hL, hM⟩))))
                    · refine V_iload X 6 rfl dX11_lines_118 ?_
                      exact V_iret X hr dX11_lines_120 (Or.inr (Or.inr (Or.inr (⟨i5, g1, g2, g3, g4, an, wn_, k, rfl, rfl, (by omega), (by omega), tan, twn, ⟨by omega, hO, Or.inr (fun q => by have h9 := q.1; omega)⟩, (by omega), hL, hM⟩))))
              · exact ⟨(by have h9 : (0 : Int32).toInt = 0 := (show (0 : Int32).toInt = 0 from by decide); omega), (by omega), (fun q hq => absurd hq (Nat.not_lt_zero q)), (by rw [Nat.add_zero, upS_id]; exact hLN), (by show MTR _ _ _ (upS T s0 (T s0)); rw [upS_id]; exact hMT)⟩
          · refine V_bipush (v := (-12 : Int32)) X (by decide) dX11_lines_48 ?_
            exact V_iret X hr dX11_lines_50 (Or.inr (Or.inl ⟨rfl, rfl, (by omega), (by omega)⟩))
      · refine V_to (pc' := 22) (ls' := [(0, .ref m), (1, .int i), (2, .int j), (3, .int a), (4, .int w_)]) (st' := [.int (0 : Int32)]) (ws' := [(m, .inr (10, mF R v0 v7 v8 v9 v15 v16 v17 v18 v19 v27 v31 v32 v33 v34 v38 v42 v44)), ((R 1), .inl (Y 0, 3, .inl a1)), ((R 2), .inl (Y 0, 36, .inl a2)), ((R 3), .inl (Y 0, 36, .inl a3)), ((R 4), .inl (Y 0, 36, .inl a4)), ((R 46), .inl (Y 0, 6, .inl a46)), ((R 47), .inl (Y 0, 6, .inl a47)), ((R 48), .inl (Y 1, 360, .inr (.inl a48)))]) ?_ rfl rfl rfl rfl
        have hc_1 : (1 : Int32).toInt = 1 := by decide
        have hc_12 : (12 : Int32).toInt = 12 := by decide
        refine V_if_ne X (show (0 : Int32).toInt = 0 from by decide) 27 dX11_lines_22 (by decide) (fun c_22 => absurd c_22 (by decide)) (fun _ => ?_)
        refine V_iconst (v := (-1 : Int32)) X (by decide) dX11_lines_25 ?_
        exact V_iret X hr dX11_lines_26 (Or.inl ⟨rfl, rfl, (by omega)⟩)
    · refine V_to (pc' := 11) (ls' := [(0, .ref m), (1, .int i), (2, .int j), (3, .int a), (4, .int w_)]) (st' := [.int (0 : Int32)]) (ws' := [(m, .inr (10, mF R v0 v7 v8 v9 v15 v16 v17 v18 v19 v27 v31 v32 v33 v34 v38 v42 v44)), ((R 1), .inl (Y 0, 3, .inl a1)), ((R 2), .inl (Y 0, 36, .inl a2)), ((R 3), .inl (Y 0, 36, .inl a3)), ((R 4), .inl (Y 0, 36, .inl a4)), ((R 46), .inl (Y 0, 6, .inl a46)), ((R 47), .inl (Y 0, 6, .inl a47)), ((R 48), .inl (Y 1, 360, .inr (.inl a48)))]) ?_ rfl rfl rfl rfl
      refine V_if_eq X (show (0 : Int32).toInt = 0 from by decide) 25 dX11_lines_11 (by decide) (fun _ => ?_) (fun c_11 => absurd c_11 (by decide))
      refine V_iconst (v := (-1 : Int32)) X (by decide) dX11_lines_25 ?_
      exact V_iret X hr dX11_lines_26 (Or.inl ⟨rfl, rfl, (by omega)⟩)
  · refine V_to (pc' := 4) (ls' := [(0, .ref m), (1, .int i), (2, .int j), (3, .int a), (4, .int w_)]) (st' := [.int (0 : Int32)]) (ws' := [(m, .inr (10, mF R v0 v7 v8 v9 v15 v16 v17 v18 v19 v27 v31 v32 v33 v34 v38 v42 v44)), ((R 1), .inl (Y 0, 3, .inl a1)), ((R 2), .inl (Y 0, 36, .inl a2)), ((R 3), .inl (Y 0, 36, .inl a3)), ((R 4), .inl (Y 0, 36, .inl a4)), ((R 46), .inl (Y 0, 6, .inl a46)), ((R 47), .inl (Y 0, 6, .inl a47)), ((R 48), .inl (Y 1, 360, .inr (.inl a48)))]) ?_ rfl rfl rfl rfl
    refine V_if_eq X (show (0 : Int32).toInt = 0 from by decide) 25 dX11_lines_4 (by decide) (fun _ => ?_) (fun c_4 => absurd c_4 (by decide))
    refine V_iconst (v := (-1 : Int32)) X (by decide) dX11_lines_25 ?_
    exact V_iret X hr dX11_lines_26 (Or.inl ⟨rfl, rfl, (by omega)⟩)
