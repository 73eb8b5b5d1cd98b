/-! ===== the first worlds ===== -/
theorem HV_00 : HV (fun _ => (0 : Int32)) (fun _ => false) := fun j _ q _ => by
  show bt 0 q = _
  rw [b_0]; simp
theorem SGX_00 : SGX 0 (fun _ => 0) (fun _ => false) (0 : Int32) (fun _ => (0 : Int32)) (fun _ => (0 : Int32)) := ⟨(by decide), Nat.zero_le _, fun j _ => ⟨(show (0 : Int32).toInt = ((0 : Nat) : Int) from by decide), (show 0 < 8 from by decide)⟩, HV_00, fun _ _ => rfl⟩
theorem MHV_00 : MHV (fun _ => (0 : Int32)) (fun _ _ => false) := fun s _ p _ w _ l _ => by
  show bt 0 l = _
  rw [b_0]; simp
theorem MTR_00 : MTR (fun _ => (0 : Int32)) (fun _ => (0 : Int32)) (fun _ => (0 : Int32)) (fun _ _ => 0) := fun s _ l _ => ⟨⟨(show (0 : Int32).toInt = ((0 : Nat) : Int) from by decide), (show 0 < 8 from by decide)⟩, ⟨(show (0 : Int32).toInt = ((0 : Nat) : Int) from by decide), (show 0 < 8 from by decide)⟩, ⟨(show (0 : Int32).toInt = ((0 : Nat) : Int) from by decide), (show 0 < 8 from by decide)⟩⟩
theorem LNR_00 : LNR (fun _ => (0 : Int32)) (fun _ => 0) := fun s _ => ⟨(show (0 : Int32).toInt = ((0 : Nat) : Int) from by decide), (show 0 ≤ 12 from by decide)⟩
theorem SUR_00 : SUR (upd (upd (upd (upd (fun _ => 0) 0 (5 : Int32)) 1 (5 : Int32)) 2 (5 : Int32)) 3 (5 : Int32)) (fun _ => 5) := by
  intro p hp
  rcases (by omega : p = 0 ∨ p = 1 ∨ p = 2 ∨ p = 3) with rfl | rfl | rfl | rfl <;> exact ⟨(show (5 : Int32).toInt = ((5 : Nat) : Int) from by decide), (show 5 < 10 from by decide)⟩
def hold0 : Nat → Int32 := upd (upd (upd (upd (upd (upd (fun _ => 0) 0 (-1 : Int32)) 1 (-1 : Int32)) 2 (-1 : Int32)) 3 (-1 : Int32)) 4 (-1 : Int32)) 5 (-1 : Int32)
theorem SHX_00 (v72 : Int32) {h : Nat} (hh : h < 6) : SHX v72 (0 : Int32) (0 : Int32) (0 : Int32) (0 : Int32) (fun _ => (0 : Int64)) hold0 (fun _ => (0 : Int32)) (fun _ => (0 : Int64)) h := by
  refine ⟨⟨0, by decide, (show (0 : Int32).toInt = ((0 : Nat) : Int) from by decide), (show (0 : Int32).toInt = ((0 : Nat) : Int) from by decide)⟩, Or.inl ⟨by decide, ?_⟩, fun _ _ => rfl⟩
  rcases (by omega : h = 0 ∨ h = 1 ∨ h = 2 ∨ h = 3 ∨ h = 4 ∨ h = 5) with rfl | rfl | rfl | rfl | rfl | rfl <;> exact (show (-1 : Int32).toInt = -1 from by decide)
set_option maxHeartbeats 4000000 in
set_option maxRecDepth 100000 in
theorem INV_00 {C : Nat → Nat} (hn : C 18 ≠ C 23 ∧ C 18 ≠ C 28 ∧ C 23 ≠ C 28) {pl2 fa2 lz2 : Int32} {fb fs2 fw2 fi2 : Nat → Int32} (hLC : LC fs2 fw2 lz2 (codeT ls0)) (hz : ∀ j, j < 640 → fi2 j = 0) : INV C (fun k => if k = 3 then C 71 else C 45) (upV (upV (upV (fun _ => 0) 693 pl2) 694 fa2) 716 lz2) (upF (upF (upF (upF (upF (fun _ _ => 0) 54 (upd (upd (upd (upd (fun _ => 0) 0 (5 : Int32)) 1 (5 : Int32)) 2 (5 : Int32)) 3 (5 : Int32))) 70 fb) 72 fs2) 73 fw2) 74 fi2) (fun _ _ => 0) (fun _ => 0) (upF (upF (upF (fun _ _ => 0) 6 (upd (upd (upd (upd (fun _ => 0) 0 (5 : Int32)) 1 (5 : Int32)) 2 (5 : Int32)) 3 (5 : Int32))) 36 (upd (upd (upd (upd (upd (upd (upd (fun _ => 0) 0 (0 : Int32)) 1 (0 : Int32)) 2 (0 : Int32)) 3 (0 : Int32)) 4 (-1 : Int32)) 5 (0 : Int32)) 6 (0 : Int32))) 46 (upd (upd (upd (upd (upd (upd (fun _ => 0) 0 (-1 : Int32)) 1 (-1 : Int32)) 2 (-1 : Int32)) 3 (-1 : Int32)) 4 (-1 : Int32)) 5 (-1 : Int32))) (fun _ _ => 0) := by
  have z : (0 : Int32).toInt = 0 := by decide
  have z0 : (0 : Int32).toInt = ((0 : Nat) : Int) := by decide
  refine ⟨fun _ => 0, fun _ _ => 0, fun _ _ => false, fun _ => 5, FA, ⟨SGX_00, SGX_00, SGX_00, LNR_00, MTR_00, MHV_00⟩, ⟨SUR_00, SUR_00⟩, rfl, ⟨LWR_first (fg := fun _ => 0) hLC hz, Or.inl ⟨z, rfl⟩⟩, ⟨0, z0, z0, Nat.zero_le _, TPR_0 _ _⟩, ⟨0, 0, z0, z0, z0, z0, Nat.zero_le _, fun j hj => absurd hj (Nat.not_lt_zero j)⟩, ⟨rfl, rfl, ⟨0, z0, Nat.zero_le _, fun j hj => absurd hj (Nat.not_lt_zero j)⟩, tr_0 _ _⟩, ⟨SHX_00 _ (by decide), SHX_00 _ (by decide), SHX_00 _ (by decide), SHX_00 _ (by decide), SHX_00 _ (by decide), SHX_00 _ (by decide)⟩, ⟨rfl, rfl, rfl, rfl⟩, Or.inl ⟨?_, ?_⟩, ⟨⟨fun h => absurd z h, fun h => absurd z h⟩, fun h => absurd z h⟩, hn⟩
  · show (0 : Int32).toInt ≠ 3
    decide
  · show (-1 : Int32).toInt < 0
    decide
section LW
variable {p : Program} {l : Launch} {e : Env} {s : State} {m : MethodId} {below : List Frame} {meth : Method} {c : Code} {D : va_G} {Y : Nat → ClassId} {b L : Nat} {xs : Nat → Int32}
variable {CC sg : Nat → Nat} {VV : Nat → Int32} {ff : Nat → Nat → Int32} {fj : Nat → Nat → Int64} {mm : Nat} {R : Nat → Nat} {VM : Nat → Int32} {fM : Nat → Nat → Int32} {jM : Nat → Nat → Int64}
theorem lw_end (X : Vx p s m #[Value.ref b] meth c cL_law 4 RL wsL_law D Y (fun q => s.heap.size ≤ q)) (hret : meth.sig.returnType = ret) {ls : List (Nat × Value)} {ws : va_W} : LJ p l e s m below meth c D b 1395 ls [] ws := by
  refine V_iconst (v := (1 : Int32)) X (by decide) dL_law_1395 ?_
  refine V_widen (k' := 600000) (n' := 7302250) (Nat.le_of_ble_eq_true rfl) (Nat.le_of_ble_eq_true rfl) ?_
  exact fun H locs la hP hD hS hl => va_forget (fun q hq => hS.2.2 q hq) (lw_ret X.1.1 X.1.2.1 hret X.2.2.2.2 dL_law_1396)
set_option maxHeartbeats 4000000 in
set_option maxRecDepth 100000 in
theorem lw_body (X : Vx p s m #[Value.ref b] meth c cL_law 4 RL wsL_law D Y (fun q => s.heap.size ≤ q)) (hX : va_X b L xs s s.heap) (hbl : b < s.heap.size) (hbA : ¬ (fun q : Nat => s.heap.size ≤ q) b) {iv : Int32} {K : Nat} (hi : iv.toInt = (K : Int)) (hK : K + 5 < L) (hL : L ≤ 3072) (hI : INV CC sg VV ff fj VM fM jM) (kk : ∀ w w', NXI Y CC mm R w w' → LJ p l e s m below meth c D b 1389 [(3, .int iv), (2, .ref mm), (1, .ref (CC 0)), (0, .ref b)] [] (w ++ w')) : LJ p l e s m below meth c D b 27 [(3, .int iv), (2, .ref mm), (1, .ref (CC 0)), (0, .ref b)] [] (WX Y CC sg VV ff fj ++ WM Y mm R VM fM jM) := by
  refine V_aload_n X 3 rfl dL_law_27 ?_
  refine V_iload_n X 0 rfl dL_law_28 ?_
  refine V_sld X hX hbl hbA hi (by omega) dL_law_29 ?_
  refine V_bipush (v := (63 : Int32)) X (by decide) dL_law_30 ?_
  refine V_iand X dL_law_32 (fun v _ => ?_)
  by_cases hv : 0 ≤ v.toInt ∧ v.toInt ≤ 36
  · rcases (by omega : v.toInt = 0 ∨ v.toInt = 1 ∨ v.toInt = 2 ∨ v.toInt = 3 ∨ v.toInt = 4 ∨ v.toInt = 5 ∨ v.toInt = 6 ∨ v.toInt = 7 ∨ v.toInt = 8 ∨ v.toInt = 9 ∨ v.toInt = 10 ∨ v.toInt = 11 ∨ v.toInt = 12 ∨ v.toInt = 13 ∨ v.toInt = 14 ∨ v.toInt = 15 ∨ v.toInt = 16 ∨ v.toInt = 17 ∨ v.toInt = 18 ∨ v.toInt = 19 ∨ v.toInt = 20 ∨ v.toInt = 21 ∨ v.toInt = 22 ∨ v.toInt = 23 ∨ v.toInt = 24 ∨ v.toInt = 25 ∨ v.toInt = 26 ∨ v.toInt = 27 ∨ v.toInt = 28 ∨ v.toInt = 29 ∨ v.toInt = 30 ∨ v.toInt = 31 ∨ v.toInt = 32 ∨ v.toInt = 33 ∨ v.toInt = 34 ∨ v.toInt = 35 ∨ v.toInt = 36) with h | h | h | h | h | h | h | h | h | h | h | h | h | h | h | h | h | h | h | h | h | h | h | h | h | h | h | h | h | h | h | h | h | h | h | h | h
    · exact V_tableIn X 196 0 dL_law_33 (by omega) (by decide) rfl (by decide) (lc_line X hX hbl hbA hi hK hL hI kk)
    · exact V_tableIn X 229 1 dL_law_33 (by omega) (by decide) rfl (by decide) (lc_lines X hX hbl hbA hi hK hL hI kk)
    · exact V_tableIn X 282 2 dL_law_33 (by omega) (by decide) rfl (by decide) (lc_has X hX hbl hbA hi hK hL hI kk)
    · exact V_tableIn X 335 3 dL_law_33 (by omega) (by decide) rfl (by decide) (lc_mend X hX hbl hbA hi hK hL hI kk)
    · exact V_tableIn X 378 4 dL_law_33 (by omega) (by decide) rfl (by decide) (lc_of X hX hbl hbA hi hK hL hI kk)
    · exact V_tableIn X 411 5 dL_law_33 (by omega) (by decide) rfl (by decide) (lc_feed X hX hbl hbA hi hK hL hI kk)
    · exact V_tableIn X 434 6 dL_law_33 (by omega) (by decide) rfl (by decide) (lc_law X hX hbl hbA hi hK hL hI kk)
    · exact V_tableIn X 447 7 dL_law_33 (by omega) (by decide) rfl (by decide) (lc_sing X hX hbl hbA hi hK hL hI kk)
    · exact V_tableIn X 480 8 dL_law_33 (by omega) (by decide) rfl (by decide) (lc_sung X hX hbl hbA hi hK hL hI kk)
    · exact V_tableIn X 523 9 dL_law_33 (by omega) (by decide) rfl (by decide) (lc_runUp X hX hbl hbA hi hK hL hI kk)
    · exact V_tableIn X 556 10 dL_law_33 (by omega) (by decide) rfl (by decide) (lc_oneBit X hX hbl hbA hi hK hL hI kk)
    · exact V_tableIn X 589 11 dL_law_33 (by omega) (by decide) rfl (by decide) (lc_fewest X hX hbl hbA hi hK hL hI kk)
    · exact V_tableIn X 612 12 dL_law_33 (by omega) (by decide) rfl (by decide) (lc_evenings X hX hbl hbA hi hK hL hI kk)
    · exact V_tableIn X 645 13 dL_law_33 (by omega) (by decide) rfl (by decide) (lc_which X hX hbl hbA hi hK hL hI kk)
    · exact V_tableIn X 668 14 dL_law_33 (by omega) (by decide) rfl (by decide) (lc_from X hX hbl hbA hi hK hL hI kk)
    · exact V_tableIn X 701 15 dL_law_33 (by omega) (by decide) rfl (by decide) (lc_judge X hX hbl hbA hi hK hL hI kk)
    · exact V_tableIn X 734 16 dL_law_33 (by omega) (by decide) rfl (by decide) (lc_lacked X hX hbl hbA hi hK hL hI kk)
    · exact V_tableIn X 768 17 dL_law_33 (by omega) (by decide) rfl (by decide) (lc_two X hX hbl hbA hi hK hL hI kk)
    · exact V_tableIn X 801 18 dL_law_33 (by omega) (by decide) rfl (by decide) (lc_mixed X hX hbl hbA hi hK hL hI kk)
    · exact V_tableIn X 834 19 dL_law_33 (by omega) (by decide) rfl (by decide) (lc_drawn X hX hbl hbA hi hK hL hI kk)
    · exact V_tableIn X 887 20 dL_law_33 (by omega) (by decide) rfl (by decide) (lc_begin X hX hbl hbA hi hK hL hI kk)
    · exact V_tableIn X 910 21 dL_law_33 (by omega) (by decide) rfl (by decide) (lc_on X hX hbl hbA hi hK hL hI kk)
    · exact V_tableIn X 923 22 dL_law_33 (by omega) (by decide) rfl (by decide) (lc_led X hX hbl hbA hi hK hL hI kk)
    · exact V_tableIn X 946 23 dL_law_33 (by omega) (by decide) rfl (by decide) (lc_image X hX hbl hbA hi hK hL hI kk)
    · exact V_tableIn X 959 24 dL_law_33 (by omega) (by decide) rfl (by decide) (lc_back X hX hbl hbA hi hK hL hI kk)
    · exact V_tableIn X 972 25 dL_law_33 (by omega) (by decide) rfl (by decide) (lc_undo X hX hbl hbA hi hK hL hI kk)
    · exact V_tableIn X 985 26 dL_law_33 (by omega) (by decide) rfl (by decide) (lc_redo X hX hbl hbA hi hK hL hI kk)
    · exact V_tableIn X 998 27 dL_law_33 (by omega) (by decide) rfl (by decide) (lc_body X hX hbl hbA hi hK hL hI kk)
    · exact V_tableIn X 1021 28 dL_law_33 (by omega) (by decide) rfl (by decide) (lc_act X hX hbl hbA hi hK hL hI kk)
    · exact V_tableIn X 1064 29 dL_law_33 (by omega) (by decide) rfl (by decide) (lc_trace X hX hbl hbA hi hK hL hI kk)
    · exact V_tableIn X 1087 30 dL_law_33 (by omega) (by decide) rfl (by decide) (lc_keep X hX hbl hbA hi hK hL hI kk)
    · exact V_tableIn X 1120 31 dL_law_33 (by omega) (by decide) rfl (by decide) (lc_row X hX hbl hbA hi hK hL hI kk)
    · exact V_tableIn X 1163 32 dL_law_33 (by omega) (by decide) rfl (by decide) (lc_put X hX hbl hbA hi hK hL hI kk)
    · exact V_tableIn X 1236 33 dL_law_33 (by omega) (by decide) rfl (by decide) (lc_element X hX hbl hbA hi hK hL hI kk)
    · exact V_tableIn X 1270 34 dL_law_33 (by omega) (by decide) rfl (by decide) (lc_shift X hX hbl hbA hi hK hL hI kk)
    · exact V_tableIn X 1333 35 dL_law_33 (by omega) (by decide) rfl (by decide) (lc_taken X hX hbl hbA hi hK hL hI kk)
    · exact V_tableIn X 1366 36 dL_law_33 (by omega) (by decide) rfl (by decide) (lc_count X hX hbl hbA hi hK hL hI kk)
  · exact V_tableOut X 1389 dL_law_33 (by omega) (by decide) (kk _ _ (NXI_same hI))
set_option maxHeartbeats 4000000 in
set_option maxRecDepth 100000 in
theorem lw_head (X : Vx p s m #[Value.ref b] meth c cL_law 4 RL wsL_law D Y (fun q => s.heap.size ≤ q)) (hX : va_X b L xs s s.heap) (hbl : b < s.heap.size) (hbA : ¬ (fun q : Nat => s.heap.size ≤ q) b) {iv : Int32} {K : Nat} {x0 : Nat} {ws : va_W} (hi : iv.toInt = (K : Int)) (hL : L ≤ 3072) (kt : L < K + 6 → LJ p l e s m below meth c D b 1395 [(3, .int iv), (2, .ref mm), (1, .ref x0), (0, .ref b)] [] ws) (kf : K + 6 ≤ L → LJ p l e s m below meth c D b 27 [(3, .int iv), (2, .ref mm), (1, .ref x0), (0, .ref b)] [] ws) : LJ p l e s m below meth c D b 18 [(3, .int iv), (2, .ref mm), (1, .ref x0), (0, .ref b)] [] ws := by
  refine V_iload_n X 0 rfl dL_law_18 ?_
  refine V_aload_n X 3 rfl dL_law_19 ?_
  refine V_xlen X hX hbl hbA dL_law_20 ?_
  refine V_bipush (v := (6 : Int32)) X (by decide) dL_law_21 ?_
  have hL2 : (Int32.ofNat L).toInt = (L : Int) := by
    rw [show Int32.ofNat L = Int32.ofInt (L : Int) from rfl, Int32.toInt_ofInt]
    exact tI_bm (by omega) (by omega)
  refine V_isubZ X (x := Int32.ofNat L) (y := (6 : Int32)) (a := (L : Int)) (b := 6) hL2 (by decide) (by omega) (by omega) dL_law_23 (fun v _ hv => ?_)
  exact V_icmp_gt X hi hv 1395 dL_law_24 (by decide) (fun q => kt (by omega)) (fun q => kf (by omega))
set_option maxHeartbeats 4000000 in
/-- the loop: from its head, wherever it stands in the script -/
theorem lw_loop (X : Vx p s m #[Value.ref b] meth c cL_law 4 RL wsL_law D Y (fun q => s.heap.size ≤ q)) (hret : meth.sig.returnType = ret) (hX : va_X b L xs s s.heap) (hbl : b < s.heap.size) (hbA : ¬ (fun q : Nat => s.heap.size ≤ q) b) (hL : L ≤ 3072) (x0 : Nat) : ∀ (f K : Nat), L ≤ K + f → ∀ (CC sg : Nat → Nat) (VV : Nat → Int32) (ff : Nat → Nat → Int32) (fj : Nat → Nat → Int64) (VM : Nat → Int32) (fM : Nat → Nat → Int32) (jM : Nat → Nat → Int64) (iv : Int32), CC 0 = x0 → INV CC sg VV ff fj VM fM jM → iv.toInt = ((K : Nat) : Int) → LJ p l e s m below meth c D b 18 [(3, .int iv), (2, .ref mm), (1, .ref x0), (0, .ref b)] [] (WX Y CC sg VV ff fj ++ WM Y mm R VM fM jM) := by
  intro f
  induction f with
  | zero =>
    intro K hf CC sg VV ff fj VM fM jM iv hC hI hi
    exact lw_head X hX hbl hbA hi hL (fun _ => lw_end X hret) (fun q => absurd q (by omega))
  | succ f ih =>
    intro K hf CC sg VV ff fj VM fM jM iv hC hI hi
    refine lw_head X hX hbl hbA hi hL (fun _ => lw_end X hret) (fun q => ?_)
    rw [← hC]
    refine lw_body X hX hbl hbA hi (by omega) hL hI (fun w w' hN => ?_)
    obtain ⟨CC', sg', VV', ff', fj', VM', fM', jM', h0, rfl, rfl, hI'⟩ := hN
    refine V_iincZ X (fun v => [(3, .int v), (2, .ref mm), (1, .ref (CC 0)), (0, .ref b)]) hi (by omega) (by omega) (by decide) 0 rfl (by decide) (fun _ => rfl) dL_law_1389 (fun v _ hv => ?_)
    refine V_goto X 18 (by decide) dL_law_1392 ?_
    rw [hC]
    exact ih (K + 6) (by omega) CC' sg' VV' ff' fj' VM' fM' jM' v (h0.trans hC) hI' (by omega)
end LW
