
/-! ===== both sides, a call of each: body act trace keep row put element shift taken count ===== -/
set_option maxHeartbeats 4000000 in
set_option maxRecDepth 100000 in
theorem pr_body (l : Launch) (D : va_G) (Y : Nat → ClassId) {CC sg : Nat → Nat} {VV : Nat → Int32} {ff : Nat → Nat → Int32} {fj : Nat → Nat → Int64} {m : Nat} {R : Nat → Nat} {VM : Nat → Int32} {fM : Nat → Nat → Int32} {jM : Nat → Nat → Int64} (hI : INV CC sg VV ff fj VM fM jM) (a0 : Int32) : PRS ANI l D Y CC m R (WX Y CC sg VV ff fj) (WM Y m R VM fM jM) yX10_body wsX10_body yX11_body wsX11_body [.int a0] := by
  obtain ⟨n, T, B, S, F, iS, iU, iF, iL, iT, iC, iA, iH, iD, iE, iM, iN⟩ := id hI
  obtain ⟨eA, eR, ⟨nb_, tnb, hnb, hKD⟩, hTR⟩ := id iA
  have eA2 := congrArg Int32.toInt eA
  have eR2 := congrArg Int32.toInt eR
  have tvb : (VM 42).toInt = ((nb_ : Nat) : Int) := by omega
  refine ⟨_, _, _, _, RB_of (by decide) (by decide), RB_of (by decide) (by decide), lx_body l D Y CC sg VV ff fj nb_ a0 tnb hnb, lm_body l D Y m R nb_ a0 VM fM jM tvb hnb, ?_⟩
  intro v w v' w' hx_ hm_
  rcases hx_ with ⟨rfl, rfl, fx0⟩ | ⟨rfl, rfl, fx0, fx1⟩ | ⟨r_x, sz2_x, rfl, rfl, fx0, fx1, fx2, fx3⟩
  · rcases hm_ with ⟨rfl, rfl, fm0⟩ | ⟨rfl, rfl, fm0, fm1⟩ | ⟨r_m, z42_m, rfl, rfl, fm0, fm1, fm2, fm3⟩
    · exact ⟨⟨_, rfl, rfl⟩, NXI_same hI⟩
    · exfalso; omega
    · exfalso; omega
  · rcases hm_ with ⟨rfl, rfl, fm0⟩ | ⟨rfl, rfl, fm0, fm1⟩ | ⟨r_m, z42_m, rfl, rfl, fm0, fm1, fm2, fm3⟩
    · exfalso; omega
    · exact ⟨⟨_, rfl, rfl⟩, NXI_same hI⟩
    · exfalso; omega
  · rcases hm_ with ⟨rfl, rfl, fm0⟩ | ⟨rfl, rfl, fm0, fm1⟩ | ⟨r_m, z42_m, rfl, rfl, fm0, fm1, fm2, fm3⟩
    · exfalso; omega
    · exfalso; omega
    · have hA : I_ac sz2_x (VV 73) (upd (ff 8) nb_ a0) (ff 9) z42_m (VM 44) (upd (fM 43) nb_ a0) (fM 45) := by
        refine ⟨i32e fx3 fm3, eR, ⟨nb_ + 1, fx3, fx1, fun j hj => ?_⟩, hTR⟩
        unfold upd
        by_cases e : j = nb_
        · rw [if_pos e, if_pos e]; exact ⟨rfl, a0.toInt.toNat, by omega, by omega⟩
        · rw [if_neg e, if_neg e]; exact hKD j (by omega)
      exact ⟨ANI_of (fx2.trans fm2.symm), CC, _, _, _, _, _, _, _, rfl, rfl, rfl, n, T, B, S, F, iS, iU, iF, iL, iT, iC, hA, I_sh_v iH (show (VV 72).toInt ≤ sz2_x.toInt by omega), iD, iE, iM, iN⟩
set_option maxHeartbeats 4000000 in
set_option maxRecDepth 100000 in
theorem pr_act (l : Launch) (D : va_G) (Y : Nat → ClassId) {CC sg : Nat → Nat} {VV : Nat → Int32} {ff : Nat → Nat → Int32} {fj : Nat → Nat → Int64} {m : Nat} {R : Nat → Nat} {VM : Nat → Int32} {fM : Nat → Nat → Int32} {jM : Nat → Nat → Int64} (hI : INV CC sg VV ff fj VM fM jM) (a0 : Int32) (a1 : Int32) (a2 : Int32) : PRS ANI l D Y CC m R (WX Y CC sg VV ff fj) (WM Y m R VM fM jM) yX10_act wsX10_act yX11_act wsX11_act [.int a0, .int a1, .int a2] := by
  obtain ⟨n, T, B, S, F, iS, iU, iF, iL, iT, iC, iA, iH, iD, iE, iM, iN⟩ := id hI
  obtain ⟨eA, eR, ⟨nb_, tnb, hnb, hKD⟩, hTR⟩ := id iA
  have eA2 := congrArg Int32.toInt eA
  have eR2 := congrArg Int32.toInt eR
  have tvb : (VM 42).toInt = ((nb_ : Nat) : Int) := by omega
  obtain ⟨bn, K, hK8, hkX, hkM⟩ : ∃ bn K : Nat, K < 8 ∧ (0 ≤ a0.toInt → a0.toInt < ((nb_ : Nat) : Int) → a0.toInt = ((bn : Nat) : Int) ∧ bn < 50 ∧ ((ff 8) bn).toInt = ((K : Nat) : Int)) ∧ (0 ≤ a0.toInt → a0.toInt < ((nb_ : Nat) : Int) → a0.toInt = ((bn : Nat) : Int) ∧ bn < 50 ∧ ((fM 43) bn).toInt = ((K : Nat) : Int)) := by
    by_cases h : 0 ≤ a0.toInt ∧ a0.toInt < ((nb_ : Nat) : Int)
    · obtain ⟨q1, K, q2, q3⟩ := hKD a0.toInt.toNat (by omega)
      exact ⟨a0.toInt.toNat, K, q3, fun _ _ => ⟨by omega, by omega, q2⟩, fun _ _ => ⟨by omega, by omega, by rw [← q1]; exact q2⟩⟩
    · exact ⟨0, 0, by decide, fun h1 h2 => absurd ⟨h1, h2⟩ h, fun h1 h2 => absurd ⟨h1, h2⟩ h⟩
  obtain ⟨a, ha4, haw⟩ := ix4 a1
  refine ⟨_, _, _, _, RB_of (by decide) (by decide), RB_of (by decide) (by decide), lx_act l D Y CC sg VV ff fj nb_ bn K a0 a a1 a2 tnb hnb hkX hK8 haw, lm_act l D Y m R nb_ a0 bn K a1 a a2 VM fM jM tvb hnb hkM hK8 haw, ?_⟩
  intro v w v' w' hx_ hm_
  rcases hx_ with ⟨rfl, rfl, fx0⟩ | ⟨r_x, rn2_x, ft2_x, rfl, rfl, fx0, fx1, fx2, fx3⟩
  · rcases hm_ with ⟨rfl, rfl, fm0⟩ | ⟨r_m, z44_m, b45_m, rfl, rfl, fm0, fm1, fm2, fm3⟩
    · exact ⟨⟨_, rfl, rfl⟩, CC, _, _, _, _, _, _, _, rfl, rfl, rfl, n, T, B, S, F, iS, iU, iF, iL, iT, iC, ⟨eA, rfl, ⟨nb_, tnb, hnb, hKD⟩, tr_0 _ _⟩, iH, iD, iE, iM, iN⟩
    · exfalso; omega
  · rcases hm_ with ⟨rfl, rfl, fm0⟩ | ⟨r_m, z44_m, b45_m, rfl, rfl, fm0, fm1, fm2, fm3⟩
    · exfalso; omega
    · have hT : ∀ j : Nat, ((j : Nat) : Int) < rn2_x.toInt → j < 24 → ft2_x j = b45_m j := fun j h1 h2 => i32e (fx3 j (by omega) h2) (fm3 j (by omega) h2)
      exact ⟨ANI_e (fx1.trans fm1.symm), CC, _, _, _, _, _, _, _, rfl, rfl, rfl, n, T, B, S, F, iS, iU, iF, iL, iT, iC, ⟨eA, i32e fx2 fm2, ⟨nb_, tnb, hnb, hKD⟩, hT⟩, iH, iD, iE, iM, iN⟩
set_option maxHeartbeats 4000000 in
set_option maxRecDepth 100000 in
theorem pr_trace (l : Launch) (D : va_G) (Y : Nat → ClassId) {CC sg : Nat → Nat} {VV : Nat → Int32} {ff : Nat → Nat → Int32} {fj : Nat → Nat → Int64} {m : Nat} {R : Nat → Nat} {VM : Nat → Int32} {fM : Nat → Nat → Int32} {jM : Nat → Nat → Int64} (hI : INV CC sg VV ff fj VM fM jM) (a0 : Int32) : PRS ANI l D Y CC m R (WX Y CC sg VV ff fj) (WM Y m R VM fM jM) yX10_trace wsX10_trace yX11_trace wsX11_trace [.int a0] := by
  obtain ⟨n, T, B, S, F, iS, iU, iF, iL, iT, iC, iA, iH, iD, iE, iM, iN⟩ := id hI
  obtain ⟨eA, eR, ⟨nb_, tnb, hnb, hKD⟩, hTR⟩ := id iA
  have eA2 := congrArg Int32.toInt eA
  have eR2 := congrArg Int32.toInt eR
  have tvb : (VM 42).toInt = ((nb_ : Nat) : Int) := by omega
  refine ⟨_, _, _, _, RB_of (by decide) (by decide), RB_of (by decide) (by decide), lx_trace l D Y CC sg VV ff fj a0, lm_trace l D Y m R a0 VM fM jM, ?_⟩
  intro v w v' w' hx_ hm_
  rcases hx_ with ⟨rfl, rfl, fx0⟩ | ⟨r_x, k_x, rfl, rfl, fx0, fx1, fx2⟩
  · rcases hm_ with ⟨rfl, rfl, fm0⟩ | ⟨r_m, k_m, rfl, rfl, fm0, fm1, fm2⟩
    · exact ⟨⟨_, rfl, rfl⟩, NXI_same hI⟩
    · exfalso; omega
  · rcases hm_ with ⟨rfl, rfl, fm0⟩ | ⟨r_m, k_m, rfl, rfl, fm0, fm1, fm2⟩
    · exfalso; omega
    · obtain rfl : k_x = k_m := by omega
      exact ⟨ANI_e (by rw [fx2, fm2]; exact hTR k_x (by omega) fx1.2), NXI_same hI⟩
set_option maxHeartbeats 4000000 in
set_option maxRecDepth 100000 in
theorem pr_keep (l : Launch) (D : va_G) (Y : Nat → ClassId) {CC sg : Nat → Nat} {VV : Nat → Int32} {ff : Nat → Nat → Int32} {fj : Nat → Nat → Int64} {m : Nat} {R : Nat → Nat} {VM : Nat → Int32} {fM : Nat → Nat → Int32} {jM : Nat → Nat → Int64} (hI : INV CC sg VV ff fj VM fM jM) (a0 : Int32) (a1 : Int32) : PRS ANI l D Y CC m R (WX Y CC sg VV ff fj) (WM Y m R VM fM jM) yX10_keep wsX10_keep yX11_keep wsX11_keep [.int a0, .int a1] := by
  obtain ⟨n, T, B, S, F, iS, iU, iF, iL, iT, iC, iA, iH, iD, iE, iM, iN⟩ := id hI
  obtain ⟨eA, eR, ⟨nb_, tnb, hnb, hKD⟩, hTR⟩ := id iA
  have eA2 := congrArg Int32.toInt eA
  have eR2 := congrArg Int32.toInt eR
  have tvb : (VM 42).toInt = ((nb_ : Nat) : Int) := by omega
  obtain ⟨h0, hh0, hho⟩ := ix6 a0
  obtain ⟨⟨m_, hm, tle, hsz⟩, hq, hc⟩ := I_sh_at iH hh0
  have hqi := hq_i hq
  refine ⟨_, _, _, _, RB_of (by decide) (by decide), RB_of (by decide) (by decide), lx_keep l D Y CC sg VV ff fj m_ h0 a0 a1 hh0 hho tle, lm_keep l D Y m R nb_ h0 a0 a1 VM fM jM tvb hnb hho hh0, ?_⟩
  intro v w v' w' hx_ hm_
  rcases hx_ with ⟨rfl, rfl, fx0⟩ | ⟨rfl, rfl, fx0, fx1⟩ | ⟨rfl, rfl, fx0, fx1⟩
  · rcases hm_ with ⟨rfl, rfl, fm0⟩ | ⟨rfl, rfl, fm0, fm1⟩
    · exact ⟨⟨_, rfl, rfl⟩, NXI_same hI⟩
    · exfalso; omega
  · rcases hm_ with ⟨rfl, rfl, fm0⟩ | ⟨rfl, rfl, fm0, fm1⟩
    · exfalso; omega
    · have hS : SHX (VV 72) (0 : Int32) (VV (332 + 20 * h0)) (VV (333 + 20 * h0)) (VV (334 + 20 * h0)) (fj (34 + 2 * h0)) (upd (fM 46) h0 a1) (fM 47) (jM 48) h0 := ⟨⟨m_, hm, tle, hsz⟩, Or.inl ⟨by decide, by unfold upd; rw [if_pos rfl]; exact fx1⟩, hc⟩
      have hO : ∀ i, i < 6 → i ≠ h0 → upd (fM 46) h0 a1 i = (fM 46) i ∧ (fM 47) i = (fM 47) i ∧ ∀ j, j < 60 → (jM 48) (60 * i + j) = (jM 48) (60 * i + j) := fun i _ hi => ⟨by unfold upd; rw [if_neg hi], rfl, fun _ _ => rfl⟩
      rcases (by omega : h0 = 0 ∨ h0 = 1 ∨ h0 = 2 ∨ h0 = 3 ∨ h0 = 4 ∨ h0 = 5) with rfl | rfl | rfl | rfl | rfl | rfl
      · exact ⟨⟨_, rfl, rfl⟩, CC, _, _, _, _, _, _, _, rfl, rfl, rfl, n, T, B, S, F, iS, iU, iF, iL, iT, iC, iA, I_sh_0 iH hS hO, iD, iE, iM, iN⟩
      · exact ⟨⟨_, rfl, rfl⟩, CC, _, _, _, _, _, _, _, rfl, rfl, rfl, n, T, B, S, F, iS, iU, iF, iL, iT, iC, iA, I_sh_1 iH hS hO, iD, iE, iM, iN⟩
      · exact ⟨⟨_, rfl, rfl⟩, CC, _, _, _, _, _, _, _, rfl, rfl, rfl, n, T, B, S, F, iS, iU, iF, iL, iT, iC, iA, I_sh_2 iH hS hO, iD, iE, iM, iN⟩
      · exact ⟨⟨_, rfl, rfl⟩, CC, _, _, _, _, _, _, _, rfl, rfl, rfl, n, T, B, S, F, iS, iU, iF, iL, iT, iC, iA, I_sh_3 iH hS hO, iD, iE, iM, iN⟩
      · exact ⟨⟨_, rfl, rfl⟩, CC, _, _, _, _, _, _, _, rfl, rfl, rfl, n, T, B, S, F, iS, iU, iF, iL, iT, iC, iA, I_sh_4 iH hS hO, iD, iE, iM, iN⟩
      · exact ⟨⟨_, rfl, rfl⟩, CC, _, _, _, _, _, _, _, rfl, rfl, rfl, n, T, B, S, F, iS, iU, iF, iL, iT, iC, iA, I_sh_5 iH hS hO, iD, iE, iM, iN⟩
  · rcases hm_ with ⟨rfl, rfl, fm0⟩ | ⟨rfl, rfl, fm0, fm1⟩
    · exfalso; omega
    · have hS : SHX (VV 72) (1 : Int32) a1 (VV (333 + 20 * h0)) (VV (334 + 20 * h0)) (fj (34 + 2 * h0)) (upd (fM 46) h0 a1) (fM 47) (jM 48) h0 := ⟨⟨m_, hm, tle, hsz⟩, Or.inr (Or.inl ⟨by decide, by unfold upd; rw [if_pos rfl], fx1.1, fx1.2⟩), hc⟩
      have hO : ∀ i, i < 6 → i ≠ h0 → upd (fM 46) h0 a1 i = (fM 46) i ∧ (fM 47) i = (fM 47) i ∧ ∀ j, j < 60 → (jM 48) (60 * i + j) = (jM 48) (60 * i + j) := fun i _ hi => ⟨by unfold upd; rw [if_neg hi], rfl, fun _ _ => rfl⟩
      rcases (by omega : h0 = 0 ∨ h0 = 1 ∨ h0 = 2 ∨ h0 = 3 ∨ h0 = 4 ∨ h0 = 5) with rfl | rfl | rfl | rfl | rfl | rfl
      · exact ⟨⟨_, rfl, rfl⟩, CC, _, _, _, _, _, _, _, rfl, rfl, rfl, n, T, B, S, F, iS, iU, iF, iL, iT, iC, iA, I_sh_0 iH hS hO, iD, iE, iM, iN⟩
      · exact ⟨⟨_, rfl, rfl⟩, CC, _, _, _, _, _, _, _, rfl, rfl, rfl, n, T, B, S, F, iS, iU, iF, iL, iT, iC, iA, I_sh_1 iH hS hO, iD, iE, iM, iN⟩
      · exact ⟨⟨_, rfl, rfl⟩, CC, _, _, _, _, _, _, _, rfl, rfl, rfl, n, T, B, S, F, iS, iU, iF, iL, iT, iC, iA, I_sh_2 iH hS hO, iD, iE, iM, iN⟩
      · exact ⟨⟨_, rfl, rfl⟩, CC, _, _, _, _, _, _, _, rfl, rfl, rfl, n, T, B, S, F, iS, iU, iF, iL, iT, iC, iA, I_sh_3 iH hS hO, iD, iE, iM, iN⟩
      · exact ⟨⟨_, rfl, rfl⟩, CC, _, _, _, _, _, _, _, rfl, rfl, rfl, n, T, B, S, F, iS, iU, iF, iL, iT, iC, iA, I_sh_4 iH hS hO, iD, iE, iM, iN⟩
      · exact ⟨⟨_, rfl, rfl⟩, CC, _, _, _, _, _, _, _, rfl, rfl, rfl, n, T, B, S, F, iS, iU, iF, iL, iT, iC, iA, I_sh_5 iH hS hO, iD, iE, iM, iN⟩
set_option maxHeartbeats 4000000 in
set_option maxRecDepth 100000 in
theorem pr_row (l : Launch) (D : va_G) (Y : Nat → ClassId) {CC sg : Nat → Nat} {VV : Nat → Int32} {ff : Nat → Nat → Int32} {fj : Nat → Nat → Int64} {m : Nat} {R : Nat → Nat} {VM : Nat → Int32} {fM : Nat → Nat → Int32} {jM : Nat → Nat → Int64} (hI : INV CC sg VV ff fj VM fM jM) (a0 : Int32) (a1 : Int32) (a2 : Int32) : PRS ANI l D Y CC m R (WX Y CC sg VV ff fj) (WM Y m R VM fM jM) yX10_row wsX10_row yX11_row wsX11_row [.int a0, .int a1, .int a2] := by
  obtain ⟨n, T, B, S, F, iS, iU, iF, iL, iT, iC, iA, iH, iD, iE, iM, iN⟩ := id hI
  obtain ⟨h0, hh0, hho⟩ := ix6 a0
  obtain ⟨⟨m_, hm, tle, hsz⟩, hq, hc⟩ := I_sh_at iH hh0
  have hqi := hq_i hq
  refine ⟨_, _, _, _, RB_of (by decide) (by decide), RB_of (by decide) (by decide), lx_row l D Y CC sg VV ff fj m_ h0 a0 a1 a2 hh0 tle hm hho, lm_row l D Y m R h0 a0 a1 a2 VM fM jM hho hh0, ?_⟩
  intro v w v' w' hx_ hm_
  rcases hx_ with ⟨rfl, rfl, fx0⟩ | ⟨rfl, rfl, fx0, fx1⟩ | ⟨le2_x, fc2_x, m2_x, rfl, rfl, fx0, fx1, fx2, fx3, fx4⟩
  · rcases hm_ with ⟨rfl, rfl, fm0⟩ | ⟨rfl, rfl, fm0, fm1⟩ | ⟨z46_m, b48_m, m2_m, rfl, rfl, fm0, fm1, fm2, fm3, fm4⟩
    · exact ⟨⟨_, rfl, rfl⟩, NXI_same hI⟩
    · exfalso; omega
    · exfalso; omega
  · rcases hm_ with ⟨rfl, rfl, fm0⟩ | ⟨rfl, rfl, fm0, fm1⟩ | ⟨z46_m, b48_m, m2_m, rfl, rfl, fm0, fm1, fm2, fm3, fm4⟩
    · exfalso; omega
    · exact ⟨⟨_, rfl, rfl⟩, NXI_same hI⟩
    · exfalso; omega
  · rcases hm_ with ⟨rfl, rfl, fm0⟩ | ⟨rfl, rfl, fm0, fm1⟩ | ⟨z46_m, b48_m, m2_m, rfl, rfl, fm0, fm1, fm2, fm3, fm4⟩
    · exfalso; omega
    · exfalso; omega
    · obtain rfl : m2_x = m2_m := by omega
      have hS : SHX (VV 72) (2 : Int32) (VV (332 + 20 * h0)) a1 le2_x fc2_x (upd (fM 46) h0 z46_m) (upd (fM 47) h0 a2) b48_m h0 := ⟨⟨m2_x, fx2, fx3, by unfold upd; rw [if_pos rfl]; exact fx1⟩, Or.inr (Or.inr ⟨by decide, fx0.2.1, fx0.2.2, by unfold upd; rw [if_pos rfl]; exact fm3⟩), fun j hj => by rw [fx4 j hj, fm4, if_pos (by omega)]⟩
      have hO : ∀ i, i < 6 → i ≠ h0 → upd (fM 46) h0 z46_m i = (fM 46) i ∧ upd (fM 47) h0 a2 i = (fM 47) i ∧ ∀ j, j < 60 → b48_m (60 * i + j) = (jM 48) (60 * i + j) := fun i _ hi => ⟨by unfold upd; rw [if_neg hi], by unfold upd; rw [if_neg hi], fun j hj => by rw [fm4, if_neg (by omega)]⟩
      rcases (by omega : h0 = 0 ∨ h0 = 1 ∨ h0 = 2 ∨ h0 = 3 ∨ h0 = 4 ∨ h0 = 5) with rfl | rfl | rfl | rfl | rfl | rfl
      · exact ⟨⟨_, rfl, rfl⟩, CC, _, _, _, _, _, _, _, rfl, rfl, rfl, n, T, B, S, F, iS, iU, iF, iL, iT, iC, iA, I_sh_0 iH hS hO, iD, iE, iM, iN⟩
      · exact ⟨⟨_, rfl, rfl⟩, CC, _, _, _, _, _, _, _, rfl, rfl, rfl, n, T, B, S, F, iS, iU, iF, iL, iT, iC, iA, I_sh_1 iH hS hO, iD, iE, iM, iN⟩
      · exact ⟨⟨_, rfl, rfl⟩, CC, _, _, _, _, _, _, _, rfl, rfl, rfl, n, T, B, S, F, iS, iU, iF, iL, iT, iC, iA, I_sh_2 iH hS hO, iD, iE, iM, iN⟩
      · exact ⟨⟨_, rfl, rfl⟩, CC, _, _, _, _, _, _, _, rfl, rfl, rfl, n, T, B, S, F, iS, iU, iF, iL, iT, iC, iA, I_sh_3 iH hS hO, iD, iE, iM, iN⟩
      · exact ⟨⟨_, rfl, rfl⟩, CC, _, _, _, _, _, _, _, rfl, rfl, rfl, n, T, B, S, F, iS, iU, iF, iL, iT, iC, iA, I_sh_4 iH hS hO, iD, iE, iM, iN⟩
      · exact ⟨⟨_, rfl, rfl⟩, CC, _, _, _, _, _, _, _, rfl, rfl, rfl, n, T, B, S, F, iS, iU, iF, iL, iT, iC, iA, I_sh_5 iH hS hO, iD, iE, iM, iN⟩
set_option maxHeartbeats 4000000 in
set_option maxRecDepth 100000 in
theorem pr_put (l : Launch) (D : va_G) (Y : Nat → ClassId) {CC sg : Nat → Nat} {VV : Nat → Int32} {ff : Nat → Nat → Int32} {fj : Nat → Nat → Int64} {m : Nat} {R : Nat → Nat} {VM : Nat → Int32} {fM : Nat → Nat → Int32} {jM : Nat → Nat → Int64} (hI : INV CC sg VV ff fj VM fM jM) (a0 : Int32) (a1 : Int32) (a2 : Int64) : PRS ANI l D Y CC m R (WX Y CC sg VV ff fj) (WM Y m R VM fM jM) yX10_put wsX10_put yX11_put wsX11_put [.int a0, .int a1, .long a2] := by
  obtain ⟨n, T, B, S, F, iS, iU, iF, iL, iT, iC, iA, iH, iD, iE, iM, iN⟩ := id hI
  obtain ⟨h0, hh0, hho⟩ := ix6 a0
  obtain ⟨⟨m_, hm, tle, hsz⟩, hq, hc⟩ := I_sh_at iH hh0
  have hqi := hq_i hq
  refine ⟨_, _, _, _, RB_of (by decide) (by decide), RB_of (by decide) (by decide), lx_put l D Y CC sg VV ff fj m_ h0 a0 a1 a2 hh0 tle hm hho, lm_put l D Y m R h0 m_ a0 a1 a2 VM fM jM hho hh0 hsz hm (by omega), ?_⟩
  intro v w v' w' hx_ hm_
  rcases hx_ with ⟨rfl, rfl, fx0⟩ | ⟨rfl, rfl, fx0, fx1⟩ | ⟨rfl, rfl, fx0, fx1⟩ | ⟨rfl, rfl, fx0, fx1, fx2⟩ | ⟨k_x, fc2_x, rfl, rfl, fx0, fx1, fx2, fx3, fx4⟩
  · rcases hm_ with ⟨rfl, rfl, fm0⟩ | ⟨rfl, rfl, fm0, fm1⟩ | ⟨rfl, rfl, fm0, fm1⟩ | ⟨rfl, rfl, fm0, fm1, fm2⟩ | ⟨kn_m, b48_m, rfl, rfl, fm0, fm1, fm2, fm3, fm4⟩
    · exact ⟨⟨_, rfl, rfl⟩, NXI_same hI⟩
    · exfalso; omega
    · exfalso; omega
    · exfalso; omega
    · exfalso; omega
  · rcases hm_ with ⟨rfl, rfl, fm0⟩ | ⟨rfl, rfl, fm0, fm1⟩ | ⟨rfl, rfl, fm0, fm1⟩ | ⟨rfl, rfl, fm0, fm1, fm2⟩ | ⟨kn_m, b48_m, rfl, rfl, fm0, fm1, fm2, fm3, fm4⟩
    · exfalso; omega
    · exact ⟨⟨_, rfl, rfl⟩, NXI_same hI⟩
    · exfalso; omega
    · exfalso; omega
    · exfalso; omega
  · rcases hm_ with ⟨rfl, rfl, fm0⟩ | ⟨rfl, rfl, fm0, fm1⟩ | ⟨rfl, rfl, fm0, fm1⟩ | ⟨rfl, rfl, fm0, fm1, fm2⟩ | ⟨kn_m, b48_m, rfl, rfl, fm0, fm1, fm2, fm3, fm4⟩
    · exfalso; omega
    · exfalso; omega
    · exact ⟨⟨_, rfl, rfl⟩, NXI_same hI⟩
    · exfalso; omega
    · exfalso; omega
  · rcases hm_ with ⟨rfl, rfl, fm0⟩ | ⟨rfl, rfl, fm0, fm1⟩ | ⟨rfl, rfl, fm0, fm1⟩ | ⟨rfl, rfl, fm0, fm1, fm2⟩ | ⟨kn_m, b48_m, rfl, rfl, fm0, fm1, fm2, fm3, fm4⟩
    · exfalso; omega
    · exfalso; omega
    · exfalso; omega
    · exact ⟨⟨_, rfl, rfl⟩, NXI_same hI⟩
    · exfalso; omega
  · rcases hm_ with ⟨rfl, rfl, fm0⟩ | ⟨rfl, rfl, fm0, fm1⟩ | ⟨rfl, rfl, fm0, fm1⟩ | ⟨rfl, rfl, fm0, fm1, fm2⟩ | ⟨kn_m, b48_m, rfl, rfl, fm0, fm1, fm2, fm3, fm4⟩
    · exfalso; omega
    · exfalso; omega
    · exfalso; omega
    · exfalso; omega
    · obtain rfl : k_x = kn_m := by omega
      have hz : -2 - ((fM 46) h0).toInt = (VV (333 + 20 * h0)).toInt := by omega
      rw [hz] at fm4
      subst fx4 fm4
      have hS : SHX (VV 72) (VV (331 + 20 * h0)) (VV (332 + 20 * h0)) (VV (333 + 20 * h0)) (VV (334 + 20 * h0)) (vp_updL (fj (34 + 2 * h0)) k_x (lowZ (VV (333 + 20 * h0)).toInt a2)) (fM 46) (fM 47) (vp_updL (jM 48) (60 * h0 + k_x) (lowZ (VV (333 + 20 * h0)).toInt a2)) h0 := ⟨⟨m_, hm, tle, hsz⟩, hq, fun j hj => by
          unfold vp_updL
          by_cases e : j = k_x
          · rw [if_pos e, if_pos (by omega)]
          · rw [if_neg e, if_neg (by omega)]; exact hc j hj⟩
      have hO : ∀ i, i < 6 → i ≠ h0 → (fM 46) i = (fM 46) i ∧ (fM 47) i = (fM 47) i ∧ ∀ j, j < 60 → vp_updL (jM 48) (60 * h0 + k_x) (lowZ (VV (333 + 20 * h0)).toInt a2) (60 * i + j) = (jM 48) (60 * i + j) := fun i _ hi => ⟨rfl, rfl, fun j hj => by unfold vp_updL; rw [if_neg (by omega)]⟩
      rcases (by omega : h0 = 0 ∨ h0 = 1 ∨ h0 = 2 ∨ h0 = 3 ∨ h0 = 4 ∨ h0 = 5) with rfl | rfl | rfl | rfl | rfl | rfl
      · exact ⟨⟨_, rfl, rfl⟩, CC, _, _, _, _, _, _, _, rfl, rfl, rfl, n, T, B, S, F, iS, iU, iF, iL, iT, iC, iA, I_sh_0 iH hS hO, iD, iE, iM, iN⟩
      · exact ⟨⟨_, rfl, rfl⟩, CC, _, _, _, _, _, _, _, rfl, rfl, rfl, n, T, B, S, F, iS, iU, iF, iL, iT, iC, iA, I_sh_1 iH hS hO, iD, iE, iM, iN⟩
      · exact ⟨⟨_, rfl, rfl⟩, CC, _, _, _, _, _, _, _, rfl, rfl, rfl, n, T, B, S, F, iS, iU, iF, iL, iT, iC, iA, I_sh_2 iH hS hO, iD, iE, iM, iN⟩
      · exact ⟨⟨_, rfl, rfl⟩, CC, _, _, _, _, _, _, _, rfl, rfl, rfl, n, T, B, S, F, iS, iU, iF, iL, iT, iC, iA, I_sh_3 iH hS hO, iD, iE, iM, iN⟩
      · exact ⟨⟨_, rfl, rfl⟩, CC, _, _, _, _, _, _, _, rfl, rfl, rfl, n, T, B, S, F, iS, iU, iF, iL, iT, iC, iA, I_sh_4 iH hS hO, iD, iE, iM, iN⟩
      · exact ⟨⟨_, rfl, rfl⟩, CC, _, _, _, _, _, _, _, rfl, rfl, rfl, n, T, B, S, F, iS, iU, iF, iL, iT, iC, iA, I_sh_5 iH hS hO, iD, iE, iM, iN⟩
set_option maxHeartbeats 4000000 in
set_option maxRecDepth 100000 in
theorem pr_element (l : Launch) (D : va_G) (Y : Nat → ClassId) {CC sg : Nat → Nat} {VV : Nat → Int32} {ff : Nat → Nat → Int32} {fj : Nat → Nat → Int64} {m : Nat} {R : Nat → Nat} {VM : Nat → Int32} {fM : Nat → Nat → Int32} {jM : Nat → Nat → Int64} (hI : INV CC sg VV ff fj VM fM jM) (a0 : Int32) (a1 : Int32) : PRS ANJ l D Y CC m R (WX Y CC sg VV ff fj) (WM Y m R VM fM jM) yX10_element wsX10_element yX11_element wsX11_element [.int a0, .int a1] := by
  obtain ⟨n, T, B, S, F, iS, iU, iF, iL, iT, iC, iA, iH, iD, iE, iM, iN⟩ := id hI
  obtain ⟨h0, hh0, hho⟩ := ix6 a0
  obtain ⟨⟨m_, hm, tle, hsz⟩, hq, hc⟩ := I_sh_at iH hh0
  have hqi := hq_i hq
  refine ⟨_, _, _, _, RB_of (by decide) (by decide), RB_of (by decide) (by decide), lx_element l D Y CC sg VV ff fj m_ h0 a0 a1 hh0 tle hm hho, lm_element l D Y m R h0 m_ a0 a1 VM fM jM hho hh0 hsz hm, ?_⟩
  intro v w v' w' hx_ hm_
  rcases hx_ with ⟨rfl, rfl, fx0⟩ | ⟨r_x, k_x, rfl, rfl, fx0, fx1, fx2, fx3, fx4⟩
  · rcases hm_ with ⟨rfl, rfl, fm0⟩ | ⟨r_m, kn_m, rfl, rfl, fm0, fm1, fm2, fm3, fm4⟩
    · exact ⟨⟨_, rfl, rfl⟩, NXI_same hI⟩
    · exfalso; omega
  · rcases hm_ with ⟨rfl, rfl, fm0⟩ | ⟨r_m, kn_m, rfl, rfl, fm0, fm1, fm2, fm3, fm4⟩
    · exfalso; omega
    · obtain rfl : k_x = kn_m := by omega
      exact ⟨ANJ_e (by rw [fx4, fm4]; exact hc k_x (by omega)), NXI_same hI⟩
set_option maxHeartbeats 4000000 in
set_option maxRecDepth 100000 in
theorem pr_shift (l : Launch) (D : va_G) (Y : Nat → ClassId) {CC sg : Nat → Nat} {VV : Nat → Int32} {ff : Nat → Nat → Int32} {fj : Nat → Nat → Int64} {m : Nat} {R : Nat → Nat} {VM : Nat → Int32} {fM : Nat → Nat → Int32} {jM : Nat → Nat → Int64} (hI : INV CC sg VV ff fj VM fM jM) (a0 : Int32) (a1 : Int32) (a2 : Int32) (a3 : Int32) (a4 : Int32) : PRS ANI l D Y CC m R (WX Y CC sg VV ff fj) (WM Y m R VM fM jM) yX10_shift wsX10_shift yX11_shift wsX11_shift [.int a0, .int a1, .int a2, .int a3, .int a4] := by
  obtain ⟨n, T, B, S, F, iS, iU, iF, iL, iT, iC, iA, iH, iD, iE, iM, iN⟩ := id hI
  obtain ⟨h0, hh0, hho⟩ := ix6 a0
  obtain ⟨⟨m_, hm, tle, hsz⟩, hq, hc⟩ := I_sh_at iH hh0
  have hqi := hq_i hq
  obtain ⟨hb_, hhb, hhoB⟩ := ix6 a2
  by_cases e : h0 = hb_
  · subst e
    refine ⟨_, _, _, _, RB_of (by decide) (by decide), RB_of (by decide) (by decide), lx_shift_self l D Y CC sg VV ff fj m_ h0 a0 a1 a2 a3 a4 hh0 tle hm hho hhoB, lm_shift l D Y m R h0 m_ h0 m_ a0 a1 a2 a3 a4 VM fM jM hho hh0 hsz hm hhoB hh0 hsz hm, ?_⟩
    intro v w v' w' hx_ hm_
    rcases hx_ with ⟨rfl, rfl, fx0⟩ | ⟨rfl, rfl, fx0, fx1⟩ | ⟨rfl, rfl, fx0, fx1, fx2⟩ | ⟨rfl, rfl, fx0, fx1, fx2⟩ | ⟨ki_x, ka_x, kb_x, rfl, rfl, fx0, fx1, fx2, fx3, fx4, fx5, fx6⟩
    · rcases hm_ with ⟨rfl, rfl, fm0⟩ | ⟨rfl, rfl, fm0, fm1⟩ | ⟨rfl, rfl, fm0, fm1, fm2⟩ | ⟨rfl, rfl, fm0, fm1, fm2⟩ | ⟨ki_m, ka_m, kb_m, b48_m, b49_m, rfl, rfl, fm0, fm1, fm2, fm3, fm4, fm5, fm6, fm7⟩
      · exact ⟨⟨_, rfl, rfl⟩, NXI_same hI⟩
      · exfalso; omega
      · exfalso; omega
      · exfalso; omega
      · exfalso; omega
    · rcases hm_ with ⟨rfl, rfl, fm0⟩ | ⟨rfl, rfl, fm0, fm1⟩ | ⟨rfl, rfl, fm0, fm1, fm2⟩ | ⟨rfl, rfl, fm0, fm1, fm2⟩ | ⟨ki_m, ka_m, kb_m, b48_m, b49_m, rfl, rfl, fm0, fm1, fm2, fm3, fm4, fm5, fm6, fm7⟩
      · exfalso; omega
      · exact ⟨⟨_, rfl, rfl⟩, NXI_same hI⟩
      · exfalso; omega
      · exfalso; omega
      · exfalso; omega
    · rcases hm_ with ⟨rfl, rfl, fm0⟩ | ⟨rfl, rfl, fm0, fm1⟩ | ⟨rfl, rfl, fm0, fm1, fm2⟩ | ⟨rfl, rfl, fm0, fm1, fm2⟩ | ⟨ki_m, ka_m, kb_m, b48_m, b49_m, rfl, rfl, fm0, fm1, fm2, fm3, fm4, fm5, fm6, fm7⟩
      · exfalso; omega
      · exfalso; omega
      · exact ⟨⟨_, rfl, rfl⟩, NXI_same hI⟩
      · exfalso; omega
      · exfalso; omega
    · rcases hm_ with ⟨rfl, rfl, fm0⟩ | ⟨rfl, rfl, fm0, fm1⟩ | ⟨rfl, rfl, fm0, fm1, fm2⟩ | ⟨rfl, rfl, fm0, fm1, fm2⟩ | ⟨ki_m, ka_m, kb_m, b48_m, b49_m, rfl, rfl, fm0, fm1, fm2, fm3, fm4, fm5, fm6, fm7⟩
      · exfalso; omega
      · exfalso; omega
      · exfalso; omega
      · exact ⟨⟨_, rfl, rfl⟩, NXI_same hI⟩
      · exfalso; omega
    · rcases hm_ with ⟨rfl, rfl, fm0⟩ | ⟨rfl, rfl, fm0, fm1⟩ | ⟨rfl, rfl, fm0, fm1, fm2⟩ | ⟨rfl, rfl, fm0, fm1, fm2⟩ | ⟨ki_m, ka_m, kb_m, b48_m, b49_m, rfl, rfl, fm0, fm1, fm2, fm3, fm4, fm5, fm6, fm7⟩
      · exfalso; omega
      · exfalso; omega
      · exfalso; omega
      · exfalso; omega
      · obtain rfl : ki_x = ki_m := by omega
        obtain rfl : ka_x = ka_m := by omega
        obtain rfl : kb_x = kb_m := by omega
        have hS : SHX (VV 72) (VV (331 + 20 * h0)) (VV (332 + 20 * h0)) (VV (333 + 20 * h0)) (VV (334 + 20 * h0)) (va_cpy (fj (34 + 2 * h0)) (fj (34 + 2 * h0)) ki_x ka_x kb_x) (fM 46) (fM 47) b48_m h0 := ⟨⟨m_, hm, tle, hsz⟩, hq, fun j hj => by
            unfold va_cpy
            rw [fm7]
            by_cases e : ka_x ≤ j ∧ j < ka_x + kb_x
            · rw [if_pos e, if_pos (by omega), hc _ (by omega)]; congr 1; omega
            · rw [if_neg e, if_neg (by omega)]; exact hc j hj⟩
        have hO : ∀ i, i < 6 → i ≠ h0 → (fM 46) i = (fM 46) i ∧ (fM 47) i = (fM 47) i ∧ ∀ j, j < 60 → b48_m (60 * i + j) = (jM 48) (60 * i + j) := fun i _ hi => ⟨rfl, rfl, fun j hj => by rw [fm7, if_neg (by omega)]⟩
        rcases (by omega : h0 = 0 ∨ h0 = 1 ∨ h0 = 2 ∨ h0 = 3 ∨ h0 = 4 ∨ h0 = 5) with rfl | rfl | rfl | rfl | rfl | rfl
        · exact ⟨⟨_, rfl, rfl⟩, CC, _, _, _, _, _, _, _, rfl, rfl, rfl, n, T, B, S, F, iS, iU, iF, iL, iT, iC, iA, I_sh_0 iH hS hO, iD, iE, iM, iN⟩
        · exact ⟨⟨_, rfl, rfl⟩, CC, _, _, _, _, _, _, _, rfl, rfl, rfl, n, T, B, S, F, iS, iU, iF, iL, iT, iC, iA, I_sh_1 iH hS hO, iD, iE, iM, iN⟩
        · exact ⟨⟨_, rfl, rfl⟩, CC, _, _, _, _, _, _, _, rfl, rfl, rfl, n, T, B, S, F, iS, iU, iF, iL, iT, iC, iA, I_sh_2 iH hS hO, iD, iE, iM, iN⟩
        · exact ⟨⟨_, rfl, rfl⟩, CC, _, _, _, _, _, _, _, rfl, rfl, rfl, n, T, B, S, F, iS, iU, iF, iL, iT, iC, iA, I_sh_3 iH hS hO, iD, iE, iM, iN⟩
        · exact ⟨⟨_, rfl, rfl⟩, CC, _, _, _, _, _, _, _, rfl, rfl, rfl, n, T, B, S, F, iS, iU, iF, iL, iT, iC, iA, I_sh_4 iH hS hO, iD, iE, iM, iN⟩
        · exact ⟨⟨_, rfl, rfl⟩, CC, _, _, _, _, _, _, _, rfl, rfl, rfl, n, T, B, S, F, iS, iU, iF, iL, iT, iC, iA, I_sh_5 iH hS hO, iD, iE, iM, iN⟩
  · obtain ⟨⟨mB, hmB, tleB, hszB⟩, hqB, hcB⟩ := I_sh_at iH hhb
    have hqBi := hq_i hqB
    refine ⟨_, _, _, _, RB_of (by decide) (by decide), RB_of (by decide) (by decide), lx_shift l D Y CC sg VV ff fj m_ h0 mB hb_ a0 a1 a2 a3 a4 e hh0 tle hm hho hhb tleB hmB hhoB, lm_shift l D Y m R h0 m_ hb_ mB a0 a1 a2 a3 a4 VM fM jM hho hh0 hsz hm hhoB hhb hszB hmB, ?_⟩
    intro v w v' w' hx_ hm_
    rcases hx_ with ⟨rfl, rfl, fx0⟩ | ⟨rfl, rfl, fx0, fx1⟩ | ⟨rfl, rfl, fx0, fx1, fx2⟩ | ⟨rfl, rfl, fx0, fx1, fx2⟩ | ⟨ki_x, ka_x, kb_x, rfl, rfl, fx0, fx1, fx2, fx3, fx4, fx5, fx6⟩
    · rcases hm_ with ⟨rfl, rfl, fm0⟩ | ⟨rfl, rfl, fm0, fm1⟩ | ⟨rfl, rfl, fm0, fm1, fm2⟩ | ⟨rfl, rfl, fm0, fm1, fm2⟩ | ⟨ki_m, ka_m, kb_m, b48_m, b49_m, rfl, rfl, fm0, fm1, fm2, fm3, fm4, fm5, fm6, fm7⟩
      · exact ⟨⟨_, rfl, rfl⟩, NXI_same hI⟩
      · exfalso; omega
      · exfalso; omega
      · exfalso; omega
      · exfalso; omega
    · rcases hm_ with ⟨rfl, rfl, fm0⟩ | ⟨rfl, rfl, fm0, fm1⟩ | ⟨rfl, rfl, fm0, fm1, fm2⟩ | ⟨rfl, rfl, fm0, fm1, fm2⟩ | ⟨ki_m, ka_m, kb_m, b48_m, b49_m, rfl, rfl, fm0, fm1, fm2, fm3, fm4, fm5, fm6, fm7⟩
      · exfalso; omega
      · exact ⟨⟨_, rfl, rfl⟩, NXI_same hI⟩
      · exfalso; omega
      · exfalso; omega
      · exfalso; omega
    · rcases hm_ with ⟨rfl, rfl, fm0⟩ | ⟨rfl, rfl, fm0, fm1⟩ | ⟨rfl, rfl, fm0, fm1, fm2⟩ | ⟨rfl, rfl, fm0, fm1, fm2⟩ | ⟨ki_m, ka_m, kb_m, b48_m, b49_m, rfl, rfl, fm0, fm1, fm2, fm3, fm4, fm5, fm6, fm7⟩
      · exfalso; omega
      · exfalso; omega
      · exact ⟨⟨_, rfl, rfl⟩, NXI_same hI⟩
      · exfalso; omega
      · exfalso; omega
    · rcases hm_ with ⟨rfl, rfl, fm0⟩ | ⟨rfl, rfl, fm0, fm1⟩ | ⟨rfl, rfl, fm0, fm1, fm2⟩ | ⟨rfl, rfl, fm0, fm1, fm2⟩ | ⟨ki_m, ka_m, kb_m, b48_m, b49_m, rfl, rfl, fm0, fm1, fm2, fm3, fm4, fm5, fm6, fm7⟩
      · exfalso; omega
      · exfalso; omega
      · exfalso; omega
      · exact ⟨⟨_, rfl, rfl⟩, NXI_same hI⟩
      · exfalso; omega
    · rcases hm_ with ⟨rfl, rfl, fm0⟩ | ⟨rfl, rfl, fm0, fm1⟩ | ⟨rfl, rfl, fm0, fm1, fm2⟩ | ⟨rfl, rfl, fm0, fm1, fm2⟩ | ⟨ki_m, ka_m, kb_m, b48_m, b49_m, rfl, rfl, fm0, fm1, fm2, fm3, fm4, fm5, fm6, fm7⟩
      · exfalso; omega
      · exfalso; omega
      · exfalso; omega
      · exfalso; omega
      · obtain rfl : ki_x = ki_m := by omega
        obtain rfl : ka_x = ka_m := by omega
        obtain rfl : kb_x = kb_m := by omega
        have hS : SHX (VV 72) (VV (331 + 20 * hb_)) (VV (332 + 20 * hb_)) (VV (333 + 20 * hb_)) (VV (334 + 20 * hb_)) (va_cpy (fj (34 + 2 * h0)) (fj (34 + 2 * hb_)) ki_x ka_x kb_x) (fM 46) (fM 47) b48_m hb_ := ⟨⟨mB, hmB, tleB, hszB⟩, hqB, fun j hj => by
            unfold va_cpy
            rw [fm7]
            by_cases e : ka_x ≤ j ∧ j < ka_x + kb_x
            · rw [if_pos e, if_pos (by omega), hc _ (by omega)]; congr 1; omega
            · rw [if_neg e, if_neg (by omega)]; exact hcB j hj⟩
        have hO : ∀ i, i < 6 → i ≠ hb_ → (fM 46) i = (fM 46) i ∧ (fM 47) i = (fM 47) i ∧ ∀ j, j < 60 → b48_m (60 * i + j) = (jM 48) (60 * i + j) := fun i _ hi => ⟨rfl, rfl, fun j hj => by rw [fm7, if_neg (by omega)]⟩
        rcases (by omega : hb_ = 0 ∨ hb_ = 1 ∨ hb_ = 2 ∨ hb_ = 3 ∨ hb_ = 4 ∨ hb_ = 5) with rfl | rfl | rfl | rfl | rfl | rfl
        · exact ⟨⟨_, rfl, rfl⟩, CC, _, _, _, _, _, _, _, rfl, rfl, rfl, n, T, B, S, F, iS, iU, iF, iL, iT, iC, iA, I_sh_0 iH hS hO, iD, iE, iM, iN⟩
        · exact ⟨⟨_, rfl, rfl⟩, CC, _, _, _, _, _, _, _, rfl, rfl, rfl, n, T, B, S, F, iS, iU, iF, iL, iT, iC, iA, I_sh_1 iH hS hO, iD, iE, iM, iN⟩
        · exact ⟨⟨_, rfl, rfl⟩, CC, _, _, _, _, _, _, _, rfl, rfl, rfl, n, T, B, S, F, iS, iU, iF, iL, iT, iC, iA, I_sh_2 iH hS hO, iD, iE, iM, iN⟩
        · exact ⟨⟨_, rfl, rfl⟩, CC, _, _, _, _, _, _, _, rfl, rfl, rfl, n, T, B, S, F, iS, iU, iF, iL, iT, iC, iA, I_sh_3 iH hS hO, iD, iE, iM, iN⟩
        · exact ⟨⟨_, rfl, rfl⟩, CC, _, _, _, _, _, _, _, rfl, rfl, rfl, n, T, B, S, F, iS, iU, iF, iL, iT, iC, iA, I_sh_4 iH hS hO, iD, iE, iM, iN⟩
        · exact ⟨⟨_, rfl, rfl⟩, CC, _, _, _, _, _, _, _, rfl, rfl, rfl, n, T, B, S, F, iS, iU, iF, iL, iT, iC, iA, I_sh_5 iH hS hO, iD, iE, iM, iN⟩
set_option maxHeartbeats 4000000 in
set_option maxRecDepth 100000 in
theorem pr_taken (l : Launch) (D : va_G) (Y : Nat → ClassId) {CC sg : Nat → Nat} {VV : Nat → Int32} {ff : Nat → Nat → Int32} {fj : Nat → Nat → Int64} {m : Nat} {R : Nat → Nat} {VM : Nat → Int32} {fM : Nat → Nat → Int32} {jM : Nat → Nat → Int64} (hI : INV CC sg VV ff fj VM fM jM) (a0 : Int32) (a1 : Int32) : PRS ANI l D Y CC m R (WX Y CC sg VV ff fj) (WM Y m R VM fM jM) yX10_taken wsX10_taken yX11_taken wsX11_taken [.int a0, .int a1] := by
  obtain ⟨n, T, B, S, F, iS, iU, iF, iL, iT, iC, iA, iH, iD, iE, iM, iN⟩ := id hI
  obtain ⟨eA, eR, ⟨nb_, tnb, hnb, hKD⟩, hTR⟩ := id iA
  have eA2 := congrArg Int32.toInt eA
  have eR2 := congrArg Int32.toInt eR
  have tvb : (VM 42).toInt = ((nb_ : Nat) : Int) := by omega
  obtain ⟨h0, hh0, hho⟩ := ix6 a0
  obtain ⟨⟨m_, hm, tle, hsz⟩, hq, hc⟩ := I_sh_at iH hh0
  have hqi := hq_i hq
  obtain ⟨bn, K, hb50, hK8, hbX, hkX, hkM⟩ : ∃ bn K : Nat, bn < 50 ∧ K < 8 ∧ ((VV (331 + 20 * h0)).toInt ≠ 0 → (VV (331 + 20 * h0)).toInt ≠ 2 → (VV (332 + 20 * h0)).toInt = ((bn : Nat) : Int)) ∧ ((VV (331 + 20 * h0)).toInt ≠ 0 → (VV (331 + 20 * h0)).toInt ≠ 2 → ((ff 8) bn).toInt = ((K : Nat) : Int)) ∧ (0 ≤ ((fM 46) h0).toInt → ((fM 46) h0).toInt = ((bn : Nat) : Int) ∧ bn < 50 ∧ ((fM 43) bn).toInt = ((K : Nat) : Int)) := by
    rcases hq with ⟨q1, q2⟩ | ⟨q1, q2, q3, q4⟩ | ⟨q1, q2, q3, q4⟩
    · exact ⟨0, 0, by decide, by decide, fun h => absurd q1 h, fun h => absurd q1 h, fun h => absurd h (by omega)⟩
    · obtain ⟨w1, K, w2, w3⟩ := hKD (VV (332 + 20 * h0)).toInt.toNat (by omega)
      exact ⟨(VV (332 + 20 * h0)).toInt.toNat, K, by omega, w3, fun _ _ => by omega, fun _ _ => w2, fun _ => ⟨by rw [← q2]; omega, by omega, by rw [← w1]; exact w2⟩⟩
    · exact ⟨0, 0, by decide, by decide, fun _ h => absurd q1 h, fun _ h => absurd q1 h, fun h => absurd h (by omega)⟩
  refine ⟨_, _, _, _, RB_of (by decide) (by decide), RB_of (by decide) (by decide), lx_taken_z l D Y CC sg VV ff fj m_ h0 a0 a1 bn K hh0 hho hbX hb50 hkX hK8 tle, lm_taken_z l D Y m R h0 bn K a0 a1 VM fM jM hho hh0 hkM hK8, ?_⟩
  intro v w v' w' hx_ hm_
  rcases hx_ with ⟨rfl, rfl, fx0⟩ | ⟨rfl, rfl, fx0, fx1, fx2⟩ | ⟨rfl, rfl, fx0, fx1, fx2⟩ | ⟨r_x, rfl, rfl, fx0, fx1, fx2, fx3, fx4⟩ | ⟨rfl, rfl, fx0, fx1, fx2, fx3⟩
  · rcases hm_ with ⟨rfl, rfl, fm0⟩ | ⟨rfl, rfl, fm0, fm1, fm2⟩ | ⟨rfl, rfl, fm0, fm1, fm2⟩ | ⟨r_m, an_m, rfl, rfl, fm0, fm1, fm2, fm3, fm4, fm5⟩ | ⟨an_m, rfl, rfl, fm0, fm1, fm2, fm3, fm4⟩
    · exact ⟨⟨_, rfl, rfl⟩, NXI_same hI⟩
    · exfalso; omega
    · exfalso; omega
    · exfalso; omega
    · exfalso; omega
  · rcases hm_ with ⟨rfl, rfl, fm0⟩ | ⟨rfl, rfl, fm0, fm1, fm2⟩ | ⟨rfl, rfl, fm0, fm1, fm2⟩ | ⟨r_m, an_m, rfl, rfl, fm0, fm1, fm2, fm3, fm4, fm5⟩ | ⟨an_m, rfl, rfl, fm0, fm1, fm2, fm3, fm4⟩
    · exfalso; omega
    · exact ⟨⟨_, rfl, rfl⟩, NXI_same hI⟩
    · exfalso; omega
    · exfalso; omega
    · exfalso; omega
  · rcases hm_ with ⟨rfl, rfl, fm0⟩ | ⟨rfl, rfl, fm0, fm1, fm2⟩ | ⟨rfl, rfl, fm0, fm1, fm2⟩ | ⟨r_m, an_m, rfl, rfl, fm0, fm1, fm2, fm3, fm4, fm5⟩ | ⟨an_m, rfl, rfl, fm0, fm1, fm2, fm3, fm4⟩
    · exfalso; omega
    · exfalso; omega
    · exact ⟨⟨_, rfl, rfl⟩, NXI_same hI⟩
    · exfalso; omega
    · exfalso; omega
  · rcases hm_ with ⟨rfl, rfl, fm0⟩ | ⟨rfl, rfl, fm0, fm1, fm2⟩ | ⟨rfl, rfl, fm0, fm1, fm2⟩ | ⟨r_m, an_m, rfl, rfl, fm0, fm1, fm2, fm3, fm4, fm5⟩ | ⟨an_m, rfl, rfl, fm0, fm1, fm2, fm3, fm4⟩
    · exfalso; omega
    · exfalso; omega
    · exfalso; omega
    · obtain rfl : r_x = r_m := i32e (by first | exact fx3 | exact fx4) (by first | exact fm4 | exact fm5)
      exact ⟨⟨_, rfl, rfl⟩, NXI_same hI⟩
    · exfalso; rw [fm2] at fx2; exact fm3 ((und_iff hK8 (by omega)).mp fx2)
  · rcases hm_ with ⟨rfl, rfl, fm0⟩ | ⟨rfl, rfl, fm0, fm1, fm2⟩ | ⟨rfl, rfl, fm0, fm1, fm2⟩ | ⟨r_m, an_m, rfl, rfl, fm0, fm1, fm2, fm3, fm4, fm5⟩ | ⟨an_m, rfl, rfl, fm0, fm1, fm2, fm3, fm4⟩
    · exfalso; omega
    · exfalso; omega
    · exfalso; omega
    · exfalso; rw [fm2] at fx2; exact fx2 ((und_iff hK8 (by omega)).mpr fm3)
    · exact ⟨⟨_, rfl, rfl⟩, NXI_same hI⟩
set_option maxHeartbeats 4000000 in
set_option maxRecDepth 100000 in
theorem pr_count (l : Launch) (D : va_G) (Y : Nat → ClassId) {CC sg : Nat → Nat} {VV : Nat → Int32} {ff : Nat → Nat → Int32} {fj : Nat → Nat → Int64} {m : Nat} {R : Nat → Nat} {VM : Nat → Int32} {fM : Nat → Nat → Int32} {jM : Nat → Nat → Int64} (hI : INV CC sg VV ff fj VM fM jM) (a0 : Int32) : PRS ANI l D Y CC m R (WX Y CC sg VV ff fj) (WM Y m R VM fM jM) yX10_count wsX10_count yX11_count wsX11_count [.int a0] := by
  obtain ⟨n, T, B, S, F, iS, iU, iF, iL, iT, iC, iA, iH, iD, iE, iM, iN⟩ := id hI
  obtain ⟨L, ttl, tv15, hL, hTP⟩ := id iT
  obtain ⟨d, u, e24, e25, e8, e9, h40, hCH⟩ := id iC
  have eF := congrArg Int32.toInt iF
  obtain ⟨eA, eR, ⟨nb_, tnb, hnb, hKD⟩, hTR⟩ := id iA
  have eA2 := congrArg Int32.toInt eA
  have eR2 := congrArg Int32.toInt eR
  refine ⟨_, _, _, _, RB_of (by decide) (by decide), RB_of (by decide) (by decide), lx_count l D Y CC sg VV ff fj (n 0) (n 1) (n 2) (B 0) (B 1) (B 2) L d (d + u) a0 iS.1.1 iS.1.2.1 iS.2.1.1 iS.2.1.2.1 iS.2.2.1.1 iS.2.2.1.2.1 iS.1.2.2.2.1 iS.2.1.2.2.2.1 iS.2.2.1.2.2.2.1 ttl hL e24 e25 (Nat.le_add_right d u) h40, lm_count l D Y m R n B a0 VM fM jM iS.2.2.2.1 iS.2.2.2.2.2, ?_⟩
  intro v w v' w' hx_ hm_
  rcases hx_ with ⟨r_x, rfl, rfl, fx0, fx1⟩ | ⟨r_x, rfl, rfl, fx0, fx1⟩ | ⟨r_x, rfl, rfl, fx0, fx1⟩ | ⟨r_x, rfl, rfl, fx0, fx1⟩ | ⟨rfl, rfl, fx0⟩ | ⟨rfl, rfl, fx0⟩ | ⟨rfl, rfl, fx0⟩
  · rcases hm_ with ⟨r_m, rfl, rfl, fm0, fm1⟩ | ⟨r_m, rfl, rfl, fm0, fm1⟩ | ⟨rfl, rfl, fm0⟩ | ⟨rfl, rfl, fm0⟩ | ⟨rfl, rfl, fm0⟩ | ⟨rfl, rfl, fm0⟩ | ⟨rfl, rfl, fm0⟩
    · exact ⟨ANI_of (fx1.trans fm1.symm), NXI_same hI⟩
    · exfalso; omega
    · exfalso; omega
    · exfalso; omega
    · exfalso; omega
    · exfalso; omega
    · exfalso; omega
  · rcases hm_ with ⟨r_m, rfl, rfl, fm0, fm1⟩ | ⟨r_m, rfl, rfl, fm0, fm1⟩ | ⟨rfl, rfl, fm0⟩ | ⟨rfl, rfl, fm0⟩ | ⟨rfl, rfl, fm0⟩ | ⟨rfl, rfl, fm0⟩ | ⟨rfl, rfl, fm0⟩
    · exfalso; omega
    · exact ⟨ANI_of (fx1.trans fm1.symm), NXI_same hI⟩
    · exfalso; omega
    · exfalso; omega
    · exfalso; omega
    · exfalso; omega
    · exfalso; omega
  · rcases hm_ with ⟨r_m, rfl, rfl, fm0, fm1⟩ | ⟨r_m, rfl, rfl, fm0, fm1⟩ | ⟨rfl, rfl, fm0⟩ | ⟨rfl, rfl, fm0⟩ | ⟨rfl, rfl, fm0⟩ | ⟨rfl, rfl, fm0⟩ | ⟨rfl, rfl, fm0⟩
    · exfalso; omega
    · exfalso; omega
    · exact ⟨ANI_e (fx1.trans (i32e ttl tv15)), NXI_same hI⟩
    · exfalso; omega
    · exfalso; omega
    · exfalso; omega
    · exfalso; omega
  · rcases hm_ with ⟨r_m, rfl, rfl, fm0, fm1⟩ | ⟨r_m, rfl, rfl, fm0, fm1⟩ | ⟨rfl, rfl, fm0⟩ | ⟨rfl, rfl, fm0⟩ | ⟨rfl, rfl, fm0⟩ | ⟨rfl, rfl, fm0⟩ | ⟨rfl, rfl, fm0⟩
    · exfalso; omega
    · exfalso; omega
    · exfalso; omega
    · exact ⟨ANI_e (fx1.trans (i32e e24 e8)), NXI_same hI⟩
    · exfalso; omega
    · exfalso; omega
    · exfalso; omega
  · rcases hm_ with ⟨r_m, rfl, rfl, fm0, fm1⟩ | ⟨r_m, rfl, rfl, fm0, fm1⟩ | ⟨rfl, rfl, fm0⟩ | ⟨rfl, rfl, fm0⟩ | ⟨rfl, rfl, fm0⟩ | ⟨rfl, rfl, fm0⟩ | ⟨rfl, rfl, fm0⟩
    · exfalso; omega
    · exfalso; omega
    · exfalso; omega
    · exfalso; omega
    · exact ⟨ANI_e eA, NXI_same hI⟩
    · exfalso; omega
    · exfalso; omega
  · rcases hm_ with ⟨r_m, rfl, rfl, fm0, fm1⟩ | ⟨r_m, rfl, rfl, fm0, fm1⟩ | ⟨rfl, rfl, fm0⟩ | ⟨rfl, rfl, fm0⟩ | ⟨rfl, rfl, fm0⟩ | ⟨rfl, rfl, fm0⟩ | ⟨rfl, rfl, fm0⟩
    · exfalso; omega
    · exfalso; omega
    · exfalso; omega
    · exfalso; omega
    · exfalso; omega
    · exact ⟨ANI_e eR, NXI_same hI⟩
    · exfalso; omega
  · rcases hm_ with ⟨r_m, rfl, rfl, fm0, fm1⟩ | ⟨r_m, rfl, rfl, fm0, fm1⟩ | ⟨rfl, rfl, fm0⟩ | ⟨rfl, rfl, fm0⟩ | ⟨rfl, rfl, fm0⟩ | ⟨rfl, rfl, fm0⟩ | ⟨rfl, rfl, fm0⟩
    · exfalso; omega
    · exfalso; omega
    · exfalso; omega
    · exfalso; omega
    · exfalso; omega
    · exfalso; omega
    · exact ⟨⟨_, rfl, rfl⟩, NXI_same hI⟩
