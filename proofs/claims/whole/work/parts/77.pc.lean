
/-! ===== both sides, a call of each: two mixed drawn begin on led image back undo redo ===== -/
set_option maxHeartbeats 4000000 in
set_option maxRecDepth 100000 in
theorem pr_two (l : Launch) (D : va_G) (Y : Nat → ClassId) {CC sg : Nat → Nat} {VV : Nat → Int32} {ff : Nat → Nat → Int32} {fj : Nat → Nat → Int64} {m : Nat} {R : Nat → Nat} {VM : Nat → Int32} {fM : Nat → Nat → Int32} {jM : Nat → Nat → Int64} (hI : INV CC sg VV ff fj VM fM jM) (a0 : Int32) (a1 : Int32) : PRS ANI l D Y CC m R (WX Y CC sg VV ff fj) (WM Y m R VM fM jM) yX10_two wsX10_two yX11_two wsX11_two [.int a0, .int a1] := by
  obtain ⟨n, T, B, S, F, iS, iU, iF, iL, iT, iC, iA, iH, iD, iE, iM, iN⟩ := id hI
  obtain ⟨s0, hs0, hs1⟩ := ixL a0 10 (by decide)
  obtain ⟨sb, hsb, hs2⟩ := ixR a0 10 (by decide)
  have gX := I_sg_at iS hs0
  have h12 := gX.2.1
  by_cases e : s0 = sb
  · subst e
    refine ⟨_, _, _, _, RB_of (by decide) (by decide), RB_of (by decide) (by decide), lx_two_self l D Y CC sg VV ff fj (n s0) s0 a0 a1 hs0 gX.1 gX.2.1 hs1 hs2, lm_two l D Y m R n T s0 s0 a0 a1 VM fM jM iS.2.2.2.1 iS.2.2.2.2.1 hs0 hs0 hs1 hs2, ?_⟩
    intro v w v' w' hx_ hm_
    obtain ⟨rfl, rfl⟩ := hx_
    rcases hm_ with ⟨rfl, rfl, fm0⟩ | ⟨r_m, rfl, rfl, fm0, fm1⟩
    · exact ⟨⟨_, rfl, rfl⟩, NXI_same hI⟩
    · exfalso; omega
  · have gB := I_sg_at iS hsb
    refine ⟨_, _, _, _, RB_of (by decide) (by decide), RB_of (by decide) (by decide), lx_two l D Y CC sg VV ff fj (n s0) (n sb) s0 sb a0 a1 (T s0) (T sb) e hs0 hsb gX.1 gX.2.1 gX.2.2.1 gB.1 gB.2.1 gB.2.2.1 hs1 hs2 (CC_ne iN hs0 hsb e) e, lm_two l D Y m R n T s0 sb a0 a1 VM fM jM iS.2.2.2.1 iS.2.2.2.2.1 hs0 hsb hs1 hs2, ?_⟩
    intro v w v' w' hx_ hm_
    rcases hx_ with ⟨rfl, rfl, fx0⟩ | ⟨r_x, rfl, rfl, fx0, fx1⟩
    · rcases hm_ with ⟨rfl, rfl, fm0⟩ | ⟨r_m, rfl, rfl, fm0, fm1⟩
      · exact ⟨⟨_, rfl, rfl⟩, NXI_same hI⟩
      · exfalso; omega
    · rcases hm_ with ⟨rfl, rfl, fm0⟩ | ⟨r_m, rfl, rfl, fm0, fm1⟩
      · exfalso; omega
      · exact ⟨ANI_of (fx1.trans fm1.symm), NXI_same hI⟩
set_option maxHeartbeats 4000000 in
set_option maxRecDepth 100000 in
theorem pr_mixed (l : Launch) (D : va_G) (Y : Nat → ClassId) {CC sg : Nat → Nat} {VV : Nat → Int32} {ff : Nat → Nat → Int32} {fj : Nat → Nat → Int64} {m : Nat} {R : Nat → Nat} {VM : Nat → Int32} {fM : Nat → Nat → Int32} {jM : Nat → Nat → Int64} (hI : INV CC sg VV ff fj VM fM jM) (a0 : Int32) (a1 : Int32) : PRS ANI l D Y CC m R (WX Y CC sg VV ff fj) (WM Y m R VM fM jM) yX10_mixed wsX10_mixed yX11_mixed wsX11_mixed [.int a0, .int a1] := by
  obtain ⟨n, T, B, S, F, iS, iU, iF, iL, iT, iC, iA, iH, iD, iE, iM, iN⟩ := id hI
  obtain ⟨s0, hs0, hsl⟩ := ixL a0 100 (by decide)
  obtain ⟨ln, hln⟩ := ixM a0 100 (by decide)
  have gX := I_sg_at iS hs0
  have h12 := gX.2.1
  obtain ⟨sb, hsb, hsi⟩ := ix3 a1
  by_cases e : s0 = sb
  · subst e
    refine ⟨_, _, _, _, RB_of (by decide) (by decide), RB_of (by decide) (by decide), lx_mixed_self l D Y CC sg VV ff fj (n s0) s0 a0 ln a1 hs0 gX.1 gX.2.1 hsl hln hsi, lm_mixed l D Y m R n T B S F s0 s0 a0 ln a1 VM fM jM iS.2.2.2.1 iS.2.2.2.2.1 iS.2.2.2.2.2 iU.2 iL.2 hs0 hs0 hsl hln hsi, ?_⟩
    intro v w v' w' hx_ hm_
    obtain ⟨rfl, rfl⟩ := hx_
    rcases hm_ with ⟨rfl, rfl, fm0⟩ | ⟨r_m, z31_m, z32_m, z33_m, z34_m, b25_m, b26_m, b28_m, b29_m, b30_m, rfl, rfl, fm0, fm1⟩
    · exact ⟨⟨_, rfl, rfl⟩, NXI_same hI⟩
    · exfalso; omega
  · have gB := I_sg_at iS hsb
    refine ⟨_, _, _, _, RB_of (by decide) (by decide), RB_of (by decide) (by decide), lx_mixed l D Y CC sg VV ff fj (n s0) S F (T s0) (B s0) s0 (n sb) sb a0 ln a1 (T sb) (B sb) e hs0 hsb iU.1 iL.1 gX.1 gX.2.1 gX.2.2.1 gX.2.2.2.1 gB.1 gB.2.1 gB.2.2.1 gB.2.2.2.1 hsl hln hsi (CC_ne iN hs0 hsb e) e, lm_mixed l D Y m R n T B S F s0 sb a0 ln a1 VM fM jM iS.2.2.2.1 iS.2.2.2.2.1 iS.2.2.2.2.2 iU.2 iL.2 hs0 hsb hsl hln hsi, ?_⟩
    intro v w v' w' hx_ hm_
    rcases hx_ with ⟨rfl, rfl, fx0⟩ | ⟨r_x, fl2m_x, fb2m_x, ft2m_x, s2m_x, r2m_x, oc2m_x, wh2m_x, bb2m_x, fk2m_x, fn2m_x, fg2m_x, fi2m_x, rfl, rfl, fx0, fx1, fx2⟩
    · rcases hm_ with ⟨rfl, rfl, fm0⟩ | ⟨r_m, z31_m, z32_m, z33_m, z34_m, b25_m, b26_m, b28_m, b29_m, b30_m, rfl, rfl, fm0, fm1⟩
      · exact ⟨⟨_, rfl, rfl⟩, NXI_same hI⟩
      · exfalso; omega
    · rcases hm_ with ⟨rfl, rfl, fm0⟩ | ⟨r_m, z31_m, z32_m, z33_m, z34_m, b25_m, b26_m, b28_m, b29_m, b30_m, rfl, rfl, fm0, fm1⟩
      · exfalso; omega
      · exact ⟨ANI_of (MXc_u fx1 fm1), CC, _, _, _, _, _, _, _, rfl, rfl, rfl, n, T, B, S, F, iS, iU, iF, ⟨fx2, iL.2⟩, iT, iC, iA, iH, iD, iE, iM, iN⟩
set_option maxHeartbeats 4000000 in
set_option maxRecDepth 100000 in
theorem pr_drawn (l : Launch) (D : va_G) (Y : Nat → ClassId) {CC sg : Nat → Nat} {VV : Nat → Int32} {ff : Nat → Nat → Int32} {fj : Nat → Nat → Int64} {m : Nat} {R : Nat → Nat} {VM : Nat → Int32} {fM : Nat → Nat → Int32} {jM : Nat → Nat → Int64} (hI : INV CC sg VV ff fj VM fM jM) (a0 : Int32) (a1 : Int32) (a2 : Int32) (a3 : Int32) : PRS ANI l D Y CC m R (WX Y CC sg VV ff fj) (WM Y m R VM fM jM) yX10_drawn wsX10_drawn yX11_drawn wsX11_drawn [.int a0, .int a1, .int a2, .int a3] := by
  obtain ⟨n, T, B, S, F, iS, iU, iF, iL, iT, iC, iA, iH, iD, iE, iM, iN⟩ := id hI
  obtain ⟨s0, hs0, hso⟩ := ix3 a0
  have gX := I_sg_at iS hs0
  have h12 := gX.2.1
  refine ⟨_, _, _, _, RB_of (by decide) (by decide), RB_of (by decide) (by decide), lx_drawn l D Y CC sg VV ff fj (n s0) S F (T s0) (B s0) s0 a0 a1 a2 a3 hs0 iU.1 iL.1 gX.1 gX.2.1 gX.2.2.1 gX.2.2.2.1 hso, lm_drawn l D Y m R n T B S F s0 a0 a1 a2 a3 VM fM jM iS.2.2.2.1 iS.2.2.2.2.1 iS.2.2.2.2.2 iU.2 iL.2 hs0 hso gX.2.2.2.2, ?_⟩
  intro v w v' w' hx_ hm_
  rcases hx_ with ⟨rfl, rfl, fx0⟩ | ⟨r_x, fl2_x, fb2_x, ft2_x, s2_x, r2_x, oc2_x, wh2_x, so2_x, bb2_x, fk2_x, fn2_x, fg2_x, fi2_x, fh2_x, fsa2_x, nn_x, rfl, rfl, fx0, fx1, fx2, fx3, fx4⟩
  · rcases hm_ with ⟨rfl, rfl, fm0⟩ | ⟨r_m, z34_m, b25_m, b26_m, b28_m, b5_m, b35_m, nn_m, rfl, rfl, fm0, fm1, fm2, fm3⟩
    · exact ⟨⟨_, rfl, rfl⟩, NXI_same hI⟩
    · exfalso; omega
  · rcases hm_ with ⟨rfl, rfl, fm0⟩ | ⟨r_m, z34_m, b25_m, b26_m, b28_m, b5_m, b35_m, nn_m, rfl, rfl, fm0, fm1, fm2, fm3⟩
    · exfalso; omega
    · obtain rfl : nn_x = nn_m := by omega
      rw [← iF] at fm2
      obtain rfl : r_x = r_m := i32e fx2 fm2
      rcases (by omega : s0 = 0 ∨ s0 = 1 ∨ s0 = 2) with rfl | rfl | rfl
      · exact ⟨⟨_, rfl, rfl⟩, CC, _, _, _, _, _, _, _, rfl, rfl, rfl, n, T, B, S, F, I_sg_h0 iS fx3 fm3, iU, iF, ⟨fx4, iL.2⟩, iT, iC, iA, iH, iD, iE, iM, iN⟩
      · exact ⟨⟨_, rfl, rfl⟩, CC, _, _, _, _, _, _, _, rfl, rfl, rfl, n, T, B, S, F, I_sg_h1 iS fx3 fm3, iU, iF, ⟨fx4, iL.2⟩, iT, iC, iA, iH, iD, iE, iM, iN⟩
      · exact ⟨⟨_, rfl, rfl⟩, CC, _, _, _, _, _, _, _, rfl, rfl, rfl, n, T, B, S, F, I_sg_h2 iS fx3 fm3, iU, iF, ⟨fx4, iL.2⟩, iT, iC, iA, iH, iD, iE, iM, iN⟩
set_option maxHeartbeats 4000000 in
set_option maxRecDepth 100000 in
theorem pr_begin (l : Launch) (D : va_G) (Y : Nat → ClassId) {CC sg : Nat → Nat} {VV : Nat → Int32} {ff : Nat → Nat → Int32} {fj : Nat → Nat → Int64} {m : Nat} {R : Nat → Nat} {VM : Nat → Int32} {fM : Nat → Nat → Int32} {jM : Nat → Nat → Int64} (hI : INV CC sg VV ff fj VM fM jM) (a0 : Int32) : PRS ANI l D Y CC m R (WX Y CC sg VV ff fj) (WM Y m R VM fM jM) yX10_begin wsX10_begin yX11_begin wsX11_begin [.int a0] := by
  obtain ⟨n, T, B, S, F, iS, iU, iF, iL, iT, iC, iA, iH, iD, iE, iM, iN⟩ := id hI
  obtain ⟨s0, hs0, hsl⟩ := ixL a0 100 (by decide)
  obtain ⟨ln, hln⟩ := ixM a0 100 (by decide)
  have gX := I_sg_at iS hs0
  have h12 := gX.2.1
  have eE := DD_iff iE
  refine ⟨_, _, _, _, RB_of (by decide) (by decide), RB_of (by decide) (by decide), lx_begin l D Y CC sg VV ff fj (n s0) s0 a0 ln (B s0) hs0 gX.1 gX.2.1 hsl hln gX.2.2.2.1, lm_begin l D Y m R n B s0 a0 ln VM fM jM iS.2.2.2.1 iS.2.2.2.2.2 hs0 hsl hln, ?_⟩
  intro v w v' w' hx_ hm_
  rcases hx_ with ⟨rfl, rfl, fx0⟩ | ⟨rfl, rfl, fx0, fx1⟩ | ⟨fl2_x, fb2_x, ft2_x, s2_x, r2_x, oc2_x, wh2_x, dS2_x, dK2_x, rfl, rfl, fx0, fx1, fx2, fx3, fx4, fx5⟩ | ⟨fl2_x, fb2_x, ft2_x, s2_x, r2_x, oc2_x, wh2_x, dS2_x, dL2_x, dM2_x, rfl, rfl, fx0, fx1, fx2, fx3, fx4, fx5, fx6⟩
  · rcases hm_ with ⟨rfl, rfl, fm0⟩ | ⟨rfl, rfl, fm0, fm1⟩ | ⟨b36_m, b37_m, rfl, rfl, fm0, fm1, fm2, fm3, fm4, fm5, fm6, fm7⟩ | ⟨b36_m, b37_m, rfl, rfl, fm0, fm1, fm2, fm3, fm4, fm5, fm6, fm7, fm8, fm9, fm10⟩
    · exact ⟨⟨_, rfl, rfl⟩, NXI_same hI⟩
    · exfalso; omega
    · exfalso; omega
    · exfalso; omega
  · rcases hm_ with ⟨rfl, rfl, fm0⟩ | ⟨rfl, rfl, fm0, fm1⟩ | ⟨b36_m, b37_m, rfl, rfl, fm0, fm1, fm2, fm3, fm4, fm5, fm6, fm7⟩ | ⟨b36_m, b37_m, rfl, rfl, fm0, fm1, fm2, fm3, fm4, fm5, fm6, fm7, fm8, fm9, fm10⟩
    · exfalso; omega
    · exact ⟨⟨_, rfl, rfl⟩, NXI_same hI⟩
    · exfalso; omega
    · exfalso; omega
  · rcases hm_ with ⟨rfl, rfl, fm0⟩ | ⟨rfl, rfl, fm0, fm1⟩ | ⟨b36_m, b37_m, rfl, rfl, fm0, fm1, fm2, fm3, fm4, fm5, fm6, fm7⟩ | ⟨b36_m, b37_m, rfl, rfl, fm0, fm1, fm2, fm3, fm4, fm5, fm6, fm7, fm8, fm9, fm10⟩
    · exfalso; omega
    · exfalso; omega
    · have hD : LED dS2_x (VV 592) dK2_x (VV 594) b36_m := ⟨by rw [fx3, fm3, iD.1], by rw [fm4, iD.2.1], by rw [fx5, fm5, iD.2.2.1], by rw [fm6, iD.2.2.2]⟩
      exact ⟨⟨_, rfl, rfl⟩, CC, _, _, _, _, _, _, _, rfl, rfl, rfl, n, T, B, S, F, iS, iU, iF, iL, iT, iC, iA, iH, hD, Or.inl ⟨(by omega : ¬ oc2_x.toInt = 3), (by omega : (b36_m 4).toInt < 0)⟩, iM, iN⟩
    · exfalso; have h := fx2.2.2.2.1; rw [initG_y fm2] at h; have h2 : oc2_x.toInt = 3 := h; omega
  · rcases hm_ with ⟨rfl, rfl, fm0⟩ | ⟨rfl, rfl, fm0, fm1⟩ | ⟨b36_m, b37_m, rfl, rfl, fm0, fm1, fm2, fm3, fm4, fm5, fm6, fm7⟩ | ⟨b36_m, b37_m, rfl, rfl, fm0, fm1, fm2, fm3, fm4, fm5, fm6, fm7, fm8, fm9, fm10⟩
    · exfalso; omega
    · exfalso; omega
    · exfalso; have h := fx2.2.2.2.1; rw [initG_n fm2] at h; have h2 : oc2_x.toInt = 1 := h; omega
    · rw [initG_y fm2] at fx2
      have hs : s2_x = b36_m 6 := i32e (a := 1) fx2.2.1 (by omega)
      have hD : LED dS2_x dL2_x (VV 593) dM2_x b36_m := ⟨by rw [fx3, fm3, iD.1], by rw [fx5, fm4, iD.2.1], by rw [fm5, iD.2.2.1], by rw [fx6, fm6, iD.2.2.2, hs]⟩
      rcases (by omega : s0 = 0 ∨ s0 = 1 ∨ s0 = 2) with rfl | rfl | rfl
      · exact ⟨⟨_, rfl, rfl⟩, CC, _, _, _, _, _, _, _, rfl, rfl, rfl, n, T, B, S, F, iS, iU, iF, iL, iT, iC, iA, iH, hD, Or.inr ⟨0, ([(ln, -2)], 3, 0), by decide, rfl, fx2, fx4, fm7, fm8, fm9, fm10⟩, iM, iN⟩
      · exact ⟨⟨_, rfl, rfl⟩, CC, _, _, _, _, _, _, _, rfl, rfl, rfl, n, T, B, S, F, iS, iU, iF, iL, iT, iC, iA, iH, hD, Or.inr ⟨1, ([(ln, -2)], 3, 0), by decide, rfl, fx2, fx4, fm7, fm8, fm9, fm10⟩, iM, iN⟩
      · exact ⟨⟨_, rfl, rfl⟩, CC, _, _, _, _, _, _, _, rfl, rfl, rfl, n, T, B, S, F, iS, iU, iF, iL, iT, iC, iA, iH, hD, Or.inr ⟨2, ([(ln, -2)], 3, 0), by decide, rfl, fx2, fx4, fm7, fm8, fm9, fm10⟩, iM, iN⟩
set_option maxHeartbeats 4000000 in
set_option maxRecDepth 100000 in
theorem pr_on (l : Launch) (D : va_G) (Y : Nat → ClassId) {CC sg : Nat → Nat} {VV : Nat → Int32} {ff : Nat → Nat → Int32} {fj : Nat → Nat → Int64} {m : Nat} {R : Nat → Nat} {VM : Nat → Int32} {fM : Nat → Nat → Int32} {jM : Nat → Nat → Int64} (hI : INV CC sg VV ff fj VM fM jM) : PRS ANI l D Y CC m R (WX Y CC sg VV ff fj) (WM Y m R VM fM jM) yX10_on wsX10_on yX11_on wsX11_on [] := by
  obtain ⟨n, T, B, S, F, iS, iU, iF, iL, iT, iC, iA, iH, iD, iE, iM, iN⟩ := id hI
  rcases id iE with ⟨h1, h2⟩ | ⟨s0, st, hd⟩
  · refine ⟨_, _, _, _, RB_of (by decide) (by decide), RB_of (by decide) (by decide), lx_on_off l D Y CC sg VV ff fj h1, lm_on_off l D Y m R VM fM jM h2, ?_⟩
    intro v w v' w' hx_ hm_
    obtain ⟨rfl, rfl⟩ := hx_
    obtain ⟨rfl, rfl⟩ := hm_
    exact ⟨⟨_, rfl, rfl⟩, NXI_same hI⟩
  · obtain ⟨hla, h60, hS3⟩ := DON_sg hd
    obtain ⟨hs0, h2, h3, h4, h5, h6, h7, h8⟩ := hd
    have gX := I_sg_at iS hs0
    have hg1 : sg 1 = CC (18 + 5 * s0) := by
      rcases (by omega : s0 = 0 ∨ s0 = 1 ∨ s0 = 2) with rfl | rfl | rfl <;> exact h2
    have hx12 : ∀ xl xp : Nat, nxt F S (T s0) (B s0) (n s0) st.1 = some (xl, xp) → xl < 12 := fun xl xp q => by
      have h := nxt_lt q
      have h2 : xl < n s0 := h.1
      have h3 := gX.2.1
      omega
    refine ⟨_, _, _, _, RB_of (by decide) (by decide), RB_of (by decide) (by decide), lx_on l D Y CC sg VV ff fj (n s0) S F (T s0) (B s0) st s0 hg1 hs0 iU.1 iL.1 gX.1 gX.2.1 gX.2.2.1 gX.2.2.2.1 h3 h4, lm_on l D Y m R n T B S F s0 st.1 VM fM jM iS.2.2.2.1 iS.2.2.2.2.1 iS.2.2.2.2.2 iU.2 iL.2 hs0 h5 h6 h7 h60 hla h8, ?_⟩
    intro v w v' w' hx_ hm_
    rcases hx_ with ⟨fl2_x, fb2_x, ft2_x, s2_x, r2_x, oc2_x, wh2_x, bb2_x, fk2_x, fn2_x, fg2_x, fi2_x, rfl, rfl, fx0, fx1, fx2⟩ | ⟨fl2_x, fb2_x, ft2_x, s2_x, r2_x, oc2_x, wh2_x, bb2_x, fk2_x, fn2_x, fg2_x, fi2_x, rfl, rfl, fx0, fx1, fx2⟩ | ⟨r_x, fl2_x, fb2_x, ft2_x, s2_x, r2_x, oc2_x, wh2_x, bb2_x, fk2_x, fn2_x, fg2_x, fi2_x, dK2_x, rfl, rfl, fx0, fx1, fx2, fx3, fx4⟩ | ⟨r_x, fl2_x, fb2_x, ft2_x, s2_x, r2_x, oc2_x, wh2_x, bb2_x, fk2_x, fn2_x, fg2_x, fi2_x, dL2_x, dM2_x, rfl, rfl, fx0, fx1, fx2, fx3, fx4, fx5⟩
    · rcases hm_ with ⟨z34_m, b25_m, b26_m, b28_m, b36_m, b37_m, rfl, rfl, fm0, fm1, fm2, fm3, fm4, fm5⟩ | ⟨z34_m, b25_m, b26_m, b28_m, b36_m, b37_m, rfl, rfl, fm0, fm1, fm2, fm3, fm4, fm5, fm6⟩ | ⟨r_m, z34_m, b25_m, b26_m, b28_m, b36_m, b37_m, xl_m, xp_m, rfl, rfl, fm0, fm1, fm2, fm3, fm4, fm5, fm6, fm7, fm8⟩ | ⟨r_m, z34_m, b25_m, b26_m, b28_m, b36_m, b37_m, xl_m, xp_m, rfl, rfl, fm0, fm1, fm2, fm3, fm4, fm5, fm6, fm7, fm8, fm9, fm10, fm11⟩
      · exfalso
        have e := stepG_R (nx := nxt F S (T s0) (B s0) (n s0)) (can := canS (B s0)) hS3 fm0
        have h := fx1.2.2.2.1; rw [e] at h; have h2 : oc2_x.toInt = 2 := h; omega
      · have hD : LED (VV 591) (VV 592) (VV 593) (VV 594) b36_m := ⟨by rw [fm2, iD.1], by rw [fm3, iD.2.1], by rw [fm4, iD.2.2.1], by rw [fm5, iD.2.2.2]⟩
        exact ⟨⟨_, rfl, rfl⟩, CC, _, _, _, _, _, _, _, rfl, rfl, rfl, n, T, B, S, F, iS, iU, iF, ⟨fx2, iL.2⟩, iT, iC, iA, iH, hD, Or.inl ⟨(by omega : ¬ oc2_x.toInt = 3), (by omega : (b36_m 4).toInt < 0)⟩, iM, iN⟩
      · exfalso
        have e := stepG_s (nx := nxt F S (T s0) (B s0) (n s0)) (can := canS (B s0)) hS3 fm0 fm1 fm2
        have h := fx1.2.2.2.1; rw [e] at h; have h2 : oc2_x.toInt = 1 := h; omega
      · exfalso
        have e := stepG_y (nx := nxt F S (T s0) (B s0) (n s0)) (can := canS (B s0)) hS3 fm0 fm1 fm2
        have h := fx1.2.2.2.1; rw [e] at h; have h2 : oc2_x.toInt = 3 := h; omega
    · rcases hm_ with ⟨z34_m, b25_m, b26_m, b28_m, b36_m, b37_m, rfl, rfl, fm0, fm1, fm2, fm3, fm4, fm5⟩ | ⟨z34_m, b25_m, b26_m, b28_m, b36_m, b37_m, rfl, rfl, fm0, fm1, fm2, fm3, fm4, fm5, fm6⟩ | ⟨r_m, z34_m, b25_m, b26_m, b28_m, b36_m, b37_m, xl_m, xp_m, rfl, rfl, fm0, fm1, fm2, fm3, fm4, fm5, fm6, fm7, fm8⟩ | ⟨r_m, z34_m, b25_m, b26_m, b28_m, b36_m, b37_m, xl_m, xp_m, rfl, rfl, fm0, fm1, fm2, fm3, fm4, fm5, fm6, fm7, fm8, fm9, fm10, fm11⟩
      · have hD : LED (VV 591) (VV 592) (VV 593) (VV 594) b36_m := ⟨by rw [fm1, iD.1], by rw [fm2, iD.2.1], by rw [fm3, iD.2.2.1], by rw [fm4, iD.2.2.2]⟩
        exact ⟨⟨_, rfl, rfl⟩, CC, _, _, _, _, _, _, _, rfl, rfl, rfl, n, T, B, S, F, iS, iU, iF, ⟨fx2, iL.2⟩, iT, iC, iA, iH, hD, Or.inl ⟨(by omega : ¬ oc2_x.toInt = 3), (by omega : (b36_m 4).toInt < 0)⟩, iM, iN⟩
      · exfalso
        have e := stepG_e (nx := nxt F S (T s0) (B s0) (n s0)) (can := canS (B s0)) hS3 fm0 fm1
        have h := fx1.2.2.2.1; rw [e] at h; have h2 : oc2_x.toInt = 0 := h; omega
      · exfalso
        have e := stepG_s (nx := nxt F S (T s0) (B s0) (n s0)) (can := canS (B s0)) hS3 fm0 fm1 fm2
        have h := fx1.2.2.2.1; rw [e] at h; have h2 : oc2_x.toInt = 1 := h; omega
      · exfalso
        have e := stepG_y (nx := nxt F S (T s0) (B s0) (n s0)) (can := canS (B s0)) hS3 fm0 fm1 fm2
        have h := fx1.2.2.2.1; rw [e] at h; have h2 : oc2_x.toInt = 3 := h; omega
    · rcases hm_ with ⟨z34_m, b25_m, b26_m, b28_m, b36_m, b37_m, rfl, rfl, fm0, fm1, fm2, fm3, fm4, fm5⟩ | ⟨z34_m, b25_m, b26_m, b28_m, b36_m, b37_m, rfl, rfl, fm0, fm1, fm2, fm3, fm4, fm5, fm6⟩ | ⟨r_m, z34_m, b25_m, b26_m, b28_m, b36_m, b37_m, xl_m, xp_m, rfl, rfl, fm0, fm1, fm2, fm3, fm4, fm5, fm6, fm7, fm8⟩ | ⟨r_m, z34_m, b25_m, b26_m, b28_m, b36_m, b37_m, xl_m, xp_m, rfl, rfl, fm0, fm1, fm2, fm3, fm4, fm5, fm6, fm7, fm8, fm9, fm10, fm11⟩
      · exfalso
        have e := stepG_R (nx := nxt F S (T s0) (B s0) (n s0)) (can := canS (B s0)) hS3 fm0
        have h := fx3.2.2.2.1; rw [e] at h; have h2 : oc2_x.toInt = 2 := h; omega
      · exfalso
        have e := stepG_e (nx := nxt F S (T s0) (B s0) (n s0)) (can := canS (B s0)) hS3 fm0 fm1
        have h := fx3.2.2.2.1; rw [e] at h; have h2 : oc2_x.toInt = 0 := h; omega
      · have e := stepG_s (nx := nxt F S (T s0) (B s0) (n s0)) (can := canS (B s0)) hS3 fm0 fm1 fm2
        rw [e] at fx3
        have hw : wh2_x.toInt = ((xl_m : Nat) : Int) := fx3.2.2.2.2.1
        have hr : r_x.toInt = r_m.toInt := by
          rw [fx1, tI_sub (a := -20) (b := ((xl_m : Nat) : Int)) (by decide) hw (by have := hx12 _ _ fm1; omega) (by omega)]; omega
        have hD : LED (VV 591) (VV 592) dK2_x (VV 594) b36_m := ⟨by rw [fm4, iD.1], by rw [fm5, iD.2.1], by rw [fx2, fm7, iD.2.2.1], by rw [fm6, iD.2.2.2]⟩
        exact ⟨ANI_of hr, CC, _, _, _, _, _, _, _, rfl, rfl, rfl, n, T, B, S, F, iS, iU, iF, ⟨fx4, iL.2⟩, iT, iC, iA, iH, hD, Or.inl ⟨(by omega : ¬ oc2_x.toInt = 3), (by omega : (b36_m 4).toInt < 0)⟩, iM, iN⟩
      · exfalso
        have e := stepG_y (nx := nxt F S (T s0) (B s0) (n s0)) (can := canS (B s0)) hS3 fm0 fm1 fm2
        have h := fx3.2.2.2.1; rw [e] at h; have h2 : oc2_x.toInt = 3 := h; omega
    · rcases hm_ with ⟨z34_m, b25_m, b26_m, b28_m, b36_m, b37_m, rfl, rfl, fm0, fm1, fm2, fm3, fm4, fm5⟩ | ⟨z34_m, b25_m, b26_m, b28_m, b36_m, b37_m, rfl, rfl, fm0, fm1, fm2, fm3, fm4, fm5, fm6⟩ | ⟨r_m, z34_m, b25_m, b26_m, b28_m, b36_m, b37_m, xl_m, xp_m, rfl, rfl, fm0, fm1, fm2, fm3, fm4, fm5, fm6, fm7, fm8⟩ | ⟨r_m, z34_m, b25_m, b26_m, b28_m, b36_m, b37_m, xl_m, xp_m, rfl, rfl, fm0, fm1, fm2, fm3, fm4, fm5, fm6, fm7, fm8, fm9, fm10, fm11⟩
      · exfalso
        have e := stepG_R (nx := nxt F S (T s0) (B s0) (n s0)) (can := canS (B s0)) hS3 fm0
        have h := fx4.2.2.2.1; rw [e] at h; have h2 : oc2_x.toInt = 2 := h; omega
      · exfalso
        have e := stepG_e (nx := nxt F S (T s0) (B s0) (n s0)) (can := canS (B s0)) hS3 fm0 fm1
        have h := fx4.2.2.2.1; rw [e] at h; have h2 : oc2_x.toInt = 0 := h; omega
      · exfalso
        have e := stepG_s (nx := nxt F S (T s0) (B s0) (n s0)) (can := canS (B s0)) hS3 fm0 fm1 fm2
        have h := fx4.2.2.2.1; rw [e] at h; have h2 : oc2_x.toInt = 1 := h; omega
      · have e := stepG_y (nx := nxt F S (T s0) (B s0) (n s0)) (can := canS (B s0)) hS3 fm0 fm1 fm2
        have h5b : (b36_m 5).toInt = ((s0 : Nat) : Int) := by rw [fm6]; exact h6
        rw [e] at fx1 fx4
        have hs : s2_x = b36_m 6 := i32e fx4.2.1 fm10
        have hD : LED (VV 591) dL2_x (VV 593) dM2_x b36_m := ⟨by rw [fm4, iD.1], by rw [fx2, fm7, iD.2.1], by rw [fm5, iD.2.2.1], by rw [fx3, fm8, iD.2.2.2, hs]⟩
        exact ⟨ANI_of (fx1.trans fm3.symm), CC, _, _, _, _, _, _, _, rfl, rfl, rfl, n, T, B, S, F, iS, iU, iF, ⟨fx5, iL.2⟩, iT, iC, iA, iH, hD, Or.inr ⟨s0, ((xl_m, ((xp_m : Nat) : Int)) :: st.1, 3, st.2.2), hs0, h2, fx4, fx0, fm9, h5b, fm10, fm11 _⟩, iM, iN⟩
set_option maxHeartbeats 4000000 in
set_option maxRecDepth 100000 in
theorem pr_led (l : Launch) (D : va_G) (Y : Nat → ClassId) {CC sg : Nat → Nat} {VV : Nat → Int32} {ff : Nat → Nat → Int32} {fj : Nat → Nat → Int64} {m : Nat} {R : Nat → Nat} {VM : Nat → Int32} {fM : Nat → Nat → Int32} {jM : Nat → Nat → Int64} (hI : INV CC sg VV ff fj VM fM jM) (a0 : Int32) : PRS ANI l D Y CC m R (WX Y CC sg VV ff fj) (WM Y m R VM fM jM) yX10_led wsX10_led yX11_led wsX11_led [.int a0] := by
  obtain ⟨n, T, B, S, F, iS, iU, iF, iL, iT, iC, iA, iH, iD, iE, iM, iN⟩ := id hI
  have eE := DD_iff iE
  refine ⟨_, _, _, _, RB_of (by decide) (by decide), RB_of (by decide) (by decide), lx_led l D Y CC sg VV ff fj a0, lm_led l D Y m R a0 VM fM jM, ?_⟩
  intro v w v' w' hx_ hm_
  rcases hx_ with ⟨rfl, rfl, fx0⟩ | ⟨rfl, rfl, fx0⟩ | ⟨rfl, rfl, fx0⟩ | ⟨rfl, rfl, fx0⟩ | ⟨rfl, rfl, fx0, fx1⟩ | ⟨rfl, rfl, fx0, fx1⟩ | ⟨rfl, rfl, fx0⟩
  · rcases hm_ with ⟨rfl, rfl, fm0⟩ | ⟨rfl, rfl, fm0⟩ | ⟨rfl, rfl, fm0⟩ | ⟨rfl, rfl, fm0⟩ | ⟨rfl, rfl, fm0, fm1⟩ | ⟨rfl, rfl, fm0, fm1⟩ | ⟨rfl, rfl, fm0⟩
    · exact ⟨ANI_e iD.1, NXI_same hI⟩
    · exfalso; omega
    · exfalso; omega
    · exfalso; omega
    · exfalso; omega
    · exfalso; omega
    · exfalso; omega
  · rcases hm_ with ⟨rfl, rfl, fm0⟩ | ⟨rfl, rfl, fm0⟩ | ⟨rfl, rfl, fm0⟩ | ⟨rfl, rfl, fm0⟩ | ⟨rfl, rfl, fm0, fm1⟩ | ⟨rfl, rfl, fm0, fm1⟩ | ⟨rfl, rfl, fm0⟩
    · exfalso; omega
    · exact ⟨ANI_e iD.2.1, NXI_same hI⟩
    · exfalso; omega
    · exfalso; omega
    · exfalso; omega
    · exfalso; omega
    · exfalso; omega
  · rcases hm_ with ⟨rfl, rfl, fm0⟩ | ⟨rfl, rfl, fm0⟩ | ⟨rfl, rfl, fm0⟩ | ⟨rfl, rfl, fm0⟩ | ⟨rfl, rfl, fm0, fm1⟩ | ⟨rfl, rfl, fm0, fm1⟩ | ⟨rfl, rfl, fm0⟩
    · exfalso; omega
    · exfalso; omega
    · exact ⟨ANI_e iD.2.2.1, NXI_same hI⟩
    · exfalso; omega
    · exfalso; omega
    · exfalso; omega
    · exfalso; omega
  · rcases hm_ with ⟨rfl, rfl, fm0⟩ | ⟨rfl, rfl, fm0⟩ | ⟨rfl, rfl, fm0⟩ | ⟨rfl, rfl, fm0⟩ | ⟨rfl, rfl, fm0, fm1⟩ | ⟨rfl, rfl, fm0, fm1⟩ | ⟨rfl, rfl, fm0⟩
    · exfalso; omega
    · exfalso; omega
    · exfalso; omega
    · exact ⟨ANI_e iD.2.2.2, NXI_same hI⟩
    · exfalso; omega
    · exfalso; omega
    · exfalso; omega
  · rcases hm_ with ⟨rfl, rfl, fm0⟩ | ⟨rfl, rfl, fm0⟩ | ⟨rfl, rfl, fm0⟩ | ⟨rfl, rfl, fm0⟩ | ⟨rfl, rfl, fm0, fm1⟩ | ⟨rfl, rfl, fm0, fm1⟩ | ⟨rfl, rfl, fm0⟩
    · exfalso; omega
    · exfalso; omega
    · exfalso; omega
    · exfalso; omega
    · rcases id iE with ⟨h1, h2⟩ | ⟨s0, st, hs0, h2, h3, h4, h5, h6, h7, h8⟩
      · exact absurd fx1 h1
      · exact ⟨ANI_of (h3.2.1.trans h7.symm), NXI_same hI⟩
    · exfalso; omega
    · exfalso; omega
  · rcases hm_ with ⟨rfl, rfl, fm0⟩ | ⟨rfl, rfl, fm0⟩ | ⟨rfl, rfl, fm0⟩ | ⟨rfl, rfl, fm0⟩ | ⟨rfl, rfl, fm0, fm1⟩ | ⟨rfl, rfl, fm0, fm1⟩ | ⟨rfl, rfl, fm0⟩
    · exfalso; omega
    · exfalso; omega
    · exfalso; omega
    · exfalso; omega
    · exfalso; omega
    · exact ⟨⟨_, rfl, rfl⟩, NXI_same hI⟩
    · exfalso; omega
  · rcases hm_ with ⟨rfl, rfl, fm0⟩ | ⟨rfl, rfl, fm0⟩ | ⟨rfl, rfl, fm0⟩ | ⟨rfl, rfl, fm0⟩ | ⟨rfl, rfl, fm0, fm1⟩ | ⟨rfl, rfl, fm0, fm1⟩ | ⟨rfl, rfl, fm0⟩
    · exfalso; omega
    · exfalso; omega
    · exfalso; omega
    · exfalso; omega
    · exfalso; omega
    · exfalso; omega
    · exact ⟨⟨_, rfl, rfl⟩, NXI_same hI⟩
set_option maxHeartbeats 4000000 in
set_option maxRecDepth 100000 in
theorem pr_image (l : Launch) (D : va_G) (Y : Nat → ClassId) {CC sg : Nat → Nat} {VV : Nat → Int32} {ff : Nat → Nat → Int32} {fj : Nat → Nat → Int64} {m : Nat} {R : Nat → Nat} {VM : Nat → Int32} {fM : Nat → Nat → Int32} {jM : Nat → Nat → Int64} (hI : INV CC sg VV ff fj VM fM jM) : PRS ANI l D Y CC m R (WX Y CC sg VV ff fj) (WM Y m R VM fM jM) yX10_image wsX10_image yX11_image wsX11_image [] := by
  obtain ⟨n, T, B, S, F, iS, iU, iF, iL, iT, iC, iA, iH, iD, iE, iM, iN⟩ := id hI
  refine ⟨_, _, _, _, RB_of (by decide) (by decide), RB_of (by decide) (by decide), lx_image l D Y CC sg VV ff fj, lm_image l D Y m R VM fM jM, ?_⟩
  intro v w v' w' hx_ hm_
  obtain ⟨e0_x, e1_x, e2_x, kl_x, kb_x, kt_x, rfl, rfl, fx0, fx1, fx2, fx3, fx4, fx5⟩ := hx_
  obtain ⟨b39_m, b40_m, b41_m, rfl, rfl, fm0, fm1, fm2⟩ := hm_
  exact ⟨ANI_e iD.1, CC, _, _, _, _, _, _, _, rfl, rfl, rfl, n, T, B, S, F, iS, iU, iF, iL, iT, iC, iA, iH, iD, iE, ⟨⟨fun _ => (show (1 : Int32).toInt ≠ 0 from by decide), fun _ => (show (1 : Int32).toInt ≠ 0 from by decide)⟩, fun _ => ⟨LED_c iD fm0, DD_c iE fx3 fx4 fx5 fm0 fm1, B, HV_c iS.1.2.2.2.1 fx0, HV_c iS.2.1.2.2.2.1 fx1, HV_c iS.2.2.1.2.2.2.1 fx2, MHV_same iS.2.2.2.2.2 fm2, fun s j hs => (I_sg_z iS hs).2 j⟩⟩, iN⟩
set_option maxHeartbeats 4000000 in
set_option maxRecDepth 100000 in
theorem pr_back (l : Launch) (D : va_G) (Y : Nat → ClassId) {CC sg : Nat → Nat} {VV : Nat → Int32} {ff : Nat → Nat → Int32} {fj : Nat → Nat → Int64} {m : Nat} {R : Nat → Nat} {VM : Nat → Int32} {fM : Nat → Nat → Int32} {jM : Nat → Nat → Int64} (hI : INV CC sg VV ff fj VM fM jM) : PRS ANI l D Y CC m R (WX Y CC sg VV ff fj) (WM Y m R VM fM jM) yX10_back wsX10_back yX11_back wsX11_back [] := by
  obtain ⟨n, T, B, S, F, iS, iU, iF, iL, iT, iC, iA, iH, iD, iE, iM, iN⟩ := id hI
  have eM := iM.1
  refine ⟨_, _, _, _, RB_of (by decide) (by decide), RB_of (by decide) (by decide), lx_back l D Y CC sg VV ff fj, lm_back l D Y m R VM fM jM, ?_⟩
  intro v w v' w' hx_ hm_
  rcases hx_ with ⟨rfl, rfl, fx0⟩ | ⟨e0_x, e1_x, e2_x, kl_x, kb_x, kt_x, rfl, rfl, fx0, fx1, fx2, fx3, fx4, fx5, fx6⟩
  · rcases hm_ with ⟨rfl, rfl, fm0⟩ | ⟨b36_m, b37_m, b5_m, rfl, rfl, fm0, fm1, fm2, fm3⟩
    · exact ⟨⟨_, rfl, rfl⟩, NXI_same hI⟩
    · exfalso; exact (eM.mpr fm0) fx0
  · rcases hm_ with ⟨rfl, rfl, fm0⟩ | ⟨b36_m, b37_m, b5_m, rfl, rfl, fm0, fm1, fm2, fm3⟩
    · exfalso; exact (eM.mp fx0) fm0
    · obtain ⟨j1, j2, B', b0, b1, b2, b3, b4⟩ := iM.2 fx0
      have hD := LED_c j1 fm1
      have hE := DD_c j2 fx4 fx5 fx6 fm1 fm2
      exact ⟨ANI_e hD.1, CC, _, _, _, _, _, _, _, rfl, rfl, rfl, n, T, B', S, F, ⟨⟨iS.1.1, iS.1.2.1, iS.1.2.2.1, HV_c b0 fx1, fun j => b4 0 j (by decide)⟩, ⟨iS.2.1.1, iS.2.1.2.1, iS.2.1.2.2.1, HV_c b1 fx2, fun j => b4 1 j (by decide)⟩, ⟨iS.2.2.1.1, iS.2.2.1.2.1, iS.2.2.1.2.2.1, HV_c b2 fx3, fun j => b4 2 j (by decide)⟩, iS.2.2.2.1, iS.2.2.2.2.1, MHV_same b3 fm3⟩, iU, iF, iL, iT, iC, iA, iH, hD, hE, iM, iN⟩
set_option maxHeartbeats 4000000 in
set_option maxRecDepth 100000 in
theorem pr_undo (l : Launch) (D : va_G) (Y : Nat → ClassId) {CC sg : Nat → Nat} {VV : Nat → Int32} {ff : Nat → Nat → Int32} {fj : Nat → Nat → Int64} {m : Nat} {R : Nat → Nat} {VM : Nat → Int32} {fM : Nat → Nat → Int32} {jM : Nat → Nat → Int64} (hI : INV CC sg VV ff fj VM fM jM) : PRS ANI l D Y CC m R (WX Y CC sg VV ff fj) (WM Y m R VM fM jM) yX10_undo wsX10_undo yX11_undo wsX11_undo [] := by
  obtain ⟨n, T, B, S, F, iS, iU, iF, iL, iT, iC, iA, iH, iD, iE, iM, iN⟩ := id hI
  obtain ⟨d, u, e24, e25, e8, e9, h40, hCH⟩ := id iC
  have eF := congrArg Int32.toInt iF
  by_cases hd : 0 < d
  · obtain ⟨q1, q2, q3, q4, hV⟩ := hCH (d - 1) (by omega)
    have hrow : (ff 5) (d - 1) = (fM 12) (d - 1) := q3
    obtain ⟨s0, ln, hs0, hsl, hln, hmX⟩ : ∃ s0 ln : Nat, s0 < 3 ∧ (0 ≤ ((ff 3) (d - 1)).toInt → ((ff 3) (d - 1)).toInt / 100 < 3 → ((ff 3) (d - 1)).toInt / 100 = ((s0 : Nat) : Int)) ∧ (0 ≤ ((ff 3) (d - 1)).toInt → ((ff 3) (d - 1)).toInt % 100 = ((ln : Nat) : Int)) ∧ ((0 ≤ ((ff 4) (d - 1)).toInt ∧ ((ff 4) (d - 1)).toInt < 3 ∧ (0 ≤ ((ff 3) (d - 1)).toInt ∧ ((ff 3) (d - 1)).toInt / 100 = ((s0 : Nat) : Int) ∧ ln < n s0)) ∨ (((ff 4) (d - 1)).toInt = 3 ∧ 0 ≤ ((ff 3) (d - 1)).toInt ∧ ((ff 3) (d - 1)).toInt < 4) ∨ (((ff 4) (d - 1)).toInt = 4 ∧ ((ff 3) (d - 1)).toInt = 0)) := by
      obtain ⟨s0, hs0, hsl⟩ := ixL ((ff 3) (d - 1)) 100 (by decide)
      obtain ⟨ln, hln⟩ := ixM ((ff 3) (d - 1)) 100 (by decide)
      refine ⟨s0, ln, hs0, hsl, hln, ?_⟩
      rcases hV with ⟨s1, l1, v1, v2, v3, v4, v5, v6, v7, v8⟩ | ⟨v1, v2, v3, v4⟩ | ⟨v1, v2⟩
      · obtain rfl : s1 = s0 := by omega
        obtain rfl : l1 = ln := by omega
        exact Or.inl ⟨v1, v2, v4, v5, v7⟩
      · exact Or.inr (Or.inl ⟨v1, v2, v3⟩)
      · exact Or.inr (Or.inr ⟨v1, v2⟩)
    have gX := I_sg_at iS hs0
    have h12 := gX.2.1
    have e3 := congrArg Int32.toInt q1
    have e4 := congrArg Int32.toInt q2
    have e5 := congrArg Int32.toInt hrow
    refine ⟨_, _, _, _, RB_of (by decide) (by decide), RB_of (by decide) (by decide), lx_undo l D Y CC sg VV ff fj (n s0) s0 ln d (d + u) hs0 gX.1 gX.2.1 hsl hln (by omega) e24 e25 (Nat.le_add_right d u) h40 (by omega), lm_undo l D Y m R n s0 ln d u VM fM jM hs0 (by omega) gX.2.1 (by omega) e8 e9 h40 (by omega), ?_⟩
    intro v w v' w' hx_ hm_
    rcases hx_ with ⟨r_x, w_x, dn2_x, rfl, rfl, fx0, fx1, fx2, fx3, fx4⟩ | ⟨r_x, yn_x, dn2_x, rfl, rfl, fx0, fx1, fx2, fx3, fx4⟩ | ⟨r_x, dn2_x, rfl, rfl, fx0, fx1, fx2⟩
    · rcases hm_ with ⟨r_m, z8_m, z9_m, rfl, rfl, fm0, fm1, fm2, fm3, fm4⟩ | ⟨r_m, z8_m, z9_m, rfl, rfl, fm0, fm1, fm2, fm3, fm4⟩ | ⟨r_m, z8_m, z9_m, rfl, rfl, fm0, fm1, fm2, fm3, fm4⟩ | ⟨r_m, yn_m, z8_m, z9_m, rfl, rfl, fm0, fm1, fm2, fm3, fm4, fm5⟩ | ⟨r_m, z8_m, z9_m, rfl, rfl, fm0, fm1, fm2, fm3⟩
      · obtain rfl : w_x = 0 := by omega
        have hb : 0 ≤ ((ff 5) (d - 1)).toInt ∧ ((ff 5) (d - 1)).toInt < 8 := by
          rcases hV with ⟨s1, l1, v1, v2, v3, v4, v5, v6, v7, v8⟩ | ⟨v1, v2, v3, v4⟩ | ⟨v1, v2⟩ <;> omega
        have g3 := PT_1 gX.2.2.1 (j := 3 * ln + 0) (a := ((ff 5) (d - 1)).toInt.toNat) (x := (ff 5) (d - 1)) (by omega) (by omega)
        have g2 := MTR_0 (s := s0) (l := ln) (a := ((ff 5) (d - 1)).toInt.toNat) (x := (fM 12) (d - 1)) iS.2.2.2.2.1 (by omega) (by omega) (by omega)
        have hC : I_chg n dn2_x (VV 25) (ff 3) (ff 4) (ff 5) (ff 6) z8_m z9_m (fM 11) (fM 10) (fM 12) (fM 13) := ⟨(d - 1), u + 1, fx4, (by rw [show (d - 1) + (u + 1) = d + u by omega]; exact e25), fm3, fm4, by omega, by rw [show (d - 1) + (u + 1) = d + u by omega]; exact hCH⟩
        rcases (by omega : s0 = 0 ∨ s0 = 1 ∨ s0 = 2) with rfl | rfl | rfl
        · exact ⟨ANI_of (by omega), CC, _, _, _, _, _, _, _, rfl, rfl, rfl, n, upS T 0 _, B, S, F, I_sg_p0 iS g3 g2, iU, iF, iL, iT, hC, iA, iH, iD, iE, iM, iN⟩
        · exact ⟨ANI_of (by omega), CC, _, _, _, _, _, _, _, rfl, rfl, rfl, n, upS T 1 _, B, S, F, I_sg_p1 iS g3 g2, iU, iF, iL, iT, hC, iA, iH, iD, iE, iM, iN⟩
        · exact ⟨ANI_of (by omega), CC, _, _, _, _, _, _, _, rfl, rfl, rfl, n, upS T 2 _, B, S, F, I_sg_p2 iS g3 g2, iU, iF, iL, iT, hC, iA, iH, iD, iE, iM, iN⟩
      · obtain rfl : w_x = 1 := by omega
        have hb : 0 ≤ ((ff 5) (d - 1)).toInt ∧ ((ff 5) (d - 1)).toInt < 8 := by
          rcases hV with ⟨s1, l1, v1, v2, v3, v4, v5, v6, v7, v8⟩ | ⟨v1, v2, v3, v4⟩ | ⟨v1, v2⟩ <;> omega
        have g3 := PT_1 gX.2.2.1 (j := 3 * ln + 1) (a := ((ff 5) (d - 1)).toInt.toNat) (x := (ff 5) (d - 1)) (by omega) (by omega)
        have g2 := MTR_1 (s := s0) (l := ln) (a := ((ff 5) (d - 1)).toInt.toNat) (x := (fM 12) (d - 1)) iS.2.2.2.2.1 (by omega) (by omega) (by omega)
        have hC : I_chg n dn2_x (VV 25) (ff 3) (ff 4) (ff 5) (ff 6) z8_m z9_m (fM 11) (fM 10) (fM 12) (fM 13) := ⟨(d - 1), u + 1, fx4, (by rw [show (d - 1) + (u + 1) = d + u by omega]; exact e25), fm3, fm4, by omega, by rw [show (d - 1) + (u + 1) = d + u by omega]; exact hCH⟩
        rcases (by omega : s0 = 0 ∨ s0 = 1 ∨ s0 = 2) with rfl | rfl | rfl
        · exact ⟨ANI_of (by omega), CC, _, _, _, _, _, _, _, rfl, rfl, rfl, n, upS T 0 _, B, S, F, I_sg_p0 iS g3 g2, iU, iF, iL, iT, hC, iA, iH, iD, iE, iM, iN⟩
        · exact ⟨ANI_of (by omega), CC, _, _, _, _, _, _, _, rfl, rfl, rfl, n, upS T 1 _, B, S, F, I_sg_p1 iS g3 g2, iU, iF, iL, iT, hC, iA, iH, iD, iE, iM, iN⟩
        · exact ⟨ANI_of (by omega), CC, _, _, _, _, _, _, _, rfl, rfl, rfl, n, upS T 2 _, B, S, F, I_sg_p2 iS g3 g2, iU, iF, iL, iT, hC, iA, iH, iD, iE, iM, iN⟩
      · obtain rfl : w_x = 2 := by omega
        have hb : 0 ≤ ((ff 5) (d - 1)).toInt ∧ ((ff 5) (d - 1)).toInt < 8 := by
          rcases hV with ⟨s1, l1, v1, v2, v3, v4, v5, v6, v7, v8⟩ | ⟨v1, v2, v3, v4⟩ | ⟨v1, v2⟩ <;> omega
        have g3 := PT_1 gX.2.2.1 (j := 3 * ln + 2) (a := ((ff 5) (d - 1)).toInt.toNat) (x := (ff 5) (d - 1)) (by omega) (by omega)
        have g2 := MTR_2 (s := s0) (l := ln) (a := ((ff 5) (d - 1)).toInt.toNat) (x := (fM 12) (d - 1)) iS.2.2.2.2.1 (by omega) (by omega) (by omega)
        have hC : I_chg n dn2_x (VV 25) (ff 3) (ff 4) (ff 5) (ff 6) z8_m z9_m (fM 11) (fM 10) (fM 12) (fM 13) := ⟨(d - 1), u + 1, fx4, (by rw [show (d - 1) + (u + 1) = d + u by omega]; exact e25), fm3, fm4, by omega, by rw [show (d - 1) + (u + 1) = d + u by omega]; exact hCH⟩
        rcases (by omega : s0 = 0 ∨ s0 = 1 ∨ s0 = 2) with rfl | rfl | rfl
        · exact ⟨ANI_of (by omega), CC, _, _, _, _, _, _, _, rfl, rfl, rfl, n, upS T 0 _, B, S, F, I_sg_p0 iS g3 g2, iU, iF, iL, iT, hC, iA, iH, iD, iE, iM, iN⟩
        · exact ⟨ANI_of (by omega), CC, _, _, _, _, _, _, _, rfl, rfl, rfl, n, upS T 1 _, B, S, F, I_sg_p1 iS g3 g2, iU, iF, iL, iT, hC, iA, iH, iD, iE, iM, iN⟩
        · exact ⟨ANI_of (by omega), CC, _, _, _, _, _, _, _, rfl, rfl, rfl, n, upS T 2 _, B, S, F, I_sg_p2 iS g3 g2, iU, iF, iL, iT, hC, iA, iH, iD, iE, iM, iN⟩
      · exfalso; omega
      · exfalso; omega
    · rcases hm_ with ⟨r_m, z8_m, z9_m, rfl, rfl, fm0, fm1, fm2, fm3, fm4⟩ | ⟨r_m, z8_m, z9_m, rfl, rfl, fm0, fm1, fm2, fm3, fm4⟩ | ⟨r_m, z8_m, z9_m, rfl, rfl, fm0, fm1, fm2, fm3, fm4⟩ | ⟨r_m, yn_m, z8_m, z9_m, rfl, rfl, fm0, fm1, fm2, fm3, fm4, fm5⟩ | ⟨r_m, z8_m, z9_m, rfl, rfl, fm0, fm1, fm2, fm3⟩
      · exfalso; omega
      · exfalso; omega
      · exfalso; omega
      · obtain rfl : yn_x = yn_m := by omega
        have hb : 0 ≤ ((ff 5) (d - 1)).toInt ∧ ((ff 5) (d - 1)).toInt < 10 := by
          rcases hV with ⟨s1, l1, v1, v2, v3, v4, v5, v6, v7, v8⟩ | ⟨v1, v2, v3, v4⟩ | ⟨v1, v2⟩ <;> omega
        have gU := SUR_set (p := yn_x) (a := ((ff 5) (d - 1)).toInt.toNat) (x := (ff 5) (d - 1)) iU.1 (by omega) (by omega)
        have gU2 := SUR_set (p := yn_x) (a := ((ff 5) (d - 1)).toInt.toNat) (x := (fM 12) (d - 1)) iU.2 (by omega) (by omega)
        have hC : I_chg n dn2_x (VV 25) (ff 3) (ff 4) (ff 5) (ff 6) z8_m z9_m (fM 11) (fM 10) (fM 12) (fM 13) := ⟨(d - 1), u + 1, fx4, (by rw [show (d - 1) + (u + 1) = d + u by omega]; exact e25), fm4, fm5, by omega, by rw [show (d - 1) + (u + 1) = d + u by omega]; exact hCH⟩
        exact ⟨ANI_of (by omega), CC, _, _, _, _, _, _, _, rfl, rfl, rfl, n, T, B, _, F, iS, ⟨gU, gU2⟩, iF, iL, iT, hC, iA, iH, iD, iE, iM, iN⟩
      · exfalso; omega
    · rcases hm_ with ⟨r_m, z8_m, z9_m, rfl, rfl, fm0, fm1, fm2, fm3, fm4⟩ | ⟨r_m, z8_m, z9_m, rfl, rfl, fm0, fm1, fm2, fm3, fm4⟩ | ⟨r_m, z8_m, z9_m, rfl, rfl, fm0, fm1, fm2, fm3, fm4⟩ | ⟨r_m, yn_m, z8_m, z9_m, rfl, rfl, fm0, fm1, fm2, fm3, fm4, fm5⟩ | ⟨r_m, z8_m, z9_m, rfl, rfl, fm0, fm1, fm2, fm3⟩
      · exfalso; omega
      · exfalso; omega
      · exfalso; omega
      · exfalso; omega
      · have hC : I_chg n dn2_x (VV 25) (ff 3) (ff 4) (ff 5) (ff 6) z8_m z9_m (fM 11) (fM 10) (fM 12) (fM 13) := ⟨(d - 1), u + 1, fx2, (by rw [show (d - 1) + (u + 1) = d + u by omega]; exact e25), fm2, fm3, by omega, by rw [show (d - 1) + (u + 1) = d + u by omega]; exact hCH⟩
        exact ⟨ANI_of (by omega), CC, _, _, _, _, _, _, _, rfl, rfl, rfl, n, T, B, S, F, iS, iU, hrow, iL, iT, hC, iA, iH, iD, iE, iM, iN⟩
  · refine ⟨_, _, _, _, RB_of (by decide) (by decide), RB_of (by decide) (by decide), lx_undo_no l D Y CC sg VV ff fj d (d + u) e24 e25 (Nat.le_add_right d u) h40 (by omega), lm_undo_no l D Y m R d u VM fM jM e8 e9 h40 (by omega), ?_⟩
    intro v w v' w' hx_ hm_
    obtain ⟨rfl, rfl⟩ := hx_
    obtain ⟨rfl, rfl⟩ := hm_
    exact ⟨⟨_, rfl, rfl⟩, NXI_same hI⟩
set_option maxHeartbeats 4000000 in
set_option maxRecDepth 100000 in
theorem pr_redo (l : Launch) (D : va_G) (Y : Nat → ClassId) {CC sg : Nat → Nat} {VV : Nat → Int32} {ff : Nat → Nat → Int32} {fj : Nat → Nat → Int64} {m : Nat} {R : Nat → Nat} {VM : Nat → Int32} {fM : Nat → Nat → Int32} {jM : Nat → Nat → Int64} (hI : INV CC sg VV ff fj VM fM jM) : PRS ANI l D Y CC m R (WX Y CC sg VV ff fj) (WM Y m R VM fM jM) yX10_redo wsX10_redo yX11_redo wsX11_redo [] := by
  obtain ⟨n, T, B, S, F, iS, iU, iF, iL, iT, iC, iA, iH, iD, iE, iM, iN⟩ := id hI
  obtain ⟨d, u, e24, e25, e8, e9, h40, hCH⟩ := id iC
  have eF := congrArg Int32.toInt iF
  by_cases hd : 0 < u
  · obtain ⟨q1, q2, q3, q4, hV⟩ := hCH (d) (by omega)
    have hrow : (ff 6) (d) = (fM 13) (d) := q4
    obtain ⟨s0, ln, hs0, hsl, hln, hmX⟩ : ∃ s0 ln : Nat, s0 < 3 ∧ (0 ≤ ((ff 3) (d)).toInt → ((ff 3) (d)).toInt / 100 < 3 → ((ff 3) (d)).toInt / 100 = ((s0 : Nat) : Int)) ∧ (0 ≤ ((ff 3) (d)).toInt → ((ff 3) (d)).toInt % 100 = ((ln : Nat) : Int)) ∧ ((0 ≤ ((ff 4) (d)).toInt ∧ ((ff 4) (d)).toInt < 3 ∧ (0 ≤ ((ff 3) (d)).toInt ∧ ((ff 3) (d)).toInt / 100 = ((s0 : Nat) : Int) ∧ ln < n s0)) ∨ (((ff 4) (d)).toInt = 3 ∧ 0 ≤ ((ff 3) (d)).toInt ∧ ((ff 3) (d)).toInt < 4) ∨ (((ff 4) (d)).toInt = 4 ∧ ((ff 3) (d)).toInt = 0)) := by
      obtain ⟨s0, hs0, hsl⟩ := ixL ((ff 3) (d)) 100 (by decide)
      obtain ⟨ln, hln⟩ := ixM ((ff 3) (d)) 100 (by decide)
      refine ⟨s0, ln, hs0, hsl, hln, ?_⟩
      rcases hV with ⟨s1, l1, v1, v2, v3, v4, v5, v6, v7, v8⟩ | ⟨v1, v2, v3, v4⟩ | ⟨v1, v2⟩
      · obtain rfl : s1 = s0 := by omega
        obtain rfl : l1 = ln := by omega
        exact Or.inl ⟨v1, v2, v4, v5, v7⟩
      · exact Or.inr (Or.inl ⟨v1, v2, v3⟩)
      · exact Or.inr (Or.inr ⟨v1, v2⟩)
    have gX := I_sg_at iS hs0
    have h12 := gX.2.1
    have e3 := congrArg Int32.toInt q1
    have e4 := congrArg Int32.toInt q2
    have e5 := congrArg Int32.toInt hrow
    refine ⟨_, _, _, _, RB_of (by decide) (by decide), RB_of (by decide) (by decide), lx_redo l D Y CC sg VV ff fj (n s0) s0 ln d (d + u) hs0 gX.1 gX.2.1 hsl hln (by omega) e24 e25 (Nat.le_add_right d u) h40 (by omega), lm_redo l D Y m R n s0 ln d u VM fM jM hs0 (by omega) gX.2.1 (by omega) e8 e9 h40 (by omega), ?_⟩
    intro v w v' w' hx_ hm_
    rcases hx_ with ⟨r_x, w_x, dn2_x, rfl, rfl, fx0, fx1, fx2, fx3, fx4⟩ | ⟨r_x, yn_x, dn2_x, rfl, rfl, fx0, fx1, fx2, fx3, fx4⟩ | ⟨r_x, dn2_x, rfl, rfl, fx0, fx1, fx2⟩
    · rcases hm_ with ⟨r_m, z8_m, z9_m, rfl, rfl, fm0, fm1, fm2, fm3, fm4⟩ | ⟨r_m, z8_m, z9_m, rfl, rfl, fm0, fm1, fm2, fm3, fm4⟩ | ⟨r_m, z8_m, z9_m, rfl, rfl, fm0, fm1, fm2, fm3, fm4⟩ | ⟨r_m, yn_m, z8_m, z9_m, rfl, rfl, fm0, fm1, fm2, fm3, fm4, fm5⟩ | ⟨r_m, z8_m, z9_m, rfl, rfl, fm0, fm1, fm2, fm3⟩
      · obtain rfl : w_x = 0 := by omega
        have hb : 0 ≤ ((ff 6) (d)).toInt ∧ ((ff 6) (d)).toInt < 8 := by
          rcases hV with ⟨s1, l1, v1, v2, v3, v4, v5, v6, v7, v8⟩ | ⟨v1, v2, v3, v4⟩ | ⟨v1, v2⟩ <;> omega
        have g3 := PT_1 gX.2.2.1 (j := 3 * ln + 0) (a := ((ff 6) (d)).toInt.toNat) (x := (ff 6) (d)) (by omega) (by omega)
        have g2 := MTR_0 (s := s0) (l := ln) (a := ((ff 6) (d)).toInt.toNat) (x := (fM 13) (d)) iS.2.2.2.2.1 (by omega) (by omega) (by omega)
        have hC : I_chg n dn2_x (VV 25) (ff 3) (ff 4) (ff 5) (ff 6) z8_m z9_m (fM 11) (fM 10) (fM 12) (fM 13) := ⟨(d + 1), u - 1, fx4, (by rw [show (d + 1) + (u - 1) = d + u by omega]; exact e25), fm3, fm4, by omega, by rw [show (d + 1) + (u - 1) = d + u by omega]; exact hCH⟩
        rcases (by omega : s0 = 0 ∨ s0 = 1 ∨ s0 = 2) with rfl | rfl | rfl
        · exact ⟨ANI_of (by omega), CC, _, _, _, _, _, _, _, rfl, rfl, rfl, n, upS T 0 _, B, S, F, I_sg_p0 iS g3 g2, iU, iF, iL, iT, hC, iA, iH, iD, iE, iM, iN⟩
        · exact ⟨ANI_of (by omega), CC, _, _, _, _, _, _, _, rfl, rfl, rfl, n, upS T 1 _, B, S, F, I_sg_p1 iS g3 g2, iU, iF, iL, iT, hC, iA, iH, iD, iE, iM, iN⟩
        · exact ⟨ANI_of (by omega), CC, _, _, _, _, _, _, _, rfl, rfl, rfl, n, upS T 2 _, B, S, F, I_sg_p2 iS g3 g2, iU, iF, iL, iT, hC, iA, iH, iD, iE, iM, iN⟩
      · obtain rfl : w_x = 1 := by omega
        have hb : 0 ≤ ((ff 6) (d)).toInt ∧ ((ff 6) (d)).toInt < 8 := by
          rcases hV with ⟨s1, l1, v1, v2, v3, v4, v5, v6, v7, v8⟩ | ⟨v1, v2, v3, v4⟩ | ⟨v1, v2⟩ <;> omega
        have g3 := PT_1 gX.2.2.1 (j := 3 * ln + 1) (a := ((ff 6) (d)).toInt.toNat) (x := (ff 6) (d)) (by omega) (by omega)
        have g2 := MTR_1 (s := s0) (l := ln) (a := ((ff 6) (d)).toInt.toNat) (x := (fM 13) (d)) iS.2.2.2.2.1 (by omega) (by omega) (by omega)
        have hC : I_chg n dn2_x (VV 25) (ff 3) (ff 4) (ff 5) (ff 6) z8_m z9_m (fM 11) (fM 10) (fM 12) (fM 13) := ⟨(d + 1), u - 1, fx4, (by rw [show (d + 1) + (u - 1) = d + u by omega]; exact e25), fm3, fm4, by omega, by rw [show (d + 1) + (u - 1) = d + u by omega]; exact hCH⟩
        rcases (by omega : s0 = 0 ∨ s0 = 1 ∨ s0 = 2) with rfl | rfl | rfl
        · exact ⟨ANI_of (by omega), CC, _, _, _, _, _, _, _, rfl, rfl, rfl, n, upS T 0 _, B, S, F, I_sg_p0 iS g3 g2, iU, iF, iL, iT, hC, iA, iH, iD, iE, iM, iN⟩
        · exact ⟨ANI_of (by omega), CC, _, _, _, _, _, _, _, rfl, rfl, rfl, n, upS T 1 _, B, S, F, I_sg_p1 iS g3 g2, iU, iF, iL, iT, hC, iA, iH, iD, iE, iM, iN⟩
        · exact ⟨ANI_of (by omega), CC, _, _, _, _, _, _, _, rfl, rfl, rfl, n, upS T 2 _, B, S, F, I_sg_p2 iS g3 g2, iU, iF, iL, iT, hC, iA, iH, iD, iE, iM, iN⟩
      · obtain rfl : w_x = 2 := by omega
        have hb : 0 ≤ ((ff 6) (d)).toInt ∧ ((ff 6) (d)).toInt < 8 := by
          rcases hV with ⟨s1, l1, v1, v2, v3, v4, v5, v6, v7, v8⟩ | ⟨v1, v2, v3, v4⟩ | ⟨v1, v2⟩ <;> omega
        have g3 := PT_1 gX.2.2.1 (j := 3 * ln + 2) (a := ((ff 6) (d)).toInt.toNat) (x := (ff 6) (d)) (by omega) (by omega)
        have g2 := MTR_2 (s := s0) (l := ln) (a := ((ff 6) (d)).toInt.toNat) (x := (fM 13) (d)) iS.2.2.2.2.1 (by omega) (by omega) (by omega)
        have hC : I_chg n dn2_x (VV 25) (ff 3) (ff 4) (ff 5) (ff 6) z8_m z9_m (fM 11) (fM 10) (fM 12) (fM 13) := ⟨(d + 1), u - 1, fx4, (by rw [show (d + 1) + (u - 1) = d + u by omega]; exact e25), fm3, fm4, by omega, by rw [show (d + 1) + (u - 1) = d + u by omega]; exact hCH⟩
        rcases (by omega : s0 = 0 ∨ s0 = 1 ∨ s0 = 2) with rfl | rfl | rfl
        · exact ⟨ANI_of (by omega), CC, _, _, _, _, _, _, _, rfl, rfl, rfl, n, upS T 0 _, B, S, F, I_sg_p0 iS g3 g2, iU, iF, iL, iT, hC, iA, iH, iD, iE, iM, iN⟩
        · exact ⟨ANI_of (by omega), CC, _, _, _, _, _, _, _, rfl, rfl, rfl, n, upS T 1 _, B, S, F, I_sg_p1 iS g3 g2, iU, iF, iL, iT, hC, iA, iH, iD, iE, iM, iN⟩
        · exact ⟨ANI_of (by omega), CC, _, _, _, _, _, _, _, rfl, rfl, rfl, n, upS T 2 _, B, S, F, I_sg_p2 iS g3 g2, iU, iF, iL, iT, hC, iA, iH, iD, iE, iM, iN⟩
      · exfalso; omega
      · exfalso; omega
    · rcases hm_ with ⟨r_m, z8_m, z9_m, rfl, rfl, fm0, fm1, fm2, fm3, fm4⟩ | ⟨r_m, z8_m, z9_m, rfl, rfl, fm0, fm1, fm2, fm3, fm4⟩ | ⟨r_m, z8_m, z9_m, rfl, rfl, fm0, fm1, fm2, fm3, fm4⟩ | ⟨r_m, yn_m, z8_m, z9_m, rfl, rfl, fm0, fm1, fm2, fm3, fm4, fm5⟩ | ⟨r_m, z8_m, z9_m, rfl, rfl, fm0, fm1, fm2, fm3⟩
      · exfalso; omega
      · exfalso; omega
      · exfalso; omega
      · obtain rfl : yn_x = yn_m := by omega
        have hb : 0 ≤ ((ff 6) (d)).toInt ∧ ((ff 6) (d)).toInt < 10 := by
          rcases hV with ⟨s1, l1, v1, v2, v3, v4, v5, v6, v7, v8⟩ | ⟨v1, v2, v3, v4⟩ | ⟨v1, v2⟩ <;> omega
        have gU := SUR_set (p := yn_x) (a := ((ff 6) (d)).toInt.toNat) (x := (ff 6) (d)) iU.1 (by omega) (by omega)
        have gU2 := SUR_set (p := yn_x) (a := ((ff 6) (d)).toInt.toNat) (x := (fM 13) (d)) iU.2 (by omega) (by omega)
        have hC : I_chg n dn2_x (VV 25) (ff 3) (ff 4) (ff 5) (ff 6) z8_m z9_m (fM 11) (fM 10) (fM 12) (fM 13) := ⟨(d + 1), u - 1, fx4, (by rw [show (d + 1) + (u - 1) = d + u by omega]; exact e25), fm4, fm5, by omega, by rw [show (d + 1) + (u - 1) = d + u by omega]; exact hCH⟩
        exact ⟨ANI_of (by omega), CC, _, _, _, _, _, _, _, rfl, rfl, rfl, n, T, B, _, F, iS, ⟨gU, gU2⟩, iF, iL, iT, hC, iA, iH, iD, iE, iM, iN⟩
      · exfalso; omega
    · rcases hm_ with ⟨r_m, z8_m, z9_m, rfl, rfl, fm0, fm1, fm2, fm3, fm4⟩ | ⟨r_m, z8_m, z9_m, rfl, rfl, fm0, fm1, fm2, fm3, fm4⟩ | ⟨r_m, z8_m, z9_m, rfl, rfl, fm0, fm1, fm2, fm3, fm4⟩ | ⟨r_m, yn_m, z8_m, z9_m, rfl, rfl, fm0, fm1, fm2, fm3, fm4, fm5⟩ | ⟨r_m, z8_m, z9_m, rfl, rfl, fm0, fm1, fm2, fm3⟩
      · exfalso; omega
      · exfalso; omega
      · exfalso; omega
      · exfalso; omega
      · have hC : I_chg n dn2_x (VV 25) (ff 3) (ff 4) (ff 5) (ff 6) z8_m z9_m (fM 11) (fM 10) (fM 12) (fM 13) := ⟨(d + 1), u - 1, fx2, (by rw [show (d + 1) + (u - 1) = d + u by omega]; exact e25), fm2, fm3, by omega, by rw [show (d + 1) + (u - 1) = d + u by omega]; exact hCH⟩
        exact ⟨ANI_of (by omega), CC, _, _, _, _, _, _, _, rfl, rfl, rfl, n, T, B, S, F, iS, iU, hrow, iL, iT, hC, iA, iH, iD, iE, iM, iN⟩
  · refine ⟨_, _, _, _, RB_of (by decide) (by decide), RB_of (by decide) (by decide), lx_redo_no l D Y CC sg VV ff fj d (d + u) e24 e25 (Nat.le_add_right d u) h40 (by omega), lm_redo_no l D Y m R d u VM fM jM e8 e9 h40 (by omega), ?_⟩
    intro v w v' w' hx_ hm_
    obtain ⟨rfl, rfl⟩ := hx_
    obtain ⟨rfl, rfl⟩ := hm_
    exact ⟨⟨_, rfl, rfl⟩, NXI_same hI⟩
