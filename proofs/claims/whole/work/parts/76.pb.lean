
/-! ===== both sides, a call of each: sing sung runUp oneBit fewest evenings which from judge lacked ===== -/
set_option maxHeartbeats 4000000 in
set_option maxRecDepth 100000 in
theorem pr_sing (l : Launch) (D : va_G) (Y : Nat → ClassId) {CC sg : Nat → Nat} {VV : Nat → Int32} {ff : Nat → Nat → Int32} {fj : Nat → Nat → Int64} {m : Nat} {R : Nat → Nat} {VM : Nat → Int32} {fM : Nat → Nat → Int32} {jM : Nat → Nat → Int64} (hI : INV CC sg VV ff fj VM fM jM) (a0 : Int32) (a1 : Int32) : PRS ANI l D Y CC m R (WX Y CC sg VV ff fj) (WM Y m R VM fM jM) yX10_sing wsX10_sing yX11_sing wsX11_sing [.int a0, .int a1] := by
  obtain ⟨n, T, B, S, F, iS, iU, iF, iL, iT, iC, iA, iH, iD, iE, iM, iN⟩ := id hI
  obtain ⟨s0, hs0, hsl⟩ := ixL a0 100 (by decide)
  obtain ⟨ln, hln⟩ := ixM a0 100 (by decide)
  have gX := I_sg_at iS hs0
  have h12 := gX.2.1
  refine ⟨_, _, _, _, RB_of (by decide) (by decide), RB_of (by decide) (by decide), lx_sing l D Y CC sg VV ff fj (n s0) S F (T s0) (B s0) s0 a0 ln a1 hs0 iU.1 iL.1 gX.1 gX.2.1 gX.2.2.1 gX.2.2.2.1 hsl hln, lm_sing l D Y m R n T B S F s0 a0 ln a1 VM fM jM iS.2.2.2.1 iS.2.2.2.2.1 iS.2.2.2.2.2 iU.2 iL.2 hs0 hsl hln, ?_⟩
  intro v w v' w' hx_ hm_
  rcases hx_ with ⟨rfl, rfl, fx0⟩ | ⟨r_x, fl2_x, fb2_x, ft2_x, s2_x, r2_x, oc2_x, wh2_x, bb2_x, fk2_x, fn2_x, fg2_x, fi2_x, rfl, rfl, fx0, fx1, fx2⟩
  · rcases hm_ with ⟨rfl, rfl, fm0⟩ | ⟨r_m, z31_m, z32_m, z33_m, z34_m, b25_m, b26_m, b28_m, b29_m, b30_m, rfl, rfl, fm0, fm1⟩
    · exact ⟨⟨_, rfl, rfl⟩, NXI_same hI⟩
    · exfalso; omega
  · rcases hm_ with ⟨rfl, rfl, fm0⟩ | ⟨r_m, z31_m, z32_m, z33_m, z34_m, b25_m, b26_m, b28_m, b29_m, b30_m, rfl, rfl, fm0, fm1⟩
    · exfalso; omega
    · exact ⟨ANI_of (fx1.trans fm1.symm), CC, _, _, _, _, _, _, _, rfl, rfl, rfl, n, T, B, S, F, iS, iU, iF, ⟨fx2, iL.2⟩, iT, iC, iA, iH, iD, iE, iM, iN⟩
set_option maxHeartbeats 4000000 in
set_option maxRecDepth 100000 in
theorem pr_sung (l : Launch) (D : va_G) (Y : Nat → ClassId) {CC sg : Nat → Nat} {VV : Nat → Int32} {ff : Nat → Nat → Int32} {fj : Nat → Nat → Int64} {m : Nat} {R : Nat → Nat} {VM : Nat → Int32} {fM : Nat → Nat → Int32} {jM : Nat → Nat → Int64} (hI : INV CC sg VV ff fj VM fM jM) (a0 : Int32) (a1 : Int32) (a2 : Int32) : PRS ANI l D Y CC m R (WX Y CC sg VV ff fj) (WM Y m R VM fM jM) yX10_sung wsX10_sung yX11_sung wsX11_sung [.int a0, .int a1, .int a2] := by
  obtain ⟨n, T, B, S, F, iS, iU, iF, iL, iT, iC, iA, iH, iD, iE, iM, iN⟩ := id hI
  obtain ⟨s0, hs0, hsl⟩ := ixL a0 100 (by decide)
  obtain ⟨ln, hln⟩ := ixM a0 100 (by decide)
  have gX := I_sg_at iS hs0
  have h12 := gX.2.1
  refine ⟨_, _, _, _, RB_of (by decide) (by decide), RB_of (by decide) (by decide), lx_sung l D Y CC sg VV ff fj (n s0) S F (T s0) (B s0) s0 a0 ln a1 a2 hs0 iU.1 iL.1 gX.1 gX.2.1 gX.2.2.1 gX.2.2.2.1 hsl hln, lm_sung l D Y m R n T B S F s0 a0 ln a1 a2 VM fM jM iS.2.2.2.1 iS.2.2.2.2.1 iS.2.2.2.2.2 iU.2 iL.2 hs0 hsl hln, ?_⟩
  intro v w v' w' hx_ hm_
  rcases hx_ with ⟨rfl, rfl, fx0⟩ | ⟨fl2_x, fb2_x, ft2_x, s2_x, r2_x, oc2_x, wh2_x, bb2_x, fk2_x, fn2_x, fg2_x, fi2_x, rfl, rfl, fx0, fx1, fx2⟩ | ⟨r_x, fl2_x, fb2_x, ft2_x, s2_x, r2_x, oc2_x, wh2_x, bb2_x, fk2_x, fn2_x, fg2_x, fi2_x, kn_x, rfl, rfl, fx0, fx1, fx2, fx3, fx4⟩
  · rcases hm_ with ⟨rfl, rfl, fm0⟩ | ⟨z31_m, z32_m, z33_m, z34_m, b25_m, b26_m, b28_m, b29_m, b30_m, rfl, rfl, fm0, fm1⟩ | ⟨r_m, z31_m, z32_m, z33_m, z34_m, b25_m, b26_m, b28_m, b29_m, b30_m, kn_m, rfl, rfl, fm0, fm1, fm2, fm3⟩
    · exact ⟨⟨_, rfl, rfl⟩, NXI_same hI⟩
    · exfalso; omega
    · exfalso; omega
  · rcases hm_ with ⟨rfl, rfl, fm0⟩ | ⟨z31_m, z32_m, z33_m, z34_m, b25_m, b26_m, b28_m, b29_m, b30_m, rfl, rfl, fm0, fm1⟩ | ⟨r_m, z31_m, z32_m, z33_m, z34_m, b25_m, b26_m, b28_m, b29_m, b30_m, kn_m, rfl, rfl, fm0, fm1, fm2, fm3⟩
    · exfalso; omega
    · exact ⟨⟨_, rfl, rfl⟩, CC, _, _, _, _, _, _, _, rfl, rfl, rfl, n, T, B, S, F, iS, iU, iF, ⟨fx2, iL.2⟩, iT, iC, iA, iH, iD, iE, iM, iN⟩
    · exfalso; omega
  · rcases hm_ with ⟨rfl, rfl, fm0⟩ | ⟨z31_m, z32_m, z33_m, z34_m, b25_m, b26_m, b28_m, b29_m, b30_m, rfl, rfl, fm0, fm1⟩ | ⟨r_m, z31_m, z32_m, z33_m, z34_m, b25_m, b26_m, b28_m, b29_m, b30_m, kn_m, rfl, rfl, fm0, fm1, fm2, fm3⟩
    · exfalso; omega
    · exfalso; omega
    · obtain rfl : kn_x = kn_m := by omega
      exact ⟨ANI_of (fx3.trans fm3.symm), CC, _, _, _, _, _, _, _, rfl, rfl, rfl, n, T, B, S, F, iS, iU, iF, ⟨fx4, iL.2⟩, iT, iC, iA, iH, iD, iE, iM, iN⟩
set_option maxHeartbeats 4000000 in
set_option maxRecDepth 100000 in
theorem pr_runUp (l : Launch) (D : va_G) (Y : Nat → ClassId) {CC sg : Nat → Nat} {VV : Nat → Int32} {ff : Nat → Nat → Int32} {fj : Nat → Nat → Int64} {m : Nat} {R : Nat → Nat} {VM : Nat → Int32} {fM : Nat → Nat → Int32} {jM : Nat → Nat → Int64} (hI : INV CC sg VV ff fj VM fM jM) (a0 : Int32) (a1 : Int32) : PRS ANI l D Y CC m R (WX Y CC sg VV ff fj) (WM Y m R VM fM jM) yX10_runUp wsX10_runUp yX11_runUp wsX11_runUp [.int a0, .int a1] := by
  obtain ⟨n, T, B, S, F, iS, iU, iF, iL, iT, iC, iA, iH, iD, iE, iM, iN⟩ := id hI
  obtain ⟨s0, hs0, hso⟩ := ix3 a0
  have gX := I_sg_at iS hs0
  have h12 := gX.2.1
  refine ⟨_, _, _, _, RB_of (by decide) (by decide), RB_of (by decide) (by decide), lx_runUp l D Y CC sg VV ff fj (n s0) S F (T s0) (B s0) s0 a0 a1 hs0 iU.1 iL.1 gX.1 gX.2.1 gX.2.2.1 gX.2.2.2.1 hso, lm_runUp l D Y m R n T B S F s0 a0 a1 VM fM jM iS.2.2.2.1 iS.2.2.2.2.1 iS.2.2.2.2.2 iU.2 iL.2 hs0 hso, ?_⟩
  intro v w v' w' hx_ hm_
  rcases hx_ with ⟨rfl, rfl, fx0⟩ | ⟨r_x, fl2_x, fb2_x, ft2_x, s2_x, r2_x, oc2_x, wh2_x, so2_x, bb2_x, fk2_x, fn2_x, fg2_x, fi2_x, rfl, rfl, fx0, fx1, fx2, fx3⟩ | ⟨r_x, fl2_x, fb2_x, ft2_x, s2_x, r2_x, oc2_x, wh2_x, so2_x, bb2_x, fk2_x, fn2_x, fg2_x, fi2_x, rfl, rfl, fx0, fx1, fx2, fx3⟩ | ⟨r_x, fl2_x, fb2_x, ft2_x, s2_x, r2_x, oc2_x, wh2_x, so2_x, bb2_x, fk2_x, fn2_x, fg2_x, fi2_x, rfl, rfl, fx0, fx1, fx2, fx3⟩
  · rcases hm_ with ⟨rfl, rfl, fm0⟩ | ⟨r_m, z34_m, b25_m, b26_m, b28_m, rfl, rfl, fm0, fm1, fm2⟩ | ⟨r_m, z34_m, b25_m, b26_m, b28_m, rfl, rfl, fm0, fm1, fm2⟩ | ⟨r_m, z34_m, b25_m, b26_m, b28_m, rfl, rfl, fm0, fm1, fm2⟩
    · exact ⟨⟨_, rfl, rfl⟩, NXI_same hI⟩
    · exfalso; omega
    · exfalso; omega
    · exfalso; omega
  · rcases hm_ with ⟨rfl, rfl, fm0⟩ | ⟨r_m, z34_m, b25_m, b26_m, b28_m, rfl, rfl, fm0, fm1, fm2⟩ | ⟨r_m, z34_m, b25_m, b26_m, b28_m, rfl, rfl, fm0, fm1, fm2⟩ | ⟨r_m, z34_m, b25_m, b26_m, b28_m, rfl, rfl, fm0, fm1, fm2⟩
    · exfalso; omega
    · exact ⟨ANI_of (fx2.trans fm2.symm), CC, _, _, _, _, _, _, _, rfl, rfl, rfl, n, T, B, S, F, iS, iU, iF, ⟨fx3, iL.2⟩, iT, iC, iA, iH, iD, iE, iM, iN⟩
    · exfalso; omega
    · exfalso; omega
  · rcases hm_ with ⟨rfl, rfl, fm0⟩ | ⟨r_m, z34_m, b25_m, b26_m, b28_m, rfl, rfl, fm0, fm1, fm2⟩ | ⟨r_m, z34_m, b25_m, b26_m, b28_m, rfl, rfl, fm0, fm1, fm2⟩ | ⟨r_m, z34_m, b25_m, b26_m, b28_m, rfl, rfl, fm0, fm1, fm2⟩
    · exfalso; omega
    · exfalso; omega
    · exact ⟨ANI_e (BitsOf_u fx2 fm2), CC, _, _, _, _, _, _, _, rfl, rfl, rfl, n, T, B, S, F, iS, iU, iF, ⟨fx3, iL.2⟩, iT, iC, iA, iH, iD, iE, iM, iN⟩
    · exfalso; omega
  · rcases hm_ with ⟨rfl, rfl, fm0⟩ | ⟨r_m, z34_m, b25_m, b26_m, b28_m, rfl, rfl, fm0, fm1, fm2⟩ | ⟨r_m, z34_m, b25_m, b26_m, b28_m, rfl, rfl, fm0, fm1, fm2⟩ | ⟨r_m, z34_m, b25_m, b26_m, b28_m, rfl, rfl, fm0, fm1, fm2⟩
    · exfalso; omega
    · exfalso; omega
    · exfalso; omega
    · exact ⟨ANI_e (BitsOf_u fx2 fm2), CC, _, _, _, _, _, _, _, rfl, rfl, rfl, n, T, B, S, F, iS, iU, iF, ⟨fx3, iL.2⟩, iT, iC, iA, iH, iD, iE, iM, iN⟩
set_option maxHeartbeats 4000000 in
set_option maxRecDepth 100000 in
theorem pr_oneBit (l : Launch) (D : va_G) (Y : Nat → ClassId) {CC sg : Nat → Nat} {VV : Nat → Int32} {ff : Nat → Nat → Int32} {fj : Nat → Nat → Int64} {m : Nat} {R : Nat → Nat} {VM : Nat → Int32} {fM : Nat → Nat → Int32} {jM : Nat → Nat → Int64} (hI : INV CC sg VV ff fj VM fM jM) (a0 : Int32) (a1 : Int32) : PRS ANI l D Y CC m R (WX Y CC sg VV ff fj) (WM Y m R VM fM jM) yX10_oneBit wsX10_oneBit yX11_oneBit wsX11_oneBit [.int a0, .int a1] := by
  obtain ⟨n, T, B, S, F, iS, iU, iF, iL, iT, iC, iA, iH, iD, iE, iM, iN⟩ := id hI
  obtain ⟨s0, hs0, hso⟩ := ix3 a0
  have gX := I_sg_at iS hs0
  have h12 := gX.2.1
  refine ⟨_, _, _, _, RB_of (by decide) (by decide), RB_of (by decide) (by decide), lx_oneBit l D Y CC sg VV ff fj (n s0) S F (T s0) (B s0) s0 a0 a1 hs0 iU.1 iL.1 gX.1 gX.2.1 gX.2.2.1 gX.2.2.2.1 hso, lm_oneBit l D Y m R n T B S F s0 a0 a1 VM fM jM iS.2.2.2.1 iS.2.2.2.2.1 iS.2.2.2.2.2 iU.2 iL.2 hs0 hso, ?_⟩
  intro v w v' w' hx_ hm_
  rcases hx_ with ⟨rfl, rfl, fx0⟩ | ⟨fl2_x, fb2_x, ft2_x, s2_x, r2_x, oc2_x, wh2_x, so2_x, bb2_x, fk2_x, fn2_x, fg2_x, fi2_x, fh2_x, rfl, rfl, fx0, fx1, fx2, fx3⟩ | ⟨r_x, fl2_x, fb2_x, ft2_x, s2_x, r2_x, oc2_x, wh2_x, so2_x, bb2_x, fk2_x, fn2_x, fg2_x, fi2_x, fh2_x, rfl, rfl, fx0, fx1, fx2, fx3, fx4⟩
  · rcases hm_ with ⟨rfl, rfl, fm0⟩ | ⟨z34_m, b25_m, b26_m, b28_m, b5_m, rfl, rfl, fm0, fm1, fm2⟩ | ⟨r_m, z34_m, b25_m, b26_m, b28_m, b5_m, rfl, rfl, fm0, fm1, fm2, fm3⟩
    · exact ⟨⟨_, rfl, rfl⟩, NXI_same hI⟩
    · exfalso; omega
    · exfalso; omega
  · rcases hm_ with ⟨rfl, rfl, fm0⟩ | ⟨z34_m, b25_m, b26_m, b28_m, b5_m, rfl, rfl, fm0, fm1, fm2⟩ | ⟨r_m, z34_m, b25_m, b26_m, b28_m, b5_m, rfl, rfl, fm0, fm1, fm2, fm3⟩
    · exfalso; omega
    · rcases (by omega : s0 = 0 ∨ s0 = 1 ∨ s0 = 2) with rfl | rfl | rfl
      · exact ⟨⟨_, rfl, rfl⟩, CC, _, _, _, _, _, _, _, rfl, rfl, rfl, n, T, B, S, F, I_sg_h0 iS fx2 fm2, iU, iF, ⟨fx3, iL.2⟩, iT, iC, iA, iH, iD, iE, iM, iN⟩
      · exact ⟨⟨_, rfl, rfl⟩, CC, _, _, _, _, _, _, _, rfl, rfl, rfl, n, T, B, S, F, I_sg_h1 iS fx2 fm2, iU, iF, ⟨fx3, iL.2⟩, iT, iC, iA, iH, iD, iE, iM, iN⟩
      · exact ⟨⟨_, rfl, rfl⟩, CC, _, _, _, _, _, _, _, rfl, rfl, rfl, n, T, B, S, F, I_sg_h2 iS fx2 fm2, iU, iF, ⟨fx3, iL.2⟩, iT, iC, iA, iH, iD, iE, iM, iN⟩
    · exfalso; omega
  · rcases hm_ with ⟨rfl, rfl, fm0⟩ | ⟨z34_m, b25_m, b26_m, b28_m, b5_m, rfl, rfl, fm0, fm1, fm2⟩ | ⟨r_m, z34_m, b25_m, b26_m, b28_m, b5_m, rfl, rfl, fm0, fm1, fm2, fm3⟩
    · exfalso; omega
    · exfalso; omega
    · rcases (by omega : s0 = 0 ∨ s0 = 1 ∨ s0 = 2) with rfl | rfl | rfl
      · exact ⟨ANI_of (fx2.trans fm2.symm), CC, _, _, _, _, _, _, _, rfl, rfl, rfl, n, T, B, S, F, I_sg_h0 iS fx3 fm3, iU, iF, ⟨fx4, iL.2⟩, iT, iC, iA, iH, iD, iE, iM, iN⟩
      · exact ⟨ANI_of (fx2.trans fm2.symm), CC, _, _, _, _, _, _, _, rfl, rfl, rfl, n, T, B, S, F, I_sg_h1 iS fx3 fm3, iU, iF, ⟨fx4, iL.2⟩, iT, iC, iA, iH, iD, iE, iM, iN⟩
      · exact ⟨ANI_of (fx2.trans fm2.symm), CC, _, _, _, _, _, _, _, rfl, rfl, rfl, n, T, B, S, F, I_sg_h2 iS fx3 fm3, iU, iF, ⟨fx4, iL.2⟩, iT, iC, iA, iH, iD, iE, iM, iN⟩
set_option maxHeartbeats 4000000 in
set_option maxRecDepth 100000 in
theorem pr_fewest (l : Launch) (D : va_G) (Y : Nat → ClassId) {CC sg : Nat → Nat} {VV : Nat → Int32} {ff : Nat → Nat → Int32} {fj : Nat → Nat → Int64} {m : Nat} {R : Nat → Nat} {VM : Nat → Int32} {fM : Nat → Nat → Int32} {jM : Nat → Nat → Int64} (hI : INV CC sg VV ff fj VM fM jM) (a0 : Int32) : PRS ANI l D Y CC m R (WX Y CC sg VV ff fj) (WM Y m R VM fM jM) yX10_fewest wsX10_fewest yX11_fewest wsX11_fewest [.int a0] := by
  obtain ⟨n, T, B, S, F, iS, iU, iF, iL, iT, iC, iA, iH, iD, iE, iM, iN⟩ := id hI
  obtain ⟨s0, hs0, hso⟩ := ix3 a0
  have gX := I_sg_at iS hs0
  have h12 := gX.2.1
  have hz := canS_z gX.2.2.2.2
  have f2 := fb_2 (F := F) (S := S) (T := T s0) gX.2.1 hz
  refine ⟨_, _, _, _, RB_of (by decide) (by decide), RB_of (by decide) (by decide), lx_fewest l D Y CC sg VV ff fj (n s0) S F (T s0) (B s0) s0 a0 hs0 iU.1 iL.1 gX.1 gX.2.1 gX.2.2.1 gX.2.2.2.1 hso, lm_fewest l D Y m R n T B S F s0 a0 VM fM jM iS.2.2.2.1 iS.2.2.2.2.1 iS.2.2.2.2.2 iU.2 iL.2 hs0 hso hz, ?_⟩
  intro v w v' w' hx_ hm_
  rcases hx_ with ⟨rfl, rfl, fx0⟩ | ⟨r_x, fl2_x, fb2_x, ft2_x, s2_x, r2_x, oc2_x, wh2_x, so2_x, bb2_x, fk2_x, fn2_x, fg2_x, fi2_x, fh2_x, rfl, rfl, fx0, fx1, fx2, fx3⟩
  · rcases hm_ with ⟨rfl, rfl, fm0⟩ | ⟨z34_m, b25_m, b26_m, b28_m, b5_m, rfl, rfl, fm0, fm1, fm2⟩ | ⟨z34_m, b25_m, b26_m, b28_m, b5_m, rfl, rfl, fm0, fm1, fm2, fm3⟩ | ⟨z34_m, b25_m, b26_m, b28_m, b5_m, rfl, rfl, fm0, fm1, fm2, fm3, fm4⟩ | ⟨z34_m, b25_m, b26_m, b28_m, b5_m, rfl, rfl, fm0, fm1, fm2, fm3, fm4⟩
    · exact ⟨⟨_, rfl, rfl⟩, NXI_same hI⟩
    · exfalso; omega
    · exfalso; omega
    · exfalso; omega
    · exfalso; omega
  · rcases hm_ with ⟨rfl, rfl, fm0⟩ | ⟨z34_m, b25_m, b26_m, b28_m, b5_m, rfl, rfl, fm0, fm1, fm2⟩ | ⟨z34_m, b25_m, b26_m, b28_m, b5_m, rfl, rfl, fm0, fm1, fm2, fm3⟩ | ⟨z34_m, b25_m, b26_m, b28_m, b5_m, rfl, rfl, fm0, fm1, fm2, fm3, fm4⟩ | ⟨z34_m, b25_m, b26_m, b28_m, b5_m, rfl, rfl, fm0, fm1, fm2, fm3, fm4⟩
    · exfalso; omega
    · have hr : r_x.toInt = 0 := fx1.trans (f2.1 fm1)
      rcases (by omega : s0 = 0 ∨ s0 = 1 ∨ s0 = 2) with rfl | rfl | rfl
      · exact ⟨ANI_of (hr.trans (show (0 : Int) = (0 : Int32).toInt from by decide)), CC, _, _, _, _, _, _, _, rfl, rfl, rfl, n, T, B, S, F, I_sg_h0 iS fx2 fm2, iU, iF, ⟨fx3, iL.2⟩, iT, iC, iA, iH, iD, iE, iM, iN⟩
      · exact ⟨ANI_of (hr.trans (show (0 : Int) = (0 : Int32).toInt from by decide)), CC, _, _, _, _, _, _, _, rfl, rfl, rfl, n, T, B, S, F, I_sg_h1 iS fx2 fm2, iU, iF, ⟨fx3, iL.2⟩, iT, iC, iA, iH, iD, iE, iM, iN⟩
      · exact ⟨ANI_of (hr.trans (show (0 : Int) = (0 : Int32).toInt from by decide)), CC, _, _, _, _, _, _, _, rfl, rfl, rfl, n, T, B, S, F, I_sg_h2 iS fx2 fm2, iU, iF, ⟨fx3, iL.2⟩, iT, iC, iA, iH, iD, iE, iM, iN⟩
    · have hr : r_x.toInt = 1 := fx1.trans (f2.2.1 fm1 (WB_1.mp fm2))
      rcases (by omega : s0 = 0 ∨ s0 = 1 ∨ s0 = 2) with rfl | rfl | rfl
      · exact ⟨ANI_of (hr.trans (show (1 : Int) = (1 : Int32).toInt from by decide)), CC, _, _, _, _, _, _, _, rfl, rfl, rfl, n, T, B, S, F, I_sg_h0 iS fx2 fm3, iU, iF, ⟨fx3, iL.2⟩, iT, iC, iA, iH, iD, iE, iM, iN⟩
      · exact ⟨ANI_of (hr.trans (show (1 : Int) = (1 : Int32).toInt from by decide)), CC, _, _, _, _, _, _, _, rfl, rfl, rfl, n, T, B, S, F, I_sg_h1 iS fx2 fm3, iU, iF, ⟨fx3, iL.2⟩, iT, iC, iA, iH, iD, iE, iM, iN⟩
      · exact ⟨ANI_of (hr.trans (show (1 : Int) = (1 : Int32).toInt from by decide)), CC, _, _, _, _, _, _, _, rfl, rfl, rfl, n, T, B, S, F, I_sg_h2 iS fx2 fm3, iU, iF, ⟨fx3, iL.2⟩, iT, iC, iA, iH, iD, iE, iM, iN⟩
    · have hr : r_x.toInt = 2 := fx1.trans (f2.2.2.1 fm1 (fun q => fm2 (WB_1.mpr q)) (WB_2.mp fm3))
      rcases (by omega : s0 = 0 ∨ s0 = 1 ∨ s0 = 2) with rfl | rfl | rfl
      · exact ⟨ANI_of (hr.trans (show (2 : Int) = (2 : Int32).toInt from by decide)), CC, _, _, _, _, _, _, _, rfl, rfl, rfl, n, T, B, S, F, I_sg_h0 iS fx2 fm4, iU, iF, ⟨fx3, iL.2⟩, iT, iC, iA, iH, iD, iE, iM, iN⟩
      · exact ⟨ANI_of (hr.trans (show (2 : Int) = (2 : Int32).toInt from by decide)), CC, _, _, _, _, _, _, _, rfl, rfl, rfl, n, T, B, S, F, I_sg_h1 iS fx2 fm4, iU, iF, ⟨fx3, iL.2⟩, iT, iC, iA, iH, iD, iE, iM, iN⟩
      · exact ⟨ANI_of (hr.trans (show (2 : Int) = (2 : Int32).toInt from by decide)), CC, _, _, _, _, _, _, _, rfl, rfl, rfl, n, T, B, S, F, I_sg_h2 iS fx2 fm4, iU, iF, ⟨fx3, iL.2⟩, iT, iC, iA, iH, iD, iE, iM, iN⟩
    · have hr : r_x.toInt = -2 := fx1.trans (f2.2.2.2 fm1 (fun q => fm2 (WB_1.mpr q)) (fun q => fm3 (WB_2.mpr q)))
      rcases (by omega : s0 = 0 ∨ s0 = 1 ∨ s0 = 2) with rfl | rfl | rfl
      · exact ⟨ANI_of (hr.trans (show (-2 : Int) = (-2 : Int32).toInt from by decide)), CC, _, _, _, _, _, _, _, rfl, rfl, rfl, n, T, B, S, F, I_sg_h0 iS fx2 fm4, iU, iF, ⟨fx3, iL.2⟩, iT, iC, iA, iH, iD, iE, iM, iN⟩
      · exact ⟨ANI_of (hr.trans (show (-2 : Int) = (-2 : Int32).toInt from by decide)), CC, _, _, _, _, _, _, _, rfl, rfl, rfl, n, T, B, S, F, I_sg_h1 iS fx2 fm4, iU, iF, ⟨fx3, iL.2⟩, iT, iC, iA, iH, iD, iE, iM, iN⟩
      · exact ⟨ANI_of (hr.trans (show (-2 : Int) = (-2 : Int32).toInt from by decide)), CC, _, _, _, _, _, _, _, rfl, rfl, rfl, n, T, B, S, F, I_sg_h2 iS fx2 fm4, iU, iF, ⟨fx3, iL.2⟩, iT, iC, iA, iH, iD, iE, iM, iN⟩
set_option maxHeartbeats 4000000 in
set_option maxRecDepth 100000 in
theorem pr_evenings (l : Launch) (D : va_G) (Y : Nat → ClassId) {CC sg : Nat → Nat} {VV : Nat → Int32} {ff : Nat → Nat → Int32} {fj : Nat → Nat → Int64} {m : Nat} {R : Nat → Nat} {VM : Nat → Int32} {fM : Nat → Nat → Int32} {jM : Nat → Nat → Int64} (hI : INV CC sg VV ff fj VM fM jM) (a0 : Int32) (a1 : Int32) : PRS ANI l D Y CC m R (WX Y CC sg VV ff fj) (WM Y m R VM fM jM) yX10_evenings wsX10_evenings yX11_evenings wsX11_evenings [.int a0, .int a1] := by
  obtain ⟨n, T, B, S, F, iS, iU, iF, iL, iT, iC, iA, iH, iD, iE, iM, iN⟩ := id hI
  obtain ⟨s0, hs0, hso⟩ := ix3 a0
  have gX := I_sg_at iS hs0
  have h12 := gX.2.1
  refine ⟨_, _, _, _, RB_of (by decide) (by decide), RB_of (by decide) (by decide), lx_evenings l D Y CC sg VV ff fj (n s0) s0 a0 a1 (B s0) hs0 gX.1 gX.2.1 hso gX.2.2.2.1, lm_evenings l D Y m R n B s0 a0 a1 VM fM jM iS.2.2.2.1 iS.2.2.2.2.2 hs0 hso, ?_⟩
  intro v w v' w' hx_ hm_
  rcases hx_ with ⟨rfl, rfl, fx0⟩ | ⟨r_x, pn_x, rfl, rfl, fx0, fx1, fx2, fx3⟩
  · rcases hm_ with ⟨rfl, rfl, fm0⟩ | ⟨r_m, pn_m, rfl, rfl, fm0, fm1, fm2, fm3⟩
    · exact ⟨⟨_, rfl, rfl⟩, NXI_same hI⟩
    · exfalso; omega
  · rcases hm_ with ⟨rfl, rfl, fm0⟩ | ⟨r_m, pn_m, rfl, rfl, fm0, fm1, fm2, fm3⟩
    · exfalso; omega
    · obtain rfl : pn_x = pn_m := by omega
      obtain rfl : r_x = r_m := i32e fx3 fm3
      exact ⟨⟨_, rfl, rfl⟩, NXI_same hI⟩
set_option maxHeartbeats 4000000 in
set_option maxRecDepth 100000 in
theorem pr_which (l : Launch) (D : va_G) (Y : Nat → ClassId) {CC sg : Nat → Nat} {VV : Nat → Int32} {ff : Nat → Nat → Int32} {fj : Nat → Nat → Int64} {m : Nat} {R : Nat → Nat} {VM : Nat → Int32} {fM : Nat → Nat → Int32} {jM : Nat → Nat → Int64} (hI : INV CC sg VV ff fj VM fM jM) (a0 : Int32) : PRS ANI l D Y CC m R (WX Y CC sg VV ff fj) (WM Y m R VM fM jM) yX10_which wsX10_which yX11_which wsX11_which [.int a0] := by
  obtain ⟨n, T, B, S, F, iS, iU, iF, iL, iT, iC, iA, iH, iD, iE, iM, iN⟩ := id hI
  obtain ⟨h0, hh0, hho⟩ := ix6 a0
  obtain ⟨⟨m_, hm, tle, hsz⟩, hq, hc⟩ := I_sh_at iH hh0
  have hqi := hq_i hq
  have hv : ∀ q, q < m_ → (fun q => (((fj (34 + 2 * h0)) q).toInt32).toInt) q = vSh (jM 48) h0 q := fun q hq => by show (((fj (34 + 2 * h0)) q).toInt32).toInt = _; rw [hc q (by omega)]; rfl
  refine ⟨_, _, _, _, RB_of (by decide) (by decide), RB_of (by decide) (by decide), lx_which l D Y CC sg VV ff fj m_ h0 (n 0) (n 1) (T 1) (n 2) (T 2) a0 (T 0) hh0 iS.1.1 iS.1.2.1 iS.1.2.2.1 iS.2.1.1 iS.2.1.2.1 iS.2.1.2.2.1 iS.2.2.1.1 iS.2.2.1.2.1 iS.2.2.1.2.2.1 tle hm hho, lm_which l D Y m R n T h0 m_ a0 VM fM jM iS.2.2.2.1 iS.2.2.2.2.1 hho hh0 hsz hm, ?_⟩
  intro v w v' w' hx_ hm_
  rcases hx_ with ⟨rfl, rfl, fx0⟩ | ⟨rfl, rfl, fx0, fx1⟩ | ⟨rfl, rfl, fx0, fx1⟩ | ⟨r_x, qa_x, qb_x, qc_x, rfl, rfl, fx0, fx1, fx2, fx3, fx4, fx5⟩
  · rcases hm_ with ⟨rfl, rfl, fm0⟩ | ⟨rfl, rfl, fm0, fm1⟩ | ⟨rfl, rfl, fm0, fm1⟩ | ⟨r_m, qa_m, qb_m, qc_m, rfl, rfl, fm0, fm1, fm2, fm3, fm4, fm5⟩
    · exact ⟨⟨_, rfl, rfl⟩, NXI_same hI⟩
    · exfalso; omega
    · exfalso; omega
    · exfalso; omega
  · rcases hm_ with ⟨rfl, rfl, fm0⟩ | ⟨rfl, rfl, fm0, fm1⟩ | ⟨rfl, rfl, fm0, fm1⟩ | ⟨r_m, qa_m, qb_m, qc_m, rfl, rfl, fm0, fm1, fm2, fm3, fm4, fm5⟩
    · exfalso; omega
    · exact ⟨⟨_, rfl, rfl⟩, NXI_same hI⟩
    · exfalso; omega
    · exfalso; omega
  · rcases hm_ with ⟨rfl, rfl, fm0⟩ | ⟨rfl, rfl, fm0, fm1⟩ | ⟨rfl, rfl, fm0, fm1⟩ | ⟨r_m, qa_m, qb_m, qc_m, rfl, rfl, fm0, fm1, fm2, fm3, fm4, fm5⟩
    · exfalso; omega
    · exfalso; omega
    · exact ⟨⟨_, rfl, rfl⟩, NXI_same hI⟩
    · exfalso; omega
  · rcases hm_ with ⟨rfl, rfl, fm0⟩ | ⟨rfl, rfl, fm0, fm1⟩ | ⟨rfl, rfl, fm0, fm1⟩ | ⟨r_m, qa_m, qb_m, qc_m, rfl, rfl, fm0, fm1, fm2, fm3, fm4, fm5⟩
    · exfalso; omega
    · exfalso; omega
    · exfalso; omega
    · obtain rfl : qa_x = qa_m := PLc_u (PLc_c hv fx2) fm2
      obtain rfl : qb_x = qb_m := PLc_u (PLc_c hv fx3) fm3
      obtain rfl : qc_x = qc_m := PLc_u (PLc_c hv fx4) fm4
      exact ⟨ANI_of (fx5.trans fm5.symm), NXI_same hI⟩
set_option maxHeartbeats 4000000 in
set_option maxRecDepth 100000 in
theorem pr_from (l : Launch) (D : va_G) (Y : Nat → ClassId) {CC sg : Nat → Nat} {VV : Nat → Int32} {ff : Nat → Nat → Int32} {fj : Nat → Nat → Int64} {m : Nat} {R : Nat → Nat} {VM : Nat → Int32} {fM : Nat → Nat → Int32} {jM : Nat → Nat → Int64} (hI : INV CC sg VV ff fj VM fM jM) (a0 : Int32) (a1 : Int32) : PRS ANI l D Y CC m R (WX Y CC sg VV ff fj) (WM Y m R VM fM jM) yX10_from wsX10_from yX11_from wsX11_from [.int a0, .int a1] := by
  obtain ⟨n, T, B, S, F, iS, iU, iF, iL, iT, iC, iA, iH, iD, iE, iM, iN⟩ := id hI
  obtain ⟨s0, hs0, hso⟩ := ix3 a1
  have gX := I_sg_at iS hs0
  have h12 := gX.2.1
  obtain ⟨h0, hh0, hho⟩ := ix6 a0
  obtain ⟨⟨m_, hm, tle, hsz⟩, hq, hc⟩ := I_sh_at iH hh0
  have hqi := hq_i hq
  have hv : ∀ q, q < m_ → (fun q => (((fj (34 + 2 * h0)) q).toInt32).toInt) q = vSh (jM 48) h0 q := fun q hq => by show (((fj (34 + 2 * h0)) q).toInt32).toInt = _; rw [hc q (by omega)]; rfl
  refine ⟨_, _, _, _, RB_of (by decide) (by decide), RB_of (by decide) (by decide), lx_from l D Y CC sg VV ff fj m_ h0 (n s0) s0 a0 a1 (T s0) hh0 hs0 gX.1 gX.2.1 tle hm gX.2.2.1 hho hso, lm_from l D Y m R n T s0 h0 m_ a0 a1 VM fM jM iS.2.2.2.1 iS.2.2.2.2.1 hs0 hso hho hh0 hsz hm, ?_⟩
  intro v w v' w' hx_ hm_
  rcases hx_ with ⟨rfl, rfl, fx0⟩ | ⟨rfl, rfl, fx0, fx1, fx2⟩ | ⟨rfl, rfl, fx0, fx1, fx2⟩ | ⟨r_x, rfl, rfl, fx0, fx1, fx2, fx3⟩
  · rcases hm_ with ⟨rfl, rfl, fm0⟩ | ⟨rfl, rfl, fm0, fm1, fm2⟩ | ⟨rfl, rfl, fm0, fm1, fm2⟩ | ⟨r_m, rfl, rfl, fm0, fm1, fm2, fm3⟩
    · exact ⟨⟨_, rfl, rfl⟩, NXI_same hI⟩
    · exfalso; omega
    · exfalso; omega
    · exfalso; omega
  · rcases hm_ with ⟨rfl, rfl, fm0⟩ | ⟨rfl, rfl, fm0, fm1, fm2⟩ | ⟨rfl, rfl, fm0, fm1, fm2⟩ | ⟨r_m, rfl, rfl, fm0, fm1, fm2, fm3⟩
    · exfalso; omega
    · exact ⟨⟨_, rfl, rfl⟩, NXI_same hI⟩
    · exfalso; omega
    · exfalso; omega
  · rcases hm_ with ⟨rfl, rfl, fm0⟩ | ⟨rfl, rfl, fm0, fm1, fm2⟩ | ⟨rfl, rfl, fm0, fm1, fm2⟩ | ⟨r_m, rfl, rfl, fm0, fm1, fm2, fm3⟩
    · exfalso; omega
    · exfalso; omega
    · exact ⟨⟨_, rfl, rfl⟩, NXI_same hI⟩
    · exfalso; omega
  · rcases hm_ with ⟨rfl, rfl, fm0⟩ | ⟨rfl, rfl, fm0, fm1, fm2⟩ | ⟨rfl, rfl, fm0, fm1, fm2⟩ | ⟨r_m, rfl, rfl, fm0, fm1, fm2, fm3⟩
    · exfalso; omega
    · exfalso; omega
    · exfalso; omega
    · exact ⟨ANI_of (PLc_u (PLc_c hv fx3) fm3), NXI_same hI⟩
set_option maxHeartbeats 4000000 in
set_option maxRecDepth 100000 in
theorem pr_judge (l : Launch) (D : va_G) (Y : Nat → ClassId) {CC sg : Nat → Nat} {VV : Nat → Int32} {ff : Nat → Nat → Int32} {fj : Nat → Nat → Int64} {m : Nat} {R : Nat → Nat} {VM : Nat → Int32} {fM : Nat → Nat → Int32} {jM : Nat → Nat → Int64} (hI : INV CC sg VV ff fj VM fM jM) (a0 : Int32) (a1 : Int32) : PRS ANI l D Y CC m R (WX Y CC sg VV ff fj) (WM Y m R VM fM jM) yX10_judge wsX10_judge yX11_judge wsX11_judge [.int a0, .int a1] := by
  obtain ⟨n, T, B, S, F, iS, iU, iF, iL, iT, iC, iA, iH, iD, iE, iM, iN⟩ := id hI
  obtain ⟨s0, hs0, hso⟩ := ix3 a1
  have gX := I_sg_at iS hs0
  have h12 := gX.2.1
  obtain ⟨h0, hh0, hho⟩ := ix6 a0
  obtain ⟨⟨m_, hm, tle, hsz⟩, hq, hc⟩ := I_sh_at iH hh0
  have hqi := hq_i hq
  have hv : ∀ q, q < m_ → (fun q => (((fj (34 + 2 * h0)) q).toInt32).toInt) q = vSh (jM 48) h0 q := fun q hq => by show (((fj (34 + 2 * h0)) q).toInt32).toInt = _; rw [hc q (by omega)]; rfl
  refine ⟨_, _, _, _, RB_of (by decide) (by decide), RB_of (by decide) (by decide), lx_judge l D Y CC sg VV ff fj (n s0) S F (T s0) (B s0) m_ h0 s0 a0 a1 hh0 hs0 iU.1 iL.1 gX.1 gX.2.1 gX.2.2.1 gX.2.2.2.1 tle hm hho hso, lm_judge l D Y m R n T B S F s0 h0 m_ a0 a1 VM fM jM iS.2.2.2.1 iS.2.2.2.2.1 iS.2.2.2.2.2 iU.2 iL.2 hs0 hso hho hh0 hsz hm, ?_⟩
  intro v w v' w' hx_ hm_
  rcases hx_ with ⟨rfl, rfl, fx0⟩ | ⟨rfl, rfl, fx0, fx1, fx2⟩ | ⟨rfl, rfl, fx0, fx1, fx2⟩ | ⟨r_x, fl2_x, fb2_x, ft2_x, s2_x, r2_x, oc2_x, wh2_x, bb2_x, fk2_x, fn2_x, fg2_x, fi2_x, so2_x, rfl, rfl, fx0, fx1, fx2, fx3, fx4⟩
  · rcases hm_ with ⟨rfl, rfl, fm0⟩ | ⟨rfl, rfl, fm0, fm1, fm2⟩ | ⟨rfl, rfl, fm0, fm1, fm2⟩ | ⟨r_m, z31_m, z32_m, z33_m, z34_m, b25_m, b26_m, b28_m, b29_m, b30_m, rfl, rfl, fm0, fm1, fm2, fm3⟩
    · exact ⟨⟨_, rfl, rfl⟩, NXI_same hI⟩
    · exfalso; omega
    · exfalso; omega
    · exfalso; omega
  · rcases hm_ with ⟨rfl, rfl, fm0⟩ | ⟨rfl, rfl, fm0, fm1, fm2⟩ | ⟨rfl, rfl, fm0, fm1, fm2⟩ | ⟨r_m, z31_m, z32_m, z33_m, z34_m, b25_m, b26_m, b28_m, b29_m, b30_m, rfl, rfl, fm0, fm1, fm2, fm3⟩
    · exfalso; omega
    · exact ⟨⟨_, rfl, rfl⟩, NXI_same hI⟩
    · exfalso; omega
    · exfalso; omega
  · rcases hm_ with ⟨rfl, rfl, fm0⟩ | ⟨rfl, rfl, fm0, fm1, fm2⟩ | ⟨rfl, rfl, fm0, fm1, fm2⟩ | ⟨r_m, z31_m, z32_m, z33_m, z34_m, b25_m, b26_m, b28_m, b29_m, b30_m, rfl, rfl, fm0, fm1, fm2, fm3⟩
    · exfalso; omega
    · exfalso; omega
    · exact ⟨⟨_, rfl, rfl⟩, NXI_same hI⟩
    · exfalso; omega
  · rcases hm_ with ⟨rfl, rfl, fm0⟩ | ⟨rfl, rfl, fm0, fm1, fm2⟩ | ⟨rfl, rfl, fm0, fm1, fm2⟩ | ⟨r_m, z31_m, z32_m, z33_m, z34_m, b25_m, b26_m, b28_m, b29_m, b30_m, rfl, rfl, fm0, fm1, fm2, fm3⟩
    · exfalso; omega
    · exfalso; omega
    · exfalso; omega
    · exact ⟨ANI_of (FNc_u (FNc_c hv fx3) fm3), CC, _, _, _, _, _, _, _, rfl, rfl, rfl, n, T, B, S, F, iS, iU, iF, ⟨fx4, iL.2⟩, iT, iC, iA, iH, iD, iE, iM, iN⟩
set_option maxHeartbeats 4000000 in
set_option maxRecDepth 100000 in
theorem pr_lacked (l : Launch) (D : va_G) (Y : Nat → ClassId) {CC sg : Nat → Nat} {VV : Nat → Int32} {ff : Nat → Nat → Int32} {fj : Nat → Nat → Int64} {m : Nat} {R : Nat → Nat} {VM : Nat → Int32} {fM : Nat → Nat → Int32} {jM : Nat → Nat → Int64} (hI : INV CC sg VV ff fj VM fM jM) (a0 : Int32) (a1 : Int32) : PRS ANJ l D Y CC m R (WX Y CC sg VV ff fj) (WM Y m R VM fM jM) yX10_lacked wsX10_lacked yX11_lacked wsX11_lacked [.int a0, .int a1] := by
  obtain ⟨n, T, B, S, F, iS, iU, iF, iL, iT, iC, iA, iH, iD, iE, iM, iN⟩ := id hI
  obtain ⟨s0, hs0, hso⟩ := ix3 a1
  have gX := I_sg_at iS hs0
  have h12 := gX.2.1
  obtain ⟨h0, hh0, hho⟩ := ix6 a0
  obtain ⟨⟨m_, hm, tle, hsz⟩, hq, hc⟩ := I_sh_at iH hh0
  have hqi := hq_i hq
  have hv : ∀ q, q < m_ → (fun q => (((fj (34 + 2 * h0)) q).toInt32).toInt) q = vSh (jM 48) h0 q := fun q hq => by show (((fj (34 + 2 * h0)) q).toInt32).toInt = _; rw [hc q (by omega)]; rfl
  refine ⟨_, _, _, _, RB_of (by decide) (by decide), RB_of (by decide) (by decide), lx_lacked l D Y CC sg VV ff fj (n s0) S F (T s0) (B s0) m_ h0 s0 a0 a1 hh0 hs0 iU.1 iL.1 gX.1 gX.2.1 gX.2.2.1 gX.2.2.2.1 tle hm hho hso, lm_lacked l D Y m R n T B S F s0 h0 m_ a0 a1 VM fM jM iS.2.2.2.1 iS.2.2.2.2.1 iS.2.2.2.2.2 iU.2 iL.2 hs0 hso hho hh0 hsz hm, ?_⟩
  intro v w v' w' hx_ hm_
  rcases hx_ with ⟨rfl, rfl, fx0⟩ | ⟨r_x, fl2_x, fb2_x, ft2_x, s2_x, r2_x, oc2_x, wh2_x, bb2_x, fk2_x, fn2_x, fg2_x, fi2_x, so2_x, fh2_x, rfl, rfl, fx0, fx1, fx2, fx3, fx4, fx5⟩
  · rcases hm_ with ⟨rfl, rfl, fm0⟩ | ⟨r_m, z31_m, z32_m, z33_m, z34_m, b25_m, b26_m, b28_m, b29_m, b30_m, b5_m, rfl, rfl, fm0, fm1, fm2, fm3, fm4⟩
    · exact ⟨⟨_, rfl, rfl⟩, NXI_same hI⟩
    · exfalso; omega
  · rcases hm_ with ⟨rfl, rfl, fm0⟩ | ⟨r_m, z31_m, z32_m, z33_m, z34_m, b25_m, b26_m, b28_m, b29_m, b30_m, b5_m, rfl, rfl, fm0, fm1, fm2, fm3, fm4⟩
    · exfalso; omega
    · rcases (by omega : s0 = 0 ∨ s0 = 1 ∨ s0 = 2) with rfl | rfl | rfl
      · exact ⟨ANJ_e (LKs_u (LKs_c hv fx3) fm3), CC, _, _, _, _, _, _, _, rfl, rfl, rfl, n, T, B, S, F, I_sg_h0 iS fx4 fm4, iU, iF, ⟨fx5, iL.2⟩, iT, iC, iA, iH, iD, iE, iM, iN⟩
      · exact ⟨ANJ_e (LKs_u (LKs_c hv fx3) fm3), CC, _, _, _, _, _, _, _, rfl, rfl, rfl, n, T, B, S, F, I_sg_h1 iS fx4 fm4, iU, iF, ⟨fx5, iL.2⟩, iT, iC, iA, iH, iD, iE, iM, iN⟩
      · exact ⟨ANJ_e (LKs_u (LKs_c hv fx3) fm3), CC, _, _, _, _, _, _, _, rfl, rfl, rfl, n, T, B, S, F, I_sg_h2 iS fx4 fm4, iU, iF, ⟨fx5, iL.2⟩, iT, iC, iA, iH, iD, iE, iM, iN⟩
