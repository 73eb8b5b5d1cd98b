
/-! ===== both sides, a call of each: line lines has mend of feed law ===== -/
set_option maxHeartbeats 4000000 in
set_option maxRecDepth 100000 in
theorem pr_line (l : Launch) (D : va_G) (Y : Nat → ClassId) {CC sg : Nat → Nat} {VV : Nat → Int32} {ff : Nat → Nat → Int32} {fj : Nat → Nat → Int64} {m : Nat} {R : Nat → Nat} {VM : Nat → Int32} {fM : Nat → Nat → Int32} {jM : Nat → Nat → Int64} (hI : INV CC sg VV ff fj VM fM jM) (a0 : Int32) (a1 : Int32) : PRS ANI l D Y CC m R (WX Y CC sg VV ff fj) (WM Y m R VM fM jM) yX10_line wsX10_line yX11_line wsX11_line [.int a0, .int a1] := by
  obtain ⟨n, T, B, S, F, iS, iU, iF, iL, iT, iC, iA, iH, iD, iE, iM, iN⟩ := id hI
  obtain ⟨s0, hs0, hso⟩ := ix3 a0
  have gX := I_sg_at iS hs0
  have h12 := gX.2.1
  refine ⟨_, _, _, _, RB_of (by decide) (by decide), RB_of (by decide) (by decide), lx_line l D Y CC sg VV ff fj (n s0) s0 a0 a1 hs0 gX.1 gX.2.1 hso, lm_line l D Y m R n s0 a0 a1 VM fM jM iS.2.2.2.1 hs0 hso, ?_⟩
  intro v w v' w' hx_ hm_
  rcases hx_ with ⟨rfl, rfl, fx0⟩ | ⟨rfl, rfl, fx0, fx1⟩ | ⟨r_x, z2_x, t1_x, t2_x, t3_x, rfl, rfl, fx0, fx1, fx2, fx3, fx4, fx5, fx6⟩
  · rcases hm_ with ⟨rfl, rfl, fm0⟩ | ⟨rfl, rfl, fm0, fm1⟩ | ⟨r_m, z2_m, t1_m, t2_m, t3_m, rfl, rfl, fm0, fm1, fm2, fm3, fm4, fm5, fm6⟩
    · exact ⟨⟨_, rfl, rfl⟩, NXI_same hI⟩
    · exfalso; omega
    · exfalso; omega
  · rcases hm_ with ⟨rfl, rfl, fm0⟩ | ⟨rfl, rfl, fm0, fm1⟩ | ⟨r_m, z2_m, t1_m, t2_m, t3_m, rfl, rfl, fm0, fm1, fm2, fm3, fm4, fm5, fm6⟩
    · exfalso; omega
    · exact ⟨⟨_, rfl, rfl⟩, NXI_same hI⟩
    · exfalso; omega
  · rcases hm_ with ⟨rfl, rfl, fm0⟩ | ⟨rfl, rfl, fm0, fm1⟩ | ⟨r_m, z2_m, t1_m, t2_m, t3_m, rfl, rfl, fm0, fm1, fm2, fm3, fm4, fm5, fm6⟩
    · exfalso; omega
    · exfalso; omega
    · have g1 := LN_1 (s := s0) iS.2.2.2.1 fm1 fm3
      have g2 := MT_1 (s := s0) (c := n s0) iS.2.2.2.2.1 fm1 fm4 fm5 fm6 (by omega) (by omega) (by omega)
      have g3 := PT_3 (n := n s0) gX.2.2.1 fx4 fx5 fx6 (by omega) (by omega) (by omega)
      have hmo : n s0 ≤ n s0 + 1 := Nat.le_succ _
      rcases (by omega : s0 = 0 ∨ s0 = 1 ∨ s0 = 2) with rfl | rfl | rfl
      · exact ⟨ANI_of (by omega), CC, _, _, _, _, _, _, _, rfl, rfl, rfl, upS n 0 _, upS T 0 _, B, S, F, I_sg_n0 iS fx3 hmo fx1 g3 g1 g2, iU, iF, iL, iT, I_chg_mono (up_mono hmo) iC, iA, iH, iD, iE, I_im_mono (up_mono hmo) iM, iN⟩
      · exact ⟨ANI_of (by omega), CC, _, _, _, _, _, _, _, rfl, rfl, rfl, upS n 1 _, upS T 1 _, B, S, F, I_sg_n1 iS fx3 hmo fx1 g3 g1 g2, iU, iF, iL, iT, I_chg_mono (up_mono hmo) iC, iA, iH, iD, iE, I_im_mono (up_mono hmo) iM, iN⟩
      · exact ⟨ANI_of (by omega), CC, _, _, _, _, _, _, _, rfl, rfl, rfl, upS n 2 _, upS T 2 _, B, S, F, I_sg_n2 iS fx3 hmo fx1 g3 g1 g2, iU, iF, iL, iT, I_chg_mono (up_mono hmo) iC, iA, iH, iD, iE, I_im_mono (up_mono hmo) iM, iN⟩
set_option maxHeartbeats 4000000 in
set_option maxRecDepth 100000 in
theorem pr_lines (l : Launch) (D : va_G) (Y : Nat → ClassId) {CC sg : Nat → Nat} {VV : Nat → Int32} {ff : Nat → Nat → Int32} {fj : Nat → Nat → Int64} {m : Nat} {R : Nat → Nat} {VM : Nat → Int32} {fM : Nat → Nat → Int32} {jM : Nat → Nat → Int64} (hI : INV CC sg VV ff fj VM fM jM) (a0 : Int32) (a1 : Int32) (a2 : Int32) (a3 : Int32) : PRS ANI l D Y CC m R (WX Y CC sg VV ff fj) (WM Y m R VM fM jM) yX10_lines wsX10_lines yX11_lines wsX11_lines [.int a0, .int a1, .int a2, .int a3] := by
  obtain ⟨n, T, B, S, F, iS, iU, iF, iL, iT, iC, iA, iH, iD, iE, iM, iN⟩ := id hI
  obtain ⟨s0, hs0, hso⟩ := ix3 a0
  have gX := I_sg_at iS hs0
  have h12 := gX.2.1
  obtain ⟨h0, hh0, hho⟩ := ix6 a1
  obtain ⟨⟨m_, hm, tle, hsz⟩, hq, hc⟩ := I_sh_at iH hh0
  have hqi := hq_i hq
  have hv : ∀ q, q < m_ → (fun q => (((fj (34 + 2 * h0)) q).toInt32).toInt) q = vSh (jM 48) h0 q := fun q hq => by show (((fj (34 + 2 * h0)) q).toInt32).toInt = _; rw [hc q (by omega)]; rfl
  refine ⟨_, _, _, _, RB_of (by decide) (by decide), RB_of (by decide) (by decide), lx_lines l D Y CC sg VV ff fj m_ h0 (n s0) s0 a0 a1 a2 a3 (T s0) hh0 hs0 gX.1 gX.2.1 gX.2.2.1 tle hm hho hso, lm_lines l D Y m R n T s0 h0 m_ a0 a1 a2 a3 VM fM jM iS.2.2.2.1 iS.2.2.2.2.1 hs0 hso hho hh0 hsz hm, ?_⟩
  intro v w v' w' hx_ hm_
  rcases hx_ with ⟨rfl, rfl, fx0⟩ | ⟨rfl, rfl, fx0, fx1⟩ | ⟨rfl, rfl, fx0, fx1⟩ | ⟨r_x, z2_x, fp2_x, an_x, wn__x, c__x, rfl, rfl, fx0, fx1, fx2, fx3, fx4, fx5, fx6, fx7⟩
  · rcases hm_ with ⟨rfl, rfl, fm0⟩ | ⟨rfl, rfl, fm0, fm1⟩ | ⟨rfl, rfl, fm0, fm1⟩ | ⟨r_m, b1_m, b2_m, b3_m, b4_m, an_m, wn__m, c__m, rfl, rfl, fm0, fm1, fm2, fm3, fm4, fm5, fm6, fm7⟩
    · exact ⟨⟨_, rfl, rfl⟩, NXI_same hI⟩
    · exfalso; omega
    · exfalso; omega
    · exfalso; omega
  · rcases hm_ with ⟨rfl, rfl, fm0⟩ | ⟨rfl, rfl, fm0, fm1⟩ | ⟨rfl, rfl, fm0, fm1⟩ | ⟨r_m, b1_m, b2_m, b3_m, b4_m, an_m, wn__m, c__m, rfl, rfl, fm0, fm1, fm2, fm3, fm4, fm5, fm6, fm7⟩
    · exfalso; omega
    · exfalso; omega
    · exact ⟨⟨_, rfl, rfl⟩, NXI_same hI⟩
    · exfalso; omega
  · rcases hm_ with ⟨rfl, rfl, fm0⟩ | ⟨rfl, rfl, fm0, fm1⟩ | ⟨rfl, rfl, fm0, fm1⟩ | ⟨r_m, b1_m, b2_m, b3_m, b4_m, an_m, wn__m, c__m, rfl, rfl, fm0, fm1, fm2, fm3, fm4, fm5, fm6, fm7⟩
    · exfalso; omega
    · exact ⟨⟨_, rfl, rfl⟩, NXI_same hI⟩
    · exfalso; omega
    · exfalso; omega
  · rcases hm_ with ⟨rfl, rfl, fm0⟩ | ⟨rfl, rfl, fm0, fm1⟩ | ⟨rfl, rfl, fm0, fm1⟩ | ⟨r_m, b1_m, b2_m, b3_m, b4_m, an_m, wn__m, c__m, rfl, rfl, fm0, fm1, fm2, fm3, fm4, fm5, fm6, fm7⟩
    · exfalso; omega
    · exfalso; omega
    · exfalso; omega
    · obtain rfl : an_x = an_m := by omega
      obtain rfl : wn__x = wn__m := by omega
      obtain rfl : c__x = c__m := LNc_u (LNc_c hv fx4) fm4
      have h12c := LNc_12 gX.2.1 fx4
      rw [lnT_c hv fx4.2.1] at fx7
      have hmo : n s0 ≤ n s0 + c__x := Nat.le_add_right _ _
      rcases (by omega : s0 = 0 ∨ s0 = 1 ∨ s0 = 2) with rfl | rfl | rfl
      · exact ⟨ANI_of (fx5.trans fm5.symm), CC, _, _, _, _, _, _, _, rfl, rfl, rfl, upS n 0 _, upS T 0 _, B, S, F, I_sg_n0 iS fx6 hmo h12c fx7 fm6 fm7, iU, iF, iL, iT, I_chg_mono (up_mono hmo) iC, iA, iH, iD, iE, I_im_mono (up_mono hmo) iM, iN⟩
      · exact ⟨ANI_of (fx5.trans fm5.symm), CC, _, _, _, _, _, _, _, rfl, rfl, rfl, upS n 1 _, upS T 1 _, B, S, F, I_sg_n1 iS fx6 hmo h12c fx7 fm6 fm7, iU, iF, iL, iT, I_chg_mono (up_mono hmo) iC, iA, iH, iD, iE, I_im_mono (up_mono hmo) iM, iN⟩
      · exact ⟨ANI_of (fx5.trans fm5.symm), CC, _, _, _, _, _, _, _, rfl, rfl, rfl, upS n 2 _, upS T 2 _, B, S, F, I_sg_n2 iS fx6 hmo h12c fx7 fm6 fm7, iU, iF, iL, iT, I_chg_mono (up_mono hmo) iC, iA, iH, iD, iE, I_im_mono (up_mono hmo) iM, iN⟩
set_option maxHeartbeats 4000000 in
set_option maxRecDepth 100000 in
theorem pr_has (l : Launch) (D : va_G) (Y : Nat → ClassId) {CC sg : Nat → Nat} {VV : Nat → Int32} {ff : Nat → Nat → Int32} {fj : Nat → Nat → Int64} {m : Nat} {R : Nat → Nat} {VM : Nat → Int32} {fM : Nat → Nat → Int32} {jM : Nat → Nat → Int64} (hI : INV CC sg VV ff fj VM fM jM) (a0 : Int32) (a1 : Int32) (a2 : Int32) (a3 : Int32) : PRS ANI l D Y CC m R (WX Y CC sg VV ff fj) (WM Y m R VM fM jM) yX10_has wsX10_has yX11_has wsX11_has [.int a0, .int a1, .int a2, .int a3] := by
  obtain ⟨n, T, B, S, F, iS, iU, iF, iL, iT, iC, iA, iH, iD, iE, iM, iN⟩ := id hI
  obtain ⟨s0, hs0, hsl⟩ := ixL a1 100 (by decide)
  obtain ⟨ln, hln⟩ := ixM a1 100 (by decide)
  have gX := I_sg_at iS hs0
  have h12 := gX.2.1
  refine ⟨_, _, _, _, RB_of (by decide) (by decide), RB_of (by decide) (by decide), lx_has l D Y CC sg VV ff fj (n s0) s0 a1 ln a0 a2 a3 (B s0) hs0 gX.1 gX.2.1 hsl hln gX.2.2.2.1, lm_has l D Y m R n B s0 a1 ln a0 a2 a3 VM fM jM iS.2.2.2.1 iS.2.2.2.2.2 hs0 hsl hln, ?_⟩
  intro v w v' w' hx_ hm_
  rcases hx_ with ⟨rfl, rfl, fx0⟩ | ⟨r_x, fh2_x, bn_x, vb_x, rfl, rfl, fx0, fx1, fx2, fx3, fx4⟩
  · rcases hm_ with ⟨rfl, rfl, fm0⟩ | ⟨r_m, b5_m, bn_m, vb_m, rfl, rfl, fm0, fm1, fm2, fm3, fm4⟩
    · exact ⟨⟨_, rfl, rfl⟩, NXI_same hI⟩
    · exfalso; have hb := bz_bd vb_m; omega
  · rcases hm_ with ⟨rfl, rfl, fm0⟩ | ⟨r_m, b5_m, bn_m, vb_m, rfl, rfl, fm0, fm1, fm2, fm3, fm4⟩
    · exfalso; have hb := bz_bd vb_x; omega
    · obtain rfl : bn_x = bn_m := by omega
      obtain rfl : vb_x = vb_m := bz_u (by omega)
      have gz := upB_z (bn := bn_x) (v := vb_x) gX.2.2.2.2 (by omega)
      rcases (by omega : s0 = 0 ∨ s0 = 1 ∨ s0 = 2) with rfl | rfl | rfl
      · exact ⟨ANI_of (fx3.trans fm3.symm), CC, _, _, _, _, _, _, _, rfl, rfl, rfl, n, T, upS B 0 _, S, F, I_sg_b0 iS fx4 gz fm4, iU, iF, iL, iT, iC, iA, iH, iD, iE, iM, iN⟩
      · exact ⟨ANI_of (fx3.trans fm3.symm), CC, _, _, _, _, _, _, _, rfl, rfl, rfl, n, T, upS B 1 _, S, F, I_sg_b1 iS fx4 gz fm4, iU, iF, iL, iT, iC, iA, iH, iD, iE, iM, iN⟩
      · exact ⟨ANI_of (fx3.trans fm3.symm), CC, _, _, _, _, _, _, _, rfl, rfl, rfl, n, T, upS B 2 _, S, F, I_sg_b2 iS fx4 gz fm4, iU, iF, iL, iT, iC, iA, iH, iD, iE, iM, iN⟩
set_option maxHeartbeats 4000000 in
set_option maxRecDepth 100000 in
theorem pr_mend (l : Launch) (D : va_G) (Y : Nat → ClassId) {CC sg : Nat → Nat} {VV : Nat → Int32} {ff : Nat → Nat → Int32} {fj : Nat → Nat → Int64} {m : Nat} {R : Nat → Nat} {VM : Nat → Int32} {fM : Nat → Nat → Int32} {jM : Nat → Nat → Int64} (hI : INV CC sg VV ff fj VM fM jM) (a0 : Int32) (a1 : Int32) (a2 : Int32) : PRS ANI l D Y CC m R (WX Y CC sg VV ff fj) (WM Y m R VM fM jM) yX10_mend wsX10_mend yX11_mend wsX11_mend [.int a0, .int a1, .int a2] := by
  obtain ⟨n, T, B, S, F, iS, iU, iF, iL, iT, iC, iA, iH, iD, iE, iM, iN⟩ := id hI
  obtain ⟨s0, hs0, hsl⟩ := ixL a0 100 (by decide)
  obtain ⟨ln, hln⟩ := ixM a0 100 (by decide)
  have gX := I_sg_at iS hs0
  have h12 := gX.2.1
  obtain ⟨d, u, e24, e25, e8, e9, h40, hCH⟩ := id iC
  have eF := congrArg Int32.toInt iF
  refine ⟨_, _, _, _, RB_of (by decide) (by decide), RB_of (by decide) (by decide), lx_mend_z l D Y CC sg VV ff fj (n s0) s0 a0 ln a1 S (T s0) d (d + u) a2 hs0 gX.1 gX.2.1 hsl hln iU.1 gX.2.2.1 e24 e25 (Nat.le_add_right d u) h40, lm_mend_z l D Y m R n T S s0 a0 ln a1 a2 d u VM fM jM iS.2.2.2.1 iS.2.2.2.2.1 iU.2 hs0 (fun _ _ => hsl) hln e8 e9 h40, ?_⟩
  intro v w v' w' hx_ hm_
  rcases hx_ with ⟨rfl, rfl, fx0⟩ | ⟨r_x, w_x, rfl, rfl, fx0, fx1, fx2, fx3, fx4, fx5⟩ | ⟨r_x, w_x, g1_x, g2_x, g3_x, g4_x, dn2_x, kp2_x, rfl, rfl, fx0, fx1, fx2, fx3, fx4, fx5, fx6, fx7, fx8, fx9, fx10, fx11⟩ | ⟨r_x, yn_x, rfl, rfl, fx0, fx1, fx2, fx3, fx4, fx5⟩ | ⟨r_x, yn_x, g1_x, g2_x, g3_x, g4_x, dn2_x, kp2_x, rfl, rfl, fx0, fx1, fx2, fx3, fx4, fx5, fx6, fx7, fx8, fx9, fx10, fx11⟩ | ⟨rfl, rfl, fx0, fx1, fx2, fx3⟩ | ⟨g1_x, g2_x, g3_x, g4_x, dn2_x, kp2_x, rfl, rfl, fx0, fx1, fx2, fx3, fx4, fx5, fx6, fx7, fx8, fx9⟩
  · rcases hm_ with ⟨rfl, rfl, fm0⟩ | ⟨r_m, w_m, rfl, rfl, fm0, fm1, fm2, fm3, fm4, fm5⟩ | ⟨r_m, yn_m, rfl, rfl, fm0, fm1, fm2, fm3, fm4, fm5⟩ | ⟨rfl, rfl, fm0, fm1, fm2, fm3⟩ | ⟨r_m, g10_m, g11_m, g12_m, g13_m, z8_m, rfl, rfl, fm0, fm1, fm2, fm3, fm4, fm5, fm6, fm7, fm8, fm9, fm10⟩ | ⟨r_m, g10_m, g11_m, g12_m, g13_m, z8_m, rfl, rfl, fm0, fm1, fm2, fm3, fm4, fm5, fm6, fm7, fm8, fm9, fm10⟩ | ⟨r_m, g10_m, g11_m, g12_m, g13_m, z8_m, rfl, rfl, fm0, fm1, fm2, fm3, fm4, fm5, fm6, fm7, fm8, fm9, fm10⟩ | ⟨r_m, yn_m, g10_m, g11_m, g12_m, g13_m, z8_m, rfl, rfl, fm0, fm1, fm2, fm3, fm4, fm5, fm6, fm7, fm8, fm9, fm10⟩ | ⟨g10_m, g11_m, g12_m, g13_m, z8_m, rfl, rfl, fm0, fm1, fm2, fm3, fm4, fm5, fm6, fm7, fm8⟩
    · exact ⟨⟨_, rfl, rfl⟩, NXI_same hI⟩
    · exfalso; omega
    · exfalso; omega
    · exfalso; omega
    · exfalso; omega
    · exfalso; omega
    · exfalso; omega
    · exfalso; omega
    · exfalso; omega
  · rcases hm_ with ⟨rfl, rfl, fm0⟩ | ⟨r_m, w_m, rfl, rfl, fm0, fm1, fm2, fm3, fm4, fm5⟩ | ⟨r_m, yn_m, rfl, rfl, fm0, fm1, fm2, fm3, fm4, fm5⟩ | ⟨rfl, rfl, fm0, fm1, fm2, fm3⟩ | ⟨r_m, g10_m, g11_m, g12_m, g13_m, z8_m, rfl, rfl, fm0, fm1, fm2, fm3, fm4, fm5, fm6, fm7, fm8, fm9, fm10⟩ | ⟨r_m, g10_m, g11_m, g12_m, g13_m, z8_m, rfl, rfl, fm0, fm1, fm2, fm3, fm4, fm5, fm6, fm7, fm8, fm9, fm10⟩ | ⟨r_m, g10_m, g11_m, g12_m, g13_m, z8_m, rfl, rfl, fm0, fm1, fm2, fm3, fm4, fm5, fm6, fm7, fm8, fm9, fm10⟩ | ⟨r_m, yn_m, g10_m, g11_m, g12_m, g13_m, z8_m, rfl, rfl, fm0, fm1, fm2, fm3, fm4, fm5, fm6, fm7, fm8, fm9, fm10⟩ | ⟨g10_m, g11_m, g12_m, g13_m, z8_m, rfl, rfl, fm0, fm1, fm2, fm3, fm4, fm5, fm6, fm7, fm8⟩
    · exfalso; omega
    · obtain rfl : w_x = w_m := by omega
      obtain rfl : r_x = r_m := i32e fx3 fm3
      exact ⟨⟨_, rfl, rfl⟩, NXI_same hI⟩
    · exfalso; omega
    · exfalso; omega
    · obtain rfl : w_x = 0 := by omega
      exfalso; omega
    · obtain rfl : w_x = 1 := by omega
      exfalso; omega
    · obtain rfl : w_x = 2 := by omega
      exfalso; omega
    · exfalso; omega
    · exfalso; omega
  · rcases hm_ with ⟨rfl, rfl, fm0⟩ | ⟨r_m, w_m, rfl, rfl, fm0, fm1, fm2, fm3, fm4, fm5⟩ | ⟨r_m, yn_m, rfl, rfl, fm0, fm1, fm2, fm3, fm4, fm5⟩ | ⟨rfl, rfl, fm0, fm1, fm2, fm3⟩ | ⟨r_m, g10_m, g11_m, g12_m, g13_m, z8_m, rfl, rfl, fm0, fm1, fm2, fm3, fm4, fm5, fm6, fm7, fm8, fm9, fm10⟩ | ⟨r_m, g10_m, g11_m, g12_m, g13_m, z8_m, rfl, rfl, fm0, fm1, fm2, fm3, fm4, fm5, fm6, fm7, fm8, fm9, fm10⟩ | ⟨r_m, g10_m, g11_m, g12_m, g13_m, z8_m, rfl, rfl, fm0, fm1, fm2, fm3, fm4, fm5, fm6, fm7, fm8, fm9, fm10⟩ | ⟨r_m, yn_m, g10_m, g11_m, g12_m, g13_m, z8_m, rfl, rfl, fm0, fm1, fm2, fm3, fm4, fm5, fm6, fm7, fm8, fm9, fm10⟩ | ⟨g10_m, g11_m, g12_m, g13_m, z8_m, rfl, rfl, fm0, fm1, fm2, fm3, fm4, fm5, fm6, fm7, fm8⟩
    · exfalso; omega
    · obtain rfl : w_x = w_m := by omega
      exfalso; omega
    · exfalso; omega
    · exfalso; omega
    · obtain rfl : w_x = 0 := by omega
      obtain rfl : r_x = r_m := i32e fx3 fm3
      have hb := gX.2.2.1 (3 * ln + 0) (by omega)
      have g3 := PT_1 gX.2.2.1 (j := 3 * ln + 0) (a := a2.toInt.toNat) (x := a2) (by omega) (by omega)
      have g2 := MTR_0 (s := s0) (l := ln) (a := a2.toInt.toNat) (x := a2) iS.2.2.2.2.1 (by omega) (by omega) (by omega)
      have hV : VLD n a1 a0 r_x a2 := Or.inl ⟨s0, ln, by omega, by omega, by omega, by omega, by omega, by omega, by omega, by omega, by omega, by omega, by omega⟩
      have hC := I_chg_add h40 hCH hV fx5 fx6 fm4 fx7 fx8 fx9 fx10 fm6 fm5 fm7 fm8
      rcases (by omega : s0 = 0 ∨ s0 = 1 ∨ s0 = 2) with rfl | rfl | rfl
      · exact ⟨⟨_, rfl, rfl⟩, CC, _, _, _, _, _, _, _, rfl, rfl, rfl, n, upS T 0 _, B, S, F, I_sg_p0 iS g3 g2, iU, iF, iL, iT, hC, iA, iH, iD, iE, iM, iN⟩
      · exact ⟨⟨_, rfl, rfl⟩, CC, _, _, _, _, _, _, _, rfl, rfl, rfl, n, upS T 1 _, B, S, F, I_sg_p1 iS g3 g2, iU, iF, iL, iT, hC, iA, iH, iD, iE, iM, iN⟩
      · exact ⟨⟨_, rfl, rfl⟩, CC, _, _, _, _, _, _, _, rfl, rfl, rfl, n, upS T 2 _, B, S, F, I_sg_p2 iS g3 g2, iU, iF, iL, iT, hC, iA, iH, iD, iE, iM, iN⟩
    · obtain rfl : w_x = 1 := by omega
      obtain rfl : r_x = r_m := i32e fx3 fm3
      have hb := gX.2.2.1 (3 * ln + 1) (by omega)
      have g3 := PT_1 gX.2.2.1 (j := 3 * ln + 1) (a := a2.toInt.toNat) (x := a2) (by omega) (by omega)
      have g2 := MTR_1 (s := s0) (l := ln) (a := a2.toInt.toNat) (x := a2) iS.2.2.2.2.1 (by omega) (by omega) (by omega)
      have hV : VLD n a1 a0 r_x a2 := Or.inl ⟨s0, ln, by omega, by omega, by omega, by omega, by omega, by omega, by omega, by omega, by omega, by omega, by omega⟩
      have hC := I_chg_add h40 hCH hV fx5 fx6 fm4 fx7 fx8 fx9 fx10 fm6 fm5 fm7 fm8
      rcases (by omega : s0 = 0 ∨ s0 = 1 ∨ s0 = 2) with rfl | rfl | rfl
      · exact ⟨⟨_, rfl, rfl⟩, CC, _, _, _, _, _, _, _, rfl, rfl, rfl, n, upS T 0 _, B, S, F, I_sg_p0 iS g3 g2, iU, iF, iL, iT, hC, iA, iH, iD, iE, iM, iN⟩
      · exact ⟨⟨_, rfl, rfl⟩, CC, _, _, _, _, _, _, _, rfl, rfl, rfl, n, upS T 1 _, B, S, F, I_sg_p1 iS g3 g2, iU, iF, iL, iT, hC, iA, iH, iD, iE, iM, iN⟩
      · exact ⟨⟨_, rfl, rfl⟩, CC, _, _, _, _, _, _, _, rfl, rfl, rfl, n, upS T 2 _, B, S, F, I_sg_p2 iS g3 g2, iU, iF, iL, iT, hC, iA, iH, iD, iE, iM, iN⟩
    · obtain rfl : w_x = 2 := by omega
      obtain rfl : r_x = r_m := i32e fx3 fm3
      have hb := gX.2.2.1 (3 * ln + 2) (by omega)
      have g3 := PT_1 gX.2.2.1 (j := 3 * ln + 2) (a := a2.toInt.toNat) (x := a2) (by omega) (by omega)
      have g2 := MTR_2 (s := s0) (l := ln) (a := a2.toInt.toNat) (x := a2) iS.2.2.2.2.1 (by omega) (by omega) (by omega)
      have hV : VLD n a1 a0 r_x a2 := Or.inl ⟨s0, ln, by omega, by omega, by omega, by omega, by omega, by omega, by omega, by omega, by omega, by omega, by omega⟩
      have hC := I_chg_add h40 hCH hV fx5 fx6 fm4 fx7 fx8 fx9 fx10 fm6 fm5 fm7 fm8
      rcases (by omega : s0 = 0 ∨ s0 = 1 ∨ s0 = 2) with rfl | rfl | rfl
      · exact ⟨⟨_, rfl, rfl⟩, CC, _, _, _, _, _, _, _, rfl, rfl, rfl, n, upS T 0 _, B, S, F, I_sg_p0 iS g3 g2, iU, iF, iL, iT, hC, iA, iH, iD, iE, iM, iN⟩
      · exact ⟨⟨_, rfl, rfl⟩, CC, _, _, _, _, _, _, _, rfl, rfl, rfl, n, upS T 1 _, B, S, F, I_sg_p1 iS g3 g2, iU, iF, iL, iT, hC, iA, iH, iD, iE, iM, iN⟩
      · exact ⟨⟨_, rfl, rfl⟩, CC, _, _, _, _, _, _, _, rfl, rfl, rfl, n, upS T 2 _, B, S, F, I_sg_p2 iS g3 g2, iU, iF, iL, iT, hC, iA, iH, iD, iE, iM, iN⟩
    · exfalso; omega
    · exfalso; omega
  · rcases hm_ with ⟨rfl, rfl, fm0⟩ | ⟨r_m, w_m, rfl, rfl, fm0, fm1, fm2, fm3, fm4, fm5⟩ | ⟨r_m, yn_m, rfl, rfl, fm0, fm1, fm2, fm3, fm4, fm5⟩ | ⟨rfl, rfl, fm0, fm1, fm2, fm3⟩ | ⟨r_m, g10_m, g11_m, g12_m, g13_m, z8_m, rfl, rfl, fm0, fm1, fm2, fm3, fm4, fm5, fm6, fm7, fm8, fm9, fm10⟩ | ⟨r_m, g10_m, g11_m, g12_m, g13_m, z8_m, rfl, rfl, fm0, fm1, fm2, fm3, fm4, fm5, fm6, fm7, fm8, fm9, fm10⟩ | ⟨r_m, g10_m, g11_m, g12_m, g13_m, z8_m, rfl, rfl, fm0, fm1, fm2, fm3, fm4, fm5, fm6, fm7, fm8, fm9, fm10⟩ | ⟨r_m, yn_m, g10_m, g11_m, g12_m, g13_m, z8_m, rfl, rfl, fm0, fm1, fm2, fm3, fm4, fm5, fm6, fm7, fm8, fm9, fm10⟩ | ⟨g10_m, g11_m, g12_m, g13_m, z8_m, rfl, rfl, fm0, fm1, fm2, fm3, fm4, fm5, fm6, fm7, fm8⟩
    · exfalso; omega
    · exfalso; omega
    · obtain rfl : yn_x = yn_m := by omega
      obtain rfl : r_x = r_m := i32e fx3 fm3
      exact ⟨⟨_, rfl, rfl⟩, NXI_same hI⟩
    · exfalso; omega
    · exfalso; omega
    · exfalso; omega
    · exfalso; omega
    · obtain rfl : yn_x = yn_m := by omega
      exfalso; omega
    · exfalso; omega
  · rcases hm_ with ⟨rfl, rfl, fm0⟩ | ⟨r_m, w_m, rfl, rfl, fm0, fm1, fm2, fm3, fm4, fm5⟩ | ⟨r_m, yn_m, rfl, rfl, fm0, fm1, fm2, fm3, fm4, fm5⟩ | ⟨rfl, rfl, fm0, fm1, fm2, fm3⟩ | ⟨r_m, g10_m, g11_m, g12_m, g13_m, z8_m, rfl, rfl, fm0, fm1, fm2, fm3, fm4, fm5, fm6, fm7, fm8, fm9, fm10⟩ | ⟨r_m, g10_m, g11_m, g12_m, g13_m, z8_m, rfl, rfl, fm0, fm1, fm2, fm3, fm4, fm5, fm6, fm7, fm8, fm9, fm10⟩ | ⟨r_m, g10_m, g11_m, g12_m, g13_m, z8_m, rfl, rfl, fm0, fm1, fm2, fm3, fm4, fm5, fm6, fm7, fm8, fm9, fm10⟩ | ⟨r_m, yn_m, g10_m, g11_m, g12_m, g13_m, z8_m, rfl, rfl, fm0, fm1, fm2, fm3, fm4, fm5, fm6, fm7, fm8, fm9, fm10⟩ | ⟨g10_m, g11_m, g12_m, g13_m, z8_m, rfl, rfl, fm0, fm1, fm2, fm3, fm4, fm5, fm6, fm7, fm8⟩
    · exfalso; omega
    · exfalso; omega
    · obtain rfl : yn_x = yn_m := by omega
      exfalso; omega
    · exfalso; omega
    · exfalso; omega
    · exfalso; omega
    · exfalso; omega
    · obtain rfl : yn_x = yn_m := by omega
      obtain rfl : r_x = r_m := i32e fx3 fm3
      have hb := iU.1 yn_x fx2
      have gU := SUR_set (p := yn_x) (a := a2.toInt.toNat) (x := a2) iU.1 (by omega) (by omega)
      have gU2 := SUR_set (p := yn_x) (a := a2.toInt.toNat) (x := a2) iU.2 (by omega) (by omega)
      have hV : VLD n a1 a0 r_x a2 := Or.inr (Or.inl ⟨fx0, by omega, by omega, by omega, by omega, by omega, by omega⟩)
      have hC := I_chg_add h40 hCH hV fx5 fx6 fm4 fx7 fx8 fx9 fx10 fm6 fm5 fm7 fm8
      exact ⟨⟨_, rfl, rfl⟩, CC, _, _, _, _, _, _, _, rfl, rfl, rfl, n, T, B, _, F, iS, ⟨gU, gU2⟩, iF, iL, iT, hC, iA, iH, iD, iE, iM, iN⟩
    · exfalso; omega
  · rcases hm_ with ⟨rfl, rfl, fm0⟩ | ⟨r_m, w_m, rfl, rfl, fm0, fm1, fm2, fm3, fm4, fm5⟩ | ⟨r_m, yn_m, rfl, rfl, fm0, fm1, fm2, fm3, fm4, fm5⟩ | ⟨rfl, rfl, fm0, fm1, fm2, fm3⟩ | ⟨r_m, g10_m, g11_m, g12_m, g13_m, z8_m, rfl, rfl, fm0, fm1, fm2, fm3, fm4, fm5, fm6, fm7, fm8, fm9, fm10⟩ | ⟨r_m, g10_m, g11_m, g12_m, g13_m, z8_m, rfl, rfl, fm0, fm1, fm2, fm3, fm4, fm5, fm6, fm7, fm8, fm9, fm10⟩ | ⟨r_m, g10_m, g11_m, g12_m, g13_m, z8_m, rfl, rfl, fm0, fm1, fm2, fm3, fm4, fm5, fm6, fm7, fm8, fm9, fm10⟩ | ⟨r_m, yn_m, g10_m, g11_m, g12_m, g13_m, z8_m, rfl, rfl, fm0, fm1, fm2, fm3, fm4, fm5, fm6, fm7, fm8, fm9, fm10⟩ | ⟨g10_m, g11_m, g12_m, g13_m, z8_m, rfl, rfl, fm0, fm1, fm2, fm3, fm4, fm5, fm6, fm7, fm8⟩
    · exfalso; omega
    · exfalso; omega
    · exfalso; omega
    · exact ⟨ANI_e iF, NXI_same hI⟩
    · exfalso; omega
    · exfalso; omega
    · exfalso; omega
    · exfalso; omega
    · exfalso; omega
  · rcases hm_ with ⟨rfl, rfl, fm0⟩ | ⟨r_m, w_m, rfl, rfl, fm0, fm1, fm2, fm3, fm4, fm5⟩ | ⟨r_m, yn_m, rfl, rfl, fm0, fm1, fm2, fm3, fm4, fm5⟩ | ⟨rfl, rfl, fm0, fm1, fm2, fm3⟩ | ⟨r_m, g10_m, g11_m, g12_m, g13_m, z8_m, rfl, rfl, fm0, fm1, fm2, fm3, fm4, fm5, fm6, fm7, fm8, fm9, fm10⟩ | ⟨r_m, g10_m, g11_m, g12_m, g13_m, z8_m, rfl, rfl, fm0, fm1, fm2, fm3, fm4, fm5, fm6, fm7, fm8, fm9, fm10⟩ | ⟨r_m, g10_m, g11_m, g12_m, g13_m, z8_m, rfl, rfl, fm0, fm1, fm2, fm3, fm4, fm5, fm6, fm7, fm8, fm9, fm10⟩ | ⟨r_m, yn_m, g10_m, g11_m, g12_m, g13_m, z8_m, rfl, rfl, fm0, fm1, fm2, fm3, fm4, fm5, fm6, fm7, fm8, fm9, fm10⟩ | ⟨g10_m, g11_m, g12_m, g13_m, z8_m, rfl, rfl, fm0, fm1, fm2, fm3, fm4, fm5, fm6, fm7, fm8⟩
    · exfalso; omega
    · exfalso; omega
    · exfalso; omega
    · exfalso; omega
    · exfalso; omega
    · exfalso; omega
    · exfalso; omega
    · exfalso; omega
    · have hV : VLD n a1 a0 (VV 10) a2 := Or.inr (Or.inr ⟨fx0, by omega⟩)
      have f4 : ∀ j, j < chD d → g12_m j = chg d (fM 12) (VV 10) j := fun j hj => by rw [fm4 j hj, iF]
      have hC := I_chg_add h40 hCH hV fx2 fx3 fm1 fx4 fx5 fx6 fx7 fm3 fm2 f4 fm5
      exact ⟨ANI_e iF, CC, _, _, _, _, _, _, _, rfl, rfl, rfl, n, T, B, S, F, iS, iU, rfl, iL, iT, hC, iA, iH, iD, iE, iM, iN⟩
set_option maxHeartbeats 4000000 in
set_option maxRecDepth 100000 in
theorem pr_of (l : Launch) (D : va_G) (Y : Nat → ClassId) {CC sg : Nat → Nat} {VV : Nat → Int32} {ff : Nat → Nat → Int32} {fj : Nat → Nat → Int64} {m : Nat} {R : Nat → Nat} {VM : Nat → Int32} {fM : Nat → Nat → Int32} {jM : Nat → Nat → Int64} (hI : INV CC sg VV ff fj VM fM jM) (a0 : Int32) (a1 : Int32) : PRS ANI l D Y CC m R (WX Y CC sg VV ff fj) (WM Y m R VM fM jM) yX10_of wsX10_of yX11_of wsX11_of [.int a0, .int a1] := by
  obtain ⟨n, T, B, S, F, iS, iU, iF, iL, iT, iC, iA, iH, iD, iE, iM, iN⟩ := id hI
  obtain ⟨s0, hs0, hsl, hs5⟩ : ∃ s0 : Nat, s0 < 3 ∧ (a1.toInt ≠ 5 → 0 ≤ a0.toInt → a0.toInt / 100 < 3 → a0.toInt / 100 = ((s0 : Nat) : Int)) ∧ (a1.toInt = 5 → 0 ≤ a0.toInt → a0.toInt < 3 → a0.toInt = ((s0 : Nat) : Int)) := by
    by_cases q : a1.toInt = 5
    · obtain ⟨s0, h1, h2⟩ := ix3 a0; exact ⟨s0, h1, fun h => absurd q h, fun _ => h2⟩
    · obtain ⟨s0, h1, h2⟩ := ixL a0 100 (by decide); exact ⟨s0, h1, fun _ => h2, fun h => absurd h q⟩
  obtain ⟨ln, hln⟩ := ixM a0 100 (by decide)
  have gX := I_sg_at iS hs0
  have h12 := gX.2.1
  refine ⟨_, _, _, _, RB_of (by decide) (by decide), RB_of (by decide) (by decide), lx_of_z l D Y CC sg VV ff fj (n s0) s0 a0 ln a1 S (T s0) (B s0) hs0 gX.1 gX.2.1 hsl hln hs5 iU.1 gX.2.2.1 gX.2.2.2.1, lm_of_z l D Y m R n T B S s0 a0 ln a1 VM fM jM iS.2.2.2.1 iS.2.2.2.2.1 iS.2.2.2.2.2 iU.2 hs0 hsl hln hs5, ?_⟩
  intro v w v' w' hx_ hm_
  rcases hx_ with ⟨rfl, rfl, fx0⟩ | ⟨r_x, w_x, rfl, rfl, fx0, fx1, fx2, fx3⟩ | ⟨r_x, yn_x, rfl, rfl, fx0, fx1, fx2, fx3⟩ | ⟨rfl, rfl, fx0, fx1⟩ | ⟨rfl, rfl, fx0, fx1⟩ | ⟨r_x, w_x, rfl, rfl, fx0, fx1, fx2, fx3⟩
  · rcases hm_ with ⟨rfl, rfl, fm0⟩ | ⟨r_m, w_m, rfl, rfl, fm0, fm1, fm2, fm3⟩ | ⟨r_m, yn_m, rfl, rfl, fm0, fm1, fm2, fm3⟩ | ⟨rfl, rfl, fm0, fm1⟩ | ⟨r_m, rfl, rfl, fm0, fm1, fm2⟩ | ⟨r_m, w_m, rfl, rfl, fm0, fm1, fm2, fm3⟩
    · exact ⟨⟨_, rfl, rfl⟩, NXI_same hI⟩
    · exfalso; omega
    · exfalso; omega
    · exfalso; omega
    · exfalso; omega
    · exfalso; omega
  · rcases hm_ with ⟨rfl, rfl, fm0⟩ | ⟨r_m, w_m, rfl, rfl, fm0, fm1, fm2, fm3⟩ | ⟨r_m, yn_m, rfl, rfl, fm0, fm1, fm2, fm3⟩ | ⟨rfl, rfl, fm0, fm1⟩ | ⟨r_m, rfl, rfl, fm0, fm1, fm2⟩ | ⟨r_m, w_m, rfl, rfl, fm0, fm1, fm2, fm3⟩
    · exfalso; omega
    · obtain rfl : w_x = w_m := by omega
      obtain rfl : r_x = r_m := i32e fx3 fm3
      exact ⟨⟨_, rfl, rfl⟩, NXI_same hI⟩
    · exfalso; omega
    · exfalso; omega
    · exfalso; omega
    · exfalso; omega
  · rcases hm_ with ⟨rfl, rfl, fm0⟩ | ⟨r_m, w_m, rfl, rfl, fm0, fm1, fm2, fm3⟩ | ⟨r_m, yn_m, rfl, rfl, fm0, fm1, fm2, fm3⟩ | ⟨rfl, rfl, fm0, fm1⟩ | ⟨r_m, rfl, rfl, fm0, fm1, fm2⟩ | ⟨r_m, w_m, rfl, rfl, fm0, fm1, fm2, fm3⟩
    · exfalso; omega
    · exfalso; omega
    · obtain rfl : yn_x = yn_m := by omega
      obtain rfl : r_x = r_m := i32e fx3 fm3
      exact ⟨⟨_, rfl, rfl⟩, NXI_same hI⟩
    · exfalso; omega
    · exfalso; omega
    · exfalso; omega
  · rcases hm_ with ⟨rfl, rfl, fm0⟩ | ⟨r_m, w_m, rfl, rfl, fm0, fm1, fm2, fm3⟩ | ⟨r_m, yn_m, rfl, rfl, fm0, fm1, fm2, fm3⟩ | ⟨rfl, rfl, fm0, fm1⟩ | ⟨r_m, rfl, rfl, fm0, fm1, fm2⟩ | ⟨r_m, w_m, rfl, rfl, fm0, fm1, fm2, fm3⟩
    · exfalso; omega
    · exfalso; omega
    · exfalso; omega
    · exact ⟨ANI_e iF, NXI_same hI⟩
    · exfalso; omega
    · exfalso; omega
  · rcases hm_ with ⟨rfl, rfl, fm0⟩ | ⟨r_m, w_m, rfl, rfl, fm0, fm1, fm2, fm3⟩ | ⟨r_m, yn_m, rfl, rfl, fm0, fm1, fm2, fm3⟩ | ⟨rfl, rfl, fm0, fm1⟩ | ⟨r_m, rfl, rfl, fm0, fm1, fm2⟩ | ⟨r_m, w_m, rfl, rfl, fm0, fm1, fm2, fm3⟩
    · exfalso; omega
    · exfalso; omega
    · exfalso; omega
    · exfalso; omega
    · exact ⟨ANI_of (gX.1.trans fm2.symm), NXI_same hI⟩
    · exfalso; omega
  · rcases hm_ with ⟨rfl, rfl, fm0⟩ | ⟨r_m, w_m, rfl, rfl, fm0, fm1, fm2, fm3⟩ | ⟨r_m, yn_m, rfl, rfl, fm0, fm1, fm2, fm3⟩ | ⟨rfl, rfl, fm0, fm1⟩ | ⟨r_m, rfl, rfl, fm0, fm1, fm2⟩ | ⟨r_m, w_m, rfl, rfl, fm0, fm1, fm2, fm3⟩
    · exfalso; omega
    · exfalso; omega
    · exfalso; omega
    · exfalso; omega
    · exfalso; omega
    · obtain rfl : w_x = w_m := by omega
      exact ⟨ANI_e (fx3.trans (WHO_u gX.2.2.2.1 fm3 (by omega) fx1)), NXI_same hI⟩
set_option maxHeartbeats 4000000 in
set_option maxRecDepth 100000 in
theorem pr_feed (l : Launch) (D : va_G) (Y : Nat → ClassId) {CC sg : Nat → Nat} {VV : Nat → Int32} {ff : Nat → Nat → Int32} {fj : Nat → Nat → Int64} {m : Nat} {R : Nat → Nat} {VM : Nat → Int32} {fM : Nat → Nat → Int32} {jM : Nat → Nat → Int64} (hI : INV CC sg VV ff fj VM fM jM) (a0 : Int32) : PRS ANI l D Y CC m R (WX Y CC sg VV ff fj) (WM Y m R VM fM jM) yX10_feed wsX10_feed yX11_feed wsX11_feed [.int a0] := by
  obtain ⟨n, T, B, S, F, iS, iU, iF, iL, iT, iC, iA, iH, iD, iE, iM, iN⟩ := id hI
  obtain ⟨L, ttl, tv15, hL, hTP⟩ := id iT
  refine ⟨_, _, _, _, RB_of (by decide) (by decide), RB_of (by decide) (by decide), lx_feed l D Y CC sg VV ff fj L a0 ttl hL, lm_feed l D Y m R L a0 VM fM jM tv15 hL, ?_⟩
  intro v w v' w' hx_ hm_
  rcases hx_ with ⟨rfl, rfl, fx0⟩ | ⟨rfl, rfl, fx0, fx1⟩ | ⟨r_x, tl2_x, rfl, rfl, fx0, fx1, fx2, fx3⟩
  · rcases hm_ with ⟨rfl, rfl, fm0⟩ | ⟨rfl, rfl, fm0, fm1⟩ | ⟨r_m, z15_m, b__m, rfl, rfl, fm0, fm1, fm2, fm3, fm4⟩
    · exact ⟨⟨_, rfl, rfl⟩, NXI_same hI⟩
    · exfalso; omega
    · exfalso; omega
  · rcases hm_ with ⟨rfl, rfl, fm0⟩ | ⟨rfl, rfl, fm0, fm1⟩ | ⟨r_m, z15_m, b__m, rfl, rfl, fm0, fm1, fm2, fm3, fm4⟩
    · exfalso; omega
    · exact ⟨⟨_, rfl, rfl⟩, NXI_same hI⟩
    · exfalso; omega
  · rcases hm_ with ⟨rfl, rfl, fm0⟩ | ⟨rfl, rfl, fm0, fm1⟩ | ⟨r_m, z15_m, b__m, rfl, rfl, fm0, fm1, fm2, fm3, fm4⟩
    · exfalso; omega
    · exfalso; omega
    · have hT := TPR_feed hTP fx0.1 fx0.2 fm4
      exact ⟨ANI_of (fx2.trans fm2.symm), CC, _, _, _, _, _, _, _, rfl, rfl, rfl, n, T, B, S, F, iS, iU, iF, iL, ⟨L + 1, fx3, fm3, fx1, hT⟩, iC, iA, iH, iD, iE, iM, iN⟩
set_option maxHeartbeats 4000000 in
set_option maxRecDepth 100000 in
theorem pr_law (l : Launch) (D : va_G) (Y : Nat → ClassId) {CC sg : Nat → Nat} {VV : Nat → Int32} {ff : Nat → Nat → Int32} {fj : Nat → Nat → Int64} {m : Nat} {R : Nat → Nat} {VM : Nat → Int32} {fM : Nat → Nat → Int32} {jM : Nat → Nat → Int64} (hI : INV CC sg VV ff fj VM fM jM) : PRS ANI l D Y CC m R (WX Y CC sg VV ff fj) (WM Y m R VM fM jM) yX10_law wsX10_law yX11_law wsX11_law [] := by
  obtain ⟨n, T, B, S, F, iS, iU, iF, iL, iT, iC, iA, iH, iD, iE, iM, iN⟩ := id hI
  obtain ⟨L, ttl, tv15, hL, hTP⟩ := id iT
  refine ⟨_, _, _, _, RB_of (by decide) (by decide), RB_of (by decide) (by decide), lx_law l D Y CC sg VV ff fj L (tpC (ff 70) L) ttl hL (TPR_X hTP), lm_law l D Y m R L (tpC (ff 70) L) VM fM jM tv15 hL (TPR_M hTP), ?_⟩
  intro v w v' w' hx_ hm_
  rcases hx_ with ⟨ls_x, lz2_x, fs2_x, fw2_x, fi2_x, pl2_x, fa2_x, rfl, rfl, fx0, fx1, fx2⟩ | ⟨r_x, q_x, lz2_x, fs2_x, fw2_x, fi2_x, pl2_x, fa2_x, rfl, rfl, fx0, fx1, fx2⟩
  · rcases hm_ with ⟨ls_m, z16_m, z17_m, z18_m, z19_m, b20_m, b21_m, b22_m, b23_m, b24_m, rfl, rfl, fm0, fm1⟩ | ⟨r_m, q_m, z16_m, z17_m, z18_m, z19_m, b20_m, b21_m, b22_m, b23_m, b24_m, rfl, rfl, fm0, fm1, fm2, fm3, fm4⟩
    · obtain rfl : ls_x = ls_m := Option.some.inj (congrArg Prod.snd (fx0.symm.trans fm0))
      have gL := LWR_of (fg := ff 16) fx0 hL fx1 fx2
      exact ⟨⟨_, rfl, rfl⟩, (fun i => CC (swI i)), _, _, _, _, _, _, _, rfl, rfl, rfl, n, T, B, S, FL ls_x, iS, iU, iF, ⟨gL, Or.inr ⟨(show (1 : Int32).toInt ≠ 0 from by decide), ls_x, fm1, OKS_pAll fx0, rfl⟩⟩, ⟨0, (show (0 : Int32).toInt = ((0 : Nat) : Int) from by decide), (show (0 : Int32).toInt = ((0 : Nat) : Int) from by decide), Nat.zero_le _, TPR_0 _ _⟩, iC, iA, iH, iD, iE, iM, iN⟩
    · exfalso
      rcases fm1 with h | ⟨ls, h, hl⟩
      · have := congrArg Prod.snd (fx0.symm.trans h); cases this
      · have := congrArg Prod.fst (fx0.symm.trans h); have e : L = q_m := this; omega
  · rcases hm_ with ⟨ls_m, z16_m, z17_m, z18_m, z19_m, b20_m, b21_m, b22_m, b23_m, b24_m, rfl, rfl, fm0, fm1⟩ | ⟨r_m, q_m, z16_m, z17_m, z18_m, z19_m, b20_m, b21_m, b22_m, b23_m, b24_m, rfl, rfl, fm0, fm1, fm2, fm3, fm4⟩
    · exfalso
      rcases fx1 with h | ⟨ls, h, hl⟩
      · have := congrArg Prod.snd (fm0.symm.trans h); cases this
      · have := congrArg Prod.fst (fm0.symm.trans h); have e : L = q_x := this; omega
    · have hq : q_x = q_m := by
        rcases fx1 with h | ⟨ls, h, hl⟩ <;> rcases fm1 with g | ⟨ls2, g, hl2⟩ <;> exact congrArg Prod.fst (h.symm.trans g)
      exact ⟨ANI_of (by omega), CC, _, _, _, _, _, _, _, rfl, rfl, rfl, n, T, B, S, F, iS, iU, iF, ⟨iL.1, LAWR_lo iL.2 fm3 fm4⟩, ⟨0, (show (0 : Int32).toInt = ((0 : Nat) : Int) from by decide), (show (0 : Int32).toInt = ((0 : Nat) : Int) from by decide), Nat.zero_le _, TPR_0 _ _⟩, iC, iA, iH, iD, iE, iM, iN⟩
