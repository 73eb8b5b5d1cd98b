
/-! ===== both sides: what the class' world and the reference's have in common ===== -/
def SGX (n : Nat) (T : Nat → Nat) (B : Nat → Bool) (z : Int32) (fp fh : Nat → Int32) : Prop := z.toInt = ((n : Nat) : Int) ∧ n ≤ 12 ∧ PT fp T ∧ HV fh B ∧ ∀ j, n ≤ j / 2 % 12 → B j = false
def I_sg (n : Nat → Nat) (T : Nat → Nat → Nat) (B : Nat → Nat → Bool) (z0 : Int32) (p0 h0 : Nat → Int32) (z1 : Int32) (p1 h1 : Nat → Int32) (z2 : Int32) (p2 h2 : Nat → Int32) (f1 f2 f3 f4 f5 : Nat → Int32) : Prop := SGX (n 0) (T 0) (B 0) z0 p0 h0 ∧ SGX (n 1) (T 1) (B 1) z1 p1 h1 ∧ SGX (n 2) (T 2) (B 2) z2 p2 h2 ∧ LNR f1 n ∧ MTR f2 f3 f4 T ∧ MHV f5 B
def I_law (F : Nat → Nat → Nat → Int32) (f72 f73 : Nat → Int32) (v716 : Int32) (f52 f74 : Nat → Int32) (v27 : Int32) (m20 m21 m22 m23 m24 : Nat → Int32) : Prop := LWR f72 f73 v716 f52 f74 F ∧ LAWR v27 m20 m21 m22 m23 m24 F
def I_tp (v691 : Int32) (f70 : Nat → Int32) (v15 : Int32) (m14 : Nat → Int32) : Prop := ∃ L : Nat, v691.toInt = ((L : Nat) : Int) ∧ v15.toInt = ((L : Nat) : Int) ∧ L ≤ 120 ∧ TPR f70 m14 L
/-- a change that may be: of which (w), whose (y), before (b), behind (a) -/
def VLD (n : Nat → Nat) (w y b a : Int32) : Prop := (∃ s ln : Nat, 0 ≤ w.toInt ∧ w.toInt < 3 ∧ s < 3 ∧ 0 ≤ y.toInt ∧ y.toInt / 100 = ((s : Nat) : Int) ∧ y.toInt % 100 = ((ln : Nat) : Int) ∧ ln < n s ∧ 0 ≤ b.toInt ∧ b.toInt < 8 ∧ 0 ≤ a.toInt ∧ a.toInt < 8) ∨ (w.toInt = 3 ∧ 0 ≤ y.toInt ∧ y.toInt < 4 ∧ 0 ≤ b.toInt ∧ b.toInt < 10 ∧ 0 ≤ a.toInt ∧ a.toInt < 10) ∨ (w.toInt = 4 ∧ y.toInt = 0)
def CHE (n : Nat → Nat) (k : Nat) (c3 c4 c5 c6 m11 m10 m12 m13 : Nat → Int32) : Prop := ∀ j, j < k → c3 j = m11 j ∧ c4 j = m10 j ∧ c5 j = m12 j ∧ c6 j = m13 j ∧ VLD n (c4 j) (c3 j) (c5 j) (c6 j)
def I_chg (n : Nat → Nat) (v24 v25 : Int32) (c3 c4 c5 c6 : Nat → Int32) (v8 v9 : Int32) (m11 m10 m12 m13 : Nat → Int32) : Prop := ∃ d u : Nat, v24.toInt = ((d : Nat) : Int) ∧ v25.toInt = ((d + u : Nat) : Int) ∧ v8.toInt = ((d : Nat) : Int) ∧ v9.toInt = ((u : Nat) : Int) ∧ d + u ≤ 40 ∧ CHE n (d + u) c3 c4 c5 c6 m11 m10 m12 m13
def I_ac (v72 v73 : Int32) (f8 f9 : Nat → Int32) (v42 v44 : Int32) (m43 m45 : Nat → Int32) : Prop := v72 = v42 ∧ v73 = v44 ∧ (∃ nb_ : Nat, v72.toInt = ((nb_ : Nat) : Int) ∧ nb_ ≤ 50 ∧ ∀ j, j < nb_ → f8 j = m43 j ∧ ∃ K : Nat, (f8 j).toInt = ((K : Nat) : Int) ∧ K < 8) ∧ ∀ j : Nat, ((j : Nat) : Int) < v73.toInt → j < 24 → f9 j = m45 j
def SHX (v72 hd bd so le : Int32) (fc : Nat → Int64) (a46 a47 : Nat → Int32) (a48 : Nat → Int64) (h : Nat) : Prop := (∃ m_ : Nat, m_ ≤ 60 ∧ le.toInt = ((m_ : Nat) : Int) ∧ (a47 h).toInt = ((m_ : Nat) : Int)) ∧ ((hd.toInt = 0 ∧ (a46 h).toInt = -1) ∨ (hd.toInt = 1 ∧ bd = a46 h ∧ 0 ≤ bd.toInt ∧ bd.toInt < v72.toInt) ∨ (hd.toInt = 2 ∧ 0 ≤ so.toInt ∧ so.toInt < 5 ∧ (a46 h).toInt = -2 - so.toInt)) ∧ ∀ j, j < 60 → fc j = a48 (60 * h + j)
def I_sh (v72 : Int32) (hd0 bd0 so0 le0 : Int32) (fc0 : Nat → Int64) (hd1 bd1 so1 le1 : Int32) (fc1 : Nat → Int64) (hd2 bd2 so2 le2 : Int32) (fc2 : Nat → Int64) (hd3 bd3 so3 le3 : Int32) (fc3 : Nat → Int64) (hd4 bd4 so4 le4 : Int32) (fc4 : Nat → Int64) (hd5 bd5 so5 le5 : Int32) (fc5 : Nat → Int64) (a46 a47 : Nat → Int32) (a48 : Nat → Int64) : Prop := SHX v72 hd0 bd0 so0 le0 fc0 a46 a47 a48 0 ∧ SHX v72 hd1 bd1 so1 le1 fc1 a46 a47 a48 1 ∧ SHX v72 hd2 bd2 so2 le2 fc2 a46 a47 a48 2 ∧ SHX v72 hd3 bd3 so3 le3 fc3 a46 a47 a48 3 ∧ SHX v72 hd4 bd4 so4 le4 fc4 a46 a47 a48 4 ∧ SHX v72 hd5 bd5 so5 le5 fc5 a46 a47 a48 5
def LED (d1 d2 d3 d4 : Int32) (m36 : Nat → Int32) : Prop := d1 = m36 0 ∧ d2 = m36 1 ∧ d3 = m36 2 ∧ d4 = m36 3
/-- a singing that is on: of the song s, so far st -/
def DON (c0 c1 c2 s1 : Nat) (fl fb ft : Nat → Int32) (s_ r_ oc wh : Int32) (m36 m37 : Nat → Int32) (s : Nat) (st : Sst) : Prop := s < 3 ∧ s1 = (if s = 0 then c0 else if s = 1 then c1 else c2) ∧ SGS fl fb ft s_ r_ oc wh st ∧ oc.toInt = 3 ∧ (m36 4).toInt = ((hLast st.1 : Nat) : Int) ∧ (m36 5).toInt = ((s : Nat) : Int) ∧ (m36 6).toInt = ((st.1.length : Nat) : Int) ∧ OFT m37 st.1
def DD (c0 c1 c2 s1 : Nat) (fl fb ft : Nat → Int32) (s_ r_ oc wh : Int32) (m36 m37 : Nat → Int32) : Prop := (oc.toInt ≠ 3 ∧ (m36 4).toInt < 0) ∨ ∃ (s : Nat) (st : Sst), DON c0 c1 c2 s1 fl fb ft s_ r_ oc wh m36 m37 s st
def HVs (n : Nat → Nat) (e0 e1 e2 m41 : Nat → Int32) : Prop := ∃ B : Nat → Nat → Bool, HV e0 (B 0) ∧ HV e1 (B 1) ∧ HV e2 (B 2) ∧ MHV m41 B ∧ ∀ s j, s < 3 → n s ≤ j / 2 % 12 → B s j = false
def I_im (n : Nat → Nat) (v11 v38 : Int32) (d1 d2 d3 d4 : Int32) (m39 : Nat → Int32) (c0 c1 c2 s1 : Nat) (fl fb ft : Nat → Int32) (s_ r_ oc wh : Int32) (m40 : Nat → Int32) (e0 e1 e2 m41 : Nat → Int32) : Prop := (v11.toInt ≠ 0 ↔ v38.toInt ≠ 0) ∧ (v11.toInt ≠ 0 → LED d1 d2 d3 d4 m39 ∧ DD c0 c1 c2 s1 fl fb ft s_ r_ oc wh m39 m40 ∧ HVs n e0 e1 e2 m41)
def INV (CC sg : Nat → Nat) (VV : Nat → Int32) (ff : Nat → Nat → Int32) (fj : Nat → Nat → Int64) (VM : Nat → Int32) (fM : Nat → Nat → Int32) (jM : Nat → Nat → Int64) : Prop := ∃ (n : Nat → Nat) (T : Nat → Nat → Nat) (B : Nat → Nat → Bool) (S : Nat → Nat) (F : Nat → Nat → Nat → Int32), I_sg n T B (VV 184) (ff 19) (ff 20) (VV 234) (ff 24) (ff 25) (VV 284) (ff 29) (ff 30) (fM 1) (fM 2) (fM 3) (fM 4) (fM 5) ∧ (SUR (ff 54) S ∧ SUR (fM 6) S) ∧ VV 10 = VM 7 ∧ I_law F (ff 72) (ff 73) (VV 716) (ff 52) (ff 74) (VM 27) (fM 20) (fM 21) (fM 22) (fM 23) (fM 24) ∧ I_tp (VV 691) (ff 70) (VM 15) (fM 14) ∧ I_chg n (VV 24) (VV 25) (ff 3) (ff 4) (ff 5) (ff 6) (VM 8) (VM 9) (fM 11) (fM 10) (fM 12) (fM 13) ∧ I_ac (VV 72) (VV 73) (ff 8) (ff 9) (VM 42) (VM 44) (fM 43) (fM 45) ∧ I_sh (VV 72) (VV 331) (VV 332) (VV 333) (VV 334) (fj 34) (VV 351) (VV 352) (VV 353) (VV 354) (fj 36) (VV 371) (VV 372) (VV 373) (VV 374) (fj 38) (VV 391) (VV 392) (VV 393) (VV 394) (fj 40) (VV 411) (VV 412) (VV 413) (VV 414) (fj 42) (VV 431) (VV 432) (VV 433) (VV 434) (fj 44) (fM 46) (fM 47) (jM 48) ∧ LED (VV 591) (VV 592) (VV 593) (VV 594) (fM 36) ∧ DD (CC 18) (CC 23) (CC 28) (sg 1) (ff 61) (ff 62) (ff 63) (VV 604) (VV 605) (VV 606) (VV 607) (fM 36) (fM 37) ∧ I_im n (VV 11) (VM 38) (VV 641) (VV 642) (VV 643) (VV 644) (fM 39) (CC 18) (CC 23) (CC 28) (sg 2) (ff 66) (ff 67) (ff 68) (VV 654) (VV 655) (VV 656) (VV 657) (fM 40) (ff 22) (ff 27) (ff 32) (fM 41) ∧ (CC 18 ≠ CC 23 ∧ CC 18 ≠ CC 28 ∧ CC 23 ≠ CC 28)
/-- the next worlds -/
def NXI (Y : Nat → ClassId) (CC : Nat → Nat) (m : Nat) (R : Nat → Nat) (w w' : va_W) : Prop := ∃ (CC' sg : Nat → Nat) (VV : Nat → Int32) (ff : Nat → Nat → Int32) (fj : Nat → Nat → Int64) (VM : Nat → Int32) (fM : Nat → Nat → Int32) (jM : Nat → Nat → Int64), CC' 0 = CC 0 ∧ w = WX Y CC' sg VV ff fj ∧ w' = WM Y m R VM fM jM ∧ INV CC' sg VV ff fj VM fM jM
def ANI (v v' : Option Value) : Prop := ∃ r : Int32, v = some (.int r) ∧ v' = some (.int r)
def ANJ (v v' : Option Value) : Prop := ∃ r : Int64, v = some (.long r) ∧ v' = some (.long r)
theorem ANI_of {r r' : Int32} (h : r.toInt = r'.toInt) : ANI (some (.int r)) (some (.int r')) := ⟨r, rfl, by rw [cI_eq.mpr h]⟩
theorem ANI_e {r r' : Int32} (h : r = r') : ANI (some (.int r)) (some (.int r')) := ⟨r, rfl, by rw [h]⟩
theorem ANJ_e {r r' : Int64} (h : r = r') : ANJ (some (.long r)) (some (.long r')) := ⟨r, rfl, by rw [h]⟩
theorem NXI_same {Y : Nat → ClassId} {CC sg : Nat → Nat} {m : Nat} {R : Nat → Nat} {VV : Nat → Int32} {ff : Nat → Nat → Int32} {fj : Nat → Nat → Int64} {VM : Nat → Int32} {fM : Nat → Nat → Int32} {jM : Nat → Nat → Int64} (h : INV CC sg VV ff fj VM fM jM) : NXI Y CC m R (WX Y CC sg VV ff fj) (WM Y m R VM fM jM) := ⟨CC, sg, VV, ff, fj, VM, fM, jM, rfl, rfl, rfl, h⟩
theorem ix3 (a : Int32) : ∃ s0 : Nat, s0 < 3 ∧ (0 ≤ a.toInt → a.toInt < 3 → a.toInt = ((s0 : Nat) : Int)) := by
  by_cases h : 0 ≤ a.toInt ∧ a.toInt < 3
  · exact ⟨a.toInt.toNat, by omega, fun _ _ => by omega⟩
  · exact ⟨0, by omega, fun h1 h2 => absurd ⟨h1, h2⟩ h⟩
theorem ix6 (a : Int32) : ∃ h0 : Nat, h0 < 6 ∧ (0 ≤ a.toInt → a.toInt < 6 → a.toInt = ((h0 : Nat) : Int)) := by
  by_cases h : 0 ≤ a.toInt ∧ a.toInt < 6
  · exact ⟨a.toInt.toNat, by omega, fun _ _ => by omega⟩
  · exact ⟨0, by omega, fun h1 h2 => absurd ⟨h1, h2⟩ h⟩
theorem ix4 (a : Int32) : ∃ k : Nat, k < 4 ∧ (0 ≤ a.toInt → a.toInt < 4 → a.toInt = ((k : Nat) : Int)) := by
  by_cases h : 0 ≤ a.toInt ∧ a.toInt < 4
  · exact ⟨a.toInt.toNat, by omega, fun _ _ => by omega⟩
  · exact ⟨0, by omega, fun h1 h2 => absurd ⟨h1, h2⟩ h⟩
theorem ixL (a : Int32) (q : Int) (hq : 0 < q) : ∃ s0 : Nat, s0 < 3 ∧ (0 ≤ a.toInt → a.toInt / q < 3 → a.toInt / q = ((s0 : Nat) : Int)) := by
  by_cases h : 0 ≤ a.toInt ∧ a.toInt / q < 3
  · have h0 : 0 ≤ a.toInt / q := Int.ediv_nonneg h.1 (Int.le_of_lt hq)
    exact ⟨(a.toInt / q).toNat, by omega, fun _ _ => by omega⟩
  · exact ⟨0, by omega, fun h1 h2 => absurd ⟨h1, h2⟩ h⟩
theorem ixM (a : Int32) (q : Int) (hq : 0 < q) : ∃ ln : Nat, 0 ≤ a.toInt → a.toInt % q = ((ln : Nat) : Int) := by
  have h0 : 0 ≤ a.toInt % q := Int.emod_nonneg _ (by omega)
  exact ⟨(a.toInt % q).toNat, fun _ => by omega⟩
section
variable {n : Nat → Nat} {T : Nat → Nat → Nat} {B : Nat → Nat → Bool} {z0 z1 z2 z' : Int32} {p0 h0 p1 h1 p2 h2 p' h' f1 f2 f3 f4 f5 f1' f2' f3' f4' f5' : Nat → Int32}
theorem I_sg_at {VV : Nat → Int32} {ff : Nat → Nat → Int32} (h : I_sg n T B (VV 184) (ff 19) (ff 20) (VV 234) (ff 24) (ff 25) (VV 284) (ff 29) (ff 30) f1 f2 f3 f4 f5) {s : Nat} (hs : s < 3) : SGX (n s) (T s) (B s) (VV (184 + 50 * s)) (ff (19 + 5 * s)) (ff (20 + 5 * s)) := by
  rcases (by omega : s = 0 ∨ s = 1 ∨ s = 2) with rfl | rfl | rfl
  · exact h.1
  · exact h.2.1
  · exact h.2.2.1
theorem I_sg_z (h : I_sg n T B z0 p0 h0 z1 p1 h1 z2 p2 h2 f1 f2 f3 f4 f5) {s : Nat} (hs : s < 3) : n s ≤ 12 ∧ ∀ j, n s ≤ j / 2 % 12 → B s j = false := by
  rcases (by omega : s = 0 ∨ s = 1 ∨ s = 2) with rfl | rfl | rfl
  · exact ⟨h.1.2.1, h.1.2.2.2.2⟩
  · exact ⟨h.2.1.2.1, h.2.1.2.2.2.2⟩
  · exact ⟨h.2.2.1.2.1, h.2.2.1.2.2.2.2⟩
theorem I_sg_h0 (h : I_sg n T B z0 p0 h0 z1 p1 h1 z2 p2 h2 f1 f2 f3 f4 f5) (g : HV h' (B 0)) (g5 : MHV f5' B) : I_sg n T B z0 p0 h' z1 p1 h1 z2 p2 h2 f1 f2 f3 f4 f5' := ⟨⟨h.1.1, h.1.2.1, h.1.2.2.1, g, h.1.2.2.2.2⟩, h.2.1, h.2.2.1, h.2.2.2.1, h.2.2.2.2.1, g5⟩
theorem I_sg_b0 (h : I_sg n T B z0 p0 h0 z1 p1 h1 z2 p2 h2 f1 f2 f3 f4 f5) {B' : Nat → Bool} (g : HV h' B') (gz : ∀ j, n 0 ≤ j / 2 % 12 → B' j = false) (g5 : MHV f5' (upS B 0 B')) : I_sg n T (upS B 0 B') z0 p0 h' z1 p1 h1 z2 p2 h2 f1 f2 f3 f4 f5' := ⟨⟨h.1.1, h.1.2.1, h.1.2.2.1, g, gz⟩, h.2.1, h.2.2.1, h.2.2.2.1, h.2.2.2.2.1, g5⟩
theorem I_sg_p0 (h : I_sg n T B z0 p0 h0 z1 p1 h1 z2 p2 h2 f1 f2 f3 f4 f5) {T' : Nat → Nat} (g : PT p' T') (g2 : MTR f2' f3' f4' (upS T 0 T')) : I_sg n (upS T 0 T') B z0 p' h0 z1 p1 h1 z2 p2 h2 f1 f2' f3' f4' f5 := ⟨⟨h.1.1, h.1.2.1, g, h.1.2.2.2⟩, h.2.1, h.2.2.1, h.2.2.2.1, g2, h.2.2.2.2.2⟩
theorem I_sg_n0 (h : I_sg n T B z0 p0 h0 z1 p1 h1 z2 p2 h2 f1 f2 f3 f4 f5) {n' : Nat} {T' : Nat → Nat} (gz : z'.toInt = ((n' : Nat) : Int)) (hn : n 0 ≤ n') (h12 : n' ≤ 12) (g : PT p' T') (g1 : LNR f1' (upS n 0 n')) (g2 : MTR f2' f3' f4' (upS T 0 T')) : I_sg (upS n 0 n') (upS T 0 T') B z' p' h0 z1 p1 h1 z2 p2 h2 f1' f2' f3' f4' f5 := ⟨⟨gz, h12, g, h.1.2.2.2.1, fun j hj => h.1.2.2.2.2 j (Nat.le_trans hn hj)⟩, h.2.1, h.2.2.1, g1, g2, h.2.2.2.2.2⟩
theorem I_sg_h1 (h : I_sg n T B z0 p0 h0 z1 p1 h1 z2 p2 h2 f1 f2 f3 f4 f5) (g : HV h' (B 1)) (g5 : MHV f5' B) : I_sg n T B z0 p0 h0 z1 p1 h' z2 p2 h2 f1 f2 f3 f4 f5' := ⟨h.1, ⟨h.2.1.1, h.2.1.2.1, h.2.1.2.2.1, g, h.2.1.2.2.2.2⟩, h.2.2.1, h.2.2.2.1, h.2.2.2.2.1, g5⟩
theorem I_sg_b1 (h : I_sg n T B z0 p0 h0 z1 p1 h1 z2 p2 h2 f1 f2 f3 f4 f5) {B' : Nat → Bool} (g : HV h' B') (gz : ∀ j, n 1 ≤ j / 2 % 12 → B' j = false) (g5 : MHV f5' (upS B 1 B')) : I_sg n T (upS B 1 B') z0 p0 h0 z1 p1 h' z2 p2 h2 f1 f2 f3 f4 f5' := ⟨h.1, ⟨h.2.1.1, h.2.1.2.1, h.2.1.2.2.1, g, gz⟩, h.2.2.1, h.2.2.2.1, h.2.2.2.2.1, g5⟩
theorem I_sg_p1 (h : I_sg n T B z0 p0 h0 z1 p1 h1 z2 p2 h2 f1 f2 f3 f4 f5) {T' : Nat → Nat} (g : PT p' T') (g2 : MTR f2' f3' f4' (upS T 1 T')) : I_sg n (upS T 1 T') B z0 p0 h0 z1 p' h1 z2 p2 h2 f1 f2' f3' f4' f5 := ⟨h.1, ⟨h.2.1.1, h.2.1.2.1, g, h.2.1.2.2.2⟩, h.2.2.1, h.2.2.2.1, g2, h.2.2.2.2.2⟩
theorem I_sg_n1 (h : I_sg n T B z0 p0 h0 z1 p1 h1 z2 p2 h2 f1 f2 f3 f4 f5) {n' : Nat} {T' : Nat → Nat} (gz : z'.toInt = ((n' : Nat) : Int)) (hn : n 1 ≤ n') (h12 : n' ≤ 12) (g : PT p' T') (g1 : LNR f1' (upS n 1 n')) (g2 : MTR f2' f3' f4' (upS T 1 T')) : I_sg (upS n 1 n') (upS T 1 T') B z0 p0 h0 z' p' h1 z2 p2 h2 f1' f2' f3' f4' f5 := ⟨h.1, ⟨gz, h12, g, h.2.1.2.2.2.1, fun j hj => h.2.1.2.2.2.2 j (Nat.le_trans hn hj)⟩, h.2.2.1, g1, g2, h.2.2.2.2.2⟩
theorem I_sg_h2 (h : I_sg n T B z0 p0 h0 z1 p1 h1 z2 p2 h2 f1 f2 f3 f4 f5) (g : HV h' (B 2)) (g5 : MHV f5' B) : I_sg n T B z0 p0 h0 z1 p1 h1 z2 p2 h' f1 f2 f3 f4 f5' := ⟨h.1, h.2.1, ⟨h.2.2.1.1, h.2.2.1.2.1, h.2.2.1.2.2.1, g, h.2.2.1.2.2.2.2⟩, h.2.2.2.1, h.2.2.2.2.1, g5⟩
theorem I_sg_b2 (h : I_sg n T B z0 p0 h0 z1 p1 h1 z2 p2 h2 f1 f2 f3 f4 f5) {B' : Nat → Bool} (g : HV h' B') (gz : ∀ j, n 2 ≤ j / 2 % 12 → B' j = false) (g5 : MHV f5' (upS B 2 B')) : I_sg n T (upS B 2 B') z0 p0 h0 z1 p1 h1 z2 p2 h' f1 f2 f3 f4 f5' := ⟨h.1, h.2.1, ⟨h.2.2.1.1, h.2.2.1.2.1, h.2.2.1.2.2.1, g, gz⟩, h.2.2.2.1, h.2.2.2.2.1, g5⟩
theorem I_sg_p2 (h : I_sg n T B z0 p0 h0 z1 p1 h1 z2 p2 h2 f1 f2 f3 f4 f5) {T' : Nat → Nat} (g : PT p' T') (g2 : MTR f2' f3' f4' (upS T 2 T')) : I_sg n (upS T 2 T') B z0 p0 h0 z1 p1 h1 z2 p' h2 f1 f2' f3' f4' f5 := ⟨h.1, h.2.1, ⟨h.2.2.1.1, h.2.2.1.2.1, g, h.2.2.1.2.2.2⟩, h.2.2.2.1, g2, h.2.2.2.2.2⟩
theorem I_sg_n2 (h : I_sg n T B z0 p0 h0 z1 p1 h1 z2 p2 h2 f1 f2 f3 f4 f5) {n' : Nat} {T' : Nat → Nat} (gz : z'.toInt = ((n' : Nat) : Int)) (hn : n 2 ≤ n') (h12 : n' ≤ 12) (g : PT p' T') (g1 : LNR f1' (upS n 2 n')) (g2 : MTR f2' f3' f4' (upS T 2 T')) : I_sg (upS n 2 n') (upS T 2 T') B z0 p0 h0 z1 p1 h1 z' p' h2 f1' f2' f3' f4' f5 := ⟨h.1, h.2.1, ⟨gz, h12, g, h.2.2.1.2.2.2.1, fun j hj => h.2.2.1.2.2.2.2 j (Nat.le_trans hn hj)⟩, g1, g2, h.2.2.2.2.2⟩
end
theorem MTR_0 {f2 f3 f4 : Nat → Int32} {T : Nat → Nat → Nat} (h : MTR f2 f3 f4 T) {s l a : Nat} {x : Int32} (hl : l < 12) (hx : x.toInt = ((a : Nat) : Int)) (ha : a < 8) : MTR (upd f2 (12 * s + l) x) f3 f4 (upS T s (upN (T s) (3 * l + 0) a)) := by
  intro t ht q hq
  have h1 := h t ht q hq
  by_cases e : t = s
  · subst e; rw [upS_eq]
    unfold upN upd
    by_cases e2 : q = l
    · subst e2
      rw [if_pos rfl, if_pos rfl, if_neg (by omega), if_neg (by omega)]
      exact ⟨⟨hx, ha⟩, h1.2⟩
    · rw [if_neg (by omega), if_neg (by omega), if_neg (by omega), if_neg (by omega)]; exact h1
  · rw [upS_ne e]; unfold upd; rw [if_neg (by omega)]; exact h1
theorem MTR_1 {f2 f3 f4 : Nat → Int32} {T : Nat → Nat → Nat} (h : MTR f2 f3 f4 T) {s l a : Nat} {x : Int32} (hl : l < 12) (hx : x.toInt = ((a : Nat) : Int)) (ha : a < 8) : MTR f2 (upd f3 (12 * s + l) x) f4 (upS T s (upN (T s) (3 * l + 1) a)) := by
  intro t ht q hq
  have h1 := h t ht q hq
  by_cases e : t = s
  · subst e; rw [upS_eq]
    unfold upN upd
    by_cases e2 : q = l
    · subst e2
      rw [if_neg (by omega), if_pos rfl, if_pos rfl, if_neg (by omega)]
      exact ⟨h1.1, ⟨hx, ha⟩, h1.2.2⟩
    · rw [if_neg (by omega), if_neg (by omega), if_neg (by omega), if_neg (by omega)]; exact h1
  · rw [upS_ne e]; unfold upd; rw [if_neg (by omega)]; exact h1
theorem MTR_2 {f2 f3 f4 : Nat → Int32} {T : Nat → Nat → Nat} (h : MTR f2 f3 f4 T) {s l a : Nat} {x : Int32} (hl : l < 12) (hx : x.toInt = ((a : Nat) : Int)) (ha : a < 8) : MTR f2 f3 (upd f4 (12 * s + l) x) (upS T s (upN (T s) (3 * l + 2) a)) := by
  intro t ht q hq
  have h1 := h t ht q hq
  by_cases e : t = s
  · subst e; rw [upS_eq]
    unfold upN upd
    by_cases e2 : q = l
    · subst e2
      rw [if_neg (by omega), if_neg (by omega), if_pos rfl, if_pos rfl]
      exact ⟨h1.1, h1.2.1, hx, ha⟩
    · rw [if_neg (by omega), if_neg (by omega), if_neg (by omega), if_neg (by omega)]; exact h1
  · rw [upS_ne e]; unfold upd; rw [if_neg (by omega)]; exact h1
theorem SUR_set {f : Nat → Int32} {S : Nat → Nat} (h : SUR f S) {p a : Nat} {x : Int32} (hx : x.toInt = ((a : Nat) : Int)) (ha : a < 10) : SUR (upd f p x) (upN S p a) := by
  intro q hq
  unfold upd upN
  by_cases e : q = p
  · rw [if_pos e, if_pos e]; exact ⟨hx, ha⟩
  · rw [if_neg e, if_neg e]; exact h q hq
theorem VLD_mono {n n' : Nat → Nat} (hn : ∀ s, s < 3 → n s ≤ n' s) {w y b a : Int32} (h : VLD n w y b a) : VLD n' w y b a := by
  rcases h with ⟨s, ln, h1, h2, h3, h4, h5, h6, h7, h8⟩ | h | h
  · exact Or.inl ⟨s, ln, h1, h2, h3, h4, h5, h6, Nat.lt_of_lt_of_le h7 (hn s h3), h8⟩
  · exact Or.inr (Or.inl h)
  · exact Or.inr (Or.inr h)
theorem I_chg_mono {n n' : Nat → Nat} (hn : ∀ s, s < 3 → n s ≤ n' s) {v24 v25 v8 v9 : Int32} {c3 c4 c5 c6 m11 m10 m12 m13 : Nat → Int32} (h : I_chg n v24 v25 c3 c4 c5 c6 v8 v9 m11 m10 m12 m13) : I_chg n' v24 v25 c3 c4 c5 c6 v8 v9 m11 m10 m12 m13 := by
  obtain ⟨d, u, h1, h2, h3, h4, h5, h6⟩ := h
  exact ⟨d, u, h1, h2, h3, h4, h5, fun j hj => ⟨(h6 j hj).1, (h6 j hj).2.1, (h6 j hj).2.2.1, (h6 j hj).2.2.2.1, VLD_mono hn (h6 j hj).2.2.2.2⟩⟩
theorem I_im_mono {n n' : Nat → Nat} (hn : ∀ s, s < 3 → n s ≤ n' s) {v11 v38 d1 d2 d3 d4 s_ r_ oc wh : Int32} {c0 c1 c2 s1 : Nat} {m39 fl fb ft m40 e0 e1 e2 m41 : Nat → Int32} (h : I_im n v11 v38 d1 d2 d3 d4 m39 c0 c1 c2 s1 fl fb ft s_ r_ oc wh m40 e0 e1 e2 m41) : I_im n' v11 v38 d1 d2 d3 d4 m39 c0 c1 c2 s1 fl fb ft s_ r_ oc wh m40 e0 e1 e2 m41 := by
  refine ⟨h.1, fun q => ?_⟩
  obtain ⟨h1, h2, B, b0, b1, b2, b3, b4⟩ := h.2 q
  exact ⟨h1, h2, B, b0, b1, b2, b3, fun s j hs hj => b4 s j hs (Nat.le_trans (hn s hs) hj)⟩
theorem up_mono {n : Nat → Nat} {k n' : Nat} (h : n k ≤ n') : ∀ s, s < 3 → n s ≤ upS n k n' s := by
  intro s _
  unfold upS
  by_cases e : s = k
  · rw [if_pos e, e]; exact h
  · rw [if_neg e]; exact Nat.le_refl _
theorem chg_row {d k : Nat} (hdk : d ≤ k) (h40 : d ≤ 40) {P : Int32 → Int32 → Int32 → Int32 → Prop} {a b c e : Nat → Int32} {xa xb xc xe : Int32} (h : ∀ j, j < k → P (a j) (b j) (c j) (e j)) (hx : P xa xb xc xe) : ∀ j, j < chD d → P (chg d a xa j) (chg d b xb j) (chg d c xc j) (chg d e xe j) := by
  intro j hj
  unfold chD at hj
  unfold chg
  by_cases q : d < 40
  · rw [if_pos q] at hj
    rw [if_pos q, if_pos q, if_pos q, if_pos q]
    by_cases w : j = d
    · rw [if_pos w, if_pos w, if_pos w, if_pos w]; exact hx
    · rw [if_neg w, if_neg w, if_neg w, if_neg w]; exact h j (by omega)
  · rw [if_neg q] at hj
    rw [if_neg q, if_neg q, if_neg q, if_neg q]
    by_cases w : j = 39
    · rw [if_pos w, if_pos w, if_pos w, if_pos w]; exact hx
    · rw [if_neg w, if_neg w, if_neg w, if_neg w]; exact h (j + 1) (by omega)
theorem I_chg_add {n : Nat → Nat} {d u : Nat} {dn2 kp2 z8 : Int32} {c3 c4 c5 c6 m11 m10 m12 m13 g1 g2 g3 g4 g10 g11 g12 g13 : Nat → Int32} {y w r v : Int32} (h40 : d + u ≤ 40) (h : CHE n (d + u) c3 c4 c5 c6 m11 m10 m12 m13) (hv : VLD n w y r v) (e1 : dn2.toInt = ((chD d : Nat) : Int)) (e2 : kp2.toInt = ((chD d : Nat) : Int)) (e3 : z8.toInt = ((chD d : Nat) : Int)) (k1 : ∀ j, j < chD d → g1 j = chg d c3 y j) (k2 : ∀ j, j < chD d → g2 j = chg d c4 w j) (k3 : ∀ j, j < chD d → g3 j = chg d c5 r j) (k4 : ∀ j, j < chD d → g4 j = chg d c6 v j) (q1 : ∀ j, j < chD d → g11 j = chg d m11 y j) (q2 : ∀ j, j < chD d → g10 j = chg d m10 w j) (q3 : ∀ j, j < chD d → g12 j = chg d m12 r j) (q4 : ∀ j, j < chD d → g13 j = chg d m13 v j) : I_chg n dn2 kp2 g1 g2 g3 g4 z8 (0 : Int32) g11 g10 g12 g13 := by
  refine ⟨chD d, 0, e1, by rw [Nat.add_zero]; exact e2, e3, (by decide), (by have := chD_le d; omega), ?_⟩
  intro j hj
  rw [Nat.add_zero] at hj
  refine ⟨chg_2 (k := d + u) (by omega) (by omega) (fun i hi => (h i hi).1) k1 q1 j hj, chg_2 (k := d + u) (by omega) (by omega) (fun i hi => (h i hi).2.1) k2 q2 j hj, chg_2 (k := d + u) (by omega) (by omega) (fun i hi => (h i hi).2.2.1) k3 q3 j hj, chg_2 (k := d + u) (by omega) (by omega) (fun i hi => (h i hi).2.2.2.1) k4 q4 j hj, ?_⟩
  rw [k1 j hj, k2 j hj, k3 j hj, k4 j hj]
  exact chg_row (k := d + u) (P := fun y w b a => VLD n w y b a) (by omega) (by omega) (fun i hi => (h i hi).2.2.2.2) hv j hj
theorem SHX_keep {v72 v72' hd bd so le : Int32} {fc : Nat → Int64} {a46 a47 b46 b47 : Nat → Int32} {a48 b48 : Nat → Int64} {h : Nat} (q : SHX v72 hd bd so le fc a46 a47 a48 h) (hv : v72.toInt ≤ v72'.toInt) (h1 : b46 h = a46 h) (h2 : b47 h = a47 h) (h3 : ∀ j, j < 60 → b48 (60 * h + j) = a48 (60 * h + j)) : SHX v72' hd bd so le fc b46 b47 b48 h := by
  obtain ⟨q1, q2, q3⟩ := q
  refine ⟨by rw [h2]; exact q1, ?_, fun j hj => by rw [h3 j hj]; exact q3 j hj⟩
  rw [h1]
  rcases q2 with q | q | q
  · exact Or.inl q
  · exact Or.inr (Or.inl ⟨q.1, q.2.1, q.2.2.1, by omega⟩)
  · exact Or.inr (Or.inr q)
section
variable {v72 v72' hd0 bd0 so0 le0 hd1 bd1 so1 le1 hd2 bd2 so2 le2 hd3 bd3 so3 le3 hd4 bd4 so4 le4 hd5 bd5 so5 le5 hd' bd' so' le' : Int32} {fc0 fc1 fc2 fc3 fc4 fc5 fc' : Nat → Int64} {a46 a47 b46 b47 : Nat → Int32} {a48 b48 : Nat → Int64}
theorem I_sh_at {VV : Nat → Int32} {fj : Nat → Nat → Int64} (h : I_sh v72 (VV 331) (VV 332) (VV 333) (VV 334) (fj 34) (VV 351) (VV 352) (VV 353) (VV 354) (fj 36) (VV 371) (VV 372) (VV 373) (VV 374) (fj 38) (VV 391) (VV 392) (VV 393) (VV 394) (fj 40) (VV 411) (VV 412) (VV 413) (VV 414) (fj 42) (VV 431) (VV 432) (VV 433) (VV 434) (fj 44) a46 a47 a48) {s : Nat} (hs : s < 6) : SHX v72 (VV (331 + 20 * s)) (VV (332 + 20 * s)) (VV (333 + 20 * s)) (VV (334 + 20 * s)) (fj (34 + 2 * s)) a46 a47 a48 s := by
  rcases (by omega : s = 0 ∨ s = 1 ∨ s = 2 ∨ s = 3 ∨ s = 4 ∨ s = 5) with rfl | rfl | rfl | rfl | rfl | rfl
  · exact h.1
  · exact h.2.1
  · exact h.2.2.1
  · exact h.2.2.2.1
  · exact h.2.2.2.2.1
  · exact h.2.2.2.2.2
theorem I_sh_0 (h : I_sh v72 hd0 bd0 so0 le0 fc0 hd1 bd1 so1 le1 fc1 hd2 bd2 so2 le2 fc2 hd3 bd3 so3 le3 fc3 hd4 bd4 so4 le4 fc4 hd5 bd5 so5 le5 fc5 a46 a47 a48) (g : SHX v72 hd' bd' so' le' fc' b46 b47 b48 0) (ho : ∀ i, i < 6 → i ≠ 0 → b46 i = a46 i ∧ b47 i = a47 i ∧ ∀ j, j < 60 → b48 (60 * i + j) = a48 (60 * i + j)) : I_sh v72 hd' bd' so' le' fc' hd1 bd1 so1 le1 fc1 hd2 bd2 so2 le2 fc2 hd3 bd3 so3 le3 fc3 hd4 bd4 so4 le4 fc4 hd5 bd5 so5 le5 fc5 b46 b47 b48 := ⟨g, SHX_keep h.2.1 (Int.le_refl _) (ho 1 (by decide) (by decide)).1 (ho 1 (by decide) (by decide)).2.1 (ho 1 (by decide) (by decide)).2.2, SHX_keep h.2.2.1 (Int.le_refl _) (ho 2 (by decide) (by decide)).1 (ho 2 (by decide) (by decide)).2.1 (ho 2 (by decide) (by decide)).2.2, SHX_keep h.2.2.2.1 (Int.le_refl _) (ho 3 (by decide) (by decide)).1 (ho 3 (by decide) (by decide)).2.1 (ho 3 (by decide) (by decide)).2.2, SHX_keep h.2.2.2.2.1 (Int.le_refl _) (ho 4 (by decide) (by decide)).1 (ho 4 (by decide) (by decide)).2.1 (ho 4 (by decide) (by decide)).2.2, SHX_keep h.2.2.2.2.2 (Int.le_refl _) (ho 5 (by decide) (by decide)).1 (ho 5 (by decide) (by decide)).2.1 (ho 5 (by decide) (by decide)).2.2⟩
theorem I_sh_1 (h : I_sh v72 hd0 bd0 so0 le0 fc0 hd1 bd1 so1 le1 fc1 hd2 bd2 so2 le2 fc2 hd3 bd3 so3 le3 fc3 hd4 bd4 so4 le4 fc4 hd5 bd5 so5 le5 fc5 a46 a47 a48) (g : SHX v72 hd' bd' so' le' fc' b46 b47 b48 1) (ho : ∀ i, i < 6 → i ≠ 1 → b46 i = a46 i ∧ b47 i = a47 i ∧ ∀ j, j < 60 → b48 (60 * i + j) = a48 (60 * i + j)) : I_sh v72 hd0 bd0 so0 le0 fc0 hd' bd' so' le' fc' hd2 bd2 so2 le2 fc2 hd3 bd3 so3 le3 fc3 hd4 bd4 so4 le4 fc4 hd5 bd5 so5 le5 fc5 b46 b47 b48 := ⟨SHX_keep h.1 (Int.le_refl _) (ho 0 (by decide) (by decide)).1 (ho 0 (by decide) (by decide)).2.1 (ho 0 (by decide) (by decide)).2.2, g, SHX_keep h.2.2.1 (Int.le_refl _) (ho 2 (by decide) (by decide)).1 (ho 2 (by decide) (by decide)).2.1 (ho 2 (by decide) (by decide)).2.2, SHX_keep h.2.2.2.1 (Int.le_refl _) (ho 3 (by decide) (by decide)).1 (ho 3 (by decide) (by decide)).2.1 (ho 3 (by decide) (by decide)).2.2, SHX_keep h.2.2.2.2.1 (Int.le_refl _) (ho 4 (by decide) (by decide)).1 (ho 4 (by decide) (by decide)).2.1 (ho 4 (by decide) (by decide)).2.2, SHX_keep h.2.2.2.2.2 (Int.le_refl _) (ho 5 (by decide) (by decide)).1 (ho 5 (by decide) (by decide)).2.1 (ho 5 (by decide) (by decide)).2.2⟩
theorem I_sh_2 (h : I_sh v72 hd0 bd0 so0 le0 fc0 hd1 bd1 so1 le1 fc1 hd2 bd2 so2 le2 fc2 hd3 bd3 so3 le3 fc3 hd4 bd4 so4 le4 fc4 hd5 bd5 so5 le5 fc5 a46 a47 a48) (g : SHX v72 hd' bd' so' le' fc' b46 b47 b48 2) (ho : ∀ i, i < 6 → i ≠ 2 → b46 i = a46 i ∧ b47 i = a47 i ∧ ∀ j, j < 60 → b48 (60 * i + j) = a48 (60 * i + j)) : I_sh v72 hd0 bd0 so0 le0 fc0 hd1 bd1 so1 le1 fc1 hd' bd' so' le' fc' hd3 bd3 so3 le3 fc3 hd4 bd4 so4 le4 fc4 hd5 bd5 so5 le5 fc5 b46 b47 b48 := ⟨SHX_keep h.1 (Int.le_refl _) (ho 0 (by decide) (by decide)).1 (ho 0 (by decide) (by decide)).2.1 (ho 0 (by decide) (by decide)).2.2, SHX_keep h.2.1 (Int.le_refl _) (ho 1 (by decide) (by decide)).1 (ho 1 (by decide) (by decide)).2.1 (ho 1 (by decide) (by decide)).2.2, g, SHX_keep h.2.2.2.1 (Int.le_refl _) (ho 3 (by decide) (by decide)).1 (ho 3 (by decide) (by decide)).2.1 (ho 3 (by decide) (by decide)).2.2, SHX_keep h.2.2.2.2.1 (Int.le_refl _) (ho 4 (by decide) (by decide)).1 (ho 4 (by decide) (by decide)).2.1 (ho 4 (by decide) (by decide)).2.2, SHX_keep h.2.2.2.2.2 (Int.le_refl _) (ho 5 (by decide) (by decide)).1 (ho 5 (by decide) (by decide)).2.1 (ho 5 (by decide) (by decide)).2.2⟩
theorem I_sh_3 (h : I_sh v72 hd0 bd0 so0 le0 fc0 hd1 bd1 so1 le1 fc1 hd2 bd2 so2 le2 fc2 hd3 bd3 so3 le3 fc3 hd4 bd4 so4 le4 fc4 hd5 bd5 so5 le5 fc5 a46 a47 a48) (g : SHX v72 hd' bd' so' le' fc' b46 b47 b48 3) (ho : ∀ i, i < 6 → i ≠ 3 → b46 i = a46 i ∧ b47 i = a47 i ∧ ∀ j, j < 60 → b48 (60 * i + j) = a48 (60 * i + j)) : I_sh v72 hd0 bd0 so0 le0 fc0 hd1 bd1 so1 le1 fc1 hd2 bd2 so2 le2 fc2 hd' bd' so' le' fc' hd4 bd4 so4 le4 fc4 hd5 bd5 so5 le5 fc5 b46 b47 b48 := ⟨SHX_keep h.1 (Int.le_refl _) (ho 0 (by decide) (by decide)).1 (ho 0 (by decide) (by decide)).2.1 (ho 0 (by decide) (by decide)).2.2, SHX_keep h.2.1 (Int.le_refl _) (ho 1 (by decide) (by decide)).1 (ho 1 (by decide) (by decide)).2.1 (ho 1 (by decide) (by decide)).2.2, SHX_keep h.2.2.1 (Int.le_refl _) (ho 2 (by decide) (by decide)).1 (ho 2 (by decide) (by decide)).2.1 (ho 2 (by decide) (by decide)).2.2, g, SHX_keep h.2.2.2.2.1 (Int.le_refl _) (ho 4 (by decide) (by decide)).1 (ho 4 (by decide) (by decide)).2.1 (ho 4 (by decide) (by decide)).2.2, SHX_keep h.2.2.2.2.2 (Int.le_refl _) (ho 5 (by decide) (by decide)).1 (ho 5 (by decide) (by decide)).2.1 (ho 5 (by decide) (by decide)).2.2⟩
theorem I_sh_4 (h : I_sh v72 hd0 bd0 so0 le0 fc0 hd1 bd1 so1 le1 fc1 hd2 bd2 so2 le2 fc2 hd3 bd3 so3 le3 fc3 hd4 bd4 so4 le4 fc4 hd5 bd5 so5 le5 fc5 a46 a47 a48) (g : SHX v72 hd' bd' so' le' fc' b46 b47 b48 4) (ho : ∀ i, i < 6 → i ≠ 4 → b46 i = a46 i ∧ b47 i = a47 i ∧ ∀ j, j < 60 → b48 (60 * i + j) = a48 (60 * i + j)) : I_sh v72 hd0 bd0 so0 le0 fc0 hd1 bd1 so1 le1 fc1 hd2 bd2 so2 le2 fc2 hd3 bd3 so3 le3 fc3 hd' bd' so' le' fc' hd5 bd5 so5 le5 fc5 b46 b47 b48 := ⟨SHX_keep h.1 (Int.le_refl _) (ho 0 (by decide) (by decide)).1 (ho 0 (by decide) (by decide)).2.1 (ho 0 (by decide) (by decide)).2.2, SHX_keep h.2.1 (Int.le_refl _) (ho 1 (by decide) (by decide)).1 (ho 1 (by decide) (by decide)).2.1 (ho 1 (by decide) (by decide)).2.2, SHX_keep h.2.2.1 (Int.le_refl _) (ho 2 (by decide) (by decide)).1 (ho 2 (by decide) (by decide)).2.1 (ho 2 (by decide) (by decide)).2.2, SHX_keep h.2.2.2.1 (Int.le_refl _) (ho 3 (by decide) (by decide)).1 (ho 3 (by decide) (by decide)).2.1 (ho 3 (by decide) (by decide)).2.2, g, SHX_keep h.2.2.2.2.2 (Int.le_refl _) (ho 5 (by decide) (by decide)).1 (ho 5 (by decide) (by decide)).2.1 (ho 5 (by decide) (by decide)).2.2⟩
theorem I_sh_5 (h : I_sh v72 hd0 bd0 so0 le0 fc0 hd1 bd1 so1 le1 fc1 hd2 bd2 so2 le2 fc2 hd3 bd3 so3 le3 fc3 hd4 bd4 so4 le4 fc4 hd5 bd5 so5 le5 fc5 a46 a47 a48) (g : SHX v72 hd' bd' so' le' fc' b46 b47 b48 5) (ho : ∀ i, i < 6 → i ≠ 5 → b46 i = a46 i ∧ b47 i = a47 i ∧ ∀ j, j < 60 → b48 (60 * i + j) = a48 (60 * i + j)) : I_sh v72 hd0 bd0 so0 le0 fc0 hd1 bd1 so1 le1 fc1 hd2 bd2 so2 le2 fc2 hd3 bd3 so3 le3 fc3 hd4 bd4 so4 le4 fc4 hd' bd' so' le' fc' b46 b47 b48 := ⟨SHX_keep h.1 (Int.le_refl _) (ho 0 (by decide) (by decide)).1 (ho 0 (by decide) (by decide)).2.1 (ho 0 (by decide) (by decide)).2.2, SHX_keep h.2.1 (Int.le_refl _) (ho 1 (by decide) (by decide)).1 (ho 1 (by decide) (by decide)).2.1 (ho 1 (by decide) (by decide)).2.2, SHX_keep h.2.2.1 (Int.le_refl _) (ho 2 (by decide) (by decide)).1 (ho 2 (by decide) (by decide)).2.1 (ho 2 (by decide) (by decide)).2.2, SHX_keep h.2.2.2.1 (Int.le_refl _) (ho 3 (by decide) (by decide)).1 (ho 3 (by decide) (by decide)).2.1 (ho 3 (by decide) (by decide)).2.2, SHX_keep h.2.2.2.2.1 (Int.le_refl _) (ho 4 (by decide) (by decide)).1 (ho 4 (by decide) (by decide)).2.1 (ho 4 (by decide) (by decide)).2.2, g⟩
theorem I_sh_v (h : I_sh v72 hd0 bd0 so0 le0 fc0 hd1 bd1 so1 le1 fc1 hd2 bd2 so2 le2 fc2 hd3 bd3 so3 le3 fc3 hd4 bd4 so4 le4 fc4 hd5 bd5 so5 le5 fc5 a46 a47 a48) (hv : v72.toInt ≤ v72'.toInt) : I_sh v72' hd0 bd0 so0 le0 fc0 hd1 bd1 so1 le1 fc1 hd2 bd2 so2 le2 fc2 hd3 bd3 so3 le3 fc3 hd4 bd4 so4 le4 fc4 hd5 bd5 so5 le5 fc5 a46 a47 a48 := ⟨SHX_keep h.1 hv rfl rfl (fun _ _ => rfl), SHX_keep h.2.1 hv rfl rfl (fun _ _ => rfl), SHX_keep h.2.2.1 hv rfl rfl (fun _ _ => rfl), SHX_keep h.2.2.2.1 hv rfl rfl (fun _ _ => rfl), SHX_keep h.2.2.2.2.1 hv rfl rfl (fun _ _ => rfl), SHX_keep h.2.2.2.2.2 hv rfl rfl (fun _ _ => rfl)⟩
end
