theorem nw_in : ∀ q ∈ nwQ, Cond.methodLinkNest q.1 q.2.1 q.2.2.1 q.2.2.2 ∈ lw_tbl := List.forall_mem_cons.mpr ⟨(List.mem_append_right _ (List.mem_append_left _ (List.mem_of_getElem? (i := 33) rfl))), List.forall_mem_cons.mpr ⟨(List.mem_append_right _ (List.mem_append_left _ (List.mem_of_getElem? (i := 59) rfl))), List.forall_mem_cons.mpr ⟨(List.mem_append_right _ (List.mem_append_left _ (List.mem_of_getElem? (i := 83) rfl))), List.forall_mem_cons.mpr ⟨(List.mem_append_right _ (List.mem_append_left _ (List.mem_of_getElem? (i := 110) rfl))), List.forall_mem_cons.mpr ⟨(List.mem_append_right _ (List.mem_append_left _ (List.mem_of_getElem? (i := 131) rfl))), List.forall_mem_cons.mpr ⟨(List.mem_append_right _ (List.mem_append_right _ (List.mem_append_left _ (List.mem_of_getElem? (i := 177) rfl)))), List.forall_mem_cons.mpr ⟨(List.mem_append_right _ (List.mem_append_right _ (List.mem_append_right _ (List.mem_append_right _ (List.mem_append_left _ (List.mem_of_getElem? (i := 190) rfl)))))), fun _ h => absurd h List.not_mem_nil⟩⟩⟩⟩⟩⟩⟩
/-! ===== the law's entry: the classes, the arrays, the tables of Acts, the text ===== -/
theorem lw_arrI {s : State} {args : Array Value} (h : (Cond.arrayClass .int).before args s = true) : ∃ cA : ClassId, ArrOfT s cA .int ∧ va_RA s cA .int := by
  obtain ⟨c, k, comp, h1, h2, h3⟩ := Cond.arrayClass_spec h
  exact ⟨c, fun n z => ⟨fun k h => (by cases h), k, h2, comp, h3⟩, h1⟩
theorem lw_arrJ {s : State} {args : Array Value} (h : (Cond.arrayClass .long).before args s = true) : ∃ cA : ClassId, ArrOfT s cA .long ∧ va_RA s cA .long := by
  obtain ⟨c, k, comp, h1, h2, h3⟩ := Cond.arrayClass_spec h
  exact ⟨c, fun n z => ⟨fun k h => (by cases h), k, h2, comp, h3⟩, h1⟩
theorem lw_arrB {s : State} {args : Array Value} (h : (Cond.arrayClass .byte).before args s = true) : ∃ cA : ClassId, ArrOfT s cA .byte ∧ va_RA s cA .byte := by
  obtain ⟨c, k, comp, h1, h2, h3⟩ := Cond.arrayClass_spec h
  exact ⟨c, fun n z => ⟨fun k h => (by cases h), k, h2, comp, h3⟩, h1⟩
theorem lw_arrS {s : State} {args : Array Value} (h : (Cond.arrayClass .short).before args s = true) : ∃ cA : ClassId, ArrOfT s cA .short ∧ va_RA s cA .short := by
  obtain ⟨c, k, comp, h1, h2, h3⟩ := Cond.arrayClass_spec h
  exact ⟨c, fun n z => ⟨fun k h => (by cases h), k, h2, comp, h3⟩, h1⟩
theorem lw_arrQ {s : State} {args : Array Value} {C : String} (h : (Cond.arrayOver (.object C)).before args s = true) : ∃ cA : ClassId, ArrOfT s cA (.object C) ∧ va_RA s cA (.object C) := by
  obtain ⟨comp, c, k, h1, _, h3, h4, h5⟩ := Cond.arrayOver_spec h
  exact ⟨c, fun n z => ⟨fun k h => (by cases h), k, h3, comp, h4⟩, k, comp, h3, h4, h1, h5⟩
set_option maxHeartbeats 4000000 in
set_option maxRecDepth 100000 in
theorem lw_KK {p : Program} {s : State} {m : MethodId} {meth : Method} {c : Code} {b L : Nat} {xs : Nat → Int32} (C0 : lw_At p s m meth c b L xs) : ∃ (D : va_G) (Y : Nat → ClassId), KK D Y s ∧ SX Y (fun q => s.heap.size ≤ q) s s.heap := by
  obtain ⟨hx, hb, hr, hml, hown, hts0, hX, hbl, hlocks, hgv⟩ := id C0
  have hts : ∀ w ∈ wsL_law, w.before #[Value.ref b] s = true := fun w h => hts0 w (wsL_law_in w h)
  have hs := flat_of_before _ hgv
  have hA : ∀ a : Nat, a < s.heap.size → ¬ (fun q : Nat => s.heap.size ≤ q) a := fun a h => Nat.not_le.mpr h
  obtain ⟨c0, i0, k0⟩ := u_known (C := RX0) (T := TX0) (N := 5) (n := 5) hts inlX0 (hts _ (inr_1 _ (List.mem_of_getElem? (i := 20) rfl)))
  obtain ⟨c1, i1, k1⟩ := u_known (C := RX2) (T := TX2) (N := 6) (n := 6) hts inlX2 (hts _ (inr_1 _ (List.mem_of_getElem? (i := 16) rfl)))
  obtain ⟨c2, i2, k2⟩ := u_known (C := RX3) (T := TX3) (N := 3) (n := 3) hts inlX3 (hts _ (inr_2 _ (List.mem_of_getElem? (i := 10) rfl)))
  obtain ⟨c3, i3, k3⟩ := u_known (C := RX4) (T := TX4) (N := 5) (n := 5) hts inlX4 (hts _ (inr_2 _ (List.mem_of_getElem? (i := 18) rfl)))
  obtain ⟨c4, i4, k4⟩ := u_known (C := RX5) (T := TX5) (N := 7) (n := 7) hts inlX5 (hts _ (inr_2 _ (List.mem_of_getElem? (i := 2) rfl)))
  obtain ⟨c5, i5, k5⟩ := u_known (C := RX6) (T := TX6) (N := 5) (n := 5) hts inlX6 (hts _ (inr_2 _ (List.mem_of_getElem? (i := 7) rfl)))
  obtain ⟨c6, i6, k6⟩ := u_known (C := RX7) (T := TX7) (N := 8) (n := 8) hts inlX7 (hts _ (inr_2 _ (List.mem_of_getElem? (i := 14) rfl)))
  obtain ⟨c7, i7, k7⟩ := u_known (C := RX8) (T := TX8) (N := 5) (n := 5) hts inlX8 (hts _ (inr_2 _ (List.mem_of_getElem? (i := 5) rfl)))
  obtain ⟨c8, i8, k8⟩ := u_known (C := RX9) (T := TX9) (N := 5) (n := 5) hts inlX9 (hts _ (inr_2 _ (List.mem_of_getElem? (i := 23) rfl)))
  obtain ⟨c9, i9, k9⟩ := u_known (C := RX10) (T := TX10) (N := 12) (n := 12) hts inlX10 (hts _ (inr_1 _ (List.mem_of_getElem? (i := 1) rfl)))
  obtain ⟨c10, i10, k10⟩ := u_known (C := RX11) (T := TX11) (N := 50) (n := 50) hts inlX11 (hts _ (inr_1 _ (List.mem_of_getElem? (i := 4) rfl)))
  obtain ⟨D, hKn⟩ : ∃ D : va_G, ∀ (k : Nat) (q : vw_C), vwCl[k]? = some q → u_Kn s q.1 q.2.1 q.2.2 (D.1 k) (D.2 k) := by
    refine ⟨(fun k => if k = 0 then c0 else if k = 1 then c1 else if k = 2 then c2 else if k = 3 then c3 else if k = 4 then c4 else if k = 5 then c5 else if k = 6 then c6 else if k = 7 then c7 else if k = 8 then c8 else if k = 9 then c9 else c10, fun k => if k = 0 then i0 else if k = 1 then i1 else if k = 2 then i2 else if k = 3 then i3 else if k = 4 then i4 else if k = 5 then i5 else if k = 6 then i6 else if k = 7 then i7 else if k = 8 then i8 else if k = 9 then i9 else i10), ?_⟩
    intro k q hq
    match k, hq with
    | 0, hq => cases hq; exact k0
    | 1, hq => cases hq; exact k1
    | 2, hq => cases hq; exact k2
    | 3, hq => cases hq; exact k3
    | 4, hq => cases hq; exact k4
    | 5, hq => cases hq; exact k5
    | 6, hq => cases hq; exact k6
    | 7, hq => cases hq; exact k7
    | 8, hq => cases hq; exact k8
    | 9, hq => cases hq; exact k9
    | 10, hq => cases hq; exact k10
    | k + 11, hq => simp [vwCl] at hq
  obtain ⟨y0, a0, r0⟩ := lw_arrI (hts _ (inr_3 _ (List.mem_of_getElem? (i := 6) rfl)))
  obtain ⟨y1, a1, r1⟩ := lw_arrJ (hts _ (inr_4 _ (List.mem_of_getElem? (i := 11) rfl)))
  obtain ⟨y2, a2, r2⟩ := lw_arrB (hts _ (inr_11 _ (List.mem_of_getElem? (i := 7) rfl)))
  obtain ⟨y3, a3, r3⟩ := lw_arrS (hts _ (inr_11 _ (List.mem_of_getElem? (i := 12) rfl)))
  have o4 := hts0 _ (List.mem_append_right _ (List.mem_append_left _ (List.mem_of_getElem? (i := 30) rfl)))
  obtain ⟨y4, a4, r4⟩ := lw_arrQ o4
  have o5 := hts0 _ (List.mem_append_right _ (List.mem_append_left _ (List.mem_of_getElem? (i := 80) rfl)))
  obtain ⟨y5, a5, r5⟩ := lw_arrQ o5
  obtain ⟨y6, e6, t6⟩ := va_Tof (tm := .static RX0 "ABOVE" "[I") (ty := .int) (N := 8) (f := fun j => .int (tAbove j)) (A := fun q : Nat => s.heap.size ≤ q) (by decide) (hs _ (List.mem_of_getElem? (i := 45) rfl)) (va_eqt (hs _ (List.mem_of_getElem? (i := 46) rfl))) (fun j hj => by
    rcases (by omega : j = 0 ∨ j = 1 ∨ j = 2 ∨ j = 3 ∨ j = 4 ∨ j = 5 ∨ j = 6 ∨ j = 7) with rfl | rfl | rfl | rfl | rfl | rfl | rfl | rfl
    · exact va_eqt (hs _ (List.mem_of_getElem? (i := 47) rfl))
    · exact va_eqt (hs _ (List.mem_of_getElem? (i := 48) rfl))
    · exact va_eqt (hs _ (List.mem_of_getElem? (i := 49) rfl))
    · exact va_eqt (hs _ (List.mem_of_getElem? (i := 50) rfl))
    · exact va_eqt (hs _ (List.mem_of_getElem? (i := 51) rfl))
    · exact va_eqt (hs _ (List.mem_of_getElem? (i := 52) rfl))
    · exact va_eqt (hs _ (List.mem_of_getElem? (i := 53) rfl))
    · exact va_eqt (hs _ (List.mem_of_getElem? (i := 54) rfl))
    ) hA
  obtain ⟨y7, e7, t7⟩ := va_Tof (tm := .static RX0 "OWN_BODY" "[I") (ty := .int) (N := 32) (f := fun j => .int (tOwn j)) (A := fun q : Nat => s.heap.size ≤ q) (by decide) (hs _ (List.mem_of_getElem? (i := 10) rfl)) (va_eqt (hs _ (List.mem_of_getElem? (i := 11) rfl))) (fun j hj => by
    rcases (by omega : j = 0 ∨ j = 1 ∨ j = 2 ∨ j = 3 ∨ j = 4 ∨ j = 5 ∨ j = 6 ∨ j = 7 ∨ j = 8 ∨ j = 9 ∨ j = 10 ∨ j = 11 ∨ j = 12 ∨ j = 13 ∨ j = 14 ∨ j = 15 ∨ j = 16 ∨ j = 17 ∨ j = 18 ∨ j = 19 ∨ j = 20 ∨ j = 21 ∨ j = 22 ∨ j = 23 ∨ j = 24 ∨ j = 25 ∨ j = 26 ∨ j = 27 ∨ j = 28 ∨ j = 29 ∨ j = 30 ∨ j = 31) with rfl | rfl | rfl | rfl | rfl | rfl | rfl | rfl | rfl | rfl | rfl | rfl | rfl | rfl | rfl | rfl | rfl | rfl | rfl | rfl | rfl | rfl | rfl | rfl | rfl | rfl | rfl | rfl | rfl | rfl | rfl | rfl
    · exact va_eqt (hs _ (List.mem_of_getElem? (i := 12) rfl))
    · exact va_eqt (hs _ (List.mem_of_getElem? (i := 13) rfl))
    · exact va_eqt (hs _ (List.mem_of_getElem? (i := 14) rfl))
    · exact va_eqt (hs _ (List.mem_of_getElem? (i := 15) rfl))
    · exact va_eqt (hs _ (List.mem_of_getElem? (i := 16) rfl))
    · exact va_eqt (hs _ (List.mem_of_getElem? (i := 17) rfl))
    · exact va_eqt (hs _ (List.mem_of_getElem? (i := 18) rfl))
    · exact va_eqt (hs _ (List.mem_of_getElem? (i := 19) rfl))
    · exact va_eqt (hs _ (List.mem_of_getElem? (i := 20) rfl))
    · exact va_eqt (hs _ (List.mem_of_getElem? (i := 21) rfl))
    · exact va_eqt (hs _ (List.mem_of_getElem? (i := 22) rfl))
    · exact va_eqt (hs _ (List.mem_of_getElem? (i := 23) rfl))
    · exact va_eqt (hs _ (List.mem_of_getElem? (i := 24) rfl))
    · exact va_eqt (hs _ (List.mem_of_getElem? (i := 25) rfl))
    · exact va_eqt (hs _ (List.mem_of_getElem? (i := 26) rfl))
    · exact va_eqt (hs _ (List.mem_of_getElem? (i := 27) rfl))
    · exact va_eqt (hs _ (List.mem_of_getElem? (i := 28) rfl))
    · exact va_eqt (hs _ (List.mem_of_getElem? (i := 29) rfl))
    · exact va_eqt (hs _ (List.mem_of_getElem? (i := 30) rfl))
    · exact va_eqt (hs _ (List.mem_of_getElem? (i := 31) rfl))
    · exact va_eqt (hs _ (List.mem_of_getElem? (i := 32) rfl))
    · exact va_eqt (hs _ (List.mem_of_getElem? (i := 33) rfl))
    · exact va_eqt (hs _ (List.mem_of_getElem? (i := 34) rfl))
    · exact va_eqt (hs _ (List.mem_of_getElem? (i := 35) rfl))
    · exact va_eqt (hs _ (List.mem_of_getElem? (i := 36) rfl))
    · exact va_eqt (hs _ (List.mem_of_getElem? (i := 37) rfl))
    · exact va_eqt (hs _ (List.mem_of_getElem? (i := 38) rfl))
    · exact va_eqt (hs _ (List.mem_of_getElem? (i := 39) rfl))
    · exact va_eqt (hs _ (List.mem_of_getElem? (i := 40) rfl))
    · exact va_eqt (hs _ (List.mem_of_getElem? (i := 41) rfl))
    · exact va_eqt (hs _ (List.mem_of_getElem? (i := 42) rfl))
    · exact va_eqt (hs _ (List.mem_of_getElem? (i := 43) rfl))
    ) hA
  obtain ⟨y8, y9, hS, hSe⟩ := vk_Sof (args := #[Value.ref b]) (s := s) (N := 1) (tm := fun _ => .string "TuneAndWords" 82) (len := [15]) (byt := [frB]) (A := fun q : Nat => s.heap.size ≤ q) (fun i hi => by have e0 : i = 0 := (by omega); subst e0; decide) (fun i _ => (hs _ (List.mem_of_getElem? (i := 77) rfl))) (fun i _ => (hs _ (List.mem_of_getElem? (i := 78) rfl))) (fun i _ => (hs _ (List.mem_of_getElem? (i := 79) rfl))) (fun i hi => by
    obtain rfl : i = 0 := by omega
    exact (hs _ (List.mem_of_getElem? (i := 80) rfl))) (fun i hi j hj => by
    obtain rfl : i = 0 := by omega
    have hj2 : j < 15 := hj
    rcases (by omega : j = 0 ∨ j = 1 ∨ j = 2 ∨ j = 3 ∨ j = 4 ∨ j = 5 ∨ j = 6 ∨ j = 7 ∨ j = 8 ∨ j = 9 ∨ j = 10 ∨ j = 11 ∨ j = 12 ∨ j = 13 ∨ j = 14) with rfl | rfl | rfl | rfl | rfl | rfl | rfl | rfl | rfl | rfl | rfl | rfl | rfl | rfl | rfl
    · exact (hs _ (List.mem_of_getElem? (i := 81) rfl))
    · exact (hs _ (List.mem_of_getElem? (i := 82) rfl))
    · exact (hs _ (List.mem_of_getElem? (i := 83) rfl))
    · exact (hs _ (List.mem_of_getElem? (i := 84) rfl))
    · exact (hs _ (List.mem_of_getElem? (i := 85) rfl))
    · exact (hs _ (List.mem_of_getElem? (i := 86) rfl))
    · exact (hs _ (List.mem_of_getElem? (i := 87) rfl))
    · exact (hs _ (List.mem_of_getElem? (i := 88) rfl))
    · exact (hs _ (List.mem_of_getElem? (i := 89) rfl))
    · exact (hs _ (List.mem_of_getElem? (i := 90) rfl))
    · exact (hs _ (List.mem_of_getElem? (i := 91) rfl))
    · exact (hs _ (List.mem_of_getElem? (i := 92) rfl))
    · exact (hs _ (List.mem_of_getElem? (i := 93) rfl))
    · exact (hs _ (List.mem_of_getElem? (i := 94) rfl))
    · exact (hs _ (List.mem_of_getElem? (i := 95) rfl))
    ) (fun i j hi hj hij => absurd (by omega) hij) hA
  refine ⟨D, (fun k => if k = 0 then y0 else if k = 1 then y1 else if k = 2 then y2 else if k = 3 then y3 else if k = 4 then y4 else if k = 5 then y5 else if k = 6 then y6 else if k = 7 then y7 else if k = 8 then y8 0 else y9 0), ⟨⟨hKn, ?_⟩, ?_, ?_, ?_, ?_⟩, ?_, t6, ?_, t7, ?_, ?_, ?_⟩
  · intro k q hq
    match k, hq with
    | 0, hq => cases hq; exact ⟨a0, r0⟩
    | 1, hq => cases hq; exact ⟨a1, r1⟩
    | 2, hq => cases hq; exact ⟨a2, r2⟩
    | 3, hq => cases hq; exact ⟨a3, r3⟩
    | 4, hq => cases hq; exact ⟨a4, r4⟩
    | 5, hq => cases hq; exact ⟨a5, r5⟩
    | k + 6, hq => simp [tyL] at hq
  · intro q hq
    exact va_Nw.of rfl (hts0 _ (nw_in q hq))
  · exact vk_R.of (hts0 _ (List.mem_append_right _ (List.mem_append_right _ (List.mem_append_left _ (List.mem_of_getElem? (i := 12) rfl))))) (hSe 0 (by decide))
  · exact va_AO.of o4
  · exact va_AO.of o5
  · exact va_Zref (hts0 _ (List.mem_append_right _ (List.mem_append_right _ (List.mem_append_right _ (List.mem_append_right _ (List.mem_append_left _ (List.mem_of_getElem? (i := 234) rfl))))))) (hts0 _ (List.mem_append_right _ (List.mem_append_left _ (List.mem_of_getElem? (i := 3) rfl)))) e6 hA
  · exact va_Zref (hts0 _ (List.mem_append_right _ (List.mem_append_right _ (List.mem_append_right _ (List.mem_append_right _ (List.mem_append_left _ (List.mem_of_getElem? (i := 229) rfl))))))) (hts0 _ (List.mem_append_right _ (List.mem_append_left _ (List.mem_of_getElem? (i := 3) rfl)))) e7 hA
  · exact va_Zof (hts0 _ (List.mem_append_right _ (List.mem_append_right _ (List.mem_append_left _ (List.mem_of_getElem? (i := 22) rfl))))) (hts0 _ (List.mem_append_right _ (List.mem_append_left _ (List.mem_of_getElem? (i := 11) rfl)))) (va_eqt (hs _ (List.mem_of_getElem? (i := 4) rfl))) hA
  · exact va_Zqof (hts0 _ (List.mem_append_right _ (List.mem_append_right _ (List.mem_append_left _ (List.mem_of_getElem? (i := 38) rfl))))) (hts0 _ (List.mem_append_right _ (List.mem_append_left _ (List.mem_of_getElem? (i := 13) rfl)))) (hs _ (List.mem_of_getElem? (i := 5) rfl)) hA
  · exact ⟨fun i hi => by
      obtain rfl : i = 0 := by omega
      exact hS.1 0 (by decide), fun i j hi hj _ => by omega⟩
