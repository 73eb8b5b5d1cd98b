
/-! ===== a contract on its world beside another one ===== -/
theorem nd_of : ∀ (l : List Nat), (∀ i j a : Nat, l[i]? = some a → l[j]? = some a → i = j) → va_nd l = true
  | [], _ => rfl
  | b :: l, h => by
    simp only [va_nd, Bool.and_eq_true, decide_eq_true_eq]
    refine ⟨fun hm => ?_, nd_of l (fun i j a h1 h2 => ?_)⟩
    · obtain ⟨i, hi⟩ := List.getElem?_of_mem hm
      have := h 0 (i + 1) b (by rw [List.getElem?_cons_zero]) (by rw [List.getElem?_cons_succ]; exact hi)
      omega
    · have := h (i + 1) (j + 1) a (by rw [List.getElem?_cons_succ]; exact h1) (by rw [List.getElem?_cons_succ]; exact h2)
      omega
def rg (a n : Nat) : List Nat := (List.range n).map (fun i => a + i)
theorem rg_len (a n : Nat) : (rg a n).length = n := by unfold rg; rw [List.length_map, List.length_range]
theorem rg_get {a n i : Nat} (h : i < n) : (rg a n)[i]? = some (a + i) := by unfold rg; rw [List.getElem?_map, List.getElem?_range h]; rfl
theorem rg_none {a n i : Nat} (h : n ≤ i) : (rg a n)[i]? = none := List.getElem?_eq_none (by rw [rg_len]; exact h)
theorem rg_at {a n i x : Nat} (h : (rg a n)[i]? = some x) : i < n ∧ x = a + i := by
  by_cases hi : i < n
  · rw [rg_get hi] at h; exact ⟨hi, (Option.some.inj h).symm⟩
  · rw [rg_none (Nat.not_lt.mp hi)] at h; cases h
theorem rg_mem {a n x : Nat} (h : x ∈ rg a n) : a ≤ x ∧ x < a + n := by
  obtain ⟨i, hi⟩ := List.getElem?_of_mem h
  have := rg_at hi
  omega
theorem nd_rg (a n : Nat) : va_nd (rg a n) = true := nd_of _ fun i j x h1 h2 => by
  have q1 := rg_at h1
  have q2 := rg_at h2
  omega
theorem rg2_at {a n b m i x : Nat} (h : (rg a n ++ rg b m)[i]? = some x) : (i < n ∧ x = a + i) ∨ (n ≤ i ∧ i - n < m ∧ x = b + (i - n)) := by
  by_cases hi : i < n
  · rw [List.getElem?_append_left (by rw [rg_len]; exact hi)] at h
    exact Or.inl (rg_at h)
  · rw [List.getElem?_append_right (by rw [rg_len]; omega), rg_len] at h
    exact Or.inr ⟨by omega, rg_at h⟩
theorem nd_rg2 {a n b m : Nat} (hd : a + n ≤ b ∨ b + m ≤ a) : va_nd (rg a n ++ rg b m) = true := nd_of _ fun i j x h1 h2 => by
  rcases rg2_at h1 with q1 | q1 <;> rcases rg2_at h2 with q2 | q2 <;> omega
theorem rg_map {a n : Nat} {W wc : va_W} (hn : n = wc.length) (h : ∀ i, i < n → W[a + i]? = wc[i]?) : (rg a n).map (fun i => W[i]?) = wc.map some := by
  subst hn
  refine List.ext_getElem? fun i => ?_
  rw [List.getElem?_map, List.getElem?_map]
  by_cases hi : i < wc.length
  · rw [rg_get hi, Option.map_some, h i hi, List.getElem?_eq_getElem hi, Option.map_some]
  · rw [rg_none (Nat.not_lt.mp hi), List.getElem?_eq_none (Nat.not_lt.mp hi)]; rfl
theorem Mg_lft {l : Launch} {y : MethodName} {wsy : List Cond} {rm : Room} {D : va_G} {Y : Nat → ClassId} {W : va_W} {av : List Value} {mc ms : Nat} {post : Option Value → va_W → Prop} (hM : Mg l y wsy rm D Y W av mc ms post) (W2 : va_W) : Mg l y wsy rm D Y (W ++ W2) av mc ms (fun v w => ∃ w1, w = w1 ++ W2 ∧ post v w1) := by
  refine Mg_fr (wr := W2) hM (rg 0 W.length) (rg W.length W2.length) (rg_map rfl fun i hi => ?_) (rg_map rfl fun i hi => ?_) (nd_rg _ _) (nd_rg _ _) (fun i h1 h2 => ?_) (fun v w1 h => ⟨w1 ++ W2, ⟨w1, rfl, h⟩, rg W2.length w1.length ++ rg 0 W2.length, nd_rg2 (Or.inr (by omega)), ?_⟩)
  · rw [Nat.zero_add, List.getElem?_append_left hi]
  · rw [List.getElem?_append_right (by omega), Nat.add_sub_cancel_left]
  · have q1 := rg_mem h1
    have q2 := rg_mem h2
    omega
  · rw [List.map_append, List.map_append, rg_map (wc := w1) rfl (fun i hi => by rw [List.getElem?_append_right (by omega), Nat.add_sub_cancel_left]), rg_map (wc := W2) rfl (fun i hi => by rw [Nat.zero_add, List.getElem?_append_left hi])]
theorem Mg_rgt {l : Launch} {y : MethodName} {wsy : List Cond} {rm : Room} {D : va_G} {Y : Nat → ClassId} {W : va_W} {av : List Value} {mc ms : Nat} {post : Option Value → va_W → Prop} (hM : Mg l y wsy rm D Y W av mc ms post) (W2 : va_W) : Mg l y wsy rm D Y (W2 ++ W) av mc ms (fun v w => ∃ w1, w = W2 ++ w1 ∧ post v w1) := by
  refine Mg_fr (wr := W2) hM (rg W2.length W.length) (rg 0 W2.length) (rg_map rfl fun i hi => ?_) (rg_map rfl fun i hi => ?_) (nd_rg _ _) (nd_rg _ _) (fun i h1 h2 => ?_) (fun v w1 h => ⟨W2 ++ w1, ⟨w1, rfl, h⟩, rg 0 (W2 ++ w1).length, nd_rg _ _, ?_⟩)
  · rw [List.getElem?_append_right (by omega), Nat.add_sub_cancel_left]
  · rw [Nat.zero_add, List.getElem?_append_left hi]
  · have q1 := rg_mem h1
    have q2 := rg_mem h2
    omega
  · exact rg_map rfl (fun i _ => by rw [Nat.zero_add])
theorem app_at (w1 W : va_W) : (w1 ++ W)[w1.length]? = W[0]? := by rw [List.getElem?_append_right (Nat.le_refl _), Nat.sub_self]
section VC
variable {p : Program} {l : Launch} {e : Env} {R : Room} {s : State} {m : MethodId} {args : Array Value} {below : List Frame} {meth : Method} {c : Code} {k n : Nat} {Q : State → Prop}
variable {cc : ByteArray} {nL : Nat} {own : String} {Ts : List Cond} {D : va_G} {Y : Nat → ClassId} {A : Nat → Prop}
variable {pc : Nat} {ls : List (Nat × Value)} {st : List Value} {ws : va_W}
theorem V_callW (X : Vx p s m args meth c cc nL own Ts D Y A) {y : MethodName} {bytes : ByteArray} {maxL : Nat} {ret : Option FieldType} {wsy wsy' : List Cond} {rm : Room} {index : Nat} {As : List Value} {post : Option Value → va_W → Prop} {C : String} {b : Nat} (hM : Mg l y wsy rm D Y ws (.ref b :: As) 0 0 post) (nA : Nat) (hT : GoodIn Ts (wsV own index C y wsy)) (hw : wsy = .code y bytes maxL ret :: wsy') (hd : y.cls = C ∧ y.cls ≠ "java/lang/invoke/MethodHandle" ∧ y.cls ≠ "java/lang/invoke/VarHandle" ∧ (parseMethodDescriptor y.desc).map (fun d => d.parameters.length) = some nA) (hrm : rm.cells = 0 ∧ rm.slots = 0) (hR : rm.frames + 1 ≤ R.frames ∧ 8 + (maxL + 11) + rm.locals ≤ R.locals) {ci : Nat} {q : vw_C} {fs : List Value} (hc : vwCl[ci]? = some q) (hq : q.1 = C) (qb : Nat) (hqb : ws[qb]? = some (b, .inr (ci, fs))) (hnA : As.length = nA) {st0 : List Value} (hst : st0 = As.reverse ++ .ref b :: st) (hW8 : (st.map fun v => v.category).sum ≤ 8) (hf : k ≤ R.cells ∧ n ≤ R.slots) (hdg : decode cc pc = .ok (.invokevirtual index, 3)) (kk : ∀ (v : Option Value) (w1 : va_W), post v w1 → Vj p l e R s m args below meth c nL D A k n Q (pc + 3) ls (v.toList ++ st) w1) : Vj p l e R s m args below meth c nL D A k n Q pc ls st0 ws :=
  V_callV (wr := []) X hM nA hT hw hd hrm hR (rg 0 ws.length) [] (rg_map rfl (fun i _ => by rw [Nat.zero_add])) rfl (nd_rg _ _) rfl (fun i h => absurd h List.not_mem_nil) hc hq qb hqb hnA hst hW8 hf hdg kk
theorem V_sld (X : Vx p s m args meth c cc nL own Ts D Y A) {b L : Nat} {xs : Nat → Int32} (hX : va_X b L xs s s.heap) (hbl : b < s.heap.size) (hbA : ¬ A b) {i : Int32} {K : Nat} (hi : i.toInt = (K : Int)) (hK : K < L) (hdg : decode cc pc = .ok (.iaload, 1)) (kk : Vj p l e R s m args below meth c nL D A k n Q (pc + 1) ls (.int (xs K) :: st) ws) : Vj p l e R s m args below meth c nL D A k n Q pc ls (.int i :: .ref b :: st) ws := fun H locs la hP hD hS hl => va_sld X.1.1 X.1.2.1 hX hbl hbA hS (ix_in hi hK) hdg (by rw [ix_cl hi]; exact kk H locs la hP hD hS hl)
theorem V_xlen (X : Vx p s m args meth c cc nL own Ts D Y A) {b L : Nat} {xs : Nat → Int32} (hX : va_X b L xs s s.heap) (hbl : b < s.heap.size) (hbA : ¬ A b) (hdg : decode cc pc = .ok (.arraylength, 1)) (kk : Vj p l e R s m args below meth c nL D A k n Q (pc + 1) ls (.int (Int32.ofNat L) :: st) ws) : Vj p l e R s m args below meth c nL D A k n Q pc ls (.ref b :: st) ws := fun H locs la hP hD hS hl => va_slen X.1.1 X.1.2.1 hX hbl hbA hS hdg (kk H locs la hP hD hS hl)
theorem L_arg (X : Vx p s m args meth c cc nL own Ts D Y A) {b L : Nat} {xs : Nat → Int32} (hX : va_X b L xs s s.heap) (hbl : b < s.heap.size) (hbA : ¬ A b) {iv : Int32} {K : Nat} (hi : iv.toInt = (K : Int)) (hL : L ≤ 3072) {ls : List (Nat × Value)} (h3 : ls[0]? = some (3, .int iv)) (h0 : ls[3]? = some (0, .ref b)) (q : Nat) (hq : q < 6) (hK : K + q < L) (d0 : decode cc pc = .ok (.aload_n 0, 1)) (d1 : decode cc (pc + 1) = .ok (.iload_n 3, 1)) (d2 : decode cc (pc + 2) = .ok (.iconst (q : Int), 1)) (d3 : decode cc (pc + 3) = .ok (.iadd, 1)) (d4 : decode cc (pc + 4) = .ok (.iaload, 1)) (kk : Vj p l e R s m args below meth c nL D A k n Q (pc + 5) ls (.int (xs (K + q)) :: st) ws) : Vj p l e R s m args below meth c nL D A k n Q pc ls st ws := by
  refine V_aload_n X 3 h0 d0 ?_
  refine V_iload_n X 0 h3 d1 ?_
  refine V_iconst (v := Int32.ofInt (q : Int)) X rfl d2 ?_
  have hq2 : (Int32.ofInt (q : Int)).toInt = (q : Int) := by
    rw [Int32.toInt_ofInt]; exact tI_bm (by omega) (by omega)
  refine V_iaddZ X hi hq2 (by omega) (by omega) d3 (fun v _ hv => ?_)
  exact V_sld X hX hbl hbA (K := K + q) (by omega) hK d4 kk
end VC
theorem cat2 (v : Option Value) : ((v.toList ++ ([] : List Value)).map fun v => v.category).sum ≤ 8 := by
  cases v with
  | none => exact Nat.zero_le _
  | some v => cases v <;> exact Nat.le_of_ble_eq_true rfl
theorem cat2' (v : Option Value) : (v.toList.map fun v => v.category).sum ≤ 8 := by
  cases v with
  | none => exact Nat.zero_le _
  | some v => cases v <;> exact Nat.le_of_ble_eq_true rfl
