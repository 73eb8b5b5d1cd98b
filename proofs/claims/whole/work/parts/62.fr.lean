
/-! ===== a method's contract on a wider world, its cells in any order ===== -/
theorem Mg_fr {l : Launch} {y : MethodName} {wsy : List Cond} {rm : Room} {D : va_G} {Y : Nat → ClassId} {wc wr W : va_W} {av : List Value} {mc ms : Nat} {post post' : Option Value → va_W → Prop} (hM : Mg l y wsy rm D Y wc av mc ms post) (isC isR : List Nat) (hC : isC.map (fun i => W[i]?) = wc.map some) (hR : isR.map (fun i => W[i]?) = wr.map some) (hnC : va_nd isC = true) (hnR : va_nd isR = true) (hdis : ∀ i ∈ isR, i ∉ isC) (hpost : ∀ v w1, post v w1 → ∃ w', post' v w' ∧ ∃ is : List Nat, va_nd is = true ∧ is.map (fun i => (wr ++ w1)[i]?) = w'.map some) : Mg l y wsy rm D Y W av mc ms post' := by
  intro sz
  have hsub : ∀ q, va_A wc sz q → va_A W sz q := by
    intro q h
    rcases h with ⟨k, e, h⟩ | h
    · have h1 : (isC.map (fun i => W[i]?))[k]? = some (some (q, e)) := by rw [hC, List.getElem?_map, h]; rfl
      rw [List.getElem?_map] at h1
      cases hi : isC[k]? with
      | none => rw [hi] at h1; cases h1
      | some i => rw [hi] at h1; exact Or.inl ⟨i, e, Option.some.inj h1⟩
    · exact Or.inr h
  refine MetFree.mono (hM sz) (fun a s hP' => ?_) (fun _ _ _ _ _ h => h) (fun a s o t hP' hQ => ?_)
  · obtain ⟨ha, hsz, hPW, hK, hDW, hSX⟩ := hP'
    refine ⟨ha, hsz, ?_, hK, hDW.sub isC hnC hC, hSX.narrow hsub⟩
    intro i q hq
    have h1 : (isC.map (fun i => W[i]?))[i]? = some (some q) := by rw [hC, List.getElem?_map, hq]; rfl
    rw [List.getElem?_map] at h1
    cases hi : isC[i]? with
    | none => rw [hi] at h1; cases h1
    | some j => rw [hi] at h1; exact hPW j q (Option.some.inj h1)
  · obtain ⟨ha, hsz, hPW, hK, hDW, hSX⟩ := hP'
    obtain ⟨⟨⟨v, w1, ho, hp, hP1, hD1⟩, hF⟩, L, hFE, hL⟩ := hQ
    obtain ⟨w', hp', is, hn, his⟩ := hpost v w1 hp
    subst hsz
    obtain ⟨hPj, hDj⟩ := va_join hPW hDW.self isC isR hC hR hnR hdis hF.2 hsub hP1 hD1
    refine ⟨⟨⟨v, w', ho, hp', ?_, hDj.sub is hn his⟩, hF.1, fun q h1 h2 => hF.2 q h1 (fun z => h2 (hsub q z))⟩, L, hFE, fun q hq => hsub _ (hL q hq)⟩
    intro i q hq
    have h1 : (is.map (fun i => (wr ++ w1)[i]?))[i]? = some (some q) := by rw [his, List.getElem?_map, hq]; rfl
    rw [List.getElem?_map] at h1
    cases hi : is[i]? with
    | none => rw [hi] at h1; cases h1
    | some j => rw [hi] at h1; exact hPj j q (Option.some.inj h1)
/-- a world with some of its cells as w1 has them -/
def mrg : List (Option Nat) → va_W → va_W → va_W
  | none :: s, c :: W, w1 => c :: mrg s W w1
  | some j :: s, c :: W, w1 => (match w1[j]? with | some q => q | none => c) :: mrg s W w1
  | _, _, _ => []
theorem mrg_at : ∀ (s : List (Option Nat)) (W w1 : va_W) (i : Nat) (q : Nat × va_E), (mrg s W w1)[i]? = some q → (s[i]? = some none ∧ W[i]? = some q) ∨ ∃ j c, s[i]? = some (some j) ∧ W[i]? = some c ∧ (w1[j]? = some q ∨ w1[j]? = none)
  | none :: s, c :: W, w1, 0, q, h => Or.inl ⟨rfl, h⟩
  | none :: s, c :: W, w1, i + 1, q, h => mrg_at s W w1 i q h
  | some j :: s, c :: W, w1, 0, q, h => by
    refine Or.inr ⟨j, c, rfl, rfl, ?_⟩
    have h' : some (match w1[j]? with | some q => q | none => c) = some q := h
    cases e : w1[j]? with
    | none => exact Or.inr rfl
    | some q' => rw [e] at h'; injection h' with h'; exact Or.inl (congrArg some (show q' = q from h'))
  | some j :: s, c :: W, w1, i + 1, q, h => mrg_at s W w1 i q h
  | [], W, w1, i, q, h => by cases h
  | none :: s, [], w1, i, q, h => by cases h
  | some j :: s, [], w1, i, q, h => by cases h
def mkOK (isC : List Nat) : Nat → List (Option Nat) → Bool
  | _, [] => true
  | n, none :: s => !isC.contains n && mkOK isC (n + 1) s
  | n, some j :: s => isC[j]? == some n && mkOK isC (n + 1) s
theorem mkOK_at {isC : List Nat} : ∀ (n : Nat) (s : List (Option Nat)), mkOK isC n s = true → ∀ i, (s[i]? = some none → n + i ∉ isC) ∧ ∀ j, s[i]? = some (some j) → isC[j]? = some (n + i)
  | n, [], h, i => ⟨fun q => (by cases q), fun j q => (by cases q)⟩
  | n, none :: s, h, i => by
    have h' : (!isC.contains n && mkOK isC (n + 1) s) = true := h
    rw [Bool.and_eq_true] at h'
    cases i with
    | zero => exact ⟨fun _ => (by have := h'.1; simpa using this), fun j q => (by cases q)⟩
    | succ i =>
      have := mkOK_at (n + 1) s h'.2 i
      rw [show n + (i + 1) = n + 1 + i by omega]; exact this
  | n, some j0 :: s, h, i => by
    have h' : (isC[j0]? == some n && mkOK isC (n + 1) s) = true := h
    rw [Bool.and_eq_true] at h'
    cases i with
    | zero => exact ⟨fun q => (by cases q), fun j q => (by cases q; exact eq_of_beq h'.1)⟩
    | succ i =>
      have := mkOK_at (n + 1) s h'.2 i
      rw [show n + (i + 1) = n + 1 + i by omega]; exact this
/-- the same, told by a mask: which of the world's cells are the method's, and which of its cells they are -/
theorem Mg_mg {l : Launch} {y : MethodName} {wsy : List Cond} {rm : Room} {D : va_G} {Y : Nat → ClassId} {wc W : va_W} {av : List Value} {mc ms : Nat} {post post' : Option Value → va_W → Prop} (hM : Mg l y wsy rm D Y wc av mc ms post) (isC : List Nat) (mask : List (Option Nat)) (hC : isC.map (fun i => W[i]?) = wc.map some) (hnC : va_nd isC = true) (hm : mkOK isC 0 mask = true) (hpost : ∀ v w1, post v w1 → ∃ w', post' v w' ∧ w' = mrg mask W w1 ∧ isC.length ≤ w1.length) : Mg l y wsy rm D Y W av mc ms post' := by
  intro sz
  have hsub : ∀ q, va_A wc sz q → va_A W sz q := by
    intro q h
    rcases h with ⟨k, e, h⟩ | h
    · have h1 : (isC.map (fun i => W[i]?))[k]? = some (some (q, e)) := by rw [hC, List.getElem?_map, h]; rfl
      rw [List.getElem?_map] at h1
      cases hi : isC[k]? with
      | none => rw [hi] at h1; cases h1
      | some i => rw [hi] at h1; exact Or.inl ⟨i, e, Option.some.inj h1⟩
    · exact Or.inr h
  refine MetFree.mono (hM sz) (fun a s hP' => ?_) (fun _ _ _ _ _ h => h) (fun a s o t hP' hQ => ?_)
  · obtain ⟨ha, hsz, hPW, hK, hDW, hSX⟩ := hP'
    refine ⟨ha, hsz, ?_, hK, hDW.sub isC hnC hC, hSX.narrow hsub⟩
    intro i q hq
    have h1 : (isC.map (fun i => W[i]?))[i]? = some (some q) := by rw [hC, List.getElem?_map, hq]; rfl
    rw [List.getElem?_map] at h1
    cases hi : isC[i]? with
    | none => rw [hi] at h1; cases h1
    | some j => rw [hi] at h1; exact hPW j q (Option.some.inj h1)
  · obtain ⟨ha, hsz, hPW, hK, hDW, hSX⟩ := hP'
    obtain ⟨⟨⟨v, w1, ho, hp, hP1, hD1⟩, hF⟩, L, hFE, hL⟩ := hQ
    obtain ⟨w', hp', rfl, hlen⟩ := hpost v w1 hp
    subst hsz
    have hat : ∀ (i : Nat) (q : Nat × va_E), (mrg mask W w1)[i]? = some q → (i ∉ isC ∧ W[i]? = some q) ∨ ∃ j : Nat, isC[j]? = some i ∧ w1[j]? = some q := by
      intro i q hq
      have hk := mkOK_at 0 mask hm i
      rw [Nat.zero_add] at hk
      rcases mrg_at mask W w1 i q hq with ⟨h1, h2⟩ | ⟨j, c, h1, _, h3⟩
      · exact Or.inl ⟨hk.1 h1, h2⟩
      · have h4 := hk.2 j h1
        have hj : j < isC.length := (List.getElem?_eq_some_iff.mp h4).1
        refine Or.inr ⟨j, h4, h3.resolve_right fun h5 => ?_⟩
        have := List.getElem?_eq_none_iff.mp h5
        omega
    have apart : ∀ (i : Nat) (q : Nat × va_E), i ∉ isC → W[i]? = some q → q.1 < s.heap.size ∧ ¬ va_A wc s.heap.size q.1 := by
      intro i q hi hq
      have hl := (hPW i q hq).lt
      refine ⟨hl, fun h => ?_⟩
      rcases h with ⟨k2, e, h⟩ | h
      · have h1 : (isC.map (fun i => W[i]?))[k2]? = some (some (q.1, e)) := by rw [hC, List.getElem?_map, h]; rfl
        rw [List.getElem?_map] at h1
        cases hj : isC[k2]? with
        | none => rw [hj] at h1; cases h1
        | some j =>
          rw [hj] at h1
          have hij := hDW.1 i j q (q.1, e) hq (Option.some.inj h1) rfl
          subst hij
          exact hi (List.mem_of_getElem? hj)
      · omega
    refine ⟨⟨⟨v, mrg mask W w1, ho, hp', ?_, ?_, ?_⟩, hF.1, fun q h1 h2 => hF.2 q h1 (fun z => h2 (hsub q z))⟩, L, hFE, fun q hq => hsub _ (hL q hq)⟩
    · intro i q hq
      rcases hat i q hq with ⟨h1, h2⟩ | ⟨j, _, h2⟩
      · obtain ⟨g1, g2⟩ := apart i q h1 h2
        exact (hPW i q h2).kept (hF.2 q.1 g1 g2)
      · exact hP1 j q h2
    · intro i j p q hp hq hpq
      rcases hat i p hp with ⟨h1, h2⟩ | ⟨a, h1, h2⟩
      · rcases hat j q hq with ⟨g1, g2⟩ | ⟨b, g1, g2⟩
        · exact hDW.1 i j p q h2 g2 hpq
        · exact absurd (hpq ▸ hD1.2 b q g2) (apart i p h1 h2).2
      · rcases hat j q hq with ⟨g1, g2⟩ | ⟨b, g1, g2⟩
        · exact absurd (hpq ▸ hD1.2 a p h2) (apart j q g1 g2).2
        · have := hD1.1 a b p q h2 g2 hpq
          subst this
          rw [h1] at g1; exact Option.some.inj g1
    · intro i q hq
      rcases hat i q hq with ⟨_, h2⟩ | ⟨j, _, h2⟩
      · exact va_A.in h2
      · exact hsub _ (hD1.2 j q h2)
