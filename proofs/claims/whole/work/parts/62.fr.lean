
/-! ===== a method's contract on a wider world, its cells in any order ===== -/
theorem Mg_fr {l : Launch} {y : MethodName} {wsy : List Cond} {rm : Room} {D : va_G} {Y : Nat → ClassId} {wc wr W : va_W} {av : List Value} {mc ms : Nat} {post post' : Option Value → va_W → Prop} (hM : Mg l y wsy rm D Y wc av mc ms post) (isC isR : List Nat) (hC : isC.map (fun i => W[i]?) = wc.map some) (hR : isR.map (fun i => W[i]?) = wr.map some) (hnC : va_nd isC = true) (hnR : va_nd isR = true) (hdis : ∀ i ∈ isR, i ∉ isC) (hpost : ∀ v w1, post v w1 → ∃ w', post' v w' ∧ ∃ is : List Nat, va_nd is = true ∧ is.map (fun i => (wr ++ w1)[i]?) = w'.map some) : Mg l y wsy rm D Y W av mc ms post' := by
  intro sz
  have hsub : ∀ q, va_A wc sz q → va_A W sz q := by
    intro q h
    rcases h with ⟨k, e, h⟩ | h
    · have h1 : (isC.map (fun i => W[i]?))[k]? = some (some (q, e)) := by rw [hC, List.getElem?_map, h]; rfl
      rw [List.getElem?_map] at h1
      cases hi : isC[k]? with
      | none => rw [hi] at h1; cases h1
      | some i => rw [hi] at h1; exact Or.inl ⟨i, e, Option.some.inj h1⟩
    · exact Or.inr h
  refine MetFree.mono (hM sz) (fun a s hP' => ?_) (fun _ _ _ _ _ h => h) (fun a s o t hP' hQ => ?_)
  · obtain ⟨ha, hsz, hPW, hK, hDW, hSX⟩ := hP'
    refine ⟨ha, hsz, ?_, hK, hDW.sub isC hnC hC, hSX.narrow hsub⟩
    intro i q hq
    have h1 : (isC.map (fun i => W[i]?))[i]? = some (some q) := by rw [hC, List.getElem?_map, hq]; rfl
    rw [List.getElem?_map] at h1
    cases hi : isC[i]? with
    | none => rw [hi] at h1; cases h1
    | some j => rw [hi] at h1; exact hPW j q (Option.some.inj h1)
  · obtain ⟨ha, hsz, hPW, hK, hDW, hSX⟩ := hP'
    obtain ⟨⟨⟨v, w1, ho, hp, hP1, hD1⟩, hF⟩, L, hFE, hL⟩ := hQ
    obtain ⟨w', hp', is, hn, his⟩ := hpost v w1 hp
    subst hsz
    obtain ⟨hPj, hDj⟩ := va_join hPW hDW.self isC isR hC hR hnR hdis hF.2 hsub hP1 hD1
    refine ⟨⟨⟨v, w', ho, hp', ?_, hDj.sub is hn his⟩, hF.1, fun q h1 h2 => hF.2 q h1 (fun z => h2 (hsub q z))⟩, L, hFE, fun q hq => hsub _ (hL q hq)⟩
    intro i q hq
    have h1 : (is.map (fun i => (wr ++ w1)[i]?))[i]? = some (some q) := by rw [his, List.getElem?_map, hq]; rfl
    rw [List.getElem?_map] at h1
    cases hi : is[i]? with
    | none => rw [hi] at h1; cases h1
    | some j => rw [hi] at h1; exact hPj j q (Option.some.inj h1)
