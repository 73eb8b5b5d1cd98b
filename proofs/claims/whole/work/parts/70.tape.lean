
/-! ===== both sides: the TAPE ===== -/
/-- the reference's bytes are the class', with a sign -/
def TPR (fb f : Nat → Int32) (L : Nat) : Prop := ∀ j, j < L → 0 ≤ (fb j).toInt ∧ (fb j).toInt < 256 ∧ f j = vp_nar .byte ((fb j).toInt8.toInt32)
/-- what both see: no sign at all where the byte is none of ASCII, and behind the end -/
def tpC (fb : Nat → Int32) (L : Nat) : Nat → Int := fun j => if j < L ∧ (fb j).toInt < 128 then (fb j).toInt else -1
theorem byN {x z : Int32} (hz : z = x.toInt8.toInt32) (h0 : 128 ≤ x.toInt) (h1 : x.toInt < 256) : (vp_nar .byte z).toInt < 0 := by
  have e : x.toInt8.toInt32.toInt = x.toInt.bmod (2 ^ 8) := by rw [Int8.toInt_toInt32, Int32.toInt_toInt8]
  have e2 : x.toInt.bmod (2 ^ 8) = x.toInt - 256 := by
    rw [Int.bmod_def, if_neg] <;> omega
  have hzt : z.toInt = x.toInt - 256 := by rw [hz, e, e2]
  rw [vp_nar_byte, fb_byte (by omega) (by omega)]; omega
theorem TPR_X {fb f : Nat → Int32} {L : Nat} (h : TPR fb f L) : CHR fb L (tpC fb L) := by
  intro j
  refine ⟨fun hj => ?_, fun hj => ?_⟩
  · unfold tpC PK
    by_cases c : (fb j).toInt < 128
    · rw [if_pos ⟨hj, c⟩]; exact Or.inl rfl
    · rw [if_neg (fun q => c q.2)]; exact Or.inr ⟨rfl, by omega⟩
  · unfold tpC; rw [if_neg (fun q => absurd q.1 (by omega))]
theorem TPR_M {fb f : Nat → Int32} {L : Nat} (h : TPR fb f L) : MCHR f L (tpC fb L) := by
  intro j
  refine ⟨fun hj => ?_, fun hj => ?_⟩
  · obtain ⟨h0, h1, h2⟩ := h j hj
    unfold tpC
    by_cases c : (fb j).toInt < 128
    · rw [if_pos ⟨hj, c⟩, h2]; exact Or.inl (by8 rfl h0 c)
    · rw [if_neg (fun q => c q.2), h2]; exact Or.inr ⟨rfl, byN rfl (by omega) h1⟩
  · unfold tpC; rw [if_neg (fun q => absurd q.1 (by omega))]
theorem TPR_feed {fb f : Nat → Int32} {L : Nat} (h : TPR fb f L) {i b : Int32} (h0 : 0 ≤ i.toInt) (h1 : i.toInt < 256) (hb : b = vp_nar .byte (i.toInt8.toInt32)) : TPR (upd fb L i) (upd f L b) (L + 1) := by
  intro j hj
  unfold upd
  by_cases e : j = L
  · rw [if_pos e, if_pos e]; exact ⟨h0, h1, hb⟩
  · rw [if_neg e, if_neg e]; exact h j (by omega)
theorem TPR_0 (fb f : Nat → Int32) : TPR fb f 0 := fun j hj => absurd hj (Nat.not_lt_zero j)
