
/-! ===== both sides: the changes that are kept ===== -/
theorem chg_c {d k : Nat} {f g : Nat → Int32} (hdk : d ≤ k) (h40 : d ≤ 40) (h : ∀ j, j < k → f j = g j) (x : Int32) : ∀ j, j < chD d → chg d f x j = chg d g x j := by
  intro j hj
  unfold chD at hj
  unfold chg
  by_cases c : d < 40
  · rw [if_pos c] at hj ⊢
    rw [if_pos c]
    by_cases e : j = d
    · rw [if_pos e, if_pos e]
    · rw [if_neg e, if_neg e]; exact h j (by omega)
  · rw [if_neg c] at hj ⊢
    rw [if_neg c]
    by_cases e : j = 39
    · rw [if_pos e, if_pos e]
    · rw [if_neg e, if_neg e]; exact h (j + 1) (by omega)
/-- the same for rows of which each is only told on what is kept -/
theorem chg_2 {d k : Nat} {f g f2 g2 : Nat → Int32} (hdk : d ≤ k) (h40 : d ≤ 40) (h : ∀ j, j < k → f j = g j) {x : Int32} (hf : ∀ j, j < chD d → f2 j = chg d f x j) (hg : ∀ j, j < chD d → g2 j = chg d g x j) : ∀ j, j < chD d → f2 j = g2 j := fun j hj => by rw [hf j hj, hg j hj, chg_c hdk h40 h x j hj]
theorem chD_le (d : Nat) : chD d ≤ 40 := by unfold chD; split <;> omega
