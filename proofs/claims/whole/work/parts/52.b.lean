/-! PURE ROWS: what class and reference have in common between two calls. Own work. -/
def by8 (v : Int32) : Prop := 0 ≤ v.toInt ∧ v.toInt ≤ 255
/-- numbers -/
theorem lg0 {a b : Int64} : lg_cmp a b = 0 ↔ a = b := by
  unfold lg_cmp
  by_cases h1 : b < a
  · rw [if_pos h1]
    constructor
    · intro h; exact absurd h (by decide)
    · intro h; subst h; exact absurd h1 (by simp)
  · rw [if_neg h1]
    by_cases h2 : a = b
    · simp [h2]
    · simp [h2]
theorem on1 : ((1 : Int32).toNatClampNeg) = 1 := rfl
theorem on0 : ((0 : Int32).toNatClampNeg) = 0 := rfl
theorem in01 : vp_in 0 1 := by rw [vp_in_iff]; decide
/-- the script's cells of one turn -/
theorem sc_ix {L I k : Nat} (hL : L ≤ 3074) (h : I + 6 ≤ L) (hk : k < 6) : vp_in (nI I + nI k) L ∧ (nI I + nI k).toNatClampNeg = I + k := by
  rw [nI_add]
  exact ⟨vp_in_nI (by omega) (by omega), nI_clamp (by omega)⟩
