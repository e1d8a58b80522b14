/-! the class's history: what a restoring and a keeping leave alone -/
theorem jRest_o {Z : Nat → U} {f k j : Nat} (h0 : j ≠ 0) (h7 : j ≠ 7) : jRest Z f k j = Z j := by
  unfold jRest
  simp only [va_up, if_neg h0, if_neg h7]
theorem jRest_m {Z : Nat → U} {f k : Nat} : jRest Z f k 7 1 0 = nI (k - 1) := by
  unfold jRest
  simp [va_up]
theorem jKeepAt_o {Z : Nat → U} {z : U} {f k j : Nat} (h0 : j = 0 ∨ 5 ≤ j) (h7 : j ≠ 7) : jKeepAt Z z f k j = Z j := by
  unfold jKeepAt
  simp only [va_up, if_neg h7, if_neg (show ¬ j = (f + k) % 4 + 1 from by omega)]
theorem jKeep_o {Z : Nat → U} {f k j : Nat} (h0 : j = 0 ∨ 5 ≤ j) (h7 : j ≠ 7) : jKeep Z f k j = Z j := by
  unfold jKeep
  split
  · exact jKeepAt_o h0 h7
  · exact jKeepAt_o h0 h7
theorem jOut_in {x y z : Int32} (h : jOut x y z = 0) : ¬ mIn x y z = 0 := by
  unfold jOut at h
  unfold mIn
  by_cases h1 : x < y
  · rw [if_pos h1] at h; exact absurd h (by decide)
  · rw [if_neg h1] at h ⊢
    by_cases h2 : x ≤ z
    · rw [if_neg (Int32.not_lt.mpr h2)]; decide
    · rw [if_neg h2] at h; exact absurd h (by decide)
def jUndoU (Z : Nat → U) (f k : Nat) : Nat → U := if k = 0 then Z else jRest Z f k
def jUndoR (k : Nat) : Int32 := if k = 0 then -2000002 else nI (k - 1)
