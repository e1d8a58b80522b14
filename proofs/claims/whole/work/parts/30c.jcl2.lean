/-! the class's history: what a restoring and a keeping leave alone -/
theorem jRest_o {Z : Nat → U} {f k j : Nat} (h0 : j ≠ 0) (h7 : j ≠ 7) : jRest Z f k j = Z j := by
  unfold jRest
  simp only [va_up, if_neg h0, if_neg h7]
theorem jRest_m {Z : Nat → U} {f k : Nat} : jRest Z f k 7 1 0 = nI (k - 1) := by
  unfold jRest
  simp [va_up]
theorem jKeepAt_o {Z : Nat → U} {z : U} {f k j : Nat} (h0 : j = 0 ∨ 5 ≤ j) (h7 : j ≠ 7) : jKeepAt Z z f k j = Z j := by
  unfold jKeepAt
  simp only [va_up, if_neg h7, if_neg (show ¬ j = (f + k) % 4 + 1 from by omega)]
theorem jKeep_o {Z : Nat → U} {f k j : Nat} (h0 : j = 0 ∨ 5 ≤ j) (h7 : j ≠ 7) : jKeep Z f k j = Z j := by
  unfold jKeep
  split
  · exact jKeepAt_o h0 h7
  · exact jKeepAt_o h0 h7
theorem jOut_in {x y z : Int32} (h : jOut x y z = 0) : ¬ mIn x y z = 0 := by
  unfold jOut at h
  unfold mIn
  by_cases h1 : x < y
  · rw [if_pos h1] at h; exact absurd h (by decide)
  · rw [if_neg h1] at h ⊢
    by_cases h2 : x ≤ z
    · rw [if_neg (Int32.not_lt.mpr h2)]; decide
    · rw [if_neg h2] at h; exact absurd h (by decide)
def jUndoU (Z : Nat → U) (f k : Nat) : Nat → U := if k = 0 then Z else jRest Z f k
def jUndoR (k : Nat) : Int32 := if k = 0 then -2000002 else nI (k - 1)
theorem jOut_nat {x y z : Int32} {a b : Nat} (ha : y = nI a) (hb : z = nI b) (hb2 : b < 2 ^ 31) (ha2 : a < 2 ^ 31) (h : jOut x y z = 0) : ∃ n, x = nI n ∧ a ≤ n ∧ n ≤ b := mIn_nat ha hb hb2 ha2 (jOut_in h)
def jBegU (Z : Nat → U) (x : Int32) (f k : Nat) : Nat → U := if ¬ jOut x 2 10 = 0 then Z else va_up (jKeep Z f k) 0 (jSA (jKeep Z f k 0) x.toNatClampNeg)
def jBegR (Z : Nat → U) (x : Int32) : Int32 := if ¬ jOut x 2 10 = 0 then -2000001 else Z 0 11 0
