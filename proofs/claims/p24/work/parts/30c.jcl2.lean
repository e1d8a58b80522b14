/-! the class's history: what a restoring and a keeping leave alone -/
theorem jRest_o {Z : Nat → U} {f k j : Nat} (h0 : j ≠ 0) (h7 : j ≠ 7) : jRest Z f k j = Z j := by
  unfold jRest
  simp only [va_up, if_neg h0, if_neg h7]
theorem jRest_m {Z : Nat → U} {f k : Nat} : jRest Z f k 7 1 0 = nI (k - 1) := by
  unfold jRest
  simp [va_up]
theorem jKeepAt_o {Z : Nat → U} {z : U} {f k j : Nat} (h0 : j = 0 ∨ 5 ≤ j) (h7 : j ≠ 7) : jKeepAt Z z f k j = Z j := by
  unfold jKeepAt
  simp only [va_up, if_neg h7, if_neg (show ¬ j = (f + k) % 4 + 1 from by omega)]
theorem jKeep_o {Z : Nat → U} {f k j : Nat} (h0 : j = 0 ∨ 5 ≤ j) (h7 : j ≠ 7) : jKeep Z f k j = Z j := by
  unfold jKeep
  split
  · exact jKeepAt_o h0 h7
  · exact jKeepAt_o h0 h7
theorem jOut_in {x y z : Int32} (h : jOut x y z = 0) : ¬ mIn x y z = 0 := by
  unfold jOut at h
  unfold mIn
  by_cases h1 : x < y
  · rw [if_pos h1] at h; exact absurd h (by decide)
  · rw [if_neg h1] at h ⊢
    by_cases h2 : x ≤ z
    · rw [if_neg (Int32.not_lt.mpr h2)]; decide
    · rw [if_neg h2] at h; exact absurd h (by decide)
def jUndoU (Z : Nat → U) (f k : Nat) : Nat → U := if k = 0 then Z else jRest Z f k
def jUndoR (k : Nat) : Int32 := if k = 0 then -2000002 else nI (k - 1)
theorem jOut_nat {x y z : Int32} {a b : Nat} (ha : y = nI a) (hb : z = nI b) (hb2 : b < 2 ^ 31) (ha2 : a < 2 ^ 31) (h : jOut x y z = 0) : ∃ n, x = nI n ∧ a ≤ n ∧ n ≤ b := mIn_nat ha hb hb2 ha2 (jOut_in h)
def jBegU (Z : Nat → U) (x : Int32) (f k : Nat) : Nat → U := if ¬ jOut x 2 10 = 0 then Z else va_up (jKeep Z f k) 0 (jSA (jKeep Z f k 0) x.toNatClampNeg)
def jBegR (Z : Nat → U) (x : Int32) : Int32 := if ¬ jOut x 2 10 = 0 then -2000001 else Z 0 11 0
def jStgU (Z : Nat → U) (x y z : Int32) (f k : Nat) : Nat → U := if jHas x (Z 0 0 0) = 0 then Z else if ¬ jOut y 0 300 = 0 then Z else if ¬ jOut z 0 300 = 0 then Z else va_up (jKeep Z f k) 0 (stMix (jCS (jKeep Z f k 0) x.toNatClampNeg y z) (jKeep Z f k 0))
def jStgR (Z : Nat → U) (x y z : Int32) : Int32 := if jHas x (Z 0 0 0) = 0 then -2000001 else if ¬ jOut y 0 300 = 0 then -2000001 else if ¬ jOut z 0 300 = 0 then -2000001 else 1000 * Z 0 2 x.toNatClampNeg + Z 0 3 x.toNatClampNeg
theorem jHas_nat {x v : Int32} {n : Nat} (hn : v = nI n) (hn2 : n ≤ 10) (h : ¬ jHas x v = 0) : ∃ a, x = nI a ∧ a < n := by
  unfold jHas at h
  by_cases h1 : x < 0
  · rw [if_pos h1] at h; exact absurd rfl h
  · rw [if_neg h1] at h
    by_cases h2 : v ≤ x
    · rw [if_pos h2] at h; exact absurd rfl h
    · obtain ⟨j, hj, ej⟩ := nI_of (x := x) h1
      refine ⟨j, ej, ?_⟩
      by_cases h3 : j < n
      · exact h3
      · exact absurd (by rw [hn, ej]; exact nI_le (by omega) hj) h2
