/-! the model's reading of a part, its rows written in another order -/
theorem va_up_up {u : U} {k : Nat} {f g : V1} : va_up (va_up u k f) k g = va_up u k g := by
  funext r
  unfold va_up
  by_cases h : r = k
  · rw [if_pos h, if_pos h]
  · rw [if_neg h, if_neg h, if_neg h]
theorem va_up_comm {u : U} {k m : Nat} {f g : V1} (h : k ≠ m) : va_up (va_up u k f) m g = va_up (va_up u m g) k f := by
  funext r
  unfold va_up
  by_cases h1 : r = m
  · have h2 : ¬ r = k := fun h3 => h (h3.symm.trans h1)
    rw [if_pos h1, if_neg h2, if_pos h1]
  · by_cases h2 : r = k
    · rw [if_neg h1, if_pos h2, if_pos h2]
    · rw [if_neg h1, if_neg h2, if_neg h2, if_neg h1]
theorem mForm_9 (u : U) (L a : Nat) (f : V1) : mForm (va_up u 9 f) L a = va_up (mForm u L a) 9 f := by
  unfold mForm
  show va_up (va_up (va_up (va_up u 9 f) 8 (fun _ => nI (pForm (u 4) L a (u 12)).1)) 11 (fun _ => mSort (u 4) L a)) 12 (pForm (u 4) L a (u 12)).2.1 = va_up (va_up (va_up (va_up u 8 (fun _ => nI (pForm (u 4) L a (u 12)).1)) 11 (fun _ => mSort (u 4) L a)) 12 (pForm (u 4) L a (u 12)).2.1) 9 f
  rw [va_up_comm (k := 9) (m := 8) (by decide), va_up_comm (k := 9) (m := 11) (by decide), va_up_comm (k := 9) (m := 12) (by decide)]
theorem mScan_o (L : Nat) : ∀ (k : Nat) (u : U) (a r : Nat), r ≠ 8 → r ≠ 9 → r ≠ 10 → r ≠ 11 → r ≠ 12 → (mScan L k u a).1 r = u r
  | 0, _, _, _, _, _, _, _, _ => rfl
  | k + 1, u, a, r, h8, h9, h10, h11, h12 => by
    rw [mScan]
    split
    · rfl
    · split
      · rw [mScan_o L k _ _ r h8 h9 h10 h11 h12]; exact mRd_o u L a r h8 h9 h10 h11 h12
      · exact mRd_o u L a r h8 h9 h10 h11 h12
