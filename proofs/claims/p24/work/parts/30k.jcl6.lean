/-! the class's line in order, what it gives, its outputs -/
/-- the line in order: stages n, numbers up to B -/
def lOk (u : U) (n B : Nat) : Prop := u 0 0 = nI n ∧ okR u ∧ ∃ h r, u 11 0 = nI h ∧ h ≤ B ∧ u 12 0 = nI r ∧ r ≤ B
def jTv (u : U) (x : Int32) (n : Nat) : U := jTk u x n (u 11 0).toNatClampNeg (u 12 0).toNatClampNeg
theorem jTv_eq {u : U} {x : Int32} {n h r : Nat} (hh : u 11 0 = nI h) (hh2 : h < 2 ^ 31) (hr : u 12 0 = nI r) (hr2 : r < 2 ^ 31) : jTv u x n = jTk u x n h r := by
  unfold jTv
  rw [hh, hr, nI_clamp hh2, nI_clamp hr2]
theorem c_X1_take2 (l : Launch) (D : va_G) (cI cC cL : ClassId) (q : Nat → Nat) (u : U) (x : Int32) (n B : Nat) (hv : lOk u n B) (h10 : n ≤ 10) (hB : B ≤ 40000) : y_MV l yX1_take wsX1_take 4 96 D cI cC cL [.ref (q 7), .int x] (cLn cI q u) (fun v : U => cLn cI q v) (jTv u x n) := by
  obtain ⟨h0, hok, h, r, h1, h2, h3, h4⟩ := hv
  rw [jTv_eq h1 (by omega) h3 (by omega)]
  exact c_X1_take l D cI cC cL q u x n h r h0 h10 h1 (by omega) hok h3 (by omega)
theorem lOk_mono {u : U} {n A B : Nat} (h : lOk u n A) (hAB : A ≤ B) : lOk u n B := by
  obtain ⟨h0, hok, h, r, h1, h2, h3, h4⟩ := h
  exact ⟨h0, hok, h, r, h1, by omega, h3, by omega⟩
theorem jLH_12 {u : U} {x ref : Int32} {n h : Nat} : jLH u x ref n h 12 = u 12 := jLH_o u x ref n h 12 (by decide) (by decide) (by decide) (by decide) (by decide) (by decide) (by decide) (by decide) (by decide) (by decide) (by decide) (by decide)
theorem jTv_Ok {u : U} {x : Int32} {n B : Nat} (hv : lOk u n B) (hB : B ≤ 40000) : lOk (jTv u x n) n (B + 2) := by
  obtain ⟨h0, hok, h, r, h1, h2, h3, h4⟩ := hv
  rw [jTv_eq h1 (by omega) h3 (by omega)]
  unfold jTk
  by_cases hd : jDue (u 11 0) (u 10 1) = 0
  · rw [if_pos hd]
    exact ⟨jLH_n h0, jLH_ok hok (Or.inl rfl), h + 1, r, rfl, by omega, by rw [jLH_12]; exact h3, by omega⟩
  · rw [if_neg hd]
    have h0' : (va_up u 12 (fun _ => nI (r + 1))) 0 0 = nI n := h0
    have hok' : okR (va_up u 12 (fun _ => nI (r + 1))) := hok
    refine ⟨jLH_n (jLH_n h0'), jLH_ok (jLH_ok hok' (Or.inr ⟨r % 3, by omega, rfl⟩)) (Or.inl rfl), h + 2, r + 1, rfl, by omega, ?_, by omega⟩
    rw [jLH_12, jLH_12]
    rfl
def jTI (u : U) (x : Int32) (n : Nat) : Nat → U
  | 0 => u
  | i + 1 => jTv (jTI u x n i) x n
theorem jTI_Ok {u : U} {x : Int32} {n B : Nat} (hv : lOk u n B) : ∀ i, B + 2 * i ≤ 40000 → lOk (jTI u x n i) n (B + 2 * i)
  | 0, _ => hv
  | i + 1, hB => lOk_mono (jTv_Ok (jTI_Ok hv i (by omega)) (by omega)) (by omega)
def jTTR (Z : Nat → U) (x : Int32) (n t : Nat) : Int32 := if jHB (Z 0 11 0) (Z 0 10 1) t ≤ 999 then jTI (Z 0) x n t 11 0 - Z 0 11 0 else -2000003
def jTTU (Z : Nat → U) (x : Int32) (n t f k : Nat) : Nat → U := if jHB (Z 0 11 0) (Z 0 10 1) t ≤ 999 then va_up (jKeep Z f k) 0 (jTI (jKeep Z f k 0) x n t) else Z
def jGivR (Z : Nat → U) (x : Int32) (n : Nat) : Int32 := if ¬ jOut x 0 10000 = 0 then -2000001 else jTTR Z x n 1
def jGivU (Z : Nat → U) (x : Int32) (n f k : Nat) : Nat → U := if ¬ jOut x 0 10000 = 0 then Z else jTTU Z x n 1 f k
def jIdlR (Z : Nat → U) (x : Int32) (n : Nat) : Int32 := if ¬ jOut x 1 40 = 0 then -2000001 else jTTR Z 0 n x.toNatClampNeg
def jIdlU (Z : Nat → U) (x : Int32) (n f k : Nat) : Nat → U := if ¬ jOut x 1 40 = 0 then Z else jTTU Z 0 n x.toNatClampNeg f k
/-- how many outputs are kept -/
def jKp (h n : Nat) : Nat := if h - n < 16 then h - n else 16
theorem jKp_le (h n : Nat) : jKp h n ≤ h - n := by
  unfold jKp
  split <;> omega
theorem jKp_16 (h n : Nat) : jKp h n ≤ 16 := by
  unfold jKp
  split <;> omega
theorem nI_neg {a b : Nat} (h : a < b) (hb : b < 2 ^ 31) : nI a - nI b < 0 := by
  rw [Int32.lt_iff_toInt_lt, Int32.toInt_sub, nI_toInt (by omega), nI_toInt hb, show (0 : Int32).toInt = 0 from rfl, Int.bmod_def]
  split <;> omega
theorem jKept_n {u : U} {h n : Nat} (hh : u 11 0 = nI h) (hn : u 0 0 = nI n) (hh2 : h ≤ 100000) (h10 : n ≤ 10) : jKept u = nI (jKp h n) := by
  unfold jKept
  rw [hh, hn]
  rcases Nat.lt_or_ge h n with h1 | h1
  · have e := nI_neg h1 (by omega)
    have e16 : nI h - nI n < 16 := Int32.lt_trans e (by decide)
    rw [if_pos e16, if_neg (Int32.not_lt.mpr (Int32.le_of_lt e)), jKp, show h - n = 0 from by omega]
    rfl
  · rw [pk_sub h1]
    unfold jKp
    by_cases h2 : h - n < 16
    · have e1 : nI (h - n) < 16 := (nI_ltI (b := 16) (by omega) (by omega)).mpr h2
      rw [if_pos e1, if_pos h2]
      by_cases h3 : 0 < h - n
      · rw [if_pos (show (0 : Int32) < nI (h - n) from (nI_ltI (a := 0) (by omega) (by omega)).mpr h3)]
      · rw [if_neg (show ¬ (0 : Int32) < nI (h - n) from fun z => h3 ((nI_ltI (a := 0) (by omega) (by omega)).mp z)), show h - n = 0 from by omega]
        rfl
    · have e1 : ¬ nI (h - n) < 16 := fun z => h2 ((nI_ltI (b := 16) (by omega) (by omega)).mp z)
      rw [if_neg e1, if_neg h2]
      rfl
def jOuR (u : U) (x y : Int32) (h n : Nat) : Int32 := if x < 0 then -2000001 else if ¬ jOut y 0 5 = 0 then -2000001 else if ¬ x < nI (jKp h n) then -2000004 else if y = 0 then nI (h - 1 - x.toNatClampNeg) else if y = 1 then u 13 ((h - 1 - x.toNatClampNeg - n) % 32) else if y = 2 then u 15 ((h - 1 - x.toNatClampNeg) % 32) else if y = 3 then u 16 ((h - 1 - x.toNatClampNeg) % 32) else if y = 4 then (if jIsR (u 14 ((h - 1 - x.toNatClampNeg - n) % 32)) = 0 then 0 else 1) else jErr u (h - 1 - x.toNatClampNeg) n
