/-! the model's public methods: answers (R) and rows behind (U) -/
def mRecP (p s : V1) (k : Nat) : V1 := if k = 4 then mPut (mDown p 0 162 486) s (162 * (k - 1)) 0 162 else mPut p s (162 * k) 0 162
def mRecK (k : Nat) : Nat := if k = 4 then k - 1 + 1 else k + 1
theorem mRec_eq (u : U) (k : Nat) : mRec u k = va_up (va_up u 2 (mRecP (u 2) (u 0) k)) 3 (fun _ => nI (mRecK k)) := by
  unfold mRec mRecP mRecK mRecAt
  by_cases h : k = 4
  · rw [if_pos h, if_pos h, if_pos h]
  · rw [if_neg h, if_neg h, if_neg h]
theorem mIn_nat {x : Int32} {a b : Int32} {m n : Nat} (ha : a = nI m) (hb : b = nI n) (hn : n < 2 ^ 31) (hm : m < 2 ^ 31) (h : ¬ mIn x a b = 0) : ∃ k, x = nI k ∧ m ≤ k ∧ k ≤ n := by
  unfold mIn at h
  by_cases h1 : x < a
  · rw [if_pos h1] at h; exact absurd rfl h
  · rw [if_neg h1] at h
    by_cases h2 : b < x
    · rw [if_pos h2] at h; exact absurd rfl h
    · have e1 : ¬ x.toInt < a.toInt := fun z => h1 (y_ltI.mpr z)
      have e2 : ¬ b.toInt < x.toInt := fun z => h2 (y_ltI.mpr z)
      rw [ha, nI_toInt hm] at e1
      rw [hb, nI_toInt hn] at e2
      obtain ⟨k, hk, ek⟩ := nI_of (x := x) (fun z => by rw [y_ltI] at z; have h0 : (0 : Int32).toInt = 0 := rfl; omega)
      rw [ek, nI_toInt hk] at e1 e2
      exact ⟨k, ek, by omega, by omega⟩
theorem mIn_bad {x a b : Int32} (h : mIn x a b = 0) : x.toInt < a.toInt ∨ b.toInt < x.toInt := by
  unfold mIn at h
  by_cases h1 : x < a
  · exact Or.inl (y_ltI.mp h1)
  · rw [if_neg h1] at h
    by_cases h2 : b < x
    · exact Or.inr (y_ltI.mp h2)
    · rw [if_neg h2] at h; exact absurd h (by decide)
/-- shares of i new stages from n on -/
def mNew (f : V1) (n : Nat) : Nat → V1
  | 0 => f
  | i + 1 => upd (upd (mNew f n i) (20 + (n + i)) 0) (30 + (n + i)) 0
def mBeginU (u : U) (x : Int32) (n k : Nat) : U := if mIn x 2 10 = 0 then u else va_up (va_up (va_up u 0 (mBeg (upd (mNew (u 0) n (x.toNatClampNeg - n)) 0 x) x.toNatClampNeg)) 2 (mRecP (u 2) (u 0) k)) 3 (fun _ => nI (mRecK k))
def mBeginR (u : U) (x : Int32) : Int32 := if mIn x 2 10 = 0 then -2000001 else u 0 1
def mStageOk (u : U) (x y z : Int32) : Int32 := if mIn x 0 (u 0 0 - 1) = 0 then 0 else if mIn y 0 300 = 0 then 0 else mIn z 0 300
def mStageU (u : U) (x y z : Int32) (k : Nat) : U := if mStageOk u x y z = 0 then u else va_up (va_up (va_up u 0 (upd (upd (u 0) (20 + x.toNatClampNeg) y) (30 + x.toNatClampNeg) z)) 2 (mRecP (u 2) (u 0) k)) 3 (fun _ => nI (mRecK k))
def mStageR (u : U) (x y z : Int32) : Int32 := if mStageOk u x y z = 0 then -2000001 else 1000 * u 0 (20 + x.toNatClampNeg) + u 0 (30 + x.toNatClampNeg)
def mSetOk (x y : Int32) : Int32 := if ¬ x = 0 then (if ¬ x = 1 then (if mIn x 2 4 = 0 then 0 else if mIn y 1 10000 = 0 then 0 else 1) else mIn y 0 12) else mIn y 1000 100000
def mSetU (u : U) (x y : Int32) (k : Nat) : U := if mSetOk x y = 0 then u else va_up (va_up (va_up u 0 (upd (u 0) (5 + x.toNatClampNeg) y)) 2 (mRecP (u 2) (u 0) k)) 3 (fun _ => nI (mRecK k))
def mSetR (u : U) (x y : Int32) : Int32 := if mSetOk x y = 0 then -2000001 else u 0 (5 + x.toNatClampNeg)
theorem mSetOk_01 {x y : Int32} : mSetOk x y = 0 ∨ mSetOk x y = 1 := by
  unfold mSetOk
  split
  · split
    · split
      · exact Or.inl rfl
      · split
        · exact Or.inl rfl
        · exact Or.inr rfl
    · exact mIn_01
  · exact mIn_01
theorem mSetOk_nat {x y : Int32} (h : ¬ mSetOk x y = 0) : ∃ k, x = nI k ∧ k < 5 := by
  unfold mSetOk at h
  by_cases h0 : x = 0
  · exact ⟨0, h0, by omega⟩
  · by_cases h1 : x = 1
    · exact ⟨1, h1, by omega⟩
    · rw [if_pos h0, if_pos h1] at h
      by_cases h2 : mIn x 2 4 = 0
      · rw [if_pos h2] at h; exact absurd rfl h
      · obtain ⟨k, ek, a, b⟩ := mIn_nat (m := 2) (n := 4) rfl rfl (by omega) (by omega) h2
        exact ⟨k, ek, by omega⟩
def mCntP (f : V1) : Nat → Int32
  | 0 => 0
  | k + 1 => mCntP f k + (if ¬ f (40 + k) = -1 then 1 else 0)
/-- a row saved goes with a change: rows 0, 2, 3 -/
def mCh (u v : U) (k : Nat) : U := va_up (va_up v 2 (mRecP (u 2) (u 0) k)) 3 (fun _ => nI (mRecK k))
def mTypeU (u : U) (x : Int32) (L : Nat) : U := if mIn x 32 126 = 0 then u else if ¬ L = 60 then va_up (va_up u 4 (upd (u 4) L x)) 5 (fun _ => nI (L + 1)) else u
def mTypeR (x : Int32) (L : Nat) : Int32 := if mIn x 32 126 = 0 then -2000001 else if ¬ L = 60 then nI (L + 1) else -2000003
def mUndoU (u : U) (k : Nat) : U := if ¬ k = 0 then mUndo u k else u
def mUndoR (k : Nat) : Int32 := if ¬ k = 0 then nI (k - 1) else -2000002
