/-! the model reads the text: rows 4 text, 5 length, 8 at, 9 reason, 10 cause, 11 sort, 12 told -/
theorem pDg_in (g : V1) (L a : Nat) : pDg g L a = if L ≤ a then 0 else mIn (g a) 48 57 := by
  unfold pDg mIn
  split
  · rfl
  · rfl
theorem y_addsub (a b c : Int32) : a + b - c = a + (b - c) := by
  rw [Int32.sub_eq_add_neg, Int32.sub_eq_add_neg, Int32.add_assoc]
def mSort (g : V1) (L a : Nat) : Int32 := if L ≤ a then 0 else g a
def mForm (u : U) (L a : Nat) : U := va_up (va_up (va_up u 8 (fun _ => nI (pForm (u 4) L a (u 12)).1)) 11 (fun _ => mSort (u 4) L a)) 12 (pForm (u 4) L a (u 12)).2.1
def mWN (s n0 n1 n2 : Int32) : Int32 := if ¬ s = 115 then (if n1 ≤ 300 then (if n2 ≤ 300 then -1 else 2) else 1) else (if n0 ≤ 10000 then -1 else 0)
def mTNum (u : U) (L a k m : Nat) : U := va_up (va_up u 8 (fun _ => nI (a + pNd (u 4) L a m))) 12 (upd (u 12) k (pNv (u 4) a (pNd (u 4) L a m)))
/-- is the part possible: as far as the model says -/
def mRdC (u : U) (L a : Nat) : Int32 := mWN (mSort (u 4) L a) ((pForm (u 4) L a (u 12)).2.1 0) ((pForm (u 4) L a (u 12)).2.1 1) ((pForm (u 4) L a (u 12)).2.1 2)
def mRdB (u : U) (L a : Nat) : Int32 := if (pForm (u 4) L a (u 12)).2.2 = 0 then 0 else if ¬ mSort (u 4) L a = 108 then (if ¬ mRdC u L a = -1 then 0 else 1) else if mIn ((pForm (u 4) L a (u 12)).2.1 0) 0 (u 0 0 - 1) = 0 then 0 else (if ¬ mRdC u L a = -1 then 0 else 1)
def mRd (u : U) (L a : Nat) : U := if (pForm (u 4) L a (u 12)).2.2 = 0 then va_up (va_up (mForm u L a) 9 (fun _ => 1)) 10 (fun _ => nI (pForm (u 4) L a (u 12)).1 - nI a) else if ¬ mSort (u 4) L a = 108 then va_up (va_up (mForm u L a) 9 (fun _ => 3)) 10 (fun _ => mRdC u L a) else if mIn ((pForm (u 4) L a (u 12)).2.1 0) 0 (u 0 0 - 1) = 0 then va_up (mForm u L a) 9 (fun _ => 2) else va_up (va_up (mForm u L a) 9 (fun _ => 3)) 10 (fun _ => mRdC u L a)
theorem mRdB_01 {u : U} {L a : Nat} : mRdB u L a = 0 ∨ mRdB u L a = 1 := by
  unfold mRdB
  split
  · exact Or.inl rfl
  · split
    · exact y_b10
    · split
      · exact Or.inl rfl
      · exact y_b10
theorem mForm_o (u : U) (L a r : Nat) (h8 : r ≠ 8) (h11 : r ≠ 11) (h12 : r ≠ 12) : mForm u L a r = u r := by
  unfold mForm
  simp only [va_up, if_neg h8, if_neg h11, if_neg h12]
theorem mForm_8 (u : U) (L a : Nat) : mForm u L a 8 0 = nI (pForm (u 4) L a (u 12)).1 := by
  unfold mForm
  simp [va_up]
theorem mForm_11 (u : U) (L a : Nat) : mForm u L a 11 0 = mSort (u 4) L a := by
  unfold mForm
  simp [va_up]
theorem mForm_12 (u : U) (L a : Nat) : mForm u L a 12 = (pForm (u 4) L a (u 12)).2.1 := by
  unfold mForm
  simp [va_up]
theorem mRd_o (u : U) (L a r : Nat) (h8 : r ≠ 8) (h9 : r ≠ 9) (h10 : r ≠ 10) (h11 : r ≠ 11) (h12 : r ≠ 12) : mRd u L a r = u r := by
  have h := mForm_o u L a r h8 h11 h12
  unfold mRd
  split
  · simp only [va_up, if_neg h9, if_neg h10]; exact h
  · split
    · simp only [va_up, if_neg h9, if_neg h10]; exact h
    · split
      · simp only [va_up, if_neg h9]; exact h
      · simp only [va_up, if_neg h9, if_neg h10]; exact h
theorem mRd_8 (u : U) (L a : Nat) : mRd u L a 8 0 = nI (pForm (u 4) L a (u 12)).1 := by
  have h := mForm_8 u L a
  unfold mRd
  split
  · simp [va_up, h]
  · split
    · simp [va_up, h]
    · split
      · simp [va_up, h]
      · simp [va_up, h]
/-- a place where the text can be read on: how far -/
theorem pRun_ge {g : V1} {L : Nat} : ∀ {r : List PStep} {a : Nat} {f : V1}, a ≤ (pRun g L r a f).1
  | [], a, f => Nat.le_refl _
  | .inl z :: r, a, f => by
    unfold pRun
    split
    · exact Nat.le_add_right _ _
    · exact Nat.le_trans (Nat.le_add_right _ _) pRun_ge
  | .inr c :: r, a, f => by
    have h : a ≤ pT g L a c := by
      unfold pT
      split
      · exact Nat.le_refl _
      · split
        · omega
        · exact Nat.le_refl _
    unfold pRun
    split
    · exact h
    · exact Nat.le_trans h pRun_ge
theorem pTf_T {g : V1} {L a : Nat} {c : Int32} (h : ¬ pTf g L a c = 0) : a < L ∧ g a = c ∧ pT g L a c = a + 1 := by
  unfold pTf at h
  by_cases h1 : L ≤ a
  · rw [if_pos h1] at h; exact absurd rfl h
  · rw [if_neg h1] at h
    by_cases h2 : g a = c
    · exact ⟨by omega, h2, by unfold pT; rw [if_neg h1, if_pos h2]⟩
    · rw [if_neg h2] at h; exact absurd rfl h
theorem pTf_F {g : V1} {L a : Nat} {c : Int32} (h : pTf g L a c = 0) : pT g L a c = a := by
  unfold pTf at h
  unfold pT
  by_cases h1 : L ≤ a
  · rw [if_pos h1]
  · rw [if_neg h1] at h ⊢
    by_cases h2 : g a = c
    · rw [if_pos h2] at h; exact absurd h (by decide)
    · rw [if_neg h2]
theorem pForm_gt {g : V1} {L a : Nat} {f : V1} (h : ¬ (pForm g L a f).2.2 = 0) : a < (pForm g L a f).1 := by
  unfold pForm at h ⊢
  by_cases h1 : pTf g L a 115 = 0
  · rw [if_pos h1] at h ⊢
    rw [pTf_F h1] at h ⊢
    by_cases h2 : pTf g L a 108 = 0
    · rw [if_pos h2] at h; exact absurd rfl h
    · rw [if_neg h2] at h ⊢
      have := (pTf_T h2).2.2
      have h3 := pRun_ge (g := g) (L := L) (r := lS) (a := pT g L a 108) (f := f)
      omega
  · rw [if_neg h1] at h ⊢
    have := (pTf_T h1).2.2
    have h3 := pRun_ge (g := g) (L := L) (r := sS) (a := pT g L a 115) (f := f)
    omega
def mScan (L : Nat) : Nat → U → Nat → U × Int32
  | 0, u, _ => (u, -1)
  | k + 1, u, a => if L ≤ a then (u, -1) else if ¬ mRdB u L a = 0 then mScan L k (mRd u L a) (pForm (u 4) L a (u 12)).1 else (mRd u L a, nI a)
theorem mRdB_F {u : U} {L a : Nat} (h : ¬ mRdB u L a = 0) : ¬ (pForm (u 4) L a (u 12)).2.2 = 0 := by
  intro z
  unfold mRdB at h
  rw [if_pos z] at h
  exact h rfl
def mFaultR (u : U) (x : Int32) (L : Nat) : Int32 := if mIn x 0 2 = 0 then -2000001 else if ¬ (mScan L 61 (va_up u 8 (fun _ => 0)) 0).2 = -1 then (if ¬ x = 0 then (if ¬ x = 1 then (if ¬ (mScan L 61 (va_up u 8 (fun _ => 0)) 0).1 9 0 = 2 then (mScan L 61 (va_up u 8 (fun _ => 0)) 0).1 10 0 else -2000004) else (mScan L 61 (va_up u 8 (fun _ => 0)) 0).1 9 0) else (mScan L 61 (va_up u 8 (fun _ => 0)) 0).2) else -2000004
def mFaultU (u : U) (x : Int32) (L : Nat) : U := if mIn x 0 2 = 0 then u else (mScan L 61 (va_up u 8 (fun _ => 0)) 0).1
