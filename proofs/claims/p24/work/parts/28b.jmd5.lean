/-! the model's row in order: stages n, numbers up to B -/
def mOk (f : V1) (n B : Nat) : Prop := f 0 = nI n ∧ okM f ∧ ∃ h kp t r, f 1 = nI h ∧ h ≤ B ∧ f 4 = nI kp ∧ kp ≤ 16 ∧ f 2 = nI t ∧ t < 3 ∧ f 3 = nI r ∧ r ≤ B
def mGv (u : U) (x : Int32) (n : Nat) : U := mGive u x n (u 0 1).toNatClampNeg (u 0 4).toNatClampNeg (u 0 2).toNatClampNeg (u 0 3).toNatClampNeg
def mSv (u : U) (k : Nat) : U := va_up (va_up u 2 (mRecP (u 2) (u 0) k)) 3 (fun _ => nI (mRecK k))
def mIdl (u : U) (n : Nat) : Nat → U
  | 0 => u
  | i + 1 => mGv (mIdl u n i) 0 n
theorem mGv_eq {u : U} {x : Int32} {n h kp t r : Nat} (hh : u 0 1 = nI h) (hh2 : h < 2 ^ 31) (hk : u 0 4 = nI kp) (hk2 : kp < 2 ^ 31) (ht : u 0 2 = nI t) (ht2 : t < 2 ^ 31) (hr : u 0 3 = nI r) (hr2 : r < 2 ^ 31) : mGv u x n = mGive u x n h kp t r := by
  unfold mGv
  rw [hh, hk, ht, hr, nI_clamp hh2, nI_clamp hk2, nI_clamp ht2, nI_clamp hr2]
theorem mPass_Ok {u : U} {x w : Int32} {n h kp B : Nat} (h10 : n ≤ 10) (hv : mOk (u 0) n B) (hh : u 0 1 = nI h) (hh2 : h ≤ 100000) (hB : B ≤ 100000) (hk : u 0 4 = nI kp) (hk2 : kp ≤ 16) (hw : okr w) (hhB : h + 1 ≤ B) : mOk (mPass u x w n h kp 0) n B := by
  obtain ⟨h0, hok, h', kp', t, r, h1, h2, h3, h4, h5, h6, h7, h8⟩ := hv
  refine ⟨(mPass_o h10 hok hw (by decide) (by decide) (by decide)).trans h0, mPass_ok h10 hok hw, h + 1, mKp n h kp, t, r, mPass_1 h10 hok hw, hhB, mPass_4 h10 hk, mKp_16 hk2, (mPass_o h10 hok hw (by decide) (by decide) (by decide)).trans h5, h6, (mPass_o h10 hok hw (by decide) (by decide) (by decide)).trans h7, h8⟩
theorem mG1_Ok {u : U} {n t r B : Nat} (hv : mOk (u 0) n B) (hrB : r + 1 ≤ B) : mOk (mG1 u t r 0) n B := by
  obtain ⟨h0, hok, h, kp, t', r', h1, h2, h3, h4, h5, h6, h7, h8⟩ := hv
  refine ⟨(mG1_o (by decide) (by decide)).trans h0, fun j hj => by rw [mG1_o (by omega) (by omega)]; exact hok j hj, h, kp, (t + 1) % 3, r + 1, (mG1_o (by decide) (by decide)).trans h1, h2, (mG1_o (by decide) (by decide)).trans h3, h4, ?_, by omega, ?_, hrB⟩
  · show upd (upd (u 0) 2 (nI ((t + 1) % 3))) 3 (nI (r + 1)) 2 = _
    rw [pk_un (by decide), pk_us]
  · show upd (upd (u 0) 2 (nI ((t + 1) % 3))) 3 (nI (r + 1)) 3 = _
    rw [pk_us]
theorem mOk_mono {f : V1} {n A B : Nat} (h : mOk f n A) (hAB : A ≤ B) : mOk f n B := by
  obtain ⟨h0, hok, h, kp, t, r, h1, h2, h3, h4, h5, h6, h7, h8⟩ := h
  exact ⟨h0, hok, h, kp, t, r, h1, by omega, h3, h4, h5, h6, h7, by omega⟩
theorem mGv_Ok {u : U} {x : Int32} {n B : Nat} (h10 : n ≤ 10) (hv : mOk (u 0) n B) (hB : B ≤ 40000) : mOk (mGv u x n 0) n (B + 2) := by
  have hv0 := hv
  obtain ⟨h0, hok, h, kp, t, r, h1, h2, h3, h4, h5, h6, h7, h8⟩ := hv
  rw [mGv_eq h1 (by omega) h3 (by omega) h5 (by omega) h7 (by omega)]
  unfold mGive
  by_cases hd : mDue (u 0 1) (u 0 6) = 0
  · rw [if_pos hd]
    exact mPass_Ok h10 (mOk_mono hv0 (by omega)) h1 (by omega) (by omega) h3 h4 (Or.inl rfl) (by omega)
  · rw [if_neg hd]
    have g1 : mOk (mG1 u t r 0) n (B + 2) := mG1_Ok (mOk_mono hv0 (by omega)) (by omega)
    have e1 : mG1 u t r 0 1 = nI h := (mG1_o (by decide) (by decide)).trans h1
    have e4 : mG1 u t r 0 4 = nI kp := (mG1_o (by decide) (by decide)).trans h3
    have g2 := mPass_Ok (x := u 0 (7 + t)) (w := nI t) (kp := kp) h10 g1 e1 (by omega) (by omega) e4 h4 (Or.inr ⟨t, h6, rfl⟩) (by omega)
    exact mPass_Ok h10 g2 (mPass_1 h10 g1.2.1 (Or.inr ⟨t, h6, rfl⟩)) (by omega) (by omega) (mPass_4 h10 e4) (mKp_16 h4) (Or.inl rfl) (by omega)
theorem mIdl_Ok {u : U} {n B : Nat} (h10 : n ≤ 10) (hv : mOk (u 0) n B) : ∀ i, B + 2 * i ≤ 40000 → mOk (mIdl u n i 0) n (B + 2 * i)
  | 0, _ => hv
  | i + 1, hB => mOk_mono (mGv_Ok h10 (mIdl_Ok h10 hv i (by omega)) (by omega)) (by omega)
def mGiveR (u : U) (x : Int32) : Int32 := if mIn x 0 10000 = 0 then -2000001 else if mHB (u 0 1) (u 0 6) 1 ≤ 999 then mHB (u 0 1) (u 0 6) 1 - u 0 1 else -2000003
def mGiveU (u : U) (x : Int32) (n k : Nat) : U := if mIn x 0 10000 = 0 then u else if mHB (u 0 1) (u 0 6) 1 ≤ 999 then mGv (mSv u k) x n else u
def mIdleR (u : U) (x : Int32) : Int32 := if mIn x 1 40 = 0 then -2000001 else if mHB (u 0 1) (u 0 6) x.toNatClampNeg ≤ 999 then mHB (u 0 1) (u 0 6) x.toNatClampNeg - u 0 1 else -2000003
def mIdleU (u : U) (x : Int32) (n k : Nat) : U := if mIn x 1 40 = 0 then u else if mHB (u 0 1) (u 0 6) x.toNatClampNeg ≤ 999 then mIdl (mSv u k) n x.toNatClampNeg else u
def mStageOfR (f : V1) (x y : Int32) : Int32 := if mIn x 0 (f 0 - 1) = 0 then -2000001 else if y = 0 then f (10 + x.toNatClampNeg) else if y = 1 then f (20 + x.toNatClampNeg) else if y = 2 then f (30 + x.toNatClampNeg) else if y = 3 then mStay f x.toNatClampNeg else if y = 4 then mLeak f x.toNatClampNeg else if y = 5 then mMov f x.toNatClampNeg else -2000001
def mErr (f : V1) (a : Nat) : Int32 := (if ¬ f (82 + 5 * a + 3) = -1 then f (82 + 5 * a + 3) else f (82 + 5 * a + 2)) - f (82 + 5 * a + 1)
def mOutOfR (f : V1) (x y : Int32) (kp : Nat) : Int32 := if x < 0 then -2000001 else if mIn y 0 5 = 0 then -2000001 else if ¬ x < nI kp then -2000004 else if ¬ y = 5 then (if ¬ y = 3 then f (82 + 5 * (kp - 1 - x.toNatClampNeg) + y.toNatClampNeg) else if ¬ f (82 + 5 * (kp - 1 - x.toNatClampNeg) + 3) = -1 then f (82 + 5 * (kp - 1 - x.toNatClampNeg) + y.toNatClampNeg) else -2000004) else mErr f (kp - 1 - x.toNatClampNeg)
def mPairR (f : V1) (x y : Int32) : Int32 := if mIn x 0 2 = 0 then -2000001 else if mIn y 0 1 = 0 then -2000001 else if ¬ f (40 + x.toNatClampNeg) = -1 then (if ¬ y = 0 then f (43 + x.toNatClampNeg) else f (40 + x.toNatClampNeg)) else -2000004
def mMendedR (u : U) (x : Int32) : Int32 := if mIn x 0 100000 = 0 then -2000001 else if ¬ mMend u x = -1 then mMend u x else -2000004
def mMendedU (u : U) (x : Int32) : U := if mIn x 0 100000 = 0 then u else mRowU u
def mAccR (f : V1) (x : Int32) (n : Nat) : Int32 := if mIn x 0 4 = 0 then -2000001 else if 4 ≤ x then mSum f n else f (46 + x.toNatClampNeg)
def mSize (x : Int32) : Int32 := if 0 ≤ x then x else -x
