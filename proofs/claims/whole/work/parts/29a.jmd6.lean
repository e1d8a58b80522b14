/-! the model's trials -/
def mTry (f : V1) (n : Nat) (z : Int32) : V1 := if z = 0 then upd f 49 0 else mFil (upd f 49 0) 10 0 n
theorem mTry_o {f : V1} {n : Nat} {z : Int32} {j : Nat} (h9 : j ≠ 49) (hj : j < 10 ∨ 20 ≤ j) (hn : n ≤ 10) : mTry f n z j = f j := by
  unfold mTry
  split
  · rw [pk_un h9]
  · rw [mFil_at, if_neg (by omega), pk_un h9]
def mIt (n : Nat) (w : V1 × Int32) : Nat → V1 × Int32
  | 0 => w
  | i + 1 => mHO 0 (mIt n w i).1 n
def mEcho (x : Int32) (f : V1) (n k : Nat) : V1 × Int32 := mIt n (mHO x f n) k
theorem mIt_n {n m : Nat} {w : V1 × Int32} (h10 : n ≤ 10) (h : w.1 0 = nI m) : ∀ i, (mIt n w i).1 0 = nI m
  | 0 => h
  | i + 1 => mHO_n h10 (mIt_n h10 h i)
def mEchoR (f : V1) (x y : Int32) (n : Nat) : Int32 := if mIn x 0 10000 = 0 then -2000001 else if mIn y 1 40 = 0 then -2000001 else (mEcho x (mTry f n 1) n y.toNatClampNeg).2
def mEchoU (u : U) (x y : Int32) (n : Nat) : U := if mIn x 0 10000 = 0 then u else if mIn y 1 40 = 0 then u else va_up u 1 (mEcho x (mTry (u 0) n 1) n y.toNatClampNeg).1
def mEmp (n : Nat) : Nat → V1 → Nat → V1 × Nat
  | 0, g, i => (g, i)
  | k + 1, g, i => if mSum g n ≤ 0 then (g, i) else mEmp n k (mHO 0 g n).1 (i + 1)
def mEmpR (f : V1) (n : Nat) : Int32 := if mSum (mEmp n 400 (mTry f n 0) 0).1 n ≤ 0 then nI (mEmp n 400 (mTry f n 0) 0).2 else -2000004
def mWo (f : V1) (n k : Nat) : V1 × Int32 := mEcho 10000 (upd (upd (mTry f n 1) (20 + k) 0) (30 + k) 0) n n
def mWt (f g : V1) (n : Nat) : Nat → V1
  | 0 => g
  | k + 1 => (mWo f n k).1
def mWl (f : V1) (n : Nat) : Nat → Int32 × Int32
  | 0 => (0, -1)
  | k + 1 => if (mWo f n k).2 ≤ (mWl f n k).2 then (mWl f n k) else (nI k, (mWo f n k).2)
def mWornR (f : V1) (x : Int32) (n : Nat) : Int32 := if mIn x 0 1 = 0 then -2000001 else if ¬ x = 0 then (mWl f n n).2 else (mWl f n n).1
def mWornU (u : U) (x : Int32) (n : Nat) : U := if mIn x 0 1 = 0 then u else va_up u 1 (mWt (u 0) (u 1) n n)
def mSfS (x : Int32) (f : V1) (n : Nat) : Nat → V1
  | 0 => mTry f n 1
  | i + 1 => (mHO x (mSfS x f n i) n).1
theorem mSfS_n {x : Int32} {f : V1} {n : Nat} (h10 : n ≤ 10) (h : f 0 = nI n) : ∀ i, mSfS x f n i 0 = nI n
  | 0 => (mTry_o (by decide) (by omega) h10).trans h
  | i + 1 => mHO_n h10 (mSfS_n h10 h i)
def mSf (f : V1) (n : Nat) : Nat → Nat → Nat → V1 → Nat × V1
  | 0, lo, _, g => (lo, g)
  | k + 1, lo, hi, g => if hi ≤ lo then (lo, g) else if (if ¬ mSfS (nI ((lo + hi + 1) / 2)) f n 40 49 = 0 then (0 : Int32) else 1) = 0 then mSf f n k lo ((lo + hi + 1) / 2 - 1) (mSfS (nI ((lo + hi + 1) / 2)) f n 40) else mSf f n k ((lo + hi + 1) / 2) hi (mSfS (nI ((lo + hi + 1) / 2)) f n 40)
def mCountR (u : U) (x : Int32) : Int32 := if x = 0 then u 0 0 else if x = 1 then u 0 1 else if x = 2 then u 0 4 else if x = 3 then u 0 3 else if x = 4 then mCntP (u 0) 3 else if x = 5 then u 0 2 else if x = 6 then (if mDue (u 0 1) (u 0 6) = 0 then 0 else 1) else if x = 7 then u 3 0 else if x = 8 then u 5 0 else if mIn x 20 24 = 0 then -2000001 else u 0 (5 + x.toNatClampNeg - 20)
