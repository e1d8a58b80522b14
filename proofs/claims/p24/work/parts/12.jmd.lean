/-! what the model's methods do: f its row s (0 stages, 1 handed, 2 turn, 3 references, 4 kept, 5.. settings, 10.. charges, 20.. stays, 30.. leaks, 40.. pairs, 43.. sizes, 46.. accounts, 50.. samples, 66.. whose, 82.. outputs); rows of the object: 0 s, 1 trial, 2 past, 3 saved, 4 text, 5 length, 6 row, 7 rowMany, 8 at, 9 reason, 10 cause, 11 sort, 12 told -/
abbrev V1 : Type := Nat → Int32
def mIn (v a b : Int32) : Int32 := if v < a then 0 else if b < v then 0 else 1
theorem mIn_01 {v a b : Int32} : mIn v a b = 0 ∨ mIn v a b = 1 := by
  unfold mIn
  split
  · exact Or.inl rfl
  · split
    · exact Or.inl rfl
    · exact Or.inr rfl
def mStay (f : V1) (k : Nat) : Int32 := f (10 + k) * f (20 + k) / 1000
def mLeak (f : V1) (k : Nat) : Int32 := (f (10 + k) - mStay f k) * f (30 + k) / 1000
def mMov (f : V1) (k : Nat) : Int32 := f (10 + k) - mStay f k - mLeak f k
def mOver (h c : Int32) : Int32 := if h ≤ c then 0 else h - c
def mHS (w : V1 × Int32) (k : Nat) : V1 × Int32 :=
  (upd (upd (upd w.1 48 (w.1 48 + mLeak w.1 k)) 49 (w.1 49 + mOver (mStay w.1 k + w.2) (w.1 5))) (10 + k) (mStay w.1 k + w.2 - mOver (mStay w.1 k + w.2) (w.1 5)), mMov w.1 k)
def mHL (x : Int32) (f : V1) : Nat → V1 × Int32
  | 0 => (f, x)
  | k + 1 => mHS (mHL x f k) k
def mHO (x : Int32) (f : V1) (n : Nat) : V1 × Int32 :=
  (upd (upd (mHL x f n).1 46 ((mHL x f n).1 46 + x)) 47 ((mHL x f n).1 47 + (mHL x f n).2), (mHL x f n).2)
theorem mHL_o (x : Int32) (f : V1) (r : Nat) (h8 : r ≠ 48) (h9 : r ≠ 49) (hr : r < 10 ∨ 20 ≤ r) : ∀ k, k ≤ 10 → (mHL x f k).1 r = f r
  | 0, _ => rfl
  | k + 1, hk => by
    show (mHS (mHL x f k) k).1 r = f r
    unfold mHS
    dsimp only
    rw [pk_un (by omega), pk_un h9, pk_un h8]
    exact mHL_o x f r h8 h9 hr k (by omega)
theorem mHO_o (x : Int32) (f : V1) (n r : Nat) (hn : n ≤ 10) (h6 : r ≠ 46) (h7 : r ≠ 47) (h8 : r ≠ 48) (h9 : r ≠ 49) (hr : r < 10 ∨ 20 ≤ r) : (mHO x f n).1 r = f r := by
  unfold mHO
  dsimp only
  rw [pk_un h7, pk_un h6]
  exact mHL_o x f r h8 h9 hr n hn
/-- i places from b on hold x -/
def mFil (f : V1) (b : Nat) (x : Int32) : Nat → V1
  | 0 => f
  | k + 1 => upd (mFil f b x k) (b + k) x
theorem mFil_at (f : V1) (b : Nat) (x : Int32) : ∀ (n j : Nat), mFil f b x n j = if b ≤ j ∧ j < b + n then x else f j
  | 0, j => by
    rw [if_neg (by omega)]
    rfl
  | n + 1, j => by
    show upd (mFil f b x n) (b + n) x j = _
    unfold upd
    by_cases h : j = b + n
    · rw [if_pos h, if_pos (by omega)]
    · rw [if_neg h, mFil_at f b x n j]
      by_cases h2 : b ≤ j ∧ j < b + n
      · rw [if_pos h2, if_pos (by omega)]
      · rw [if_neg h2, if_neg (by omega)]
def mBeg (f : V1) (n : Nat) : V1 := mFil (mFil (upd (upd (upd (upd (mFil f 10 0 n) 1 0) 2 0) 3 0) 4 0) 40 (-1) 3) 46 0 4
/-- n places from b on take what stands d further on -/
def mDown (f : V1) (b d : Nat) : Nat → V1
  | 0 => f
  | k + 1 => upd (mDown f b d k) (b + k) (mDown f b d k (b + k + d))
theorem mDown_at (f : V1) (b d : Nat) (hd : 0 < d) : ∀ (n j : Nat), mDown f b d n j = if b ≤ j ∧ j < b + n then f (j + d) else f j
  | 0, j => by
    rw [if_neg (by omega)]
    rfl
  | n + 1, j => by
    show upd (mDown f b d n) (b + n) (mDown f b d n (b + n + d)) j = _
    unfold upd
    by_cases h : j = b + n
    · rw [if_pos h, if_pos (by omega), mDown_at f b d hd n (b + n + d), if_neg (by omega), h]
    · rw [if_neg h, mDown_at f b d hd n j]
      by_cases h2 : b ≤ j ∧ j < b + n
      · rw [if_pos h2, if_pos (by omega)]
      · rw [if_neg h2, if_neg (by omega)]
/-- n places from b on take those of g from c on -/
def mPut (f g : V1) (b c : Nat) : Nat → V1
  | 0 => f
  | k + 1 => upd (mPut f g b c k) (b + k) (g (c + k))
theorem mPut_at (f g : V1) (b c : Nat) : ∀ (n j : Nat), mPut f g b c n j = if b ≤ j ∧ j < b + n then g (c + (j - b)) else f j
  | 0, j => by
    rw [if_neg (by omega)]
    rfl
  | n + 1, j => by
    show upd (mPut f g b c n) (b + n) (g (c + n)) j = _
    unfold upd
    by_cases h : j = b + n
    · rw [if_pos h, if_pos (by omega), h, Nat.add_sub_cancel_left]
    · rw [if_neg h, mPut_at f g b c n j]
      by_cases h2 : b ≤ j ∧ j < b + n
      · rw [if_pos h2, if_pos (by omega)]
      · rw [if_neg h2, if_neg (by omega)]
/-- records: k states are saved -/
def mRecAt (u : U) (p : V1) (k : Nat) : U := va_up (va_up u 2 (mPut p (u 0) (162 * k) 0 162)) 3 (fun _ => nI (k + 1))
def mRec (u : U) (k : Nat) : U := if k = 4 then mRecAt u (mDown (u 2) 0 162 486) (k - 1) else mRecAt u (u 2) k
def mUndo (u : U) (k : Nat) : U := va_up (va_up u 0 (mPut (u 0) (u 2) 0 (162 * (k - 1)) 162)) 3 (fun _ => nI (k - 1))
-- mending
def mSame (f : V1) (k : Nat) : Nat → Int32
  | 0 => if f (40 + k) ≤ 0 then 0 else 1
  | j + 1 => if mSame f k j = 0 then 0 else if f (40 + j) = f (40 + k) then 0 else 1
def mSift (f : V1) (k : Nat) : V1 → Nat → V1 × Nat
  | g, 0 => (g, 0)
  | g, a + 1 => if f (40 + (g a).toNatClampNeg) ≤ f (40 + k) then (g, a + 1) else mSift f k (upd g (a + 1) (g a)) a
def mRowS (f : V1) (w : V1 × Nat) (k : Nat) : V1 × Nat := if mSame f k k = 0 then (w.1, w.2) else (upd (mSift f k w.1 w.2).1 (mSift f k w.1 w.2).2 (nI k), w.2 + 1)
def mRow (f g : V1) : Nat → V1 × Nat
  | 0 => (g, 0)
  | k + 1 => mRowS f (mRow f g k) k
def mAlone (f : V1) (j : Nat) (o : Int32) : Int64 := o.toInt64 * (f (43 + j)).toInt64 / (f (40 + j)).toInt64
def mDn (a b : Int64) : Int64 := if lg_cmp (a / b * b) a ≤ 0 then a / b else a / b - 1
def mBetw (f : V1) (i j : Nat) (o : Int32) : Int64 := (f (43 + i)).toInt64 + mDn ((o.toInt64 - (f (40 + i)).toInt64) * ((f (43 + j)) - (f (43 + i))).toInt64) ((f (40 + j)).toInt64 - (f (40 + i)).toInt64)
def mFind (f g : V1) (o : Int32) : Nat → Nat → Nat
  | 0, i => i
  | k + 1, i => if o ≤ f (40 + (g i).toNatClampNeg) then i else mFind f g o k (i + 1)
def mCut (v : Int64) : Int32 := if lg_cmp v 1000000 ≤ 0 then v.toInt32 else 1000000
/-- of the row g of m references: what an output is mended to -/
def mMendR (f g : V1) (m : Nat) (o : Int32) : Int32 :=
  if m = 0 then -1
  else if o < f (40 + (g 0).toNatClampNeg) then mCut (mAlone f (g 0).toNatClampNeg o)
  else if m = 1 then mCut (mAlone f (g 0).toNatClampNeg o)
  else if o ≤ f (40 + (g (m - 1)).toNatClampNeg) then mCut (mBetw f (g (mFind f g o 3 1 - 1)).toNatClampNeg (g (mFind f g o 3 1)).toNatClampNeg o)
  else mCut (mAlone f (g (m - 1)).toNatClampNeg o)
def mMend (u : U) (o : Int32) : Int32 := mMendR (u 0) (mRow (u 0) (u 6) 3).1 (mRow (u 0) (u 6) 3).2 o
def mRowU (u : U) : U := va_up (va_up u 6 (mRow (u 0) (u 6) 3).1) 7 (fun _ => nI (mRow (u 0) (u 6) 3).2)
def mDue (x p : Int32) : Int32 := if p ≤ 0 then 0 else if ¬ x - x / p * p = 0 then 0 else 1
theorem mDue_01 {x p : Int32} : mDue x p = 0 ∨ mDue x p = 1 := by
  unfold mDue
  split
  · exact Or.inl rfl
  · split
    · exact Or.inl rfl
    · exact Or.inr rfl
def mHB (x p : Int32) : Nat → Int32
  | 0 => x
  | k + 1 => mHB x p k + (if mDue (mHB x p k) p = 0 then 1 else 2)
theorem y_nle0 {x : Int32} (h : ¬ x ≤ 0) : ¬ x = 0 := fun z => h (by rw [z]; exact Int32.le_refl 0)
theorem mSame_01 (f : V1) (k : Nat) : ∀ j, mSame f k j = 0 ∨ mSame f k j = 1
  | 0 => by
    unfold mSame
    split
    · exact Or.inl rfl
    · exact Or.inr rfl
  | j + 1 => by
    unfold mSame
    split
    · exact Or.inl rfl
    · split
      · exact Or.inl rfl
      · exact Or.inr rfl
def mSum (f : V1) : Nat → Int32
  | 0 => 0
  | k + 1 => mSum f k + f (10 + k)
theorem mHO_n {x : Int32} {f : V1} {n m : Nat} (hm : m ≤ 10) (h : f 0 = nI n) : (mHO x f m).1 0 = nI n := by
  rw [mHO_o x f m 0 hm (by decide) (by decide) (by decide) (by decide) (by omega)]
  exact h
