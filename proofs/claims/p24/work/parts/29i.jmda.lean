/-! the model tells of its errors -/
def fNaN (x : UInt32) : Int32 := if Op.cmpValue (FP.fcmp x x) .l = 0 then 0 else 1
theorem fNaN_01 {x : UInt32} : fNaN x = 0 ∨ fNaN x = 1 := by
  unfold fNaN
  split
  · exact Or.inl rfl
  · exact Or.inr rfl
def fBits (x : UInt32) : Int32 := if fNaN x = 0 then x.toInt32 else 2143289344
def mErN (f : V1) : Nat → Nat
  | 0 => 0
  | i + 1 => if f (82 + 5 * i + 4) = 0 then mErN f i + 1 else mErN f i
def mErS (f : V1) : Nat → Int32
  | 0 => 0
  | i + 1 => if f (82 + 5 * i + 4) = 0 then mErS f i + mErr f i else mErS f i
def mErZ (f : V1) : Nat → Int32
  | 0 => 0
  | i + 1 => if f (82 + 5 * i + 4) = 0 then mErZ f i + mSize (mErr f i) else mErZ f i
def mErG (f : V1) : Nat → Int32
  | 0 => 0
  | i + 1 => if f (82 + 5 * i + 4) = 0 then (if mSize (mErr f i) ≤ mErG f i then mErG f i else mSize (mErr f i)) else mErG f i
def mErF (f : V1) (k : Nat) : UInt32 := FP.fdiv (FP.i2f (mErZ f k)) (FP.i2f (nI (mErN f k)))
def mErsR (f : V1) (x : Int32) (k : Nat) : Int32 := if mIn x 0 3 = 0 then -2000001 else if ¬ x = 0 then (if ¬ nI (mErN f k) = 0 then (if ¬ x = 1 then (if ¬ x = 2 then fBits (mErF f k) else mErS f k + 100000000) else mErG f k) else -2000004) else nI (mErN f k)
