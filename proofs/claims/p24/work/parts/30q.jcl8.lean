/-! the class sets a setting -/
def jSetR (Z : Nat → U) (x y : Int32) : Int32 := if ¬ jOut x 0 4 = 0 then -2000001 else if ¬ jOut y (sLst x.toNatClampNeg) (sMst x.toNatClampNeg) = 0 then -2000001 else Z 0 10 x.toNatClampNeg
def jSetU (Z : Nat → U) (x y : Int32) (f k : Nat) : Nat → U := if ¬ jOut x 0 4 = 0 then Z else if ¬ jOut y (sLst x.toNatClampNeg) (sMst x.toNatClampNeg) = 0 then Z else va_up (jKeep Z f k) 0 (va_up (jKeep Z f k 0) 10 (upd (jKeep Z f k 0 10) x.toNatClampNeg y))
