/-! the class tells of a pair -/
def jPrO (u : U) (x y : Int32) (o z : Nat) : Int32 := if ¬ jOut x 0 2 = 0 then -2000001 else if ¬ jOut y 0 1 = 0 then -2000001 else if jKn (u 9 x.toNatClampNeg) = 0 then -2000004 else if y = 0 then u o x.toNatClampNeg else u z x.toNatClampNeg
