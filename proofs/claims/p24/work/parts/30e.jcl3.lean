/-! the class tells of its stages -/
def jStO (u : U) (x y : Int32) : Int32 := if jHas x (u 0 0) = 0 then -2000001 else if y = 0 then u 1 x.toNatClampNeg else if y = 1 then u 2 x.toNatClampNeg else if y = 2 then u 3 x.toNatClampNeg else if y = 3 then jStay u x.toNatClampNeg else if y = 4 then jLeak u x.toNatClampNeg else if y = 5 then jLeav u x.toNatClampNeg else -2000001
def jMdd (u : U) (x : Int32) : Int32 := if ¬ jOut x 0 100000 = 0 then -2000001 else jMend u x
def cCS (cI : ClassId) (Q : Nat → Nat → Nat) (Z : Nat → U) : va_W := List.flatten [cCl Q, cLo cI (Q 0) (Z 0)]
def jSoC (u : U) (x : Int32) : Int32 := if ¬ jOut x 20 24 = 0 then -2000001 else u 10 (x.toNatClampNeg - 20)
def jCount (Z : Nat → U) (x : Int32) : Int32 := if x = 0 then Z 0 0 0 else if x = 1 then Z 0 11 0 else if x = 2 then jKept (Z 0) else if x = 3 then Z 0 12 0 else if x = 4 then jCnt (Z 0 9) 3 else if x = 5 then jNx (Z 0) else if x = 6 then (if jDue (Z 0 11 0) (Z 0 10 1) = 0 then 0 else 1) else if x = 7 then Z 7 1 0 else if x = 8 then Z 6 1 0 else jSoC (Z 0) x
