/-! the class tells of its stages -/
def jStO (u : U) (x y : Int32) : Int32 := if jHas x (u 0 0) = 0 then -2000001 else if y = 0 then u 1 x.toNatClampNeg else if y = 1 then u 2 x.toNatClampNeg else if y = 2 then u 3 x.toNatClampNeg else if y = 3 then jStay u x.toNatClampNeg else if y = 4 then jLeak u x.toNatClampNeg else if y = 5 then jLeav u x.toNatClampNeg else -2000001
def jMdd (u : U) (x : Int32) : Int32 := if ¬ jOut x 0 100000 = 0 then -2000001 else jMend u x
