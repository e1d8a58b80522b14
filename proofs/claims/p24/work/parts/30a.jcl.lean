/-! the class's own cells, and all cells of the class -/
def cCl (Q : Nat → Nat → Nat) : va_W := [(Q 8 0, .inr (5, [.ref (Q 0 7), .ref (Q 7 0), .ref (Q 6 0), .ref (Q 5 0)]))]
def cWd (cI cC cL : ClassId) (Q : Nat → Nat → Nat) (Z : Nat → U) : va_W := List.flatten [cCl Q, cHi cL Q (Z 7), cLn cI (Q 1) (Z 1), cLn cI (Q 2) (Z 2), cLn cI (Q 3) (Z 3), cLn cI (Q 4) (Z 4), cLo cI (Q 0) (Z 0), cSt cI (Q 0) (Z 0), cPr cI (Q 0) (Z 0), cTx cI cC (Q 6) (Z 6), cSt cI (Q 5) (Z 5)]
def jOut (x y z : Int32) : Int32 := if x < y then 1 else if x ≤ z then 0 else 1
theorem jOut_01 {x y z : Int32} : jOut x y z = 0 ∨ jOut x y z = 1 := by
  unfold jOut
  split
  · exact Or.inr rfl
  · split
    · exact Or.inl rfl
    · exact Or.inr rfl
def jAcc (Z : Nat → U) (x : Int32) (n : Nat) : Int32 := if x = 0 then Z 0 4 0 else if x = 1 then Z 0 5 0 else if x = 2 then Z 0 6 0 else if x = 3 then Z 0 7 0 else if x = 4 then jSum (Z 0 1) n else -2000001
