/-! the cells of each object of the two classes, as lists over a function of rows (a scalar is place 0 of its row), and more rows of mine -/
abbrev U : Type := Nat → Nat → Int32
def cSt (cI : ClassId) (q : Nat → Nat) (u : U) : va_W := [(q 0, .inr (3, [.int (u 0 0), .ref (q 1), .ref (q 2), .ref (q 3), .int (u 4 0), .int (u 5 0), .int (u 6 0), .int (u 7 0)])), (q 1, .inl (cI, 10, .inl (u 1))), (q 2, .inl (cI, 10, .inl (u 2))), (q 3, .inl (cI, 10, .inl (u 3)))]
def cPr (cI : ClassId) (q : Nat → Nat) (u : U) : va_W := [(q 4, .inr (2, [.ref (q 5), .ref (q 6)])), (q 5, .inl (cI, 3, .inl (u 8))), (q 6, .inl (cI, 3, .inl (u 9)))]
def cLn (cI : ClassId) (q : Nat → Nat) (u : U) : va_W := [(q 7, .inr (1, [.ref (q 0), .ref (q 4), .ref (q 8), .int (u 11 0), .int (u 12 0), .ref (q 9), .ref (q 10), .ref (q 11), .ref (q 12)])), (q 8, .inl (cI, 5, .inl (u 10))), (q 9, .inl (cI, 32, .inl (u 13))), (q 10, .inl (cI, 32, .inl (u 14))), (q 11, .inl (cI, 32, .inl (u 15))), (q 12, .inl (cI, 32, .inl (u 16))), (q 0, .inr (3, [.int (u 0 0), .ref (q 1), .ref (q 2), .ref (q 3), .int (u 4 0), .int (u 5 0), .int (u 6 0), .int (u 7 0)])), (q 1, .inl (cI, 10, .inl (u 1))), (q 2, .inl (cI, 10, .inl (u 2))), (q 3, .inl (cI, 10, .inl (u 3))), (q 4, .inr (2, [.ref (q 5), .ref (q 6)])), (q 5, .inl (cI, 3, .inl (u 8))), (q 6, .inl (cI, 3, .inl (u 9)))]
def cTx (cI cC : ClassId) (q : Nat → Nat) (u : U) : va_W := [(q 0, .inr (4, [.ref (q 1), .int (u 1 0), .int (u 2 0), .int (u 3 0), .int (u 4 0), .int (u 5 0), .ref (q 2), .int (u 7 0), .int (u 8 0)])), (q 1, .inl (cC, 60, .inl (u 0))), (q 2, .inl (cI, 3, .inl (u 6)))]
def cMd (cI : ClassId) (q : Nat → Nat) (u : U) : va_W := [(q 0, .inr (6, [.ref (q 1), .ref (q 2), .ref (q 3), .int (u 3 0), .ref (q 4), .int (u 5 0), .ref (q 5), .int (u 7 0), .int (u 8 0), .int (u 9 0), .int (u 10 0), .int (u 11 0), .ref (q 6)])), (q 1, .inl (cI, 162, .inl (u 0))), (q 2, .inl (cI, 162, .inl (u 1))), (q 3, .inl (cI, 648, .inl (u 2))), (q 4, .inl (cI, 60, .inl (u 4))), (q 5, .inl (cI, 3, .inl (u 6))), (q 6, .inl (cI, 3, .inl (u 12)))]
def cHi (cL : ClassId) (Q : Nat → Nat → Nat) (z : U) : va_W := [(Q 7 0, .inr (0, [.ref (Q 7 1), .int (z 0 0), .int (z 1 0)])), (Q 7 1, .inl (cL, 4, .inr (.inr (.inr (.inr (fun k => some (Q (k + 1) 7)))))))]
def cLo (cI : ClassId) (q : Nat → Nat) (u : U) : va_W := [(q 7, .inr (1, [.ref (q 0), .ref (q 4), .ref (q 8), .int (u 11 0), .int (u 12 0), .ref (q 9), .ref (q 10), .ref (q 11), .ref (q 12)])), (q 8, .inl (cI, 5, .inl (u 10))), (q 9, .inl (cI, 32, .inl (u 13))), (q 10, .inl (cI, 32, .inl (u 14))), (q 11, .inl (cI, 32, .inl (u 15))), (q 12, .inl (cI, 32, .inl (u 16)))]
def cHK (cI cL : ClassId) (Q : Nat → Nat → Nat) (Z : Nat → U) : va_W := List.flatten [cHi cL Q (Z 7), cLn cI (Q 1) (Z 1), cLn cI (Q 2) (Z 2), cLn cI (Q 3) (Z 3), cLn cI (Q 4) (Z 4), cLn cI (Q 0) (Z 0)]
theorem y_b01 {c : Prop} {h : Decidable c} : (@ite Int32 c h 1 0) = 0 ∨ (@ite Int32 c h 1 0) = 1 := by
  cases h with
  | isTrue h => exact Or.inr rfl
  | isFalse h => exact Or.inl rfl
theorem y_b10 {c : Prop} {h : Decidable c} : (@ite Int32 c h 0 1) = 0 ∨ (@ite Int32 c h 0 1) = 1 := by
  cases h with
  | isTrue h => exact Or.inl rfl
  | isFalse h => exact Or.inr rfl
theorem y_tabOut {x : Int32} (lo hi : Int) (hlo : -2147483648 ≤ lo) (hhi : hi < 2147483648) (h : ∀ k : Int, lo ≤ k → k ≤ hi → x = Int32.ofInt k → False) : x.toInt < lo ∨ hi < x.toInt := by
  by_cases h1 : x.toInt < lo
  · exact Or.inl h1
  · by_cases h2 : hi < x.toInt
    · exact Or.inr h2
    · exact absurd (Int32.ofInt_toInt x).symm (fun z => h x.toInt (by omega) (by omega) z)
section YR2
variable {p : Program} {l : Launch} {e : Env} {R : Room} {s : State} {m : MethodId} {args : Array Value} {below : List Frame} {meth : Method} {c : Code} {H : Heap} {locs : List Loc} {cells slots : Nat} {Q : State → Prop}
variable {cc : ByteArray} {pc nL : Nat} {ls : Array Slot} {rest : List Value} {D : va_G} {cI cC cL : ClassId} {A : Nat → Prop} {a : Nat} {ws ws' : va_W} {Ts : List Cond} {own : String}
theorem y_alen (S : CallFix p m c cc nL s args Ts own) (hw : y_W D cI cC cL A s H locs ws) (q0 : Nat) {x : vp_A} (ha : ws[q0]? = some (a, .inl (cI, x))) {v : Int32} (hv : nI x.1 = v) (hdg : decode cc pc = .ok (.arraylength, 1))
    (kk : W p l e R s m args below meth c H locs cells slots Q (F0 m (pc + 1) ls (.int v :: rest))) : W p l e R s m args below meth c H locs cells slots Q (F0 m pc ls (.ref a :: rest)) :=
  va_alen S.1 S.2.1 hw.1 hw.2.1 q0 0 ha (ty := .int) rfl hv hdg kk
theorem y_startIF {σ : Type} {y : MethodName} {w w' : List Cond} {fr lo maxL : Nat} {as : List Value} {r : Int32} {F : σ → va_W} {u : σ} {ret : Option FieldType} (hy : plainFor y = true) (hwd : w = Cond.code y cc maxL ret :: w') (hn : (lg_sl as).length ≤ maxL) (hret : ∃ ty, ret = some ty ∧ ∀ x : Int32, (ty = .boolean → x = 0 ∨ x = 1) → narrow ty (.int x) = .int x) (hrb : ret = some .boolean → r = 0 ∨ r = 1)
    (body : ∀ (p : Program) (e : Env) (s : State) (m : MethodId) (args : Array Value) (below : List Frame) (meth : Method) (c : Code) (A : Nat → Prop) (Q : State → Prop) (ls : Array Slot), CallFix p m c cc maxL s args w y.cls → y_W D cI cC cL A s s.heap [] ws →
      (∀ (H : Heap) (locs : List Loc) (pc : Nat) (ls : Array Slot) (x : Int32), y_W D cI cC cL A s H locs (F u) → x = r → decode cc pc = .ok (.ireturn, 1) → W p l e (y_R fr lo) s m args below meth c H locs 0 0 Q (F0 m pc ls [.int x])) →
      lv_has ls maxL (lv_args 0 as) → W p l e (y_R fr lo) s m args below meth c s.heap [] 0 0 Q (F0 m 0 ls [])) : y_MI l y w fr lo D cI cC cL as ws r F u := by
  intro sz
  refine va_MetF (cc := cc) (maxL := maxL) (ret := ret) hy hwd ?_
  intro p e s m args below meth c s₁ B hml hv
  obtain ⟨rfl, hsz, hP, hK, hD0⟩ := hv
  have hts := atoms_spec (ws := w) B.pre
  have hr := B.returns
  have hlocks := B.notSynchronized
  subst hsz
  rw [lg_entry_eq]
  refine body p e s m _ below meth c (va_A ws s.heap.size) _ _ ⟨B.exec, B.bytes, hml, findClass_of_methodNamed B.named, hts⟩ ⟨hK, hP, hD0.self, va_S.rf, fun q h => Or.inr h⟩ ?_ (lv_entry as hn)
  intro H locs pc ls x hw hx hdg
  obtain ⟨ty, hty, hna⟩ := hret
  obtain ⟨hK, hP, hD, hS, hA⟩ := hw
  refine W.zret (v := x) B.exec B.bytes (hr.trans hty) (hna x (fun h => by rw [hx]; exact hrb (hty.trans (by rw [h])))) (fun t ht hW => ⟨⟨x, u, rfl, ⟨hx, rfl⟩, by rw [ht]; exact hP, va_K.moved hW.alike hK, hD⟩, hS.F ht⟩) hS.2.2 hdg
/-- System.arraycopy of a whole int array onto one of its length -/
theorem y_copy (S : CallFix p m c cc nL s args Ts own) (hw : y_W D cI cC cL A s H locs ws) (hl : ls.size = nL) {index : Nat} (w1 : Cond.methodLink own index arraycopyName ∈ Ts) (w2 : Cond.native arraycopyName ∈ Ts) (w3 : Cond.static arraycopyName ∈ Ts) (w4 : Cond.initialized "java/lang/System" ∈ Ts) (q0 q1 : Nat) {a0 n : Nat} {f g : Nat → Int32} (ha0 : ws[q0]? = some (a0, .inl (cI, n, .inl f))) (ha1 : ws[q1]? = some (a, .inl (cI, n, .inl g))) {x : Int32} (hx : x.toInt = (n : Int))
    (hframes : 1 ≤ R.frames) (hlocals : (rest.map fun v => v.category).sum + (nativeFrameWords "java/lang/System" "arraycopy" 5 + 11) ≤ R.locals) (hn : n ≤ 2147483647) (hdg : decode cc pc = .ok (.invokestatic index, 3)) (hws : ws.set q1 (a, .inl (cI, n, .inl f)) = ws')
    (kk : ∀ (H1 : Heap) (locs1 : List Loc), y_W D cI cC cL A s H1 locs1 ws' → W p l e R s m args below meth c H1 locs1 cells slots Q (F0 m (pc + 3) ls rest)) : W p l e R s m args below meth c H locs cells slots Q (F0 m pc ls (.int x :: .int 0 :: .ref a :: .int 0 :: .ref a0 :: rest)) := by
  have hc : x.toNatClampNeg = n := by
    have : x.toNatClampNeg = x.toInt.toNat := rfl
    rw [this, hx]
    rfl
  have hc0 : (0 : Int32).toNatClampNeg = 0 := rfl
  have hw0 := hw
  obtain ⟨hK, hP, hD, hS, hA⟩ := hw
  refine va_copyi S.1 S.2.1 (by rw [S.2.2.1, hl]) S.2.2.2.1 (S.2.2.2.2 _ w1) (S.2.2.2.2 _ w2) (S.2.2.2.2 _ w3) (S.2.2.2.2 _ w4) hK hP hD hS q0 q1 0 0 ha0 ha1 rfl rfl rfl (by decide) (by decide) (fun h => ?_) (by rw [hc, hc0]; omega) (by rw [hc, hc0]; omega) (fun i _ => rfl) hframes hlocals hdg (fun H1 locs1 hP1 hD1 hS1 => ?_)
  · have := Int32.lt_iff_toInt_lt.mp h
    rw [hx] at this
    have h0 : (0 : Int32).toInt = 0 := rfl
    omega
  · have hw1 : y_W D cI cC cL A s H1 locs1 _ := ⟨hK, hP1, hD1, hS1, hA⟩
    have hlt : q1 < ws.length := (List.getElem?_eq_some_iff.mp ha1).1
    refine kk H1 locs1 (hw1.cong q1 (a := a) (cA := cI) (n := n) f (by rw [List.getElem?_set_self hlt]) (fun k hk => ?_) (by rw [List.set_set, hws]))
    rw [hc, hc0]
    unfold va_cpy
    rw [if_pos ⟨Nat.zero_le _, by omega⟩]
    congr 1
    omega
end YR2
