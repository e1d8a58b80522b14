/-! objects that are made: what the class's static rows hold, the nest mates' links; contracts of constructors -/
def sFst : V1 := fun j => if j = 0 then 20000 else if j = 1 then 0 else if j = 2 then 1000 else if j = 3 then 4000 else 9000
def sLst : V1 := fun j => if j = 0 then 1000 else if j = 1 then 0 else 1
def sMst : V1 := fun j => if j = 0 then 100000 else if j = 1 then 12 else 10000
def y_Ft (nm : String) (f : V1) (A : Nat → Prop) (U : State) (H : Heap) : Prop := ∃ (t : Nat) (cell : Cell), va_Z RX5 nm "[I" (.ref t) A U H ∧ H[t]? = some cell ∧ U.vm.findClass "[I" = some cell.cls ∧ U.isArrayOf cell .int ∧ cell.vm ≠ .unknown ∧ (∀ k, cell.vm ≠ .statics k) ∧ cell.slots = Array.ofFn (n := 5) (fun j => Value.int (f j.val)) ∧ ¬ A t
theorem y_Ft.moved {nm : String} {f : V1} {A : Nat → Prop} {u U : State} {H : Heap} (hvm : u.vm.Alike U.vm) (h : y_Ft nm f A u H) : y_Ft nm f A U H := by
  obtain ⟨t, cell, h1, h2, h3, h4, h5⟩ := h
  exact ⟨t, cell, h1.moved hvm, h2, by rw [hvm.findClass]; exact h3, State.isArrayOf_alike hvm h4, h5⟩
theorem y_Ft.kept {nm : String} {f : V1} {A : Nat → Prop} {U : State} {H H1 : Heap} (h : y_Ft nm f A U H) (hq : ∀ a : Nat, a < H.size → ¬ A a → H1[a]? = H[a]?) : y_Ft nm f A U H1 := by
  obtain ⟨t, cell, h1, h2, h3, h4, h5, h6, h7, h8⟩ := h
  exact ⟨t, cell, h1.kept hq, by rw [hq t (Array.getElem?_eq_some_iff.mp h2).1 h8]; exact h2, h3, h4, h5, h6, h7, h8⟩
theorem y_Ft.narrow {nm : String} {f : V1} {A B : Nat → Prop} {U : State} {H : Heap} (h : y_Ft nm f A U H) (hAB : ∀ q, B q → A q) : y_Ft nm f B U H := by
  obtain ⟨t, cell, h1, h2, h3, h4, h5, h6, h7, h8⟩ := h
  exact ⟨t, cell, h1.narrow hAB, h2, h3, h4, h5, h6, h7, fun z => h8 (hAB t z)⟩
theorem y_Ft.T {nm : String} {f : V1} {A : Nat → Prop} {U : State} {H : Heap} (h : y_Ft nm f A U H) : ∃ t, va_Z RX5 nm "[I" (.ref t) A U H ∧ va_T .int t 5 (fun j => .int (f j)) A U H := by
  obtain ⟨t, cell, h1, h2, h3, h4, h5, h6, h7, h8⟩ := h
  refine ⟨t, h1, cell, h2, h4, h5, ?_, ?_, ?_, h8⟩
  · rw [h7, Array.size_ofFn]; exact Nat.le_refl _
  · rw [h7, Array.size_ofFn]
  · intro j hj
    rw [h7]
    simp [hj]
def y_Nw (U : State) : Prop := va_Nw (.methodLinkNest RX5 11 yX1_init RX5) U ∧ va_Nw (.methodLinkNest RX5 25 yX4_init RX5) U ∧ va_Nw (.methodLinkNest RX5 32 yX3_init RX5) U ∧ va_Nw (.methodLinkNest RX0 17 yX1_init RX5) U ∧ va_Nw (.methodLinkNest RX1 11 yX3_init RX5) U ∧ va_Nw (.methodLinkNest RX1 20 yX2_init RX5) U ∧ va_Nw (.fieldLinkNest RX1 25 RX5 "FIRST_SETTINGS" "[I" RX5) U ∧ va_Nw (.castable "[I" "java/lang/Cloneable") U ∧ va_AO RX1 U
def y_X (A : Nat → Prop) (U : State) : Prop := y_Nw U ∧ y_Ft "FIRST_SETTINGS" sFst A U U.heap ∧ y_Ft "LEAST_SETTINGS" sLst A U U.heap ∧ y_Ft "MOST_SETTINGS" sMst A U U.heap
theorem y_X.to {A A' : Nat → Prop} {s U : State} {H : Heap} {locs : List Loc} (h : y_X A s) (hS : va_S A s.heap H locs) (hU : U.heap = H) (hW : s.WarmedH U.vm) (hA : ∀ q, A' q → A q) : y_X A' U := by
  obtain ⟨⟨n1, n2, n3, n4, n5, n6, n7, n8, n9⟩, f1, f2, f3⟩ := h
  have hq := hS.2.1
  refine ⟨⟨va_Nw.warmM hW n1, va_Nw.warmM hW n2, va_Nw.warmM hW n3, va_Nw.warmM hW n4, va_Nw.warmM hW n5, va_Nw.warmM hW n6, va_Nw.warmF hW n7, va_Nw.warmC hW n8, n9.moved hW.alike⟩, ?_, ?_, ?_⟩
  · rw [hU]; exact ((f1.kept hq).narrow hA).moved hW.alike
  · rw [hU]; exact ((f2.kept hq).narrow hA).moved hW.alike
  · rw [hU]; exact ((f3.kept hq).narrow hA).moved hW.alike
theorem y_X.blind {A : Nat → Prop} {U : State} {g : JFrame} {mk : MethodId} {a : Array Value} (h : y_X A U) : y_X A (U.calling g mk a) := by
  obtain ⟨⟨n1, n2, n3, n4, n5, n6, n7, n8, n9⟩, f1, f2, f3⟩ := h
  exact ⟨⟨va_Nw.same rfl rfl n1, va_Nw.same rfl rfl n2, va_Nw.same rfl rfl n3, va_Nw.same rfl rfl n4, va_Nw.same rfl rfl n5, va_Nw.same rfl rfl n6, va_Nw.same rfl rfl n7, va_Nw.same rfl rfl n8, n9.moved (Vm.Alike.refl U.vm)⟩, f1.moved (U := U.calling g mk a) (Vm.Alike.refl U.vm), f2.moved (U := U.calling g mk a) (Vm.Alike.refl U.vm), f3.moved (U := U.calling g mk a) (Vm.Alike.refl U.vm)⟩
abbrev y_RN (fr lo mc ms : Nat) : Room := { frames := fr, cells := mc, slots := ms, locals := lo }
/-- a contract of a constructor: mc cells of ms slots come; of a method that reads the static rows -/
def y_MN {σ : Type} (l : Launch) (y : MethodName) (w : List Cond) (fr lo mc ms : Nat) (D : va_G) (cI cC cL : ClassId) (as : List Value) (ws : va_W) (post : σ → Prop) (F : σ → va_W) : Prop :=
  ∀ sz : Nat, Met l y w (y_RN fr lo mc ms) (va_Pc as (fun U => y_Pre D cI cC cL sz ws U ∧ y_X (va_A ws sz) U)) (va_Qv post (fun v t => y_B D cI cC cL (va_A ws sz) (F v) t) (va_A ws sz)) mc ms (va_A ws sz)
def y_MIX {σ : Type} (l : Launch) (y : MethodName) (w : List Cond) (fr lo : Nat) (D : va_G) (cI cC cL : ClassId) (as : List Value) (ws : va_W) (r : Int32) (F : σ → va_W) (u : σ) : Prop :=
  ∀ sz : Nat, Met l y w (y_R fr lo) (va_Pc as (fun U => y_Pre D cI cC cL sz ws U ∧ y_X (va_A ws sz) U)) (va_Qi (fun (x : Int32) (v : σ) => x = r ∧ v = u) (fun v t => y_B D cI cC cL (va_A ws sz) (F v) t) (va_A ws sz)) 0 0 (va_A ws sz)
theorem y_blindX {D : va_G} {cI cC cL : ClassId} {as : List Value} {sz : Nat} {ws : va_W} : FrameBlind (va_Pc as (fun U => y_Pre D cI cC cL sz ws U ∧ y_X (va_A ws sz) U)) := fun a U g mk q => by
  obtain ⟨q0, ⟨q1, qP, qK, qD⟩, qX⟩ := q
  exact ⟨q0, ⟨q1, qP, va_K.moved (u := U) (U := U.calling g mk a) (Vm.Alike.refl U.vm) qK, qD⟩, qX.blind⟩
section YN
variable {p : Program} {l : Launch} {e : Env} {R : Room} {s : State} {m : MethodId} {args : Array Value} {below : List Frame} {meth : Method} {c : Code} {H : Heap} {locs : List Loc} {cells slots : Nat} {Q : State → Prop}
variable {cc : ByteArray} {pc nL : Nat} {ls : Array Slot} {rest : List Value} {D : va_G} {cI cC cL : ClassId} {A : Nat → Prop} {a : Nat} {ws ws' : va_W} {Ts : List Cond} {own : String}
theorem y_startIX {σ : Type} {y : MethodName} {w w' : List Cond} {fr lo maxL : Nat} {as : List Value} {r : Int32} {F : σ → va_W} {u : σ} {ret : Option FieldType} (hy : plainName y.cls = true) (hwd : w = Cond.code y cc maxL ret :: w') (hn : (lg_sl as).length ≤ maxL) (hret : ∃ ty, ret = some ty ∧ ∀ x : Int32, (ty = .boolean → x = 0 ∨ x = 1) → narrow ty (.int x) = .int x) (hrb : ret = some .boolean → r = 0 ∨ r = 1)
    (body : ∀ (p : Program) (e : Env) (s : State) (m : MethodId) (args : Array Value) (below : List Frame) (meth : Method) (c : Code) (A : Nat → Prop) (Q : State → Prop) (ls : Array Slot), CallFix p m c cc maxL s args w y.cls → y_X A s → y_W D cI cC cL A s s.heap [] ws →
      (∀ (H : Heap) (locs : List Loc) (pc : Nat) (ls : Array Slot) (x : Int32), y_W D cI cC cL A s H locs (F u) → x = r → decode cc pc = .ok (.ireturn, 1) → W p l e (y_R fr lo) s m args below meth c H locs 0 0 Q (F0 m pc ls [.int x])) →
      lv_has ls maxL (lv_args 0 as) → W p l e (y_R fr lo) s m args below meth c s.heap [] 0 0 Q (F0 m 0 ls [])) : y_MIX l y w fr lo D cI cC cL as ws r F u := by
  intro sz
  refine Met.ofW (cc := cc) (maxL := maxL) (ret := ret) hy hwd ?_
  intro p e s m args below meth c s₁ B hml hv
  obtain ⟨rfl, ⟨hsz, hP, hK, hD0⟩, hX⟩ := hv
  have hts := atoms_spec (ws := w) B.pre
  have hr := B.returns
  have hlocks := B.notSynchronized
  subst hsz
  rw [lg_entry_eq]
  refine body p e s m _ below meth c (va_A ws s.heap.size) _ _ ⟨B.exec, B.bytes, hml, findClass_of_methodNamed B.named, hts⟩ hX ⟨hK, hP, hD0.self, va_S.rf, fun q h => Or.inr h⟩ ?_ (lv_entry as hn)
  intro H locs pc ls x hw hx hdg
  obtain ⟨ty, hty, hna⟩ := hret
  obtain ⟨hK, hP, hD, hS, hA⟩ := hw
  refine W.zret (v := x) B.exec B.bytes (hr.trans hty) (hna x (fun h => by rw [hx]; exact hrb (hty.trans (by rw [h])))) (fun t ht hW => ⟨⟨x, u, rfl, ⟨hx, rfl⟩, by rw [ht]; exact hP, va_K.moved hW.alike hK, hD⟩, hS.F ht⟩) hS.2.2 hdg
theorem y_startN {σ : Type} {y : MethodName} {w w' : List Cond} {fr lo mc ms maxL : Nat} {as : List Value} {post : σ → Prop} {F : σ → va_W} (hy : plainName y.cls = true) (hwd : w = Cond.code y cc maxL none :: w') (hn : (lg_sl as).length ≤ maxL)
    (body : ∀ (p : Program) (e : Env) (s : State) (m : MethodId) (args : Array Value) (below : List Frame) (meth : Method) (c : Code) (A : Nat → Prop) (Q : State → Prop) (ls : Array Slot), CallFix p m c cc maxL s args w y.cls → meth.name = y.name → y_X A s → y_W D cI cC cL A s s.heap [] ws →
      (∀ (H : Heap) (locs : List Loc) (pc : Nat) (ls : Array Slot) (v : σ), y_W D cI cC cL A s H locs (F v) → post v → decode cc pc = .ok (.return_, 1) → W p l e (y_RN fr lo mc ms) s m args below meth c H locs mc ms Q (F0 m pc ls [])) →
      lv_has ls maxL (lv_args 0 as) → W p l e (y_RN fr lo mc ms) s m args below meth c s.heap [] 0 0 Q (F0 m 0 ls [])) : y_MN l y w fr lo mc ms D cI cC cL as ws post F := by
  intro sz
  refine Met.ofW (cc := cc) (maxL := maxL) (ret := none) hy hwd ?_
  intro p e s m args below meth c s₁ B hml hv
  obtain ⟨rfl, ⟨hsz, hP, hK, hD0⟩, hX⟩ := hv
  have hts := atoms_spec (ws := w) B.pre
  have hr := B.returns
  have hlocks := B.notSynchronized
  subst hsz
  rw [lg_entry_eq]
  refine body p e s m _ below meth c (va_A ws s.heap.size) _ _ ⟨B.exec, B.bytes, hml, findClass_of_methodNamed B.named, hts⟩ (name_of_methodNamed B.named B.method).1 hX ⟨hK, hP, hD0.self, va_S.rf, fun q h => Or.inr h⟩ ?_ (lv_entry as hn)
  intro H locs pc ls v hw hp hdg
  obtain ⟨hK, hP, hD, hS, hA⟩ := hw
  exact W.vret B.exec B.bytes hr (fun t ht hW => ⟨⟨v, rfl, hp, by rw [ht]; exact hP, va_K.moved hW.alike hK, hD⟩, hS.F ht⟩) hS.2.2 hdg
theorem y_new (S : CallFix p m c cc nL s args Ts own) (hw : y_W D cI cC cL A s H locs ws) {C : String} {T : u_T} {N ci index : Nat} (hin : ∀ w ∈ u_ws C T N, w ∈ Ts) {ty : Nat → FieldType} (hty : ∀ k, k < N → parseFieldDescriptor (T k).2.2.1 = some (ty k)) (hcl : Cond.classLink own index C ∈ Ts) (hinst : Cond.instantiable C N ∈ Ts) (hini : Cond.initialized C ∈ Ts) (hc : vwCl[ci]? = some (C, T, N)) {fs : List Value} (hfs : ∀ j, j < N → defaultValue (ty j) = vp_V fs j) (hcells : cells + 1 ≤ R.cells) (hslots : slots + N ≤ R.slots) (hdg : decode cc pc = .ok (.new index, 3))
    (kk : ∀ (q : Nat) (H1 : Heap), y_W D cI cC cL A s H1 locs (ws ++ [(q, .inr (ci, fs))]) → W p l e R s m args below meth c H1 locs (cells + 1) (slots + N) Q (F0 m (pc + 3) ls (.ref q :: rest))) : W p l e R s m args below meth c H locs cells slots Q (F0 m pc ls rest) := by
  obtain ⟨hx, hb, hml, hown, hts⟩ := S
  obtain ⟨hK, hP, hD, hS, hA⟩ := hw
  exact va_new hx hb hts hin ty hty hown (hts _ hcl) (hts _ hinst) (hts _ hini) hK hP hD hS hA hc hfs hcells hslots hdg (fun q H1 hP1 hD1 hS1 => kk q H1 ⟨hK, hP1, hD1, hS1, hA⟩)
theorem y_newI (S : CallFix p m c cc nL s args Ts own) (hw : y_W D cI cC cL A s H locs ws) (harr : Cond.arrayClass .int ∈ Ts) {n : Int32} {N : Nat} (hn : ¬ n < 0) (hN : n.toNatClampNeg = N) (hbytes : N * 4 ≤ 536870912) (hcells : cells + 1 ≤ R.cells) (hslots : slots + N ≤ R.slots) (hdg : decode cc pc = .ok (.newarray .int, 2))
    (kk : ∀ (q : Nat) (H1 : Heap), y_W D cI cC cL A s H1 locs (ws ++ [(q, .inl (cI, N, .inl (fun _ => 0)))]) → W p l e R s m args below meth c H1 locs (cells + 1) (slots + N) Q (F0 m (pc + 2) ls (.ref q :: rest))) : W p l e R s m args below meth c H locs cells slots Q (F0 m pc ls (.int n :: rest)) := by
  obtain ⟨hx, hb, hml, hown, hts⟩ := S
  obtain ⟨hK, hP, hD, hS, hA⟩ := hw
  refine va_newa (atype := .int) (ty := .int) (a0 := (N, .inl (fun _ => 0))) hx hb (hts _ harr) rfl hK hP hD hS hA (fun cA => rfl) hn hN hbytes hcells hslots hdg (fun q cA H1 hK1 hP1 hD1 hS1 => ?_)
  have e : cA = cI := Option.some.inj ((show s.vm.findClass ("[" ++ FieldType.int.toString) = some cA from (hK1.2 4 (cA, .int) rfl).2).symm.trans (hK.2 0 (cI, .int) rfl).2)
  rw [e] at hP1 hD1
  exact kk q H1 ⟨hK, hP1, hD1, hS1, hA⟩
theorem y_newC (S : CallFix p m c cc nL s args Ts own) (hw : y_W D cI cC cL A s H locs ws) (harr : Cond.arrayClass .char ∈ Ts) {n : Int32} {N : Nat} (hn : ¬ n < 0) (hN : n.toNatClampNeg = N) (hbytes : N * 2 ≤ 536870912) (hcells : cells + 1 ≤ R.cells) (hslots : slots + N ≤ R.slots) (hdg : decode cc pc = .ok (.newarray .char, 2))
    (kk : ∀ (q : Nat) (H1 : Heap), y_W D cI cC cL A s H1 locs (ws ++ [(q, .inl (cC, N, .inl (fun _ => 0)))]) → W p l e R s m args below meth c H1 locs (cells + 1) (slots + N) Q (F0 m (pc + 2) ls (.ref q :: rest))) : W p l e R s m args below meth c H locs cells slots Q (F0 m pc ls (.int n :: rest)) := by
  obtain ⟨hx, hb, hml, hown, hts⟩ := S
  obtain ⟨hK, hP, hD, hS, hA⟩ := hw
  refine va_newa (atype := .char) (ty := .char) (a0 := (N, .inl (fun _ => 0))) hx hb (hts _ harr) rfl hK hP hD hS hA (fun cA => rfl) hn hN hbytes hcells hslots hdg (fun q cA H1 hK1 hP1 hD1 hS1 => ?_)
  have e : cA = cC := Option.some.inj ((show s.vm.findClass ("[" ++ FieldType.char.toString) = some cA from (hK1.2 4 (cA, .char) rfl).2).symm.trans (hK.2 1 (cC, .char) rfl).2)
  rw [e] at hP1 hD1
  exact kk q H1 ⟨hK, hP1, hD1, hS1, hA⟩
theorem y_newQ (S : CallFix p m c cc nL s args Ts own) (hX : y_X A s) (hw : y_W D cI cC cL A s H locs ws) {index : Nat} (hcl : Cond.classLink own index RX1 ∈ Ts) {n : Int32} {N : Nat} (hn : ¬ n < 0) (hN : n.toNatClampNeg = N) (hbytes : N * 4 ≤ 536870912) (hcells : cells + 1 ≤ R.cells) (hslots : slots + N ≤ R.slots) (hdg : decode cc pc = .ok (.anewarray index, 3))
    (kk : ∀ (q : Nat) (H1 : Heap), y_W D cI cC cL A s H1 locs (ws ++ [(q, .inl (cL, N, .inr (.inr (.inr (.inr (fun _ => none))))))]) → W p l e R s m args below meth c H1 locs (cells + 1) (slots + N) Q (F0 m (pc + 3) ls (.ref q :: rest))) : W p l e R s m args below meth c H locs cells slots Q (F0 m pc ls (.int n :: rest)) := by
  obtain ⟨hx, hb, hml, hown, hts⟩ := S
  obtain ⟨hK, hP, hD, hS, hA⟩ := hw
  refine va_newq hx hb hown (hts _ hcl) hX.1.2.2.2.2.2.2.2.2 hK hP hD hS hA hn hN hbytes hcells hslots hdg (fun q cA H1 hK1 hP1 hD1 hS1 => ?_)
  obtain ⟨k1, c1, -, -, -, g1⟩ := (hK1.2 4 (cA, .object RX1) rfl).2
  obtain ⟨k2, c2, -, -, -, g2⟩ := (hK.2 2 (cL, .object RX1) rfl).2
  have e : cA = cL := Option.some.inj (g1.symm.trans g2)
  rw [e] at hP1 hD1
  exact kk q H1 ⟨hK, hP1, hD1, hS1, hA⟩
theorem y_astq (S : CallFix p m c cc nL s args Ts own) (hw : y_W D cI cC cL A s H locs ws) (q0 qk ci : Nat) {n k v : Nat} {vs : List Value} {f : Nat → Option Nat} (ha : ws[q0]? = some (a, .inl (cL, n, .inr (.inr (.inr (.inr f)))))) (hv : ws[qk]? = some (v, .inr (ci, vs))) (hc : vwCl[ci]? = some (RX1, TX1, 9)) (hk : k < n) (hn : n < 2 ^ 31) (hdg : decode cc pc = .ok (.aastore, 1)) (hws : ws.set q0 (a, .inl (cL, n, .inr (.inr (.inr (.inr (va_up f k (some v))))))) = ws')
    (kk : ∀ (H1 : Heap) (locs1 : List Loc), y_W D cI cC cL A s H1 locs1 ws' → W p l e R s m args below meth c H1 locs1 cells slots Q (F0 m (pc + 1) ls rest)) : W p l e R s m args below meth c H locs cells slots Q (F0 m pc ls (.ref v :: .int (nI k) :: .ref a :: rest)) := by
  obtain ⟨hx, hb, hml, hown, hts⟩ := S
  obtain ⟨hK, hP, hD, hS, hA⟩ := hw
  refine va_astq (r := (RX1, TX1, 9)) hx hb hK hP hD hS q0 2 qk ci ha rfl hv hc (vp_in_nI hk hn) hdg (fun H1 locs1 hP1 hD1 hS1 => ?_)
  rw [nI_clamp (by omega), hws] at hP1 hD1
  exact kk H1 locs1 ⟨hK, hP1, hD1, hS1, hA⟩
theorem y_putF (S : CallFix p m c cc nL s args Ts own) (hw : y_W D cI cC cL A s H locs ws) (hin2 : meth.name = "<init>") {C : String} {T : u_T} {N ci index : Nat} (hin : ∀ w ∈ u_ws C T N, w ∈ Ts) {ty0 : Nat → FieldType} (hty : ∀ k, k < N → parseFieldDescriptor (T k).2.2.1 = some (ty0 k)) (hnm : ∀ a, a < N → ∀ b, b < N → a ≠ b → (T a).2.1 ≠ (T b).2.1) (q0 : Nat) {fs : List Value} (he : ws[q0]? = some (a, .inr (ci, fs))) (hc : vwCl[ci]? = some (C, T, N)) (k : Nat) (hk : k < N) (hlink : Cond.fieldLink own index (T k).1 (T k).2.1 (T k).2.2.1 ∈ Ts) (hfin : (T k).2.2.2 = true) (hdecl : (T k).1 = own) {v : Value} (hn : narrow (ty0 k) v = v) (hfit : fits (ty0 k) v = true) (hl : k < fs.length) (hdg : decode cc pc = .ok (.putfield index, 3)) (hws : ws.set q0 (a, .inr (ci, fs.set k v)) = ws')
    (kk : ∀ (H1 : Heap) (locs1 : List Loc), y_W D cI cC cL A s H1 locs1 ws' → W p l e R s m args below meth c H1 locs1 cells slots Q (F0 m (pc + 3) ls rest)) : W p l e R s m args below meth c H locs cells slots Q (F0 m pc ls (v :: .ref a :: rest)) := by
  obtain ⟨hx, hb, hml, hown, hts⟩ := S
  obtain ⟨hK, hP, hD, hS, hA⟩ := hw
  refine va_putF (D := D) (ci := ci) (v := v) (ty := ty0 k) (C := C) (T := T) (N := N) hx hb hts hin ty0 hty hnm hown hK hP hD hS q0 he hc k hk (hts _ hlink) (fun _ h9 => h9) hfin hin2 hdecl (hty k hk) hn hfit hl hdg (fun H1 locs1 hP1 hD1 hS1 => ?_)
  exact kk H1 locs1 ⟨hK, hws ▸ hP1, hws ▸ hD1, hS1, hA⟩
theorem y_getsN (S : CallFix p m c cc nL s args Ts own) (hw : y_W D cI cC cL A s H locs ws) (hown1 : own = RX1) (hX : y_X A s) {t : Nat} (hZ : va_Z RX5 "FIRST_SETTINGS" "[I" (.ref t) A s s.heap) (hdg : decode cc pc = .ok (.getstatic 25, 3))
    (kk : W p l e R s m args below meth c H locs cells slots Q (F0 m (pc + 3) ls (.ref t :: rest))) : W p l e R s m args below meth c H locs cells slots Q (F0 m pc ls rest) := by
  subst hown1
  exact va_getsN S.1 S.2.1 hZ hw.2.2.2.1 S.2.2.2.1 (va_Nw.use (A := args) rfl hX.1.2.2.2.2.2.2.1) (fun _ h => h) hdg kk
theorem y_cloneS (S : CallFix p m c cc nL s args Ts own) (hw : y_W D cI cC cL A s H locs ws) (hl : ls.size = nL) (hX : y_X A s) {index t : Nat} {cell : Cell} {f : V1} (h2 : s.heap[t]? = some cell) (h3 : s.vm.findClass "[I" = some cell.cls) (h4 : s.isArrayOf cell .int) (h5 : cell.vm ≠ .unknown) (h6 : ∀ k, cell.vm ≠ .statics k) (h7 : cell.slots = Array.ofFn (n := 5) (fun j => Value.int (f j.val))) (h8 : ¬ A t)
    (w1 : Cond.methodLink own index ⟨"[I", "clone", "()Ljava/lang/Object;"⟩ ∈ Ts) (w2 : Cond.sameMethod "[I" "java/lang/Object" "clone" "()Ljava/lang/Object;" ∈ Ts) (w3 : Cond.native ⟨"java/lang/Object", "clone", "()Ljava/lang/Object;"⟩ ∈ Ts) (w4 : Cond.instanceMethod ⟨"java/lang/Object", "clone", "()Ljava/lang/Object;"⟩ ∈ Ts) (w5 : Cond.selects "[I" ⟨"[I", "clone", "()Ljava/lang/Object;"⟩ ⟨"java/lang/Object", "clone", "()Ljava/lang/Object;"⟩ ∈ Ts)
    (hframes : 1 ≤ R.frames) (hlocals : (rest.map fun v => v.category).sum + 14 ≤ R.locals) (hcells : cells + 1 ≤ R.cells) (hslots : slots + 5 ≤ R.slots) (hdg : decode cc pc = .ok (.invokevirtual index, 3))
    (kk : ∀ (q : Nat) (H1 : Heap), y_W D cI cC cL A s H1 locs (ws ++ [(q, .inl (cI, 5, .inl f))]) → W p l e R s m args below meth c H1 locs (cells + 1) (slots + 5) Q (F0 m (pc + 3) ls (.ref q :: rest))) : W p l e R s m args below meth c H locs cells slots Q (F0 m pc ls (.ref t :: rest)) := by
  obtain ⟨hx, hb, hml0, hown, hts⟩ := S
  obtain ⟨hK, hP, hD, hS, hA⟩ := hw
  obtain ⟨c0, t0', f1, f2, f3⟩ := Cond.castable_spec (va_Nw.use (A := args) rfl hX.1.2.2.2.2.2.2.2.1)
  have e0 : c0 = cell.cls := Option.some.inj (f1.symm.trans h3)
  have eI : cell.cls = cI := Option.some.inj (h3.symm.trans (show s.vm.findClass ("[" ++ FieldType.int.toString) = some cI from (hK.2 0 (cI, .int) rfl).2))
  have hlt : t < s.heap.size := (Array.getElem?_eq_some_iff.mp h2).1
  have hcH : H[t]? = some cell := by rw [hS.2.1 t hlt h8]; exact h2
  have hsz : cell.slots.size = 5 := by rw [h7, Array.size_ofFn]
  intro T hT X
  have hcellT : T.heap[t]? = some cell := by rw [hT]; exact hcH
  obtain ⟨-, kA, hkA, comp, hkind⟩ := State.isArrayOf_alike X.warmed.alike h4
  obtain ⟨-, kS, hkS, compS, hkindS⟩ := h4
  obtain ⟨vm', X', st⟩ := X.cloneArray hx hown (hts _ w1) (hts _ w2) (hts _ w3) (hts _ w4) (hts _ w5) (a := t) (cell := cell) hcellT h6 h5 h3 f2 (by rw [← e0]; exact f3)
    (fun i v hv => by
      have hk' : T.vm.classes[cell.cls]? = some kA := hkA
      have hf : fits .int v = true := by
        rw [h7, Array.getElem?_ofFn] at hv
        split at hv
        · cases hv; rfl
        · cases hv
      simpa [State.fitsSlot, State.slotType?, hk', hkind] using hf)
    (g := F0 m pc ls (.ref t :: rest)) rfl (by rw [hml0]; exact hl) rfl (by rw [hb]; exact hdg) hframes (by show 2 * 0 + _ + 14 ≤ _; omega) hcells (by rw [hsz]; exact hslots) (hloader := Vm.clonesLoader_of_array hkS hkindS)
  have hcellE : ({ cls := cell.cls, slots := cell.slots } : Cell) = vp_cell cI (5, .inl f) := by rw [eI, h7]; rfl
  rw [hcellE, hsz] at X'
  generalize hH1 : H.push (vp_cell cI (5, .inl f)) = H1
  have z1 : H1.size = H.size + 1 := by rw [← hH1, Array.size_push]
  have e1 : H1[H.size]? = some (vp_cell cI (5, .inl f)) := by rw [← hH1, Array.getElem?_push_size]
  have o1 : ∀ q : Nat, q < H.size → H1[q]? = H[q]? := fun q hq => by rw [← hH1, Array.getElem?_push, if_neg (Nat.ne_of_lt hq)]
  have hk : ∀ (k : Nat) (y : Nat × va_E), ws[k]? = some y → H1[y.1]? = H[y.1]? := fun k y hy => o1 y.1 ((hP k y hy).lt)
  obtain ⟨t', b1, b2⟩ := kk H.size H1 ⟨hK, ((hP.kept hk).app (fun k y hy => by
      have hz : k < 1 := (List.getElem?_eq_some_iff.mp hy).1
      rw [show k = 0 by omega] at hy
      cases hy
      exact e1)), (hD.push hP rfl (hA _ hS.1)), ⟨Nat.le_trans hS.1 (by omega), fun y h1 h2 => (o1 y (Nat.lt_of_lt_of_le h1 hS.1)).trans (hS.2.1 y h1 h2), hS.2.2⟩, hA⟩
    ((T.setVm vm').pushCell (vp_cell cI (5, .inl f))) (by rw [← hH1, ← hT]; rfl) X'
  refine ⟨t', st t' ?_, b2⟩
  rw [hcellE, hT]
  exact b1
theorem y_castA (S : CallFix p m c cc nL s args Ts own) (hw : y_W D cI cC cL A s H locs ws) {index : Nat} (hlink : Cond.classLink own index "[I" ∈ Ts) (q0 : Nat) {x : vp_A} (ha : ws[q0]? = some (a, .inl (cI, x))) (hdg : decode cc pc = .ok (.checkcast index, 3))
    (k : W p l e R s m args below meth c H locs cells slots Q (F0 m (pc + 3) ls (.ref a :: rest))) : W p l e R s m args below meth c H locs cells slots Q (F0 m pc ls (.ref a :: rest)) :=
  va_castA S.1 S.2.1 S.2.2.2.1 (S.2.2.2.2 _ hlink) hw.2.1 q0 ha (show s.vm.findClass ("[" ++ FieldType.int.toString) = some cI from (hw.1.2 0 (cI, .int) rfl).2) hdg k
theorem y_lastC (ws : va_W) (x : Nat × va_E) : [ws.length].map (fun i => (ws ++ [x])[i]?) = [x].map some := by simp
variable {σ : Type} {y : MethodName} {bytes : ByteArray} {maxL index fr lo mc ms ci b : Nat} {w : List Cond} {host : String} {fs : List Value} {post : σ → Prop} {F : σ → va_W}
theorem y_callN (S : CallFix p m c cc nL s args Ts own) (hw : y_W D cI cC cL A s H locs (ws ++ [(b, .inr (ci, fs))])) (hX : y_X A s) (hl : ls.size = nL) (hM : y_MN l y w fr lo mc ms D cI cC cL [.ref b] [(b, .inr (ci, fs))] post F) (cw : va_CN R s args own index y host bytes maxL none w (y_RN fr lo mc ms) mc ms 0 ∧ y.name = "<init>" ∧ (Cond.instanceMethod y).before args s = true) (hm : (rest.map fun v => v.category).sum ≤ 8) (hdg : decode cc pc = .ok (.invokespecial index, 3)) (hcs : cells + mc ≤ R.cells ∧ slots + ms ≤ R.slots)
    (kk : ∀ (H1 : Heap) (locs1 : List Loc) (v : σ), post v → y_W D cI cC cL A s H1 locs1 (ws ++ F v) → W p l e R s m args below meth c H1 locs1 (cells + mc) (slots + ms) Q (F0 m (pc + 3) ls rest)) : W p l e R s m args below meth c H locs cells slots Q (F0 m pc ls (.ref b :: rest)) := by
  have hC := y_lastC ws (b, .inr (ci, fs))
  have hfree := va_free hw.2.2.1 hw.2.2.2.1 hw.2.2.2.2 [ws.length] hC
  refine va_callv (va_runIN (As := []) (rest := rest) S (hM H.size) cw ⟨y_blindX, fun U hU hW => ?_⟩ rfl rfl hl rfl (lv_room hm) hdg hcs) hw.2.2.2.1 (fun q _ h => hfree q h) hfree (fun v t H1 locs1 ht hvm hp hB hz1 hk1 hS1 => kk H1 locs1 v hp (y_back hw [ws.length] (List.range ws.length) hC (y_rngC _ _) (y_ndC _) (fun i hi => by have := List.mem_range.mp hi; simp; omega) ht hB hk1 hS1))
  obtain ⟨g1, g2⟩ := y_preU (as := [.ref b]) hw [ws.length] hC rfl hU hW
  exact ⟨g1, g2, hX.to hw.2.2.2.1 hU hW hfree⟩
theorem y_callNI (S : CallFix p m c cc nL s args Ts own) (hw : y_W D cI cC cL A s H locs (ws ++ [(b, .inr (ci, fs))])) (hX : y_X A s) (hl : ls.size = nL) (hM : y_MN l y w fr lo mc ms D cI cC cL [.ref b] [(b, .inr (ci, fs))] post F) (cw : CallB R s args own index y bytes maxL none w (y_RN fr lo mc ms) mc ms 0 ∧ y.name = "<init>" ∧ (Cond.instanceMethod y).before args s = true) (hm : (rest.map fun v => v.category).sum ≤ 8) (hdg : decode cc pc = .ok (.invokespecial index, 3)) (hcs : cells + mc ≤ R.cells ∧ slots + ms ≤ R.slots)
    (kk : ∀ (H1 : Heap) (locs1 : List Loc) (v : σ), post v → y_W D cI cC cL A s H1 locs1 (ws ++ F v) → W p l e R s m args below meth c H1 locs1 (cells + mc) (slots + ms) Q (F0 m (pc + 3) ls rest)) : W p l e R s m args below meth c H locs cells slots Q (F0 m pc ls (.ref b :: rest)) := by
  have hC := y_lastC ws (b, .inr (ci, fs))
  have hfree := va_free hw.2.2.1 hw.2.2.2.1 hw.2.2.2.2 [ws.length] hC
  refine va_callv (va_runI (As := []) (rest := rest) S (hM H.size) cw ⟨y_blindX, fun U hU hW => ?_⟩ rfl rfl hl rfl (lv_room hm) hdg hcs) hw.2.2.2.1 (fun q _ h => hfree q h) hfree (fun v t H1 locs1 ht hvm hp hB hz1 hk1 hS1 => kk H1 locs1 v hp (y_back hw [ws.length] (List.range ws.length) hC (y_rngC _ _) (y_ndC _) (fun i hi => by have := List.mem_range.mp hi; simp; omega) ht hB hk1 hS1))
  obtain ⟨g1, g2⟩ := y_preU (as := [.ref b]) hw [ws.length] hC rfl hU hW
  exact ⟨g1, g2, hX.to hw.2.2.2.1 hU hW hfree⟩
end YN
