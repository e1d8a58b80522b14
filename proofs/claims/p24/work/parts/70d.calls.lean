/-! contracts of the law's own static methods: an int answered, mc cells of ms slots new, static rows read; calls of them -/
def y_MNI {σ : Type} (l : Launch) (y : MethodName) (w : List Cond) (fr lo mc ms : Nat) (D : va_G) (cI cC cL : ClassId) (as : List Value) (ws : va_W) (r : Int32) (F : σ → va_W) (u : σ) : Prop :=
  ∀ sz : Nat, Met l y w (y_RN fr lo mc ms) (va_Pc as (fun U => y_Pre D cI cC cL sz ws U ∧ y_X (va_A ws sz) U)) (va_Qi (fun (x : Int32) (v : σ) => x = r ∧ v = u) (fun v t => y_B D cI cC cL (va_A ws sz) (F v) t) (va_A ws sz)) mc ms (va_A ws sz)
/-- the script stands at b -/
def y_Sc (b L : Nat) (xs : Nat → Int32) (A : Nat → Prop) (U : State) : Prop := va_X b L xs U U.heap ∧ b < U.heap.size ∧ ¬ A b
/-- a method that reads the script and answers some int -/
def y_MIS (l : Launch) (y : MethodName) (w : List Cond) (fr lo : Nat) (D : va_G) (cI cC cL : ClassId) (as : List Value) (b L : Nat) (xs : Nat → Int32) : Prop :=
  ∀ sz : Nat, Met l y w (y_R fr lo) (va_Pc as (fun U => y_Pre D cI cC cL sz [] U ∧ y_Sc b L xs (va_A [] sz) U)) (va_Qi (fun (_ : Int32) (_ : Unit) => True) (fun _ t => y_B D cI cC cL (va_A [] sz) [] t) (va_A [] sz)) 0 0 (va_A [] sz)
theorem va_X.movedA {b L : Nat} {xs : Nat → Int32} {u U : State} {H : Heap} (hvm : u.vm.Alike U.vm) (h : va_X b L xs u H) : va_X b L xs U H := by
  obtain ⟨scr, h1, h2, h3, h4, h5⟩ := h
  exact ⟨scr, h1, State.isArrayOf_alike hvm h2, h3, h4, h5⟩
theorem y_Sc.blind {b L : Nat} {xs : Nat → Int32} {A : Nat → Prop} {U : State} {g : JFrame} {mk : MethodId} {a : Array Value} (h : y_Sc b L xs A U) : y_Sc b L xs A (U.calling g mk a) :=
  ⟨h.1.movedA (U := U.calling g mk a) (Vm.Alike.refl U.vm), h.2.1, h.2.2⟩
theorem y_blindS {D : va_G} {cI cC cL : ClassId} {as : List Value} {sz b L : Nat} {xs : Nat → Int32} {A : Nat → Prop} : FrameBlind (va_Pc as (fun U => y_Pre D cI cC cL sz [] U ∧ y_Sc b L xs A U)) := fun a U g mk q => by
  obtain ⟨q0, ⟨q1, qP, qK, qD⟩, qX⟩ := q
  exact ⟨q0, ⟨q1, qP, va_K.moved (u := U) (U := U.calling g mk a) (Vm.Alike.refl U.vm) qK, qD⟩, qX.blind⟩
section YST
variable {p : Program} {l : Launch} {e : Env} {R : Room} {s : State} {m : MethodId} {args : Array Value} {below : List Frame} {meth : Method} {c : Code} {H : Heap} {locs : List Loc} {cells slots : Nat} {Q : State → Prop}
variable {cc : ByteArray} {pc nL : Nat} {ls : Array Slot} {rest : List Value} {D : va_G} {cI cC cL : ClassId} {A : Nat → Prop} {a : Nat} {ws ws' : va_W} {Ts : List Cond} {own : String}
theorem y_startNI {σ : Type} {y : MethodName} {w w' : List Cond} {fr lo mc ms maxL : Nat} {as : List Value} {r : Int32} {F : σ → va_W} {u : σ} {ret : Option FieldType} (hy : plainName y.cls = true) (hwd : w = Cond.code y cc maxL ret :: w') (hn : (lg_sl as).length ≤ maxL) (hret : ∃ ty, ret = some ty ∧ ∀ x : Int32, (ty = .boolean → x = 0 ∨ x = 1) → narrow ty (.int x) = .int x) (hrb : ret = some .boolean → r = 0 ∨ r = 1)
    (body : ∀ (p : Program) (e : Env) (s : State) (m : MethodId) (args : Array Value) (below : List Frame) (meth : Method) (c : Code) (A : Nat → Prop) (Q : State → Prop) (ls : Array Slot), CallFix p m c cc maxL s args w y.cls → y_X A s → y_W D cI cC cL A s s.heap [] ws →
      (∀ (H : Heap) (locs : List Loc) (pc : Nat) (ls : Array Slot) (x : Int32), y_W D cI cC cL A s H locs (F u) → x = r → decode cc pc = .ok (.ireturn, 1) → W p l e (y_RN fr lo mc ms) s m args below meth c H locs mc ms Q (F0 m pc ls [.int x])) →
      lv_has ls maxL (lv_args 0 as) → W p l e (y_RN fr lo mc ms) s m args below meth c s.heap [] 0 0 Q (F0 m 0 ls [])) : y_MNI l y w fr lo mc ms D cI cC cL as ws r F u := by
  intro sz
  refine Met.ofW (cc := cc) (maxL := maxL) (ret := ret) hy hwd ?_
  intro p e s m args below meth c s₁ B hml hv
  obtain ⟨rfl, ⟨hsz, hP, hK, hD0⟩, hX⟩ := hv
  have hts := atoms_spec (ws := w) B.pre
  have hr := B.returns
  have hlocks := B.notSynchronized
  subst hsz
  rw [lg_entry_eq]
  refine body p e s m _ below meth c (va_A ws s.heap.size) _ _ ⟨B.exec, B.bytes, hml, findClass_of_methodNamed B.named, hts⟩ hX ⟨hK, hP, hD0.self, va_S.rf, fun q h => Or.inr h⟩ ?_ (lv_entry as hn)
  intro H locs pc ls x hw hx hdg
  obtain ⟨ty, hty, hna⟩ := hret
  obtain ⟨hK, hP, hD, hS, hA⟩ := hw
  refine W.zret (v := x) B.exec B.bytes (hr.trans hty) (hna x (fun h => by rw [hx]; exact hrb (hty.trans (by rw [h])))) (fun t ht hW => ⟨⟨x, u, rfl, ⟨hx, rfl⟩, by rw [ht]; exact hP, va_K.moved hW.alike hK, hD⟩, hS.F ht⟩) hS.2.2 hdg
theorem y_startIS {y : MethodName} {w w' : List Cond} {fr lo maxL : Nat} {as : List Value} {b L : Nat} {xs : Nat → Int32} (hy : plainName y.cls = true) (hwd : w = Cond.code y cc maxL (some .int) :: w') (hn : (lg_sl as).length ≤ maxL)
    (body : ∀ (p : Program) (e : Env) (s : State) (m : MethodId) (args : Array Value) (below : List Frame) (meth : Method) (c : Code) (A : Nat → Prop) (Q : State → Prop) (ls : Array Slot), CallFix p m c cc maxL s args w y.cls → va_X b L xs s s.heap → b < s.heap.size → ¬ A b → y_W D cI cC cL A s s.heap [] [] →
      (∀ (H : Heap) (locs : List Loc) (pc : Nat) (ls : Array Slot) (x : Int32), y_W D cI cC cL A s H locs [] → decode cc pc = .ok (.ireturn, 1) → W p l e (y_R fr lo) s m args below meth c H locs 0 0 Q (F0 m pc ls [.int x])) →
      lv_has ls maxL (lv_args 0 as) → W p l e (y_R fr lo) s m args below meth c s.heap [] 0 0 Q (F0 m 0 ls [])) : y_MIS l y w fr lo D cI cC cL as b L xs := by
  intro sz
  refine Met.ofW (cc := cc) (maxL := maxL) (ret := some .int) hy hwd ?_
  intro p e s m args below meth c s₁ B hml hv
  obtain ⟨rfl, ⟨hsz, hP, hK, hD0⟩, hX, hbl, hbA⟩ := hv
  have hts := atoms_spec (ws := w) B.pre
  have hr := B.returns
  have hlocks := B.notSynchronized
  subst hsz
  rw [lg_entry_eq]
  refine body p e s m _ below meth c (va_A [] s.heap.size) _ _ ⟨B.exec, B.bytes, hml, findClass_of_methodNamed B.named, hts⟩ hX hbl hbA ⟨hK, hP, hD0.self, va_S.rf, fun q h => Or.inr h⟩ ?_ (lv_entry as hn)
  intro H locs pc ls x hw hdg
  obtain ⟨hK, hP, hD, hS, hA⟩ := hw
  refine W.zret (v := x) B.exec B.bytes hr rfl (fun t ht hW => ⟨⟨x, (), rfl, trivial, by rw [ht]; exact hP, va_K.moved hW.alike hK, hD⟩, hS.F ht⟩) hS.2.2 hdg
variable {σ : Type} {y : MethodName} {bytes : ByteArray} {maxL n index fr lo mc ms : Nat} {ret : Option FieldType} {w : List Cond} {As : List Value} {wc W2 : va_W} {F : σ → va_W} {u : σ} {r : Int32} {rl : Int64}
theorem y_rngA (wc W2 : va_W) : (List.range wc.length).map (fun i => (wc ++ W2)[i]?) = wc.map some := y_rngC wc W2
/-- a static call that makes cells and reads the static rows -/
theorem ly_sN (S : CallFix p m c cc nL s args Ts own) (hw : y_W D cI cC cL A s H locs (wc ++ W2)) (hX : y_X A s) (hl : ls.size = nL) (hM : y_MNI l y w fr lo mc ms D cI cC cL As wc r F u) (cw : CallB R s args own index y bytes maxL ret w (y_RN fr lo mc ms) mc ms n ∧ (Cond.static y).before args s = true) (hn : As.length = n) (hm : (rest.map fun v => v.category).sum ≤ 8) (hdg : decode cc pc = .ok (.invokestatic index, 3)) {st : List Value} (hst : st = As.reverse ++ rest) (hcs : cells + mc ≤ R.cells ∧ slots + ms ≤ R.slots)
    (kk : ∀ (H1 : Heap) (locs1 : List Loc) (x : Int32), x = r → y_W D cI cC cL A s H1 locs1 (F u ++ W2) → W p l e R s m args below meth c H1 locs1 (cells + mc) (slots + ms) Q (F0 m (pc + 3) ls (.int x :: rest))) : W p l e R s m args below meth c H locs cells slots Q (F0 m pc ls st) := by
  subst hst
  have hC := y_rngC wc W2
  have hfree := va_free hw.2.2.1 hw.2.2.2.1 hw.2.2.2.2 (List.range wc.length) hC
  refine va_calli (va_runS (As := As) (rest := rest) S (hM H.size) cw ⟨y_blindX, fun U hU hW => ?_⟩ rfl hn hl rfl (lv_room hm) hdg hcs) hw.2.2.2.1 (fun q _ h => hfree q h) hfree (fun x v t H1 locs1 ht hvm hp hB hz1 hk1 hS1 => ?_)
  · obtain ⟨g1, g2⟩ := y_preU (as := As) hw (List.range wc.length) hC (y_ndC _) hU hW
    exact ⟨g1, g2, hX.to hw.2.2.2.1 hU hW hfree⟩
  · obtain ⟨hx, hv⟩ := hp
    subst hv
    exact kk H1 locs1 x hx (y_swap (y_back hw (List.range wc.length) ((List.range W2.length).map (fun i => i + wc.length)) hC (y_rngR _ _) (y_ndR _ _) (y_dis _ _) ht hB hk1 hS1))
theorem ly_sX (S : CallFix p m c cc nL s args Ts own) (hw : y_W D cI cC cL A s H locs (wc ++ W2)) (hX : y_X A s) (hl : ls.size = nL) (hM : y_MIX l y w fr lo D cI cC cL As wc r F u) (cw : CallB R s args own index y bytes maxL ret w (y_R fr lo) 0 0 n ∧ (Cond.static y).before args s = true) (hn : As.length = n) (hm : (rest.map fun v => v.category).sum ≤ 8) (hdg : decode cc pc = .ok (.invokestatic index, 3)) {st : List Value} (hst : st = As.reverse ++ rest) (hcs : cells ≤ R.cells ∧ slots ≤ R.slots)
    (kk : ∀ (H1 : Heap) (locs1 : List Loc) (x : Int32), x = r → y_W D cI cC cL A s H1 locs1 (F u ++ W2) → W p l e R s m args below meth c H1 locs1 cells slots Q (F0 m (pc + 3) ls (.int x :: rest))) : W p l e R s m args below meth c H locs cells slots Q (F0 m pc ls st) :=
  ly_sN (mc := 0) (ms := 0) S hw hX hl hM cw hn hm hdg hst hcs kk
theorem ly_sI (S : CallFix p m c cc nL s args Ts own) (hw : y_W D cI cC cL A s H locs (wc ++ W2)) (hl : ls.size = nL) (hM : y_MI l y w fr lo D cI cC cL As wc r F u) (cw : CallB R s args own index y bytes maxL ret w (y_R fr lo) 0 0 n ∧ (Cond.static y).before args s = true) (hn : As.length = n) (hm : (rest.map fun v => v.category).sum ≤ 8) (hdg : decode cc pc = .ok (.invokestatic index, 3)) {st : List Value} (hst : st = As.reverse ++ rest) (hcs : cells ≤ R.cells ∧ slots ≤ R.slots)
    (kk : ∀ (H1 : Heap) (locs1 : List Loc) (x : Int32), x = r → y_W D cI cC cL A s H1 locs1 (F u ++ W2) → W p l e R s m args below meth c H1 locs1 cells slots Q (F0 m (pc + 3) ls (.int x :: rest))) : W p l e R s m args below meth c H locs cells slots Q (F0 m pc ls st) :=
  y_callSI S hw hl hM cw (List.range wc.length) ((List.range W2.length).map (fun i => i + wc.length)) (y_rngC _ _) (y_ndC _) (y_rngR _ _) (y_ndR _ _) (y_dis _ _) hn hm hdg hst hcs (fun H1 locs1 v x hv hx hw1 => by subst hv; exact kk H1 locs1 x hx (y_swap hw1))
theorem ly_sL (S : CallFix p m c cc nL s args Ts own) (hw : y_W D cI cC cL A s H locs (wc ++ W2)) (hl : ls.size = nL) (hM : y_ML l y w fr lo D cI cC cL As wc rl F u) (cw : CallB R s args own index y bytes maxL ret w (y_R fr lo) 0 0 n ∧ (Cond.static y).before args s = true) (hn : As.length = n) (hm : (rest.map fun v => v.category).sum ≤ 8) (hdg : decode cc pc = .ok (.invokestatic index, 3)) {st : List Value} (hst : st = As.reverse ++ rest) (hcs : cells ≤ R.cells ∧ slots ≤ R.slots)
    (kk : ∀ (H1 : Heap) (locs1 : List Loc) (x : Int64), x = rl → y_W D cI cC cL A s H1 locs1 (F u ++ W2) → W p l e R s m args below meth c H1 locs1 cells slots Q (F0 m (pc + 3) ls (.long x :: rest))) : W p l e R s m args below meth c H locs cells slots Q (F0 m pc ls st) :=
  y_callSL S hw hl hM cw (List.range wc.length) ((List.range W2.length).map (fun i => i + wc.length)) (y_rngC _ _) (y_ndC _) (y_rngR _ _) (y_ndR _ _) (y_dis _ _) hn hm hdg hst hcs (fun H1 locs1 v x hv hx hw1 => by subst hv; exact kk H1 locs1 x hx (y_swap hw1))
/-- a static call that reads the script -/
theorem ly_sS {b L : Nat} {xs : Nat → Int32} (S : CallFix p m c cc nL s args Ts own) (hw : y_W D cI cC cL A s H locs W2) (hXs : va_X b L xs s s.heap) (hbl : b < s.heap.size) (hbA : ¬ A b) (hl : ls.size = nL) (hM : y_MIS l y w fr lo D cI cC cL As b L xs) (cw : CallB R s args own index y bytes maxL ret w (y_R fr lo) 0 0 n ∧ (Cond.static y).before args s = true) (hn : As.length = n) (hm : (rest.map fun v => v.category).sum ≤ 8) (hdg : decode cc pc = .ok (.invokestatic index, 3)) {st : List Value} (hst : st = As.reverse ++ rest) (hcs : cells ≤ R.cells ∧ slots ≤ R.slots)
    (kk : ∀ (H1 : Heap) (locs1 : List Loc) (x : Int32), y_W D cI cC cL A s H1 locs1 W2 → W p l e R s m args below meth c H1 locs1 cells slots Q (F0 m (pc + 3) ls (.int x :: rest))) : W p l e R s m args below meth c H locs cells slots Q (F0 m pc ls st) := by
  subst hst
  have hw : y_W D cI cC cL A s H locs ([] ++ W2) := hw
  have hC := y_rngC [] W2
  have hfree := va_free hw.2.2.1 hw.2.2.2.1 hw.2.2.2.2 (List.range ([] : va_W).length) hC
  refine va_calli (va_runS (As := As) (rest := rest) S (hM H.size) cw ⟨y_blindS, fun U hU hW => ?_⟩ rfl hn hl rfl (lv_room hm) hdg hcs) hw.2.2.2.1 (fun q _ h => hfree q h) hfree (fun x v t H1 locs1 ht hvm hp hB hz1 hk1 hS1 => ?_)
  · obtain ⟨g1, g2⟩ := y_preU (as := As) hw (List.range ([] : va_W).length) hC (y_ndC _) hU hW
    have hS := hw.2.2.2.1
    have hbH : b < H.size := Nat.lt_of_lt_of_le hbl hS.1
    refine ⟨g1, g2, ?_, by rw [hU]; exact hbH, fun z => ?_⟩
    · obtain ⟨scr, h1, h2, h3, h4, h5⟩ := hXs
      exact ⟨scr, by rw [hU, hS.2.1 b hbl hbA]; exact h1, State.isArrayOf_alike hW.alike h2, h3, h4, h5⟩
    · rcases z with ⟨i, q, h⟩ | h
      · simp at h
      · exact absurd h (Nat.not_le.mpr hbH)
  · exact kk H1 locs1 x (y_swap (y_back hw (List.range ([] : va_W).length) ((List.range W2.length).map (fun i => i + ([] : va_W).length)) hC (y_rngR _ _) (y_ndR _ _) (y_dis _ _) ht hB hk1 hS1))
/-- the latter of two groups of cells is let go -/
theorem y_W.drop {a b : va_W} (hw : y_W D cI cC cL A s H locs (a ++ b)) : y_W D cI cC cL A s H locs a := by
  refine hw.sub (List.range a.length) (y_ndC _) (y_rngC _ _)
theorem y_newJ (S : CallFix p m c cc nL s args Ts own) (hw : y_W D cI cC cL A s H locs ws) (harr : Cond.arrayClass .long ∈ Ts) {n : Int32} {N : Nat} (hn : ¬ n < 0) (hN : n.toNatClampNeg = N) (hbytes : N * 8 ≤ 536870912) (hcells : cells + 1 ≤ R.cells) (hslots : slots + N ≤ R.slots) (hdg : decode cc pc = .ok (.newarray .long, 2))
    (kk : ∀ (q : Nat) (H1 : Heap), y_W D cI cC cL A s H1 locs (ws ++ [(q, .inl (D.1 9, N, .inr (.inl (fun _ => 0))))]) → W p l e R s m args below meth c H1 locs (cells + 1) (slots + N) Q (F0 m (pc + 2) ls (.ref q :: rest))) : W p l e R s m args below meth c H locs cells slots Q (F0 m pc ls (.int n :: rest)) := by
  obtain ⟨hx, hb, hml, hown, hts⟩ := S
  obtain ⟨hK, hP, hD, hS, hA⟩ := hw
  refine va_newa (atype := .long) (ty := .long) (a0 := (N, .inr (.inl (fun _ => 0)))) hx hb (hts _ harr) rfl hK hP hD hS hA (fun cA => rfl) hn hN hbytes hcells hslots hdg (fun q cA H1 hK1 hP1 hD1 hS1 => ?_)
  have e : cA = D.1 9 := Option.some.inj ((show s.vm.findClass ("[" ++ FieldType.long.toString) = some cA from (hK1.2 4 (cA, .long) rfl).2).symm.trans (hK.2 3 (D.1 9, .long) rfl).2)
  rw [e] at hP1 hD1
  exact kk q H1 ⟨hK, hP1, hD1, hS1, hA⟩
theorem y_last (S : CallFix p m c cc nL s args Ts own) (hw : y_W D cI cC cL A s H locs ws) (q0 : Nat) {n k : Nat} {f : Nat → Int64} {x : Int64} (ha : ws[q0]? = some (a, .inl (D.1 9, n, .inr (.inl f)))) (hk : k < n) (hn : n < 2 ^ 31) (hdg : decode cc pc = .ok (.lastore, 1)) (hws : ws.set q0 (a, .inl (D.1 9, n, .inr (.inl (vp_updL f k x)))) = ws')
    (kk : ∀ (H1 : Heap) (locs1 : List Loc), y_W D cI cC cL A s H1 locs1 ws' → W p l e R s m args below meth c H1 locs1 cells slots Q (F0 m (pc + 1) ls rest)) : W p l e R s m args below meth c H locs cells slots Q (F0 m pc ls (.long x :: .int (nI k) :: .ref a :: rest)) := by
  obtain ⟨hK, hP, hD, hS, hA⟩ := hw
  refine va_last S.1 S.2.1 hK hP hD hS q0 3 ha rfl (vp_in_nI hk hn) hdg (fun H1 locs1 hP1 hD1 hS1 => ?_)
  rw [nI_clamp (by omega)] at hP1 hD1
  exact kk H1 locs1 ⟨hK, hws ▸ hP1, hws ▸ hD1, hS1, hA⟩
theorem y_lald (S : CallFix p m c cc nL s args Ts own) (hw : y_W D cI cC cL A s H locs ws) (q0 : Nat) {n k : Nat} {f : Nat → Int64} (ha : ws[q0]? = some (a, .inl (D.1 9, n, .inr (.inl f)))) (hk : k < n) (hn : n < 2 ^ 31) (hdg : decode cc pc = .ok (.laload, 1))
    (kk : W p l e R s m args below meth c H locs cells slots Q (F0 m (pc + 1) ls (.long (f k) :: rest))) : W p l e R s m args below meth c H locs cells slots Q (F0 m pc ls (.int (nI k) :: .ref a :: rest)) := by
  refine va_lald S.1 S.2.1 hw.1 hw.2.1 q0 3 ha rfl (vp_in_nI hk hn) hdg ?_
  rw [nI_clamp (by omega)]
  exact kk
theorem y_topL {x y : Int64} (h : x = y) (k : W p l e R s m args below meth c H locs cells slots Q (F0 m pc ls (.long y :: rest))) : W p l e R s m args below meth c H locs cells slots Q (F0 m pc ls (.long x :: rest)) := by rw [h]; exact k
end YST
