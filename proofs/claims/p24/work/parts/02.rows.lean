/-! rows of this claim over the kit's: worlds of cells in one word (y_W), a method's contract in one word (y_MI, y_MV ..) -/
abbrev y_tys (D : va_G) (cI cC cL : ClassId) : List (ClassId × FieldType) := [(cI, .int), (cC, .char), (cL, .object RX1), (D.1 9, .long)]
/-- the cells ws, the tables, the cells apart and within A -/
def y_B (D : va_G) (cI cC cL : ClassId) (A : Nat → Prop) (ws : va_W) (t : State) : Prop := va_P D vwCl ws t.heap ∧ va_K D vwCl (y_tys D cI cC cL) t ∧ va_D A ws
def y_Pre (D : va_G) (cI cC cL : ClassId) (sz : Nat) (ws : va_W) : State → Prop := fun U => U.heap.size = sz ∧ y_B D cI cC cL (fun _ => True) ws U
/-- what a walk holds of the world -/
def y_W (D : va_G) (cI cC cL : ClassId) (A : Nat → Prop) (s : State) (H : Heap) (locs : List Loc) (ws : va_W) : Prop := va_K D vwCl (y_tys D cI cC cL) s ∧ va_P D vwCl ws H ∧ va_D A ws ∧ va_S A s.heap H locs ∧ (∀ q, s.heap.size ≤ q → A q)
abbrev y_R (fr lo : Nat) : Room := { frames := fr, cells := 0, slots := 0, locals := lo }
/-- a method that answers an int: the answer is r, the world F u -/
def y_MI {σ : Type} (l : Launch) (y : MethodName) (w : List Cond) (fr lo : Nat) (D : va_G) (cI cC cL : ClassId) (as : List Value) (ws : va_W) (r : Int32) (F : σ → va_W) (u : σ) : Prop :=
  ∀ sz : Nat, Met l y w (y_R fr lo) (va_Pc as (y_Pre D cI cC cL sz ws)) (va_Qi (fun (x : Int32) (v : σ) => x = r ∧ v = u) (fun v t => y_B D cI cC cL (va_A ws sz) (F v) t) (va_A ws sz)) 0 0 (va_A ws sz)
def y_ML {σ : Type} (l : Launch) (y : MethodName) (w : List Cond) (fr lo : Nat) (D : va_G) (cI cC cL : ClassId) (as : List Value) (ws : va_W) (r : Int64) (F : σ → va_W) (u : σ) : Prop :=
  ∀ sz : Nat, Met l y w (y_R fr lo) (va_Pc as (y_Pre D cI cC cL sz ws)) (va_Ql (fun (x : Int64) (v : σ) => x = r ∧ v = u) (fun v t => y_B D cI cC cL (va_A ws sz) (F v) t) (va_A ws sz)) 0 0 (va_A ws sz)
def y_MV {σ : Type} (l : Launch) (y : MethodName) (w : List Cond) (fr lo : Nat) (D : va_G) (cI cC cL : ClassId) (as : List Value) (ws : va_W) (F : σ → va_W) (u : σ) : Prop :=
  ∀ sz : Nat, Met l y w (y_R fr lo) (va_Pc as (y_Pre D cI cC cL sz ws)) (va_Qv (fun (v : σ) => v = u) (fun v t => y_B D cI cC cL (va_A ws sz) (F v) t) (va_A ws sz)) 0 0 (va_A ws sz)
theorem y_blind {D : va_G} {cI cC cL : ClassId} {as : List Value} {sz : Nat} {ws : va_W} : FrameBlind (va_Pc as (y_Pre D cI cC cL sz ws)) := fun a U g mk q => by
  obtain ⟨q0, q1, qP, qK, qD⟩ := q
  exact ⟨q0, q1, qP, va_K.moved (u := U) (U := U.calling g mk a) (Vm.Alike.refl U.vm) qK, qD⟩
theorem y_preU {D : va_G} {cI cC cL : ClassId} {A : Nat → Prop} {as : List Value} {ws wc : va_W} {s U : State} {H : Heap} {locs : List Loc} (hw : y_W D cI cC cL A s H locs ws) (is : List Nat) (hC : is.map (fun i => ws[i]?) = wc.map some) (hn : va_nd is = true) (hU : U.heap = H) (hW : s.WarmedH U.vm) : va_Pc as (y_Pre D cI cC cL H.size wc) as.toArray U := by
  obtain ⟨hK, hP, hD, hS, hA⟩ := hw
  refine ⟨rfl, by rw [hU], ?_, va_K.moved hW.alike hK, (hD.sub is hn hC).weaken (fun _ _ _ _ => trivial)⟩
  rw [hU]
  intro k q hk
  have h1 : (is.map (fun i => ws[i]?))[k]? = some (some q) := by rw [hC, List.getElem?_map, hk]; rfl
  rw [List.getElem?_map] at h1
  cases hi : is[k]? with
  | none => rw [hi] at h1; cases h1
  | some i => rw [hi] at h1; exact hP i q (Option.some.inj h1)
/-- the cells in another order, or fewer -/
theorem y_W.sub {D : va_G} {cI cC cL : ClassId} {A : Nat → Prop} {ws ws' : va_W} {s : State} {H : Heap} {locs : List Loc} (hw : y_W D cI cC cL A s H locs ws) (is : List Nat) (hn : va_nd is = true) (hC : is.map (fun i => ws[i]?) = ws'.map some) : y_W D cI cC cL A s H locs ws' := by
  obtain ⟨hK, hP, hD, hS, hA⟩ := hw
  refine ⟨hK, ?_, hD.sub is hn hC, hS, hA⟩
  intro k q hk
  have h1 : (is.map (fun i => ws[i]?))[k]? = some (some q) := by rw [hC, List.getElem?_map, hk]; rfl
  rw [List.getElem?_map] at h1
  cases hi : is[k]? with
  | none => rw [hi] at h1; cases h1
  | some i => rw [hi] at h1; exact hP i q (Option.some.inj h1)
/-- an array's cell speaks of its places alone -/
theorem y_cong {cA : ClassId} {n : Nat} {f g : Nat → Int32} (h : ∀ k, k < n → f k = g k) : vp_cell cA (n, .inl f) = vp_cell cA (n, .inl g) := by
  rw [vp_cell_i, vp_cell_i]
  unfold arrV
  congr 1
  apply Array.ext
  · simp
  · intro i h1 h2
    simp only [Array.size_ofFn] at h1
    simp [h i h1]
theorem y_W.cong {D : va_G} {cI cC cL : ClassId} {A : Nat → Prop} {ws ws' : va_W} {s : State} {H : Heap} {locs : List Loc} (hw : y_W D cI cC cL A s H locs ws) (q0 : Nat) {a : Nat} {cA : ClassId} {n : Nat} {f : Nat → Int32} (g : Nat → Int32) (ha : ws[q0]? = some (a, .inl (cA, n, .inl f))) (h : ∀ k, k < n → f k = g k) (hw' : ws.set q0 (a, .inl (cA, n, .inl g)) = ws') : y_W D cI cC cL A s H locs ws' := by
  obtain ⟨hK, hP, hD, hS, hA⟩ := hw
  subst hw'
  refine ⟨hK, hP.set hD ha ?_ (fun _ _ => rfl), hD.set ha, hS, hA⟩
  show H[a]? = some (vp_cell _ _)
  rw [← y_cong h]
  exact hP q0 _ ha
section YR
variable {p : Program} {l : Launch} {e : Env} {R : Room} {s : State} {m : MethodId} {args : Array Value} {below : List Frame} {meth : Method} {c : Code} {H : Heap} {locs : List Loc} {cells slots : Nat} {Q : State → Prop}
variable {cc : ByteArray} {pc nL : Nat} {ls : Array Slot} {rest : List Value} {D : va_G} {cI cC cL : ClassId} {A : Nat → Prop} {a : Nat} {ws ws' : va_W} {Ts : List Cond} {own : String}
theorem y_top {x y : Int32} (h : x = y) (k : W p l e R s m args below meth c H locs cells slots Q (F0 m pc ls (.int y :: rest))) : W p l e R s m args below meth c H locs cells slots Q (F0 m pc ls (.int x :: rest)) := by rw [h]; exact k
theorem y_get (S : CallFix p m c cc nL s args Ts own) (hw : y_W D cI cC cL A s H locs ws) {C : String} {T : u_T} {N ci index : Nat} (hin : ∀ w ∈ u_ws C T N, w ∈ Ts) (q0 : Nat) {fs : List Value} (he : ws[q0]? = some (a, .inr (ci, fs))) (hc : vwCl[ci]? = some (C, T, N)) (k : Nat) (hk : k < N) (hlink : Cond.fieldLink own index (T k).1 (T k).2.1 (T k).2.2.1 ∈ Ts) {v : Value} (hv : fs[k]? = some v) (hdg : decode cc pc = .ok (.getfield index, 3))
    (kk : W p l e R s m args below meth c H locs cells slots Q (F0 m (pc + 3) ls (v :: rest))) : W p l e R s m args below meth c H locs cells slots Q (F0 m pc ls (.ref a :: rest)) := by
  obtain ⟨hx, hb, hml, hown, hts⟩ := S
  exact va_get (D := D) (ci := ci) (v := v) (C := C) (T := T) (N := N) hx hb hts hin hown hw.1 hw.2.1 q0 he hc k hk (hts _ hlink) (fun _ h9 => h9) hv hdg kk
theorem y_put (S : CallFix p m c cc nL s args Ts own) (hw : y_W D cI cC cL A s H locs ws) {C : String} {T : u_T} {N ci index : Nat} (hin : ∀ w ∈ u_ws C T N, w ∈ Ts) {ty0 : Nat → FieldType} (hty : ∀ k, k < N → parseFieldDescriptor (T k).2.2.1 = some (ty0 k)) (hnm : ∀ a, a < N → ∀ b, b < N → a ≠ b → (T a).2.1 ≠ (T b).2.1) (q0 : Nat) {fs : List Value} (he : ws[q0]? = some (a, .inr (ci, fs))) (hc : vwCl[ci]? = some (C, T, N)) (k : Nat) (hk : k < N) (hlink : Cond.fieldLink own index (T k).1 (T k).2.1 (T k).2.2.1 ∈ Ts) (hfin : (T k).2.2.2 = false) {v : Value} (hn : narrow (ty0 k) v = v) (hfit : fits (ty0 k) v = true) (hl : k < fs.length) (hdg : decode cc pc = .ok (.putfield index, 3)) (hws : ws.set q0 (a, .inr (ci, fs.set k v)) = ws')
    (kk : ∀ (H1 : Heap) (locs1 : List Loc), y_W D cI cC cL A s H1 locs1 ws' → W p l e R s m args below meth c H1 locs1 cells slots Q (F0 m (pc + 3) ls rest)) : W p l e R s m args below meth c H locs cells slots Q (F0 m pc ls (v :: .ref a :: rest)) := by
  obtain ⟨hx, hb, hml, hown, hts⟩ := S
  obtain ⟨hK, hP, hD, hS, hA⟩ := hw
  refine va_put (D := D) (ci := ci) (v := v) (ty := ty0 k) (C := C) (T := T) (N := N) hx hb hts hin ty0 hty hnm hown hK hP hD hS q0 he hc k hk (hts _ hlink) (fun _ h9 => h9) hfin (hty k hk) hn hfit hl hdg (fun H1 locs1 hP1 hD1 hS1 => ?_)
  exact kk H1 locs1 ⟨hK, hws ▸ hP1, hws ▸ hD1, hS1, hA⟩
theorem y_iald (S : CallFix p m c cc nL s args Ts own) (hw : y_W D cI cC cL A s H locs ws) (q0 : Nat) {n k : Nat} {f : Nat → Int32} (ha : ws[q0]? = some (a, .inl (cI, n, .inl f))) (hk : k < n) (hn : n < 2 ^ 31) (hdg : decode cc pc = .ok (.iaload, 1))
    (kk : W p l e R s m args below meth c H locs cells slots Q (F0 m (pc + 1) ls (.int (f k) :: rest))) : W p l e R s m args below meth c H locs cells slots Q (F0 m pc ls (.int (nI k) :: .ref a :: rest)) := by
  refine va_iald S.1 S.2.1 hw.1 hw.2.1 q0 0 ha rfl (vp_in_nI hk hn) hdg ?_
  rw [nI_clamp (by omega)]
  exact kk
theorem y_cald (S : CallFix p m c cc nL s args Ts own) (hw : y_W D cI cC cL A s H locs ws) (q0 : Nat) {n k : Nat} {f : Nat → Int32} (ha : ws[q0]? = some (a, .inl (cC, n, .inl f))) (hk : k < n) (hn : n < 2 ^ 31) (hdg : decode cc pc = .ok (.caload, 1))
    (kk : W p l e R s m args below meth c H locs cells slots Q (F0 m (pc + 1) ls (.int (f k) :: rest))) : W p l e R s m args below meth c H locs cells slots Q (F0 m pc ls (.int (nI k) :: .ref a :: rest)) := by
  refine va_cald S.1 S.2.1 hw.1 hw.2.1 q0 1 ha rfl (vp_in_nI hk hn) hdg ?_
  rw [nI_clamp (by omega)]
  exact kk
theorem y_aldq (S : CallFix p m c cc nL s args Ts own) (hw : y_W D cI cC cL A s H locs ws) (q0 : Nat) {n k : Nat} {f : Nat → Option Nat} (ha : ws[q0]? = some (a, .inl (cL, n, .inr (.inr (.inr (.inr f)))))) (hk : k < n) (hn : n < 2 ^ 31) {v : Value} (hv : va_rf (f k) = v) (hdg : decode cc pc = .ok (.aaload, 1))
    (kk : W p l e R s m args below meth c H locs cells slots Q (F0 m (pc + 1) ls (v :: rest))) : W p l e R s m args below meth c H locs cells slots Q (F0 m pc ls (.int (nI k) :: .ref a :: rest)) := by
  refine va_aldq S.1 S.2.1 hw.1 hw.2.1 q0 2 ha rfl (vp_in_nI hk hn) hdg ?_
  rw [nI_clamp (by omega), hv]
  exact kk
theorem y_iast (S : CallFix p m c cc nL s args Ts own) (hw : y_W D cI cC cL A s H locs ws) (q0 : Nat) {n k : Nat} {f : Nat → Int32} {x : Int32} (ha : ws[q0]? = some (a, .inl (cI, n, .inl f))) (hk : k < n) (hn : n < 2 ^ 31) (hdg : decode cc pc = .ok (.iastore, 1)) (hws : ws.set q0 (a, .inl (cI, n, .inl (upd f k x))) = ws')
    (kk : ∀ (H1 : Heap) (locs1 : List Loc), y_W D cI cC cL A s H1 locs1 ws' → W p l e R s m args below meth c H1 locs1 cells slots Q (F0 m (pc + 1) ls rest)) : W p l e R s m args below meth c H locs cells slots Q (F0 m pc ls (.int x :: .int (nI k) :: .ref a :: rest)) := by
  obtain ⟨hK, hP, hD, hS, hA⟩ := hw
  refine va_iast S.1 S.2.1 hK hP hD hS q0 0 ha rfl (vp_in_nI hk hn) hdg (fun H1 locs1 hP1 hD1 hS1 => ?_)
  rw [nI_clamp (by omega)] at hP1 hD1
  exact kk H1 locs1 ⟨hK, hws ▸ hP1, hws ▸ hD1, hS1, hA⟩
theorem y_cast (S : CallFix p m c cc nL s args Ts own) (hw : y_W D cI cC cL A s H locs ws) (q0 : Nat) {n k : Nat} {f : Nat → Int32} {x : Int32} (ha : ws[q0]? = some (a, .inl (cC, n, .inl f))) (hk : k < n) (hn : n < 2 ^ 31) (hx : vp_nar .char x = x) (hdg : decode cc pc = .ok (.castore, 1)) (hws : ws.set q0 (a, .inl (cC, n, .inl (upd f k x))) = ws')
    (kk : ∀ (H1 : Heap) (locs1 : List Loc), y_W D cI cC cL A s H1 locs1 ws' → W p l e R s m args below meth c H1 locs1 cells slots Q (F0 m (pc + 1) ls rest)) : W p l e R s m args below meth c H locs cells slots Q (F0 m pc ls (.int x :: .int (nI k) :: .ref a :: rest)) := by
  obtain ⟨hK, hP, hD, hS, hA⟩ := hw
  refine va_cast S.1 S.2.1 hK hP hD hS q0 1 ha rfl (vp_in_nI hk hn) hdg (fun H1 locs1 hP1 hD1 hS1 => ?_)
  rw [nI_clamp (by omega), hx] at hP1 hD1
  exact kk H1 locs1 ⟨hK, hws ▸ hP1, hws ▸ hD1, hS1, hA⟩
/-- arithmetic on numbers that are known -/
theorem y_iaddN (S : CallFix p m c cc nL s args Ts own) (i j : Nat) (hdg : decode cc pc = .ok (.iadd, 1)) (kk : W p l e R s m args below meth c H locs cells slots Q (F0 m (pc + 1) ls (.int (nI (i + j)) :: rest))) : W p l e R s m args below meth c H locs cells slots Q (F0 m pc ls (.int (nI j) :: .int (nI i) :: rest)) := by
  refine lv_iadd S.1 S.2.1 hdg ?_
  rw [nI_add]
  exact kk
theorem y_imulN (S : CallFix p m c cc nL s args Ts own) (i j : Nat) (hdg : decode cc pc = .ok (.imul, 1)) (kk : W p l e R s m args below meth c H locs cells slots Q (F0 m (pc + 1) ls (.int (nI (i * j)) :: rest))) : W p l e R s m args below meth c H locs cells slots Q (F0 m pc ls (.int (nI j) :: .int (nI i) :: rest)) := by
  refine lv_imul S.1 S.2.1 hdg ?_
  rw [pk_mul]
  exact kk
theorem y_isubN (S : CallFix p m c cc nL s args Ts own) (i j : Nat) (h : j ≤ i) (hdg : decode cc pc = .ok (.isub, 1)) (kk : W p l e R s m args below meth c H locs cells slots Q (F0 m (pc + 1) ls (.int (nI (i - j)) :: rest))) : W p l e R s m args below meth c H locs cells slots Q (F0 m pc ls (.int (nI j) :: .int (nI i) :: rest)) := by
  refine lv_isub S.1 S.2.1 hdg ?_
  rw [pk_sub h]
  exact kk
/-- the start of a method's walk -/
theorem y_startI {σ : Type} {y : MethodName} {w w' : List Cond} {fr lo maxL : Nat} {as : List Value} {r : Int32} {F : σ → va_W} {u : σ} {ret : Option FieldType} (hy : plainName y.cls = true) (hwd : w = Cond.code y cc maxL ret :: w') (hn : (lg_sl as).length ≤ maxL) (hret : ∃ ty, ret = some ty ∧ ∀ x : Int32, (ty = .boolean → x = 0 ∨ x = 1) → narrow ty (.int x) = .int x) (hrb : ret = some .boolean → r = 0 ∨ r = 1)
    (body : ∀ (p : Program) (e : Env) (s : State) (m : MethodId) (args : Array Value) (below : List Frame) (meth : Method) (c : Code) (A : Nat → Prop) (Q : State → Prop) (ls : Array Slot), CallFix p m c cc maxL s args w y.cls → y_W D cI cC cL A s s.heap [] ws →
      (∀ (H : Heap) (locs : List Loc) (pc : Nat) (ls : Array Slot) (x : Int32), y_W D cI cC cL A s H locs (F u) → x = r → decode cc pc = .ok (.ireturn, 1) → W p l e (y_R fr lo) s m args below meth c H locs 0 0 Q (F0 m pc ls [.int x])) →
      lv_has ls maxL (lv_args 0 as) → W p l e (y_R fr lo) s m args below meth c s.heap [] 0 0 Q (F0 m 0 ls [])) : y_MI l y w fr lo D cI cC cL as ws r F u := by
  intro sz
  refine Met.ofW (cc := cc) (maxL := maxL) (ret := ret) hy hwd ?_
  intro p e s m args below meth c s₁ B hml hv
  obtain ⟨rfl, hsz, hP, hK, hD0⟩ := hv
  have hts := atoms_spec (ws := w) B.pre
  have hr := B.returns
  have hlocks := B.notSynchronized
  subst hsz
  rw [lg_entry_eq]
  refine body p e s m _ below meth c (va_A ws s.heap.size) _ _ ⟨B.exec, B.bytes, hml, findClass_of_methodNamed B.named, hts⟩ ⟨hK, hP, hD0.self, va_S.rf, fun q h => Or.inr h⟩ ?_ (lv_entry as hn)
  intro H locs pc ls x hw hx hdg
  obtain ⟨ty, hty, hna⟩ := hret
  obtain ⟨hK, hP, hD, hS, hA⟩ := hw
  refine W.zret (v := x) B.exec B.bytes (hr.trans hty) (hna x (fun h => by rw [hx]; exact hrb (hty.trans (by rw [h])))) (fun t ht hW => ⟨⟨x, u, rfl, ⟨hx, rfl⟩, by rw [ht]; exact hP, va_K.moved hW.alike hK, hD⟩, hS.F ht⟩) hS.2.2 hdg
theorem y_startV {σ : Type} {y : MethodName} {w w' : List Cond} {fr lo maxL : Nat} {as : List Value} {F : σ → va_W} {u : σ} (hy : plainName y.cls = true) (hwd : w = Cond.code y cc maxL none :: w') (hn : (lg_sl as).length ≤ maxL)
    (body : ∀ (p : Program) (e : Env) (s : State) (m : MethodId) (args : Array Value) (below : List Frame) (meth : Method) (c : Code) (A : Nat → Prop) (Q : State → Prop) (ls : Array Slot), CallFix p m c cc maxL s args w y.cls → y_W D cI cC cL A s s.heap [] ws →
      (∀ (H : Heap) (locs : List Loc) (pc : Nat) (ls : Array Slot), y_W D cI cC cL A s H locs (F u) → decode cc pc = .ok (.return_, 1) → W p l e (y_R fr lo) s m args below meth c H locs 0 0 Q (F0 m pc ls [])) →
      lv_has ls maxL (lv_args 0 as) → W p l e (y_R fr lo) s m args below meth c s.heap [] 0 0 Q (F0 m 0 ls [])) : y_MV l y w fr lo D cI cC cL as ws F u := by
  intro sz
  refine Met.ofW (cc := cc) (maxL := maxL) (ret := none) hy hwd ?_
  intro p e s m args below meth c s₁ B hml hv
  obtain ⟨rfl, hsz, hP, hK, hD0⟩ := hv
  have hts := atoms_spec (ws := w) B.pre
  have hr := B.returns
  have hlocks := B.notSynchronized
  subst hsz
  rw [lg_entry_eq]
  refine body p e s m _ below meth c (va_A ws s.heap.size) _ _ ⟨B.exec, B.bytes, hml, findClass_of_methodNamed B.named, hts⟩ ⟨hK, hP, hD0.self, va_S.rf, fun q h => Or.inr h⟩ ?_ (lv_entry as hn)
  intro H locs pc ls hw hdg
  obtain ⟨hK, hP, hD, hS, hA⟩ := hw
  exact W.vret B.exec B.bytes hr (fun t ht hW => ⟨⟨u, rfl, rfl, by rw [ht]; exact hP, va_K.moved hW.alike hK, hD⟩, hS.F ht⟩) hS.2.2 hdg
theorem y_startL {σ : Type} {y : MethodName} {w w' : List Cond} {fr lo maxL : Nat} {as : List Value} {r : Int64} {F : σ → va_W} {u : σ} (hy : plainName y.cls = true) (hwd : w = Cond.code y cc maxL (some .long) :: w') (hn : (lg_sl as).length ≤ maxL)
    (body : ∀ (p : Program) (e : Env) (s : State) (m : MethodId) (args : Array Value) (below : List Frame) (meth : Method) (c : Code) (A : Nat → Prop) (Q : State → Prop) (ls : Array Slot), CallFix p m c cc maxL s args w y.cls → y_W D cI cC cL A s s.heap [] ws →
      (∀ (H : Heap) (locs : List Loc) (pc : Nat) (ls : Array Slot) (x : Int64), y_W D cI cC cL A s H locs (F u) → x = r → decode cc pc = .ok (.lreturn, 1) → W p l e (y_R fr lo) s m args below meth c H locs 0 0 Q (F0 m pc ls [.long x])) →
      lv_has ls maxL (lv_args 0 as) → W p l e (y_R fr lo) s m args below meth c s.heap [] 0 0 Q (F0 m 0 ls [])) : y_ML l y w fr lo D cI cC cL as ws r F u := by
  intro sz
  refine Met.ofW (cc := cc) (maxL := maxL) (ret := some .long) hy hwd ?_
  intro p e s m args below meth c s₁ B hml hv
  obtain ⟨rfl, hsz, hP, hK, hD0⟩ := hv
  have hts := atoms_spec (ws := w) B.pre
  have hr := B.returns
  have hlocks := B.notSynchronized
  subst hsz
  rw [lg_entry_eq]
  refine body p e s m _ below meth c (va_A ws s.heap.size) _ _ ⟨B.exec, B.bytes, hml, findClass_of_methodNamed B.named, hts⟩ ⟨hK, hP, hD0.self, va_S.rf, fun q h => Or.inr h⟩ ?_ (lv_entry as hn)
  intro H locs pc ls x hw hx hdg
  obtain ⟨hK, hP, hD, hS, hA⟩ := hw
  exact W.lret (v := x) B.exec B.bytes hr (fun t ht hW => ⟨⟨x, u, rfl, ⟨hx, rfl⟩, by rw [ht]; exact hP, va_K.moved hW.alike hK, hD⟩, hS.F ht⟩) hS.2.2 hdg
/-- behind a call: what came back, and the rest -/
theorem y_back {wc wr w1 : va_W} {H1 : Heap} {locs1 : List Loc} {t : State} (hw : y_W D cI cC cL A s H locs ws) (isC isR : List Nat) (hC : isC.map (fun i => ws[i]?) = wc.map some) (hR : isR.map (fun i => ws[i]?) = wr.map some) (hnR : va_nd isR = true) (hdis : ∀ i ∈ isR, i ∉ isC) (ht : t.heap = H1) (hB : y_B D cI cC cL (va_A wc H.size) w1 t) (hk1 : ∀ q : Nat, q < H.size → ¬ va_A wc H.size q → H1[q]? = H[q]?) (hS1 : va_S A s.heap H1 locs1) : y_W D cI cC cL A s H1 locs1 (wr ++ w1) := by
  obtain ⟨hK, hP, hD, hS, hA⟩ := hw
  obtain ⟨hP1, hK1, hD1⟩ := hB
  rw [ht] at hP1
  obtain ⟨j1, j2⟩ := va_join hP hD isC isR hC hR hnR hdis hk1 (va_free hD hS hA isC hC) hP1 hD1
  exact ⟨hK, j1, j2, hS1, hA⟩
variable {σ : Type} {y : MethodName} {bytes : ByteArray} {maxL n index fr lo ci q0 b : Nat} {ret : Option FieldType} {w : List Cond} {C : String} {As fs : List Value} {wc wr : va_W} {F : σ → va_W} {u : σ} {r : Int32} {rl : Int64}
theorem y_callI (S : CallFix p m c cc nL s args Ts own) (hw : y_W D cI cC cL A s H locs ws) (hl : ls.size = nL) (hM : y_MI l y w fr lo D cI cC cL (.ref b :: As) wc r F u) (cw : CallW R s args own C index y bytes maxL ret w (y_R fr lo) 0 0 n) (q0 : Nat) (he : ws[q0]? = some (b, .inr (ci, fs))) (hc : (vwCl[ci]?).map (fun z => z.1) = some C) (isC isR : List Nat) (hC : isC.map (fun i => ws[i]?) = wc.map some) (hnC : va_nd isC = true) (hR : isR.map (fun i => ws[i]?) = wr.map some) (hnR : va_nd isR = true) (hdis : ∀ i ∈ isR, i ∉ isC) (hn : As.length = n) (hm : (rest.map fun v => v.category).sum ≤ 8) (hdg : decode cc pc = .ok (.invokevirtual index, 3)) {st : List Value} (hst : st = As.reverse ++ .ref b :: rest) (hcs : cells ≤ R.cells ∧ slots ≤ R.slots)
    (kk : ∀ (H1 : Heap) (locs1 : List Loc) (v : σ) (x : Int32), v = u → x = r → y_W D cI cC cL A s H1 locs1 (wr ++ F v) → W p l e R s m args below meth c H1 locs1 cells slots Q (F0 m (pc + 3) ls (.int x :: rest))) : W p l e R s m args below meth c H locs cells slots Q (F0 m pc ls st) := by
  subst hst
  cases hci : vwCl[ci]? with
  | none => rw [hci] at hc; cases hc
  | some z =>
    rw [hci] at hc
    have hC2 : z.1 = C := Option.some.inj hc
    refine va_calli (va_runV (As := As) (rest := rest) S (hM H.size) cw ⟨y_blind, ?_, fun U hU hW => y_preU hw isC hC hnC hU hW⟩ rfl hn hl rfl (lv_room hm) hdg hcs) hw.2.2.2.1 (fun q _ h => va_free hw.2.2.1 hw.2.2.2.1 hw.2.2.2.2 isC hC q h) (va_free hw.2.2.1 hw.2.2.2.1 hw.2.2.2.2 isC hC) (fun x v t H1 locs1 ht hvm hp hB hz1 hk1 hS1 => ?_)
    · have := va_recv hw.1 hw.2.1 hci he
      rw [hC2] at this
      exact this
    · exact kk H1 locs1 v x hp.2 hp.1 (y_back hw isC isR hC hR hnR hdis ht hB hk1 hS1)
theorem y_callV (S : CallFix p m c cc nL s args Ts own) (hw : y_W D cI cC cL A s H locs ws) (hl : ls.size = nL) (hM : y_MV l y w fr lo D cI cC cL (.ref b :: As) wc F u) (cw : CallW R s args own C index y bytes maxL ret w (y_R fr lo) 0 0 n) (q0 : Nat) (he : ws[q0]? = some (b, .inr (ci, fs))) (hc : (vwCl[ci]?).map (fun z => z.1) = some C) (isC isR : List Nat) (hC : isC.map (fun i => ws[i]?) = wc.map some) (hnC : va_nd isC = true) (hR : isR.map (fun i => ws[i]?) = wr.map some) (hnR : va_nd isR = true) (hdis : ∀ i ∈ isR, i ∉ isC) (hn : As.length = n) (hm : (rest.map fun v => v.category).sum ≤ 8) (hdg : decode cc pc = .ok (.invokevirtual index, 3)) {st : List Value} (hst : st = As.reverse ++ .ref b :: rest) (hcs : cells ≤ R.cells ∧ slots ≤ R.slots)
    (kk : ∀ (H1 : Heap) (locs1 : List Loc) (v : σ), v = u → y_W D cI cC cL A s H1 locs1 (wr ++ F v) → W p l e R s m args below meth c H1 locs1 cells slots Q (F0 m (pc + 3) ls rest)) : W p l e R s m args below meth c H locs cells slots Q (F0 m pc ls st) := by
  subst hst
  cases hci : vwCl[ci]? with
  | none => rw [hci] at hc; cases hc
  | some z =>
    rw [hci] at hc
    have hC2 : z.1 = C := Option.some.inj hc
    refine va_callv (va_runV (As := As) (rest := rest) S (hM H.size) cw ⟨y_blind, ?_, fun U hU hW => y_preU hw isC hC hnC hU hW⟩ rfl hn hl rfl (lv_room hm) hdg hcs) hw.2.2.2.1 (fun q _ h => va_free hw.2.2.1 hw.2.2.2.1 hw.2.2.2.2 isC hC q h) (va_free hw.2.2.1 hw.2.2.2.1 hw.2.2.2.2 isC hC) (fun v t H1 locs1 ht hvm hp hB hz1 hk1 hS1 => ?_)
    · have := va_recv hw.1 hw.2.1 hci he
      rw [hC2] at this
      exact this
    · exact kk H1 locs1 v hp (y_back hw isC isR hC hR hnR hdis ht hB hk1 hS1)
theorem y_callL (S : CallFix p m c cc nL s args Ts own) (hw : y_W D cI cC cL A s H locs ws) (hl : ls.size = nL) (hM : y_ML l y w fr lo D cI cC cL (.ref b :: As) wc rl F u) (cw : CallW R s args own C index y bytes maxL ret w (y_R fr lo) 0 0 n) (q0 : Nat) (he : ws[q0]? = some (b, .inr (ci, fs))) (hc : (vwCl[ci]?).map (fun z => z.1) = some C) (isC isR : List Nat) (hC : isC.map (fun i => ws[i]?) = wc.map some) (hnC : va_nd isC = true) (hR : isR.map (fun i => ws[i]?) = wr.map some) (hnR : va_nd isR = true) (hdis : ∀ i ∈ isR, i ∉ isC) (hn : As.length = n) (hm : (rest.map fun v => v.category).sum ≤ 8) (hdg : decode cc pc = .ok (.invokevirtual index, 3)) {st : List Value} (hst : st = As.reverse ++ .ref b :: rest) (hcs : cells ≤ R.cells ∧ slots ≤ R.slots)
    (kk : ∀ (H1 : Heap) (locs1 : List Loc) (v : σ) (x : Int64), v = u → x = rl → y_W D cI cC cL A s H1 locs1 (wr ++ F v) → W p l e R s m args below meth c H1 locs1 cells slots Q (F0 m (pc + 3) ls (.long x :: rest))) : W p l e R s m args below meth c H locs cells slots Q (F0 m pc ls st) := by
  subst hst
  cases hci : vwCl[ci]? with
  | none => rw [hci] at hc; cases hc
  | some z =>
    rw [hci] at hc
    have hC2 : z.1 = C := Option.some.inj hc
    refine va_calll (va_runV (As := As) (rest := rest) S (hM H.size) cw ⟨y_blind, ?_, fun U hU hW => y_preU hw isC hC hnC hU hW⟩ rfl hn hl rfl (lv_room hm) hdg hcs) hw.2.2.2.1 (fun q _ h => va_free hw.2.2.1 hw.2.2.2.1 hw.2.2.2.2 isC hC q h) (va_free hw.2.2.1 hw.2.2.2.1 hw.2.2.2.2 isC hC) (fun x v t H1 locs1 ht hvm hp hB hz1 hk1 hS1 => ?_)
    · have := va_recv hw.1 hw.2.1 hci he
      rw [hC2] at this
      exact this
    · exact kk H1 locs1 v x hp.2 hp.1 (y_back hw isC isR hC hR hnR hdis ht hB hk1 hS1)
/-- static calls -/
theorem y_callSI (S : CallFix p m c cc nL s args Ts own) (hw : y_W D cI cC cL A s H locs ws) (hl : ls.size = nL) (hM : y_MI l y w fr lo D cI cC cL As wc r F u) (cw : CallB R s args own index y bytes maxL ret w (y_R fr lo) 0 0 n ∧ (Cond.static y).before args s = true) (isC isR : List Nat) (hC : isC.map (fun i => ws[i]?) = wc.map some) (hnC : va_nd isC = true) (hR : isR.map (fun i => ws[i]?) = wr.map some) (hnR : va_nd isR = true) (hdis : ∀ i ∈ isR, i ∉ isC) (hn : As.length = n) (hm : (rest.map fun v => v.category).sum ≤ 8) (hdg : decode cc pc = .ok (.invokestatic index, 3)) {st : List Value} (hst : st = As.reverse ++ rest) (hcs : cells ≤ R.cells ∧ slots ≤ R.slots)
    (kk : ∀ (H1 : Heap) (locs1 : List Loc) (v : σ) (x : Int32), v = u → x = r → y_W D cI cC cL A s H1 locs1 (wr ++ F v) → W p l e R s m args below meth c H1 locs1 cells slots Q (F0 m (pc + 3) ls (.int x :: rest))) : W p l e R s m args below meth c H locs cells slots Q (F0 m pc ls st) := by
  subst hst
  exact va_calli (va_runS (As := As) (rest := rest) S (hM H.size) cw ⟨y_blind, fun U hU hW => y_preU hw isC hC hnC hU hW⟩ rfl hn hl rfl (lv_room hm) hdg hcs) hw.2.2.2.1 (fun q _ h => va_free hw.2.2.1 hw.2.2.2.1 hw.2.2.2.2 isC hC q h) (va_free hw.2.2.1 hw.2.2.2.1 hw.2.2.2.2 isC hC) (fun x v t H1 locs1 ht hvm hp hB hz1 hk1 hS1 => kk H1 locs1 v x hp.2 hp.1 (y_back hw isC isR hC hR hnR hdis ht hB hk1 hS1))
theorem y_callSV (S : CallFix p m c cc nL s args Ts own) (hw : y_W D cI cC cL A s H locs ws) (hl : ls.size = nL) (hM : y_MV l y w fr lo D cI cC cL As wc F u) (cw : CallB R s args own index y bytes maxL ret w (y_R fr lo) 0 0 n ∧ (Cond.static y).before args s = true) (isC isR : List Nat) (hC : isC.map (fun i => ws[i]?) = wc.map some) (hnC : va_nd isC = true) (hR : isR.map (fun i => ws[i]?) = wr.map some) (hnR : va_nd isR = true) (hdis : ∀ i ∈ isR, i ∉ isC) (hn : As.length = n) (hm : (rest.map fun v => v.category).sum ≤ 8) (hdg : decode cc pc = .ok (.invokestatic index, 3)) {st : List Value} (hst : st = As.reverse ++ rest) (hcs : cells ≤ R.cells ∧ slots ≤ R.slots)
    (kk : ∀ (H1 : Heap) (locs1 : List Loc) (v : σ), v = u → y_W D cI cC cL A s H1 locs1 (wr ++ F v) → W p l e R s m args below meth c H1 locs1 cells slots Q (F0 m (pc + 3) ls rest)) : W p l e R s m args below meth c H locs cells slots Q (F0 m pc ls st) := by
  subst hst
  exact va_callv (va_runS (As := As) (rest := rest) S (hM H.size) cw ⟨y_blind, fun U hU hW => y_preU hw isC hC hnC hU hW⟩ rfl hn hl rfl (lv_room hm) hdg hcs) hw.2.2.2.1 (fun q _ h => va_free hw.2.2.1 hw.2.2.2.1 hw.2.2.2.2 isC hC q h) (va_free hw.2.2.1 hw.2.2.2.1 hw.2.2.2.2 isC hC) (fun v t H1 locs1 ht hvm hp hB hz1 hk1 hS1 => kk H1 locs1 v hp (y_back hw isC isR hC hR hnR hdis ht hB hk1 hS1))
theorem y_callSL (S : CallFix p m c cc nL s args Ts own) (hw : y_W D cI cC cL A s H locs ws) (hl : ls.size = nL) (hM : y_ML l y w fr lo D cI cC cL As wc rl F u) (cw : CallB R s args own index y bytes maxL ret w (y_R fr lo) 0 0 n ∧ (Cond.static y).before args s = true) (isC isR : List Nat) (hC : isC.map (fun i => ws[i]?) = wc.map some) (hnC : va_nd isC = true) (hR : isR.map (fun i => ws[i]?) = wr.map some) (hnR : va_nd isR = true) (hdis : ∀ i ∈ isR, i ∉ isC) (hn : As.length = n) (hm : (rest.map fun v => v.category).sum ≤ 8) (hdg : decode cc pc = .ok (.invokestatic index, 3)) {st : List Value} (hst : st = As.reverse ++ rest) (hcs : cells ≤ R.cells ∧ slots ≤ R.slots)
    (kk : ∀ (H1 : Heap) (locs1 : List Loc) (v : σ) (x : Int64), v = u → x = rl → y_W D cI cC cL A s H1 locs1 (wr ++ F v) → W p l e R s m args below meth c H1 locs1 cells slots Q (F0 m (pc + 3) ls (.long x :: rest))) : W p l e R s m args below meth c H locs cells slots Q (F0 m pc ls st) := by
  subst hst
  exact va_calll (va_runS (As := As) (rest := rest) S (hM H.size) cw ⟨y_blind, fun U hU hW => y_preU hw isC hC hnC hU hW⟩ rfl hn hl rfl (lv_room hm) hdg hcs) hw.2.2.2.1 (fun q _ h => va_free hw.2.2.1 hw.2.2.2.1 hw.2.2.2.2 isC hC q h) (va_free hw.2.2.1 hw.2.2.2.1 hw.2.2.2.2 isC hC) (fun x v t H1 locs1 ht hvm hp hB hz1 hk1 hS1 => kk H1 locs1 v x hp.2 hp.1 (y_back hw isC isR hC hR hnR hdis ht hB hk1 hS1))
end YR
