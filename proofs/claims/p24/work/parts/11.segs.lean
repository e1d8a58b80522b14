/-! worlds in segments: a list of lists of cells, laid flat; a call takes some of them, the others stay as they are -/
theorem y_ndup : ∀ {l : List Nat}, l.Nodup → va_nd l = true
  | [], _ => rfl
  | a :: l, h => by
    have h1 := List.nodup_cons.mp h
    simp only [va_nd, Bool.and_eq_true, decide_eq_true_eq]
    exact ⟨h1.1, y_ndup h1.2⟩
theorem y_rngC (a b : va_W) : (List.range a.length).map (fun i => (a ++ b)[i]?) = a.map some := by
  apply List.ext_getElem?
  intro i
  rw [List.getElem?_map, List.getElem?_map]
  by_cases h : i < a.length
  · rw [List.getElem?_range h]
    simp only [Option.map_some]
    rw [List.getElem?_append_left h, List.getElem?_eq_getElem h]
    rfl
  · rw [List.getElem?_eq_none (by rw [List.length_range]; omega), List.getElem?_eq_none (by omega)]
    rfl
theorem y_rngR (a b : va_W) : ((List.range b.length).map (fun i => i + a.length)).map (fun i => (a ++ b)[i]?) = b.map some := by
  apply List.ext_getElem?
  intro i
  rw [List.getElem?_map, List.getElem?_map, List.getElem?_map]
  by_cases h : i < b.length
  · rw [List.getElem?_range h]
    simp only [Option.map_some]
    rw [List.getElem?_append_right (by omega), Nat.add_sub_cancel, List.getElem?_eq_getElem h]
    rfl
  · rw [List.getElem?_eq_none (by rw [List.length_range]; omega), List.getElem?_eq_none (by omega)]
    rfl
theorem y_ndC (n : Nat) : va_nd (List.range n) = true := y_ndup List.nodup_range
theorem y_ndR (n k : Nat) : va_nd ((List.range n).map (fun i => i + k)) = true := y_ndup ((List.nodup_range (n := n)).map (fun i => i + k) (fun _ _ h h2 => h (Nat.add_right_cancel h2)))
theorem y_dis (n k : Nat) : ∀ i ∈ (List.range n).map (fun i => i + k), i ∉ List.range k := by
  intro i hi h
  obtain ⟨j, -, rfl⟩ := List.mem_map.mp hi
  have := List.mem_range.mp h
  omega
theorem y_swap {D : va_G} {cI cC cL : ClassId} {A : Nat → Prop} {a b : va_W} {s : State} {H : Heap} {locs : List Loc} (hw : y_W D cI cC cL A s H locs (a ++ b)) : y_W D cI cC cL A s H locs (b ++ a) := by
  refine hw.sub ((List.range b.length).map (fun i => i + a.length) ++ List.range a.length) (y_ndup ?_) (by rw [List.map_append, y_rngR, y_rngC, List.map_append])
  refine List.nodup_append.mpr ⟨(List.nodup_range (n := b.length)).map (fun i => i + a.length) (fun _ _ h h2 => h (Nat.add_right_cancel h2)), List.nodup_range, ?_⟩
  intro x hx y hy hxy
  subst hxy
  exact y_dis b.length a.length x hx hy
/-- the world of other segments in another order -/
theorem y_W.mid {D : va_G} {cI cC cL : ClassId} {A : Nat → Prop} {a b c : va_W} {s : State} {H : Heap} {locs : List Loc} (hw : y_W D cI cC cL A s H locs (a ++ (b ++ c))) : y_W D cI cC cL A s H locs (b ++ (a ++ c)) := by
  have hlen : ∀ (x y : va_W) (i : Nat), i < x.length → (x ++ y)[i]? = x[i]? := fun x y i h => List.getElem?_append_left h
  refine hw.sub ((List.range b.length).map (fun i => i + a.length) ++ (List.range a.length ++ (List.range c.length).map (fun i => i + (a.length + b.length)))) (y_ndup ?_) ?_
  · refine List.nodup_append.mpr ⟨(List.nodup_range (n := b.length)).map (fun i => i + a.length) (fun _ _ h h2 => h (Nat.add_right_cancel h2)), List.nodup_append.mpr ⟨List.nodup_range, (List.nodup_range (n := c.length)).map (fun i => i + (a.length + b.length)) (fun _ _ h h2 => h (Nat.add_right_cancel h2)), ?_⟩, ?_⟩
    · intro x hx y hy hxy
      subst hxy
      obtain ⟨j, -, rfl⟩ := List.mem_map.mp hy
      have := List.mem_range.mp hx
      omega
    · intro x hx y hy hxy
      subst hxy
      obtain ⟨j, hj, rfl⟩ := List.mem_map.mp hx
      have hj := List.mem_range.mp hj
      rcases List.mem_append.mp hy with h | h
      · have := List.mem_range.mp h
        omega
      · obtain ⟨k, -, hk⟩ := List.mem_map.mp h
        omega
  · have e1 : ((List.range b.length).map (fun i => i + a.length)).map (fun i => (a ++ (b ++ c))[i]?) = b.map some := by
      apply List.ext_getElem?
      intro i
      rw [List.getElem?_map, List.getElem?_map, List.getElem?_map]
      by_cases h : i < b.length
      · rw [List.getElem?_range h]
        simp only [Option.map_some]
        rw [List.getElem?_append_right (by omega), Nat.add_sub_cancel, List.getElem?_append_left h, List.getElem?_eq_getElem h]
        rfl
      · rw [List.getElem?_eq_none (by rw [List.length_range]; omega), List.getElem?_eq_none (by omega)]
        rfl
    have e3 : ((List.range c.length).map (fun i => i + (a.length + b.length))).map (fun i => (a ++ (b ++ c))[i]?) = c.map some := by
      have := y_rngR (a ++ b) c
      rw [List.length_append, List.append_assoc] at this
      exact this
    rw [List.map_append, List.map_append, e1, y_rngC, e3, List.map_append, List.map_append]
theorem y_W.front {D : va_G} {cI cC cL : ClassId} {A : Nat → Prop} {s : State} {H : Heap} {locs : List Loc} : ∀ {sg sg' : List va_W} {x : va_W} (_ : y_W D cI cC cL A s H locs sg.flatten) (i : Nat) (_ : sg[i]? = some x) (_ : sg.eraseIdx i = sg'), y_W D cI cC cL A s H locs (x :: sg').flatten := by
  intro sg sg' x hw i hx he
  subst he
  have key : ∀ (pre : va_W) (sg : List va_W) (i : Nat), sg[i]? = some x → y_W D cI cC cL A s H locs (pre ++ sg.flatten) → y_W D cI cC cL A s H locs (x ++ (pre ++ (sg.eraseIdx i).flatten)) := by
    intro pre sg
    induction sg generalizing pre with
    | nil => intro i hx; simp at hx
    | cons y sg ih =>
      intro i hx hw
      cases i with
      | zero =>
        have hy : y = x := by simpa using hx
        subst hy
        exact y_W.mid (c := sg.flatten) (by simpa only [List.flatten_cons] using hw)
      | succ i =>
        have hx' : sg[i]? = some x := by simpa using hx
        have h1 := ih (pre ++ y) i hx' (by simpa only [List.flatten_cons, List.append_assoc] using hw)
        simpa only [List.eraseIdx_cons_succ, List.flatten_cons, List.append_assoc] using h1
  have := key [] sg i hx (by simpa using hw)
  simpa only [List.flatten_cons, List.nil_append] using this
section YS
variable {p : Program} {l : Launch} {e : Env} {R : Room} {s : State} {m : MethodId} {args : Array Value} {below : List Frame} {meth : Method} {c : Code} {H : Heap} {locs : List Loc} {cells slots : Nat} {Q : State → Prop}
variable {cc : ByteArray} {pc nL : Nat} {ls : Array Slot} {rest : List Value} {D : va_G} {cI cC cL : ClassId} {A : Nat → Prop} {a : Nat} {ws ws' : va_W} {Ts : List Cond} {own : String}
variable {σ : Type} {y : MethodName} {bytes : ByteArray} {maxL n index fr lo ci b : Nat} {ret : Option FieldType} {w : List Cond} {C : String} {As fs : List Value} {wc : va_W} {F : σ → va_W} {F' : σ → List va_W} {u : σ} {r : Int32} {rl : Int64} {sc sr : List va_W}
theorem y_segw (hw : y_W D cI cC cL A s H locs (sc ++ sr).flatten) (hwc : sc.flatten = wc) : y_W D cI cC cL A s H locs (wc ++ sr.flatten) := by
  rw [List.flatten_append, hwc] at hw
  exact hw
theorem y_segb {v : σ} (hF : ∀ v, (F' v).flatten = F v) (hw : y_W D cI cC cL A s H locs (sr.flatten ++ F v)) : y_W D cI cC cL A s H locs (F' v ++ sr).flatten := by
  rw [List.flatten_append, hF]
  exact y_swap hw
theorem y_segI (S : CallFix p m c cc nL s args Ts own) (hw : y_W D cI cC cL A s H locs (sc ++ sr).flatten) (hl : ls.size = nL) (hM : y_MI l y w fr lo D cI cC cL (.ref b :: As) wc r F u) (cw : CallW R s args own C index y bytes maxL ret w (y_R fr lo) 0 0 n) (hwc : sc.flatten = wc) (hF : ∀ v, (F' v).flatten = F v) (q0 : Nat) (he : wc[q0]? = some (b, .inr (ci, fs))) (hc : (vwCl[ci]?).map (fun z => z.1) = some C) (hn : As.length = n) (hm : (rest.map fun v => v.category).sum ≤ 8) (hdg : decode cc pc = .ok (.invokevirtual index, 3)) {st : List Value} (hst : st = As.reverse ++ .ref b :: rest) (hcs : cells ≤ R.cells ∧ slots ≤ R.slots)
    (kk : ∀ (H1 : Heap) (locs1 : List Loc) (v : σ) (x : Int32), v = u → x = r → y_W D cI cC cL A s H1 locs1 (F' v ++ sr).flatten → W p l e R s m args below meth c H1 locs1 cells slots Q (F0 m (pc + 3) ls (.int x :: rest))) : W p l e R s m args below meth c H locs cells slots Q (F0 m pc ls st) :=
  y_callI S (y_segw hw hwc) hl hM cw q0 (by rw [List.getElem?_append_left (List.getElem?_eq_some_iff.mp he).1]; exact he) hc (List.range wc.length) ((List.range sr.flatten.length).map (fun i => i + wc.length)) (y_rngC _ _) (y_ndC _) (y_rngR _ _) (y_ndR _ _) (y_dis _ _) hn hm hdg hst hcs (fun H1 locs1 v x hv hx hw1 => kk H1 locs1 v x hv hx (y_segb hF hw1))
theorem y_segV (S : CallFix p m c cc nL s args Ts own) (hw : y_W D cI cC cL A s H locs (sc ++ sr).flatten) (hl : ls.size = nL) (hM : y_MV l y w fr lo D cI cC cL (.ref b :: As) wc F u) (cw : CallW R s args own C index y bytes maxL ret w (y_R fr lo) 0 0 n) (hwc : sc.flatten = wc) (hF : ∀ v, (F' v).flatten = F v) (q0 : Nat) (he : wc[q0]? = some (b, .inr (ci, fs))) (hc : (vwCl[ci]?).map (fun z => z.1) = some C) (hn : As.length = n) (hm : (rest.map fun v => v.category).sum ≤ 8) (hdg : decode cc pc = .ok (.invokevirtual index, 3)) {st : List Value} (hst : st = As.reverse ++ .ref b :: rest) (hcs : cells ≤ R.cells ∧ slots ≤ R.slots)
    (kk : ∀ (H1 : Heap) (locs1 : List Loc) (v : σ), v = u → y_W D cI cC cL A s H1 locs1 (F' v ++ sr).flatten → W p l e R s m args below meth c H1 locs1 cells slots Q (F0 m (pc + 3) ls rest)) : W p l e R s m args below meth c H locs cells slots Q (F0 m pc ls st) :=
  y_callV S (y_segw hw hwc) hl hM cw q0 (by rw [List.getElem?_append_left (List.getElem?_eq_some_iff.mp he).1]; exact he) hc (List.range wc.length) ((List.range sr.flatten.length).map (fun i => i + wc.length)) (y_rngC _ _) (y_ndC _) (y_rngR _ _) (y_ndR _ _) (y_dis _ _) hn hm hdg hst hcs (fun H1 locs1 v hv hw1 => kk H1 locs1 v hv (y_segb hF hw1))
theorem y_segSI (S : CallFix p m c cc nL s args Ts own) (hw : y_W D cI cC cL A s H locs (sc ++ sr).flatten) (hl : ls.size = nL) (hM : y_MI l y w fr lo D cI cC cL As wc r F u) (cw : CallB R s args own index y bytes maxL ret w (y_R fr lo) 0 0 n ∧ (Cond.static y).before args s = true) (hwc : sc.flatten = wc) (hF : ∀ v, (F' v).flatten = F v) (hn : As.length = n) (hm : (rest.map fun v => v.category).sum ≤ 8) (hdg : decode cc pc = .ok (.invokestatic index, 3)) {st : List Value} (hst : st = As.reverse ++ rest) (hcs : cells ≤ R.cells ∧ slots ≤ R.slots)
    (kk : ∀ (H1 : Heap) (locs1 : List Loc) (v : σ) (x : Int32), v = u → x = r → y_W D cI cC cL A s H1 locs1 (F' v ++ sr).flatten → W p l e R s m args below meth c H1 locs1 cells slots Q (F0 m (pc + 3) ls (.int x :: rest))) : W p l e R s m args below meth c H locs cells slots Q (F0 m pc ls st) :=
  y_callSI S (y_segw hw hwc) hl hM cw (List.range wc.length) ((List.range sr.flatten.length).map (fun i => i + wc.length)) (y_rngC _ _) (y_ndC _) (y_rngR _ _) (y_ndR _ _) (y_dis _ _) hn hm hdg hst hcs (fun H1 locs1 v x hv hx hw1 => kk H1 locs1 v x hv hx (y_segb hF hw1))
end YS
