/-! rows of the law's walk: the script, a call on the class, a call on the model -/
section YL
variable {p : Program} {l : Launch} {e : Env} {R : Room} {s : State} {m : MethodId} {args : Array Value} {below : List Frame} {meth : Method} {c : Code} {H : Heap} {locs : List Loc} {cells slots : Nat} {QQ : State → Prop}
variable {cc : ByteArray} {pc nL : Nat} {ls : Array Slot} {rest : List Value} {D : va_G} {cI cC cL : ClassId} {A : Nat → Prop} {a : Nat} {ws ws' : va_W} {Ts : List Cond} {own : String}
variable {σ : Type} {y : MethodName} {bytes : ByteArray} {maxL n index fr lo ci b : Nat} {ret : Option FieldType} {w : List Cond} {C : String} {As fs : List Value} {wc wr : va_W} {F : σ → va_W} {u0 : σ} {r : Int32}
theorem y_callIX (S : CallFix p m c cc nL s args Ts own) (hw : y_W D cI cC cL A s H locs ws) (hX : y_X A s) (hl : ls.size = nL) (hM : y_MIX l y w fr lo D cI cC cL (.ref b :: As) wc r F u0) (cw : CallW R s args own C index y bytes maxL ret w (y_R fr lo) 0 0 n) (q0 : Nat) (he : ws[q0]? = some (b, .inr (ci, fs))) (hc : (vwCl[ci]?).map (fun z => z.1) = some C) (isC isR : List Nat) (hC : isC.map (fun i => ws[i]?) = wc.map some) (hnC : va_nd isC = true) (hR : isR.map (fun i => ws[i]?) = wr.map some) (hnR : va_nd isR = true) (hdis : ∀ i ∈ isR, i ∉ isC) (hn : As.length = n) (hm : (rest.map fun v => v.category).sum ≤ 8) (hdg : decode cc pc = .ok (.invokevirtual index, 3)) {st : List Value} (hst : st = As.reverse ++ .ref b :: rest) (hcs : cells ≤ R.cells ∧ slots ≤ R.slots)
    (kk : ∀ (H1 : Heap) (locs1 : List Loc) (v : σ) (x : Int32), v = u0 → x = r → y_W D cI cC cL A s H1 locs1 (wr ++ F v) → W p l e R s m args below meth c H1 locs1 cells slots QQ (F0 m (pc + 3) ls (.int x :: rest))) : W p l e R s m args below meth c H locs cells slots QQ (F0 m pc ls st) := by
  subst hst
  cases hci : vwCl[ci]? with
  | none => rw [hci] at hc; cases hc
  | some z =>
    rw [hci] at hc
    have hC2 : z.1 = C := Option.some.inj hc
    have hfree := va_free hw.2.2.1 hw.2.2.2.1 hw.2.2.2.2 isC hC
    refine va_calli (va_runV (As := As) (rest := rest) S (hM H.size) cw ⟨y_blindX, ?_, fun U hU hW => ?_⟩ rfl hn hl rfl (lv_room hm) hdg hcs) hw.2.2.2.1 (fun q _ h => hfree q h) hfree (fun x v t H1 locs1 ht hvm hp hB hz1 hk1 hS1 => ?_)
    · have := va_recv hw.1 hw.2.1 hci he
      rw [hC2] at this
      exact this
    · obtain ⟨g1, g2⟩ := y_preU (as := .ref b :: As) hw isC hC hnC hU hW
      exact ⟨g1, g2, hX.to hw.2.2.2.1 hU hW hfree⟩
    · exact kk H1 locs1 v x hp.2 hp.1 (y_back hw isC isR hC hR hnR hdis ht hB hk1 hS1)
theorem ly_cl {Q : Nat → Nat → Nat} {Z Z' : Nat → U} {W2 : va_W} (S : CallFix p m c cc nL s args Ts own) (hw : y_W D cI cC cL A s H locs (cWd cI cC cL Q Z ++ W2)) (hl : ls.size = nL) (hM : y_MI l y w fr lo D cI cC cL (.ref (Q 8 0) :: As) (cWd cI cC cL Q Z) r F u0) (hF : F u0 = cWd cI cC cL Q Z') (cw : CallW R s args own RX5 index y bytes maxL ret w (y_R fr lo) 0 0 n) (hn : As.length = n) (hm : (rest.map fun v => v.category).sum ≤ 8) (hdg : decode cc pc = .ok (.invokevirtual index, 3)) {st : List Value} (hst : st = As.reverse ++ .ref (Q 8 0) :: rest) (hcs : cells ≤ R.cells ∧ slots ≤ R.slots)
    (kk : ∀ (H1 : Heap) (locs1 : List Loc) (x : Int32), x = r → y_W D cI cC cL A s H1 locs1 (cWd cI cC cL Q Z' ++ W2) → W p l e R s m args below meth c H1 locs1 cells slots QQ (F0 m (pc + 3) ls (.int x :: rest))) : W p l e R s m args below meth c H locs cells slots QQ (F0 m pc ls st) := by
  refine y_callI (ci := 5) S hw hl hM cw 0 rfl rfl (List.range (cWd cI cC cL Q Z).length) ((List.range W2.length).map (fun i => i + (cWd cI cC cL Q Z).length)) (y_rngC _ _) (y_ndC _) (y_rngR _ _) (y_ndR _ _) (y_dis _ _) hn hm hdg hst hcs (fun H1 locs1 v x hv hx hw1 => ?_)
  rw [hv, hF] at hw1
  exact kk H1 locs1 x hx (y_swap hw1)
theorem ly_clX {Q : Nat → Nat → Nat} {Z Z' : Nat → U} {W2 : va_W} (S : CallFix p m c cc nL s args Ts own) (hw : y_W D cI cC cL A s H locs (cWd cI cC cL Q Z ++ W2)) (hX : y_X A s) (hl : ls.size = nL) (hM : y_MIX l y w fr lo D cI cC cL (.ref (Q 8 0) :: As) (cWd cI cC cL Q Z) r F u0) (hF : F u0 = cWd cI cC cL Q Z') (cw : CallW R s args own RX5 index y bytes maxL ret w (y_R fr lo) 0 0 n) (hn : As.length = n) (hm : (rest.map fun v => v.category).sum ≤ 8) (hdg : decode cc pc = .ok (.invokevirtual index, 3)) {st : List Value} (hst : st = As.reverse ++ .ref (Q 8 0) :: rest) (hcs : cells ≤ R.cells ∧ slots ≤ R.slots)
    (kk : ∀ (H1 : Heap) (locs1 : List Loc) (x : Int32), x = r → y_W D cI cC cL A s H1 locs1 (cWd cI cC cL Q Z' ++ W2) → W p l e R s m args below meth c H1 locs1 cells slots QQ (F0 m (pc + 3) ls (.int x :: rest))) : W p l e R s m args below meth c H locs cells slots QQ (F0 m pc ls st) := by
  refine y_callIX (ci := 5) S hw hX hl hM cw 0 rfl rfl (List.range (cWd cI cC cL Q Z).length) ((List.range W2.length).map (fun i => i + (cWd cI cC cL Q Z).length)) (y_rngC _ _) (y_ndC _) (y_rngR _ _) (y_ndR _ _) (y_dis _ _) hn hm hdg hst hcs (fun H1 locs1 v x hv hx hw1 => ?_)
  rw [hv, hF] at hw1
  exact kk H1 locs1 x hx (y_swap hw1)
end YL
