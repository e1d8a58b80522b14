/-! a rule for each call of the class by the law, over the state as the law sees it -/
theorem jStgR_inv {Z : Nat → U} {x y z : Int32} (hx : jHas x (Z 0 0 0) = 0 ∨ ¬ jOut y 0 300 = 0 ∨ ¬ jOut z 0 300 = 0) : jStgR Z x y z = -2000001 := by
  unfold jStgR
  by_cases c1 : jHas x (Z 0 0 0) = 0
  · rw [if_pos c1]
  · rw [if_neg c1]
    by_cases c2 : ¬ jOut y 0 300 = 0
    · rw [if_pos c2]
    · rw [if_neg c2, if_pos ((hx.resolve_left c1).resolve_left c2)]
theorem jStgU_inv {Z : Nat → U} {x y z : Int32} {f k : Nat} (hx : jHas x (Z 0 0 0) = 0 ∨ ¬ jOut y 0 300 = 0 ∨ ¬ jOut z 0 300 = 0) : jStgU Z x y z f k = Z := by
  unfold jStgU
  by_cases c1 : jHas x (Z 0 0 0) = 0
  · rw [if_pos c1]
  · rw [if_neg c1]
    by_cases c2 : ¬ jOut y 0 300 = 0
    · rw [if_pos c2]
    · rw [if_neg c2, if_pos ((hx.resolve_left c1).resolve_left c2)]
theorem jSetR_inv {Z : Nat → U} {x y : Int32} (hx : ¬ jOut x 0 4 = 0 ∨ ¬ jOut y (sLst x.toNatClampNeg) (sMst x.toNatClampNeg) = 0) : jSetR Z x y = -2000001 := by
  unfold jSetR
  by_cases c1 : ¬ jOut x 0 4 = 0
  · rw [if_pos c1]
  · rw [if_neg c1, if_pos (hx.resolve_left c1)]
theorem jSetU_inv {Z : Nat → U} {x y : Int32} {f k : Nat} (hx : ¬ jOut x 0 4 = 0 ∨ ¬ jOut y (sLst x.toNatClampNeg) (sMst x.toNatClampNeg) = 0) : jSetU Z x y f k = Z := by
  unfold jSetU
  by_cases c1 : ¬ jOut x 0 4 = 0
  · rw [if_pos c1]
  · rw [if_neg c1, if_pos (hx.resolve_left c1)]
theorem jEchR_inv {Z : Nat → U} {x y : Int32} {n : Nat} (hx : ¬ jOut x 0 10000 = 0 ∨ ¬ jOut y 1 40 = 0) : jEchR Z x y n = -2000001 := by
  unfold jEchR
  by_cases c1 : ¬ jOut x 0 10000 = 0
  · rw [if_pos c1]
  · rw [if_neg c1, if_pos (hx.resolve_left c1)]
theorem jEchU_inv {Z : Nat → U} {x y : Int32} {n : Nat} (hx : ¬ jOut x 0 10000 = 0 ∨ ¬ jOut y 1 40 = 0) : jEchU Z x y n = Z := by
  unfold jEchU
  by_cases c1 : ¬ jOut x 0 10000 = 0
  · rw [if_pos c1]
  · rw [if_neg c1, if_pos (hx.resolve_left c1)]
section YQW
variable {p : Program} {l : Launch} {e : Env} {R : Room} {s : State} {m : MethodId} {args : Array Value} {below : List Frame} {meth : Method} {c : Code} {H : Heap} {locs : List Loc} {cells slots : Nat} {QQ : State → Prop}
variable {cc : ByteArray} {pc nL : Nat} {ls : Array Slot} {rest : List Value} {D : va_G} {cI cC cL : ClassId} {A : Nat → Prop} {Ts : List Cond} {own : String}
variable {bytes : ByteArray} {maxL index : Nat} {ret : Option FieldType} {Q : Nat → Nat → Nat} {Z : Nat → U} {W2 : va_W} {u w : U} {k : Nat} {g : Nat → U}
theorem q_begin {x : Int32} (hx : jOut x 2 10 = 0) (S : CallFix p m c cc nL s args Ts own) (hw : y_W D cI cC cL A s H locs (cWd cI cC cL Q Z ++ W2)) (P : PW Z u w k g) (hl : ls.size = nL) (cw : CallW R s args own RX5 index yX5_begin bytes maxL ret wsX5_begin (y_R 4 81) 0 0 1) (hm : (rest.map fun v => v.category).sum ≤ 8) (hdg : decode cc pc = .ok (.invokevirtual index, 3)) (hcs : cells ≤ R.cells ∧ slots ≤ R.slots)
    (kk : ∀ (H1 : Heap) (locs1 : List Loc) (Z1 : Nat → U), y_W D cI cC cL A s H1 locs1 (cWd cI cC cL Q Z1 ++ W2) → PW Z1 (jSA u x.toNatClampNeg) w (kPush k) (gPush u g) → W p l e R s m args below meth c H1 locs1 cells slots QQ (F0 m (pc + 3) ls (.int (u 11 0) :: rest))) : W p l e R s m args below meth c H locs cells slots QQ (F0 m pc ls (.int x :: .ref (Q 8 0) :: rest)) := by
  have P0 := P
  obtain ⟨e0, e6, k4, f, f4, ef, ek, eg⟩ := P
  subst e0
  subst e6
  refine ly_cl (As := [.int x]) (Z' := (jBegU Z x f k)) S hw hl (c_X5_begin l D cI cC cL Q Z x f k ef f4 ek k4) rfl cw rfl hm hdg rfl hcs (fun H1 locs1 r hr1 hw1 => ?_)
  subst hr1
  rw [show jBegR Z x = Z 0 11 0 from if_neg (not_not_intro hx)]
  have hk := PW_keep (Z := Z) rfl rfl k4 f4 ef eg
  have hk0 := hk.l
  rw [show jBegU Z x f k = va_up (jKeep Z f k) 0 (jSA (Z 0) x.toNatClampNeg) from by unfold jBegU; rw [if_neg (not_not_intro hx), hk0]] at hw1
  exact kk H1 locs1 _ hw1 (hk.up0 _)
theorem q_stage {x : Int32} {y : Int32} {z : Int32} {n B : Nat} (hv : lOk u n B) (h10 : n ≤ 10) (hx : ¬ jHas x (u 0 0) = 0) (hy : jOut y 0 300 = 0) (hz : jOut z 0 300 = 0) (S : CallFix p m c cc nL s args Ts own) (hw : y_W D cI cC cL A s H locs (cWd cI cC cL Q Z ++ W2)) (P : PW Z u w k g) (hl : ls.size = nL) (cw : CallW R s args own RX5 index yX5_stage bytes maxL ret wsX5_stage (y_R 4 81) 0 0 3) (hm : (rest.map fun v => v.category).sum ≤ 8) (hdg : decode cc pc = .ok (.invokevirtual index, 3)) (hcs : cells ≤ R.cells ∧ slots ≤ R.slots)
    (kk : ∀ (H1 : Heap) (locs1 : List Loc) (Z1 : Nat → U), y_W D cI cC cL A s H1 locs1 (cWd cI cC cL Q Z1 ++ W2) → PW Z1 (stMix (jCS u x.toNatClampNeg y z) u) w (kPush k) (gPush u g) → W p l e R s m args below meth c H1 locs1 cells slots QQ (F0 m (pc + 3) ls (.int (1000 * u 2 x.toNatClampNeg + u 3 x.toNatClampNeg) :: rest))) : W p l e R s m args below meth c H locs cells slots QQ (F0 m pc ls (.int z :: .int y :: .int x :: .ref (Q 8 0) :: rest)) := by
  have P0 := P
  obtain ⟨e0, e6, k4, f, f4, ef, ek, eg⟩ := P
  subst e0
  subst e6
  obtain ⟨hn, hok, h, r, eh, hB, er, hr⟩ := id hv
  refine ly_cl (As := [.int x, .int y, .int z]) (Z' := (jStgU Z x y z f k)) S hw hl (c_X5_stage l D cI cC cL Q Z x y z n hn h10 f k ef f4 ek k4) rfl cw rfl hm hdg rfl hcs (fun H1 locs1 r hr1 hw1 => ?_)
  subst hr1
  rw [show jStgR Z x y z = _ from by unfold jStgR; rw [if_neg hx, if_neg (not_not_intro hy), if_neg (not_not_intro hz)]]
  have hk := PW_keep (Z := Z) rfl rfl k4 f4 ef eg
  have hk0 := hk.l
  rw [show jStgU Z x y z f k = va_up (jKeep Z f k) 0 (stMix (jCS (Z 0) x.toNatClampNeg y z) (Z 0)) from by unfold jStgU; rw [if_neg hx, if_neg (not_not_intro hy), if_neg (not_not_intro hz), hk0]] at hw1
  exact kk H1 locs1 _ hw1 (hk.up0 _)
theorem q_set {x : Int32} {y : Int32} (hx : jOut x 0 4 = 0) (hy : jOut y (sLst x.toNatClampNeg) (sMst x.toNatClampNeg) = 0) (S : CallFix p m c cc nL s args Ts own) (hw : y_W D cI cC cL A s H locs (cWd cI cC cL Q Z ++ W2)) (P : PW Z u w k g) (hl : ls.size = nL) (hX : y_X A s) (cw : CallW R s args own RX5 index yX5_set bytes maxL ret wsX5_set (y_R 4 81) 0 0 2) (hm : (rest.map fun v => v.category).sum ≤ 8) (hdg : decode cc pc = .ok (.invokevirtual index, 3)) (hcs : cells ≤ R.cells ∧ slots ≤ R.slots)
    (kk : ∀ (H1 : Heap) (locs1 : List Loc) (Z1 : Nat → U), y_W D cI cC cL A s H1 locs1 (cWd cI cC cL Q Z1 ++ W2) → PW Z1 (va_up u 10 (upd (u 10) x.toNatClampNeg y)) w (kPush k) (gPush u g) → W p l e R s m args below meth c H1 locs1 cells slots QQ (F0 m (pc + 3) ls (.int (u 10 x.toNatClampNeg) :: rest))) : W p l e R s m args below meth c H locs cells slots QQ (F0 m pc ls (.int y :: .int x :: .ref (Q 8 0) :: rest)) := by
  have P0 := P
  obtain ⟨e0, e6, k4, f, f4, ef, ek, eg⟩ := P
  subst e0
  subst e6
  refine ly_clX (As := [.int x, .int y]) (Z' := (jSetU Z x y f k)) S hw hX hl (c_X5_set l D cI cC cL Q Z x y f k ef f4 ek k4) rfl cw rfl hm hdg rfl hcs (fun H1 locs1 r hr1 hw1 => ?_)
  subst hr1
  rw [show jSetR Z x y = _ from by unfold jSetR; rw [if_neg (not_not_intro hx), if_neg (not_not_intro hy)]]
  have hk := PW_keep (Z := Z) rfl rfl k4 f4 ef eg
  have hk0 := hk.l
  rw [show jSetU Z x y f k = va_up (jKeep Z f k) 0 (va_up (Z 0) 10 (upd (Z 0 10) x.toNatClampNeg y)) from by unfold jSetU; rw [if_neg (not_not_intro hx), if_neg (not_not_intro hy), hk0]] at hw1
  exact kk H1 locs1 _ hw1 (hk.up0 _)
theorem q_give {x : Int32} {n B : Nat} (hv : lOk u n B) (h10 : n ≤ 10) (hB2 : B ≤ 2000) (hx : jOut x 0 10000 = 0) (hh : jHB (u 11 0) (u 10 1) 1 ≤ 999) (S : CallFix p m c cc nL s args Ts own) (hw : y_W D cI cC cL A s H locs (cWd cI cC cL Q Z ++ W2)) (P : PW Z u w k g) (hl : ls.size = nL) (cw : CallW R s args own RX5 index yX5_give bytes maxL ret wsX5_give (y_R 6 142) 0 0 1) (hm : (rest.map fun v => v.category).sum ≤ 8) (hdg : decode cc pc = .ok (.invokevirtual index, 3)) (hcs : cells ≤ R.cells ∧ slots ≤ R.slots)
    (kk : ∀ (H1 : Heap) (locs1 : List Loc) (Z1 : Nat → U), y_W D cI cC cL A s H1 locs1 (cWd cI cC cL Q Z1 ++ W2) → PW Z1 (jTI u x n 1) w (kPush k) (gPush u g) → W p l e R s m args below meth c H1 locs1 cells slots QQ (F0 m (pc + 3) ls (.int (jTI u x n 1 11 0 - u 11 0) :: rest))) : W p l e R s m args below meth c H locs cells slots QQ (F0 m pc ls (.int x :: .ref (Q 8 0) :: rest)) := by
  have P0 := P
  obtain ⟨e0, e6, k4, f, f4, ef, ek, eg⟩ := P
  subst e0
  subst e6
  obtain ⟨hn, hok, h, r, eh, hB, er, hr⟩ := id hv
  refine ly_cl (As := [.int x]) (Z' := (jGivU Z x n f k)) S hw hl (c_X5_give l D cI cC cL Q Z x n B hv h10 hB2 f k ef f4 ek k4) rfl cw rfl hm hdg rfl hcs (fun H1 locs1 r hr1 hw1 => ?_)
  subst hr1
  rw [show jGivR Z x n = _ from by unfold jGivR jTTR; rw [if_neg (not_not_intro hx), if_pos hh]]
  have hk := PW_keep (Z := Z) rfl rfl k4 f4 ef eg
  have hk0 := hk.l
  rw [show jGivU Z x n f k = va_up (jKeep Z f k) 0 (jTI (Z 0) x n 1) from by unfold jGivU jTTU; rw [if_neg (not_not_intro hx), if_pos hh, hk0]] at hw1
  exact kk H1 locs1 _ hw1 (hk.up0 _)
theorem q_give_lim {x : Int32} {n B : Nat} (hv : lOk u n B) (h10 : n ≤ 10) (hB2 : B ≤ 2000) (hx : jOut x 0 10000 = 0) (hh : ¬ jHB (u 11 0) (u 10 1) 1 ≤ 999) (S : CallFix p m c cc nL s args Ts own) (hw : y_W D cI cC cL A s H locs (cWd cI cC cL Q Z ++ W2)) (P : PW Z u w k g) (hl : ls.size = nL) (cw : CallW R s args own RX5 index yX5_give bytes maxL ret wsX5_give (y_R 6 142) 0 0 1) (hm : (rest.map fun v => v.category).sum ≤ 8) (hdg : decode cc pc = .ok (.invokevirtual index, 3)) (hcs : cells ≤ R.cells ∧ slots ≤ R.slots)
    (kk : ∀ (H1 : Heap) (locs1 : List Loc), y_W D cI cC cL A s H1 locs1 (cWd cI cC cL Q Z ++ W2) → W p l e R s m args below meth c H1 locs1 cells slots QQ (F0 m (pc + 3) ls (.int (-2000003) :: rest))) : W p l e R s m args below meth c H locs cells slots QQ (F0 m pc ls (.int x :: .ref (Q 8 0) :: rest)) := by
  have P0 := P
  obtain ⟨e0, e6, k4, f, f4, ef, ek, eg⟩ := P
  subst e0
  subst e6
  obtain ⟨hn, hok, h, r, eh, hB, er, hr⟩ := id hv
  refine ly_cl (As := [.int x]) (Z' := (jGivU Z x n f k)) S hw hl (c_X5_give l D cI cC cL Q Z x n B hv h10 hB2 f k ef f4 ek k4) rfl cw rfl hm hdg rfl hcs (fun H1 locs1 r hr1 hw1 => ?_)
  subst hr1
  rw [show jGivR Z x n = -2000003 from by unfold jGivR jTTR; rw [if_neg (not_not_intro hx), if_neg hh]]
  rw [show jGivU Z x n f k = Z from by unfold jGivU jTTU; rw [if_neg (not_not_intro hx), if_neg hh]] at hw1
  exact kk H1 locs1 hw1
theorem q_give_inv {x : Int32} {n B : Nat} (hv : lOk u n B) (h10 : n ≤ 10) (hB2 : B ≤ 2000) (hx : ¬ jOut x 0 10000 = 0) (S : CallFix p m c cc nL s args Ts own) (hw : y_W D cI cC cL A s H locs (cWd cI cC cL Q Z ++ W2)) (P : PW Z u w k g) (hl : ls.size = nL) (cw : CallW R s args own RX5 index yX5_give bytes maxL ret wsX5_give (y_R 6 142) 0 0 1) (hm : (rest.map fun v => v.category).sum ≤ 8) (hdg : decode cc pc = .ok (.invokevirtual index, 3)) (hcs : cells ≤ R.cells ∧ slots ≤ R.slots)
    (kk : ∀ (H1 : Heap) (locs1 : List Loc), y_W D cI cC cL A s H1 locs1 (cWd cI cC cL Q Z ++ W2) → W p l e R s m args below meth c H1 locs1 cells slots QQ (F0 m (pc + 3) ls (.int (-2000001) :: rest))) : W p l e R s m args below meth c H locs cells slots QQ (F0 m pc ls (.int x :: .ref (Q 8 0) :: rest)) := by
  have P0 := P
  obtain ⟨e0, e6, k4, f, f4, ef, ek, eg⟩ := P
  subst e0
  subst e6
  obtain ⟨hn, hok, h, r, eh, hB, er, hr⟩ := id hv
  refine ly_cl (As := [.int x]) (Z' := (jGivU Z x n f k)) S hw hl (c_X5_give l D cI cC cL Q Z x n B hv h10 hB2 f k ef f4 ek k4) rfl cw rfl hm hdg rfl hcs (fun H1 locs1 r hr1 hw1 => ?_)
  subst hr1
  rw [show jGivR Z x n = -2000001 from by unfold jGivR; rw [if_pos hx]]
  rw [show jGivU Z x n f k = Z from by unfold jGivU; rw [if_pos hx]] at hw1
  exact kk H1 locs1 hw1
theorem q_idle {x : Int32} {n B : Nat} (hv : lOk u n B) (h10 : n ≤ 10) (hB2 : B ≤ 2000) (hx : jOut x 1 40 = 0) (hh : jHB (u 11 0) (u 10 1) x.toNatClampNeg ≤ 999) (S : CallFix p m c cc nL s args Ts own) (hw : y_W D cI cC cL A s H locs (cWd cI cC cL Q Z ++ W2)) (P : PW Z u w k g) (hl : ls.size = nL) (cw : CallW R s args own RX5 index yX5_idle bytes maxL ret wsX5_idle (y_R 6 142) 0 0 1) (hm : (rest.map fun v => v.category).sum ≤ 8) (hdg : decode cc pc = .ok (.invokevirtual index, 3)) (hcs : cells ≤ R.cells ∧ slots ≤ R.slots)
    (kk : ∀ (H1 : Heap) (locs1 : List Loc) (Z1 : Nat → U), y_W D cI cC cL A s H1 locs1 (cWd cI cC cL Q Z1 ++ W2) → PW Z1 (jTI u 0 n x.toNatClampNeg) w (kPush k) (gPush u g) → W p l e R s m args below meth c H1 locs1 cells slots QQ (F0 m (pc + 3) ls (.int (jTI u 0 n x.toNatClampNeg 11 0 - u 11 0) :: rest))) : W p l e R s m args below meth c H locs cells slots QQ (F0 m pc ls (.int x :: .ref (Q 8 0) :: rest)) := by
  have P0 := P
  obtain ⟨e0, e6, k4, f, f4, ef, ek, eg⟩ := P
  subst e0
  subst e6
  obtain ⟨hn, hok, h, r, eh, hB, er, hr⟩ := id hv
  refine ly_cl (As := [.int x]) (Z' := (jIdlU Z x n f k)) S hw hl (c_X5_idle l D cI cC cL Q Z x n B hv h10 hB2 f k ef f4 ek k4) rfl cw rfl hm hdg rfl hcs (fun H1 locs1 r hr1 hw1 => ?_)
  subst hr1
  rw [show jIdlR Z x n = _ from by unfold jIdlR jTTR; rw [if_neg (not_not_intro hx), if_pos hh]]
  have hk := PW_keep (Z := Z) rfl rfl k4 f4 ef eg
  have hk0 := hk.l
  rw [show jIdlU Z x n f k = va_up (jKeep Z f k) 0 (jTI (Z 0) 0 n x.toNatClampNeg) from by unfold jIdlU jTTU; rw [if_neg (not_not_intro hx), if_pos hh, hk0]] at hw1
  exact kk H1 locs1 _ hw1 (hk.up0 _)
theorem q_idle_lim {x : Int32} {n B : Nat} (hv : lOk u n B) (h10 : n ≤ 10) (hB2 : B ≤ 2000) (hx : jOut x 1 40 = 0) (hh : ¬ jHB (u 11 0) (u 10 1) x.toNatClampNeg ≤ 999) (S : CallFix p m c cc nL s args Ts own) (hw : y_W D cI cC cL A s H locs (cWd cI cC cL Q Z ++ W2)) (P : PW Z u w k g) (hl : ls.size = nL) (cw : CallW R s args own RX5 index yX5_idle bytes maxL ret wsX5_idle (y_R 6 142) 0 0 1) (hm : (rest.map fun v => v.category).sum ≤ 8) (hdg : decode cc pc = .ok (.invokevirtual index, 3)) (hcs : cells ≤ R.cells ∧ slots ≤ R.slots)
    (kk : ∀ (H1 : Heap) (locs1 : List Loc), y_W D cI cC cL A s H1 locs1 (cWd cI cC cL Q Z ++ W2) → W p l e R s m args below meth c H1 locs1 cells slots QQ (F0 m (pc + 3) ls (.int (-2000003) :: rest))) : W p l e R s m args below meth c H locs cells slots QQ (F0 m pc ls (.int x :: .ref (Q 8 0) :: rest)) := by
  have P0 := P
  obtain ⟨e0, e6, k4, f, f4, ef, ek, eg⟩ := P
  subst e0
  subst e6
  obtain ⟨hn, hok, h, r, eh, hB, er, hr⟩ := id hv
  refine ly_cl (As := [.int x]) (Z' := (jIdlU Z x n f k)) S hw hl (c_X5_idle l D cI cC cL Q Z x n B hv h10 hB2 f k ef f4 ek k4) rfl cw rfl hm hdg rfl hcs (fun H1 locs1 r hr1 hw1 => ?_)
  subst hr1
  rw [show jIdlR Z x n = -2000003 from by unfold jIdlR jTTR; rw [if_neg (not_not_intro hx), if_neg hh]]
  rw [show jIdlU Z x n f k = Z from by unfold jIdlU jTTU; rw [if_neg (not_not_intro hx), if_neg hh]] at hw1
  exact kk H1 locs1 hw1
theorem q_undo (hk0 : 0 < k) (S : CallFix p m c cc nL s args Ts own) (hw : y_W D cI cC cL A s H locs (cWd cI cC cL Q Z ++ W2)) (P : PW Z u w k g) (hl : ls.size = nL) (cw : CallW R s args own RX5 index yX5_undo bytes maxL ret wsX5_undo (y_R 4 81) 0 0 0) (hm : (rest.map fun v => v.category).sum ≤ 8) (hdg : decode cc pc = .ok (.invokevirtual index, 3)) (hcs : cells ≤ R.cells ∧ slots ≤ R.slots)
    (kk : ∀ (H1 : Heap) (locs1 : List Loc) (Z1 : Nat → U), y_W D cI cC cL A s H1 locs1 (cWd cI cC cL Q Z1 ++ W2) → PW Z1 (g 0) w (k - 1) (gPop g) → W p l e R s m args below meth c H1 locs1 cells slots QQ (F0 m (pc + 3) ls (.int (nI (k - 1)) :: rest))) : W p l e R s m args below meth c H locs cells slots QQ (F0 m pc ls (.ref (Q 8 0) :: rest)) := by
  have P0 := P
  obtain ⟨e0, e6, k4, f, f4, ef, ek, eg⟩ := P
  subst e0
  subst e6
  refine ly_cl (As := []) (Z' := (jUndoU Z f k)) S hw hl (c_X5_undo l D cI cC cL Q Z f k ef f4 ek k4) rfl cw rfl hm hdg rfl hcs (fun H1 locs1 r hr1 hw1 => ?_)
  subst hr1
  rw [show jUndoR k = nI (k - 1) from if_neg (by omega)]
  rw [show jUndoU Z f k = jRest Z f k from if_neg (by omega)] at hw1
  exact kk H1 locs1 _ hw1 (PW_rest rfl hk0 k4 f4 ef eg)
theorem q_undo_no (hk0 : k = 0) (S : CallFix p m c cc nL s args Ts own) (hw : y_W D cI cC cL A s H locs (cWd cI cC cL Q Z ++ W2)) (P : PW Z u w k g) (hl : ls.size = nL) (cw : CallW R s args own RX5 index yX5_undo bytes maxL ret wsX5_undo (y_R 4 81) 0 0 0) (hm : (rest.map fun v => v.category).sum ≤ 8) (hdg : decode cc pc = .ok (.invokevirtual index, 3)) (hcs : cells ≤ R.cells ∧ slots ≤ R.slots)
    (kk : ∀ (H1 : Heap) (locs1 : List Loc), y_W D cI cC cL A s H1 locs1 (cWd cI cC cL Q Z ++ W2) → W p l e R s m args below meth c H1 locs1 cells slots QQ (F0 m (pc + 3) ls (.int (-2000002) :: rest))) : W p l e R s m args below meth c H locs cells slots QQ (F0 m pc ls (.ref (Q 8 0) :: rest)) := by
  have P0 := P
  obtain ⟨e0, e6, k4, f, f4, ef, ek, eg⟩ := P
  subst e0
  subst e6
  refine ly_cl (As := []) (Z' := (jUndoU Z f k)) S hw hl (c_X5_undo l D cI cC cL Q Z f k ef f4 ek k4) rfl cw rfl hm hdg rfl hcs (fun H1 locs1 r hr1 hw1 => ?_)
  subst hr1
  rw [show jUndoR k = -2000002 from if_pos hk0]
  rw [show jUndoU Z f k = Z from if_pos hk0] at hw1
  exact kk H1 locs1 hw1
theorem q_type {x : Int32} {L : Nat} (hL : w 1 0 = nI L) (hL2 : L ≤ 60) (hx : jOut x 32 126 = 0) (hl60 : L < 60) (S : CallFix p m c cc nL s args Ts own) (hw : y_W D cI cC cL A s H locs (cWd cI cC cL Q Z ++ W2)) (P : PW Z u w k g) (hl : ls.size = nL) (cw : CallW R s args own RX5 index yX5_type bytes maxL ret wsX5_type (y_R 1 22) 0 0 1) (hm : (rest.map fun v => v.category).sum ≤ 8) (hdg : decode cc pc = .ok (.invokevirtual index, 3)) (hcs : cells ≤ R.cells ∧ slots ≤ R.slots)
    (kk : ∀ (H1 : Heap) (locs1 : List Loc) (Z1 : Nat → U), y_W D cI cC cL A s H1 locs1 (cWd cI cC cL Q Z1 ++ W2) → PW Z1 u (tApp w L x) k g → W p l e R s m args below meth c H1 locs1 cells slots QQ (F0 m (pc + 3) ls (.int (nI (L + 1)) :: rest))) : W p l e R s m args below meth c H locs cells slots QQ (F0 m pc ls (.int x :: .ref (Q 8 0) :: rest)) := by
  have P0 := P
  obtain ⟨e0, e6, k4, f, f4, ef, ek, eg⟩ := P
  subst e0
  subst e6
  refine ly_cl (As := [.int x]) (Z' := (jTypU Z x L)) S hw hl (c_X5_type l D cI cC cL Q Z x L hL hL2) rfl cw rfl hm hdg rfl hcs (fun H1 locs1 r hr1 hw1 => ?_)
  subst hr1
  rw [show jTypR x L = nI (L + 1) from by unfold jTypR; rw [if_neg (not_not_intro hx), if_pos hl60]]
  rw [show jTypU Z x L = va_up Z 6 (tApp (Z 6) L x) from by unfold jTypU; rw [if_neg (not_not_intro hx), if_pos hl60]] at hw1
  exact kk H1 locs1 _ hw1 (P0.up6 _)
theorem q_type_lim {x : Int32} {L : Nat} (hL : w 1 0 = nI L) (hL2 : L ≤ 60) (hx : jOut x 32 126 = 0) (hl60 : ¬ L < 60) (S : CallFix p m c cc nL s args Ts own) (hw : y_W D cI cC cL A s H locs (cWd cI cC cL Q Z ++ W2)) (P : PW Z u w k g) (hl : ls.size = nL) (cw : CallW R s args own RX5 index yX5_type bytes maxL ret wsX5_type (y_R 1 22) 0 0 1) (hm : (rest.map fun v => v.category).sum ≤ 8) (hdg : decode cc pc = .ok (.invokevirtual index, 3)) (hcs : cells ≤ R.cells ∧ slots ≤ R.slots)
    (kk : ∀ (H1 : Heap) (locs1 : List Loc), y_W D cI cC cL A s H1 locs1 (cWd cI cC cL Q Z ++ W2) → W p l e R s m args below meth c H1 locs1 cells slots QQ (F0 m (pc + 3) ls (.int (-2000003) :: rest))) : W p l e R s m args below meth c H locs cells slots QQ (F0 m pc ls (.int x :: .ref (Q 8 0) :: rest)) := by
  have P0 := P
  obtain ⟨e0, e6, k4, f, f4, ef, ek, eg⟩ := P
  subst e0
  subst e6
  refine ly_cl (As := [.int x]) (Z' := (jTypU Z x L)) S hw hl (c_X5_type l D cI cC cL Q Z x L hL hL2) rfl cw rfl hm hdg rfl hcs (fun H1 locs1 r hr1 hw1 => ?_)
  subst hr1
  rw [show jTypR x L = -2000003 from by unfold jTypR; rw [if_neg (not_not_intro hx), if_neg hl60]]
  rw [show jTypU Z x L = Z from by unfold jTypU; rw [if_neg (not_not_intro hx), if_neg hl60]] at hw1
  exact kk H1 locs1 hw1
theorem q_type_inv {x : Int32} {L : Nat} (hL : w 1 0 = nI L) (hL2 : L ≤ 60) (hx : ¬ jOut x 32 126 = 0) (S : CallFix p m c cc nL s args Ts own) (hw : y_W D cI cC cL A s H locs (cWd cI cC cL Q Z ++ W2)) (P : PW Z u w k g) (hl : ls.size = nL) (cw : CallW R s args own RX5 index yX5_type bytes maxL ret wsX5_type (y_R 1 22) 0 0 1) (hm : (rest.map fun v => v.category).sum ≤ 8) (hdg : decode cc pc = .ok (.invokevirtual index, 3)) (hcs : cells ≤ R.cells ∧ slots ≤ R.slots)
    (kk : ∀ (H1 : Heap) (locs1 : List Loc), y_W D cI cC cL A s H1 locs1 (cWd cI cC cL Q Z ++ W2) → W p l e R s m args below meth c H1 locs1 cells slots QQ (F0 m (pc + 3) ls (.int (-2000001) :: rest))) : W p l e R s m args below meth c H locs cells slots QQ (F0 m pc ls (.int x :: .ref (Q 8 0) :: rest)) := by
  have P0 := P
  obtain ⟨e0, e6, k4, f, f4, ef, ek, eg⟩ := P
  subst e0
  subst e6
  refine ly_cl (As := [.int x]) (Z' := (jTypU Z x L)) S hw hl (c_X5_type l D cI cC cL Q Z x L hL hL2) rfl cw rfl hm hdg rfl hcs (fun H1 locs1 r hr1 hw1 => ?_)
  subst hr1
  rw [show jTypR x L = -2000001 from by unfold jTypR; rw [if_pos hx]]
  rw [show jTypU Z x L = Z from by unfold jTypU; rw [if_pos hx]] at hw1
  exact kk H1 locs1 hw1
theorem q_clearText (S : CallFix p m c cc nL s args Ts own) (hw : y_W D cI cC cL A s H locs (cWd cI cC cL Q Z ++ W2)) (P : PW Z u w k g) (hl : ls.size = nL) (cw : CallW R s args own RX5 index yX5_clearText bytes maxL ret wsX5_clearText (y_R 1 20) 0 0 0) (hm : (rest.map fun v => v.category).sum ≤ 8) (hdg : decode cc pc = .ok (.invokevirtual index, 3)) (hcs : cells ≤ R.cells ∧ slots ≤ R.slots)
    (kk : ∀ (H1 : Heap) (locs1 : List Loc) (Z1 : Nat → U), y_W D cI cC cL A s H1 locs1 (cWd cI cC cL Q Z1 ++ W2) → PW Z1 u (va_up w 1 (fun _ => 0)) k g → W p l e R s m args below meth c H1 locs1 cells slots QQ (F0 m (pc + 3) ls (.int (w 1 0) :: rest))) : W p l e R s m args below meth c H locs cells slots QQ (F0 m pc ls (.ref (Q 8 0) :: rest)) := by
  have P0 := P
  obtain ⟨e0, e6, k4, f, f4, ef, ek, eg⟩ := P
  subst e0
  subst e6
  refine ly_cl (As := []) (Z' := (va_up Z 6 (va_up (Z 6) 1 (fun _ => 0)))) S hw hl (c_X5_clearText l D cI cC cL Q Z ) rfl cw rfl hm hdg rfl hcs (fun H1 locs1 r hr1 hw1 => ?_)
  subst hr1
  skip
  exact kk H1 locs1 _ hw1 (P0.up6 _)
theorem q_fault {x : Int32} {L : Nat} (hL : w 1 0 = nI L) (hL2 : L ≤ 60) (hx : jOut x 0 2 = 0) (S : CallFix p m c cc nL s args Ts own) (hw : y_W D cI cC cL A s H locs (cWd cI cC cL Q Z ++ W2)) (P : PW Z u w k g) (hl : ls.size = nL) (cw : CallW R s args own RX5 index yX5_fault bytes maxL ret wsX5_fault (y_R 5 108) 0 0 1) (hm : (rest.map fun v => v.category).sum ≤ 8) (hdg : decode cc pc = .ok (.invokevirtual index, 3)) (hcs : cells ≤ R.cells ∧ slots ≤ R.slots)
    (kk : ∀ (H1 : Heap) (locs1 : List Loc) (Z1 : Nat → U), y_W D cI cC cL A s H1 locs1 (cWd cI cC cL Q Z1 ++ W2) → PW Z1 u (jScn w L (u 0 0)).1 k g → W p l e R s m args below meth c H1 locs1 cells slots QQ (F0 m (pc + 3) ls (.int (jFltR (qZ u w k) x L) :: rest))) : W p l e R s m args below meth c H locs cells slots QQ (F0 m pc ls (.int x :: .ref (Q 8 0) :: rest)) := by
  have P0 := P
  obtain ⟨e0, e6, k4, f, f4, ef, ek, eg⟩ := P
  subst e0
  subst e6
  refine ly_cl (As := [.int x]) (Z' := (jFltU Z x L)) S hw hl (c_X5_fault l D cI cC cL Q Z x L hL hL2) rfl cw rfl hm hdg rfl hcs (fun H1 locs1 r hr1 hw1 => ?_)
  subst hr1
  skip
  rw [show jFltU Z x L = va_up Z 6 (jScn (Z 6) L (Z 0 0 0)).1 from by unfold jFltU; rw [if_neg (not_not_intro hx)]] at hw1
  exact kk H1 locs1 _ hw1 (P0.up6 _)
theorem q_play {n B : Nat} (hv : lOk u n B) (h10 : n ≤ 10) (hB2 : B ≤ 2000) {L : Nat} (hL : w 1 0 = nI L) (hL2 : L ≤ 60) (hs : (jScn w L (u 0 0)).2 = -2000004) (hh : jHB (u 11 0) (u 10 1) (pCn (w 0) 115 0 L) ≤ 999) (S : CallFix p m c cc nL s args Ts own) (hw : y_W D cI cC cL A s H locs (cWd cI cC cL Q Z ++ W2)) (P : PW Z u w k g) (hl : ls.size = nL) (cw : CallW R s args own RX5 index yX5_play bytes maxL ret wsX5_play (y_R 6 138) 0 0 0) (hm : (rest.map fun v => v.category).sum ≤ 8) (hdg : decode cc pc = .ok (.invokevirtual index, 3)) (hcs : cells ≤ R.cells ∧ slots ≤ R.slots)
    (kk : ∀ (H1 : Heap) (locs1 : List Loc) (Z1 : Nat → U), y_W D cI cC cL A s H1 locs1 (cWd cI cC cL Q Z1 ++ W2) → PW Z1 (jPl L n (u 0 0) (pCn (w 0) 59 0 L) u (jScn w L (u 0 0)).1 0).1 (jPl L n (u 0 0) (pCn (w 0) 59 0 L) u (jScn w L (u 0 0)).1 0).2 (kPush k) (gPush u g) → W p l e R s m args below meth c H1 locs1 cells slots QQ (F0 m (pc + 3) ls (.int (nI (pCn (w 0) 59 0 L)) :: rest))) : W p l e R s m args below meth c H locs cells slots QQ (F0 m pc ls (.ref (Q 8 0) :: rest)) := by
  have P0 := P
  obtain ⟨e0, e6, k4, f, f4, ef, ek, eg⟩ := P
  subst e0
  subst e6
  obtain ⟨hn, hok, h, r, eh, hB, er, hr⟩ := id hv
  refine ly_cl (As := []) (Z' := (jPlayU Z L n f k)) S hw hl (c_X5_play l D cI cC cL Q Z n B hv h10 hB2 f k ef f4 ek k4 L hL hL2) rfl cw rfl hm hdg rfl hcs (fun H1 locs1 r hr1 hw1 => ?_)
  subst hr1
  rw [show jPlayR Z L = nI (pCn (Z 6 0) 59 0 L) from by unfold jPlayR; rw [if_neg (not_not_intro hs), if_neg (not_not_intro hh)]]
  have hk := PW_keep (Z := Z) rfl rfl k4 f4 ef eg
  have hk0 := hk.l
  have hS : jPlS Z L n f k = jPl L n (Z 0 0 0) (pCn (Z 6 0) 59 0 L) (Z 0) (jScn (Z 6) L (Z 0 0 0)).1 0 := by unfold jPlS; rw [hk0]
  rw [show jPlayU Z L n f k = va_up (va_up (jKeep Z f k) 0 (jPlS Z L n f k).1) 6 (jPlS Z L n f k).2 from by unfold jPlayU; rw [if_neg (not_not_intro hs), if_neg (not_not_intro hh)], hS] at hw1
  exact kk H1 locs1 _ hw1 ((hk.up0 _).up6 _)
theorem q_play_no {n B : Nat} (hv : lOk u n B) (h10 : n ≤ 10) (hB2 : B ≤ 2000) {L : Nat} (hL : w 1 0 = nI L) (hL2 : L ≤ 60) (hs : ¬ (jScn w L (u 0 0)).2 = -2000004) (S : CallFix p m c cc nL s args Ts own) (hw : y_W D cI cC cL A s H locs (cWd cI cC cL Q Z ++ W2)) (P : PW Z u w k g) (hl : ls.size = nL) (cw : CallW R s args own RX5 index yX5_play bytes maxL ret wsX5_play (y_R 6 138) 0 0 0) (hm : (rest.map fun v => v.category).sum ≤ 8) (hdg : decode cc pc = .ok (.invokevirtual index, 3)) (hcs : cells ≤ R.cells ∧ slots ≤ R.slots)
    (kk : ∀ (H1 : Heap) (locs1 : List Loc) (Z1 : Nat → U), y_W D cI cC cL A s H1 locs1 (cWd cI cC cL Q Z1 ++ W2) → PW Z1 u (jScn w L (u 0 0)).1 k g → W p l e R s m args below meth c H1 locs1 cells slots QQ (F0 m (pc + 3) ls (.int (-2000002) :: rest))) : W p l e R s m args below meth c H locs cells slots QQ (F0 m pc ls (.ref (Q 8 0) :: rest)) := by
  have P0 := P
  obtain ⟨e0, e6, k4, f, f4, ef, ek, eg⟩ := P
  subst e0
  subst e6
  obtain ⟨hn, hok, h, r, eh, hB, er, hr⟩ := id hv
  refine ly_cl (As := []) (Z' := (jPlayU Z L n f k)) S hw hl (c_X5_play l D cI cC cL Q Z n B hv h10 hB2 f k ef f4 ek k4 L hL hL2) rfl cw rfl hm hdg rfl hcs (fun H1 locs1 r hr1 hw1 => ?_)
  subst hr1
  rw [show jPlayR Z L = -2000002 from by unfold jPlayR; rw [if_pos hs]]
  rw [show jPlayU Z L n f k = va_up Z 6 (jScn (Z 6) L (Z 0 0 0)).1 from by unfold jPlayU; rw [if_pos hs]] at hw1
  exact kk H1 locs1 _ hw1 (P0.up6 _)
theorem q_count {x : Int32} (S : CallFix p m c cc nL s args Ts own) (hw : y_W D cI cC cL A s H locs (cWd cI cC cL Q Z ++ W2)) (P : PW Z u w k g) (hl : ls.size = nL) (cw : CallW R s args own RX5 index yX5_count bytes maxL ret wsX5_count (y_R 2 43) 0 0 1) (hm : (rest.map fun v => v.category).sum ≤ 8) (hdg : decode cc pc = .ok (.invokevirtual index, 3)) (hcs : cells ≤ R.cells ∧ slots ≤ R.slots)
    (kk : ∀ (H1 : Heap) (locs1 : List Loc), y_W D cI cC cL A s H1 locs1 (cWd cI cC cL Q Z ++ W2) → W p l e R s m args below meth c H1 locs1 cells slots QQ (F0 m (pc + 3) ls (.int (jCount (qZ u w k) x) :: rest))) : W p l e R s m args below meth c H locs cells slots QQ (F0 m pc ls (.int x :: .ref (Q 8 0) :: rest)) := by
  have P0 := P
  obtain ⟨e0, e6, k4, f, f4, ef, ek, eg⟩ := P
  subst e0
  subst e6
  refine ly_cl (As := [.int x]) (Z' := Z) S hw hl (c_X5_count l D cI cC cL Q Z x) rfl cw rfl hm hdg rfl hcs (fun H1 locs1 r hr1 hw1 => ?_)
  subst hr1
  rw [show jCount Z x = jCount (qZ (Z 0) (Z 6) k) x from by unfold jCount; rw [ek]; rfl]
  exact kk H1 locs1 hw1
theorem q_account {x : Int32} {n B : Nat} (hv : lOk u n B) (h10 : n ≤ 10) (S : CallFix p m c cc nL s args Ts own) (hw : y_W D cI cC cL A s H locs (cWd cI cC cL Q Z ++ W2)) (P : PW Z u w k g) (hl : ls.size = nL) (cw : CallW R s args own RX5 index yX5_account bytes maxL ret wsX5_account (y_R 1 22) 0 0 1) (hm : (rest.map fun v => v.category).sum ≤ 8) (hdg : decode cc pc = .ok (.invokevirtual index, 3)) (hcs : cells ≤ R.cells ∧ slots ≤ R.slots)
    (kk : ∀ (H1 : Heap) (locs1 : List Loc), y_W D cI cC cL A s H1 locs1 (cWd cI cC cL Q Z ++ W2) → W p l e R s m args below meth c H1 locs1 cells slots QQ (F0 m (pc + 3) ls (.int (jAcc (qZ u w k) x n) :: rest))) : W p l e R s m args below meth c H locs cells slots QQ (F0 m pc ls (.int x :: .ref (Q 8 0) :: rest)) := by
  have P0 := P
  obtain ⟨e0, e6, k4, f, f4, ef, ek, eg⟩ := P
  subst e0
  subst e6
  obtain ⟨hn, hok, h, r, eh, hB, er, hr⟩ := id hv
  refine ly_cl (As := [.int x]) (Z' := Z) S hw hl (c_X5_account l D cI cC cL Q Z x n hn h10) rfl cw rfl hm hdg rfl hcs (fun H1 locs1 r hr1 hw1 => ?_)
  subst hr1
  rw [show jAcc Z x n = jAcc (qZ (Z 0) (Z 6) k) x n from rfl]
  exact kk H1 locs1 hw1
theorem q_stageOf {x : Int32} {y : Int32} {n B : Nat} (hv : lOk u n B) (h10 : n ≤ 10) (S : CallFix p m c cc nL s args Ts own) (hw : y_W D cI cC cL A s H locs (cWd cI cC cL Q Z ++ W2)) (P : PW Z u w k g) (hl : ls.size = nL) (cw : CallW R s args own RX5 index yX5_stageOf bytes maxL ret wsX5_stageOf (y_R 3 63) 0 0 2) (hm : (rest.map fun v => v.category).sum ≤ 8) (hdg : decode cc pc = .ok (.invokevirtual index, 3)) (hcs : cells ≤ R.cells ∧ slots ≤ R.slots)
    (kk : ∀ (H1 : Heap) (locs1 : List Loc), y_W D cI cC cL A s H1 locs1 (cWd cI cC cL Q Z ++ W2) → W p l e R s m args below meth c H1 locs1 cells slots QQ (F0 m (pc + 3) ls (.int (jStO u x y) :: rest))) : W p l e R s m args below meth c H locs cells slots QQ (F0 m pc ls (.int y :: .int x :: .ref (Q 8 0) :: rest)) := by
  have P0 := P
  obtain ⟨e0, e6, k4, f, f4, ef, ek, eg⟩ := P
  subst e0
  subst e6
  obtain ⟨hn, hok, h, r, eh, hB, er, hr⟩ := id hv
  refine ly_cl (As := [.int x, .int y]) (Z' := Z) S hw hl (c_X5_stageOf l D cI cC cL Q Z x y n hn h10) rfl cw rfl hm hdg rfl hcs (fun H1 locs1 r hr1 hw1 => ?_)
  subst hr1
  skip
  exact kk H1 locs1 hw1
theorem q_outputOf {x : Int32} {y : Int32} {n B : Nat} (hv : lOk u n B) (h10 : n ≤ 10) (hB2 : B ≤ 2000) (S : CallFix p m c cc nL s args Ts own) (hw : y_W D cI cC cL A s H locs (cWd cI cC cL Q Z ++ W2)) (P : PW Z u w k g) (hl : ls.size = nL) (cw : CallW R s args own RX5 index yX5_outputOf bytes maxL ret wsX5_outputOf (y_R 2 44) 0 0 2) (hm : (rest.map fun v => v.category).sum ≤ 8) (hdg : decode cc pc = .ok (.invokevirtual index, 3)) (hcs : cells ≤ R.cells ∧ slots ≤ R.slots)
    (kk : ∀ (H1 : Heap) (locs1 : List Loc), y_W D cI cC cL A s H1 locs1 (cWd cI cC cL Q Z ++ W2) → W p l e R s m args below meth c H1 locs1 cells slots QQ (F0 m (pc + 3) ls (.int (jOuR u x y (u 11 0).toNatClampNeg n) :: rest))) : W p l e R s m args below meth c H locs cells slots QQ (F0 m pc ls (.int y :: .int x :: .ref (Q 8 0) :: rest)) := by
  have P0 := P
  obtain ⟨e0, e6, k4, f, f4, ef, ek, eg⟩ := P
  subst e0
  subst e6
  obtain ⟨hn, hok, h, r, eh, hB, er, hr⟩ := id hv
  refine ly_cl (As := [.int x, .int y]) (Z' := Z) S hw hl (c_X5_outputOf l D cI cC cL Q Z x y n h hn h10 eh (by omega)) rfl cw rfl hm hdg rfl hcs (fun H1 locs1 r hr1 hw1 => ?_)
  subst hr1
  rw [show h = (Z 0 11 0).toNatClampNeg from by rw [eh]; exact (nI_clamp (by omega)).symm]
  exact kk H1 locs1 hw1
theorem q_pairOf {x : Int32} {y : Int32} (S : CallFix p m c cc nL s args Ts own) (hw : y_W D cI cC cL A s H locs (cWd cI cC cL Q Z ++ W2)) (P : PW Z u w k g) (hl : ls.size = nL) (cw : CallW R s args own RX5 index yX5_pairOf bytes maxL ret wsX5_pairOf (y_R 1 22) 0 0 2) (hm : (rest.map fun v => v.category).sum ≤ 8) (hdg : decode cc pc = .ok (.invokevirtual index, 3)) (hcs : cells ≤ R.cells ∧ slots ≤ R.slots)
    (kk : ∀ (H1 : Heap) (locs1 : List Loc), y_W D cI cC cL A s H1 locs1 (cWd cI cC cL Q Z ++ W2) → W p l e R s m args below meth c H1 locs1 cells slots QQ (F0 m (pc + 3) ls (.int (jPrO u x y 8 9) :: rest))) : W p l e R s m args below meth c H locs cells slots QQ (F0 m pc ls (.int y :: .int x :: .ref (Q 8 0) :: rest)) := by
  have P0 := P
  obtain ⟨e0, e6, k4, f, f4, ef, ek, eg⟩ := P
  subst e0
  subst e6
  refine ly_cl (As := [.int x, .int y]) (Z' := Z) S hw hl (c_X5_pairOf l D cI cC cL Q Z x y) rfl cw rfl hm hdg rfl hcs (fun H1 locs1 r hr1 hw1 => ?_)
  subst hr1
  skip
  exact kk H1 locs1 hw1
theorem q_mended {x : Int32} (S : CallFix p m c cc nL s args Ts own) (hw : y_W D cI cC cL A s H locs (cWd cI cC cL Q Z ++ W2)) (P : PW Z u w k g) (hl : ls.size = nL) (cw : CallW R s args own RX5 index yX5_mended bytes maxL ret wsX5_mended (y_R 3 72) 0 0 1) (hm : (rest.map fun v => v.category).sum ≤ 8) (hdg : decode cc pc = .ok (.invokevirtual index, 3)) (hcs : cells ≤ R.cells ∧ slots ≤ R.slots)
    (kk : ∀ (H1 : Heap) (locs1 : List Loc), y_W D cI cC cL A s H1 locs1 (cWd cI cC cL Q Z ++ W2) → W p l e R s m args below meth c H1 locs1 cells slots QQ (F0 m (pc + 3) ls (.int (jMdd u x) :: rest))) : W p l e R s m args below meth c H locs cells slots QQ (F0 m pc ls (.int x :: .ref (Q 8 0) :: rest)) := by
  have P0 := P
  obtain ⟨e0, e6, k4, f, f4, ef, ek, eg⟩ := P
  subst e0
  subst e6
  refine ly_cl (As := [.int x]) (Z' := Z) S hw hl (c_X5_mended l D cI cC cL Q Z x) rfl cw rfl hm hdg rfl hcs (fun H1 locs1 r hr1 hw1 => ?_)
  subst hr1
  skip
  exact kk H1 locs1 hw1
theorem q_errors {x : Int32} {n B : Nat} (hv : lOk u n B) (h10 : n ≤ 10) (hB2 : B ≤ 2000) (hfd : ¬ nI (jErN u (u 11 0).toNatClampNeg n (jKp (u 11 0).toNatClampNeg n)) = 0 → fOk (jErF u (u 11 0).toNatClampNeg n (jKp (u 11 0).toNatClampNeg n))) (S : CallFix p m c cc nL s args Ts own) (hw : y_W D cI cC cL A s H locs (cWd cI cC cL Q Z ++ W2)) (P : PW Z u w k g) (hl : ls.size = nL) (cw : CallW R s args own RX5 index yX5_errors bytes maxL ret wsX5_errors (y_R 2 44) 0 0 1) (hm : (rest.map fun v => v.category).sum ≤ 8) (hdg : decode cc pc = .ok (.invokevirtual index, 3)) (hcs : cells ≤ R.cells ∧ slots ≤ R.slots)
    (kk : ∀ (H1 : Heap) (locs1 : List Loc), y_W D cI cC cL A s H1 locs1 (cWd cI cC cL Q Z ++ W2) → W p l e R s m args below meth c H1 locs1 cells slots QQ (F0 m (pc + 3) ls (.int (jErsR u x (u 11 0).toNatClampNeg n) :: rest))) : W p l e R s m args below meth c H locs cells slots QQ (F0 m pc ls (.int x :: .ref (Q 8 0) :: rest)) := by
  have P0 := P
  obtain ⟨e0, e6, k4, f, f4, ef, ek, eg⟩ := P
  subst e0
  subst e6
  obtain ⟨hn, hok, h, r, eh, hB, er, hr⟩ := id hv
  rw [show (Z 0 11 0).toNatClampNeg = h from by rw [eh]; exact nI_clamp (by omega)] at hfd
  refine ly_cl (As := [.int x]) (Z' := Z) S hw hl (c_X5_errors l D cI cC cL Q Z x n h hn h10 eh (by omega) hfd) rfl cw rfl hm hdg rfl hcs (fun H1 locs1 r hr1 hw1 => ?_)
  subst hr1
  rw [show h = (Z 0 11 0).toNatClampNeg from by rw [eh]; exact (nI_clamp (by omega)).symm]
  exact kk H1 locs1 hw1
theorem q_echo {x : Int32} {y : Int32} {n B : Nat} (hv : lOk u n B) (h10 : n ≤ 10) (hx : jOut x 0 10000 = 0) (hy : jOut y 1 40 = 0) (S : CallFix p m c cc nL s args Ts own) (hw : y_W D cI cC cL A s H locs (cWd cI cC cL Q Z ++ W2)) (P : PW Z u w k g) (hl : ls.size = nL) (cw : CallW R s args own RX5 index yX5_echo bytes maxL ret wsX5_echo (y_R 4 95) 0 0 2) (hm : (rest.map fun v => v.category).sum ≤ 8) (hdg : decode cc pc = .ok (.invokevirtual index, 3)) (hcs : cells ≤ R.cells ∧ slots ≤ R.slots)
    (kk : ∀ (H1 : Heap) (locs1 : List Loc) (Z1 : Nat → U), y_W D cI cC cL A s H1 locs1 (cWd cI cC cL Q Z1 ++ W2) → PW Z1 u w k g → W p l e R s m args below meth c H1 locs1 cells slots QQ (F0 m (pc + 3) ls (.int (jLone x (u 10 0) u n y.toNatClampNeg).2 :: rest))) : W p l e R s m args below meth c H locs cells slots QQ (F0 m pc ls (.int y :: .int x :: .ref (Q 8 0) :: rest)) := by
  have P0 := P
  obtain ⟨e0, e6, k4, f, f4, ef, ek, eg⟩ := P
  subst e0
  subst e6
  obtain ⟨hn, hok, h, r, eh, hB, er, hr⟩ := id hv
  refine ly_cl (As := [.int x, .int y]) (Z' := (jEchU Z x y n)) S hw hl (c_X5_echo l D cI cC cL Q Z x y n hn h10) rfl cw rfl hm hdg rfl hcs (fun H1 locs1 r hr1 hw1 => ?_)
  subst hr1
  rw [show jEchR Z x y n = (jLone x (Z 0 10 0) (Z 0) n y.toNatClampNeg).2 from by unfold jEchR; rw [if_neg (not_not_intro hx), if_neg (not_not_intro hy)]; exact A7_Lone (A7_mix _ _)]
  rw [show jEchU Z x y n = va_up Z 5 (jEc (Z 0) (Z 5) x n y.toNatClampNeg).1 from by unfold jEchU; rw [if_neg (not_not_intro hx), if_neg (not_not_intro hy)]] at hw1
  exact kk H1 locs1 _ hw1 (P0.up5 _)
theorem q_emptyAfter {n B : Nat} (hv : lOk u n B) (h10 : n ≤ 10) (S : CallFix p m c cc nL s args Ts own) (hw : y_W D cI cC cL A s H locs (cWd cI cC cL Q Z ++ W2)) (P : PW Z u w k g) (hl : ls.size = nL) (cw : CallW R s args own RX5 index yX5_emptyAfter bytes maxL ret wsX5_emptyAfter (y_R 3 70) 0 0 0) (hm : (rest.map fun v => v.category).sum ≤ 8) (hdg : decode cc pc = .ok (.invokevirtual index, 3)) (hcs : cells ≤ R.cells ∧ slots ≤ R.slots)
    (kk : ∀ (H1 : Heap) (locs1 : List Loc) (Z1 : Nat → U), y_W D cI cC cL A s H1 locs1 (cWd cI cC cL Q Z1 ++ W2) → PW Z1 u w k g → W p l e R s m args below meth c H1 locs1 cells slots QQ (F0 m (pc + 3) ls (.int (jEA (u 10 0) n 401 0 u).2 :: rest))) : W p l e R s m args below meth c H locs cells slots QQ (F0 m pc ls (.ref (Q 8 0) :: rest)) := by
  have P0 := P
  obtain ⟨e0, e6, k4, f, f4, ef, ek, eg⟩ := P
  subst e0
  subst e6
  obtain ⟨hn, hok, h, r, eh, hB, er, hr⟩ := id hv
  refine ly_cl (As := []) (Z' := (va_up Z 5 (jEA (Z 0 10 0) n 401 0 (stMix (Z 0) (Z 5))).1)) S hw hl (c_X5_emptyAfter l D cI cC cL Q Z n hn h10) rfl cw rfl hm hdg rfl hcs (fun H1 locs1 r hr1 hw1 => ?_)
  subst hr1
  rw [jEA_q 401 0 _ (Z 0) (A7_mix _ _)]
  exact kk H1 locs1 _ hw1 (P0.up5 _)
theorem q_worn {x : Int32} {n B : Nat} (hv : lOk u n B) (h10 : n ≤ 10) (h1n : 1 ≤ n) (hx : jOut x 0 1 = 0) (S : CallFix p m c cc nL s args Ts own) (hw : y_W D cI cC cL A s H locs (cWd cI cC cL Q Z ++ W2)) (P : PW Z u w k g) (hl : ls.size = nL) (cw : CallW R s args own RX5 index yX5_worn bytes maxL ret wsX5_worn (y_R 5 116) 0 0 1) (hm : (rest.map fun v => v.category).sum ≤ 8) (hdg : decode cc pc = .ok (.invokevirtual index, 3)) (hcs : cells ≤ R.cells ∧ slots ≤ R.slots)
    (kk : ∀ (H1 : Heap) (locs1 : List Loc) (Z1 : Nat → U), y_W D cI cC cL A s H1 locs1 (cWd cI cC cL Q Z1 ++ W2) → PW Z1 u w k g → W p l e R s m args below meth c H1 locs1 cells slots QQ (F0 m (pc + 3) ls (.int (if ¬ x = 0 then (qWn u n (n - 1)).2 else (qWn u n (n - 1)).1) :: rest))) : W p l e R s m args below meth c H locs cells slots QQ (F0 m pc ls (.int x :: .ref (Q 8 0) :: rest)) := by
  have P0 := P
  obtain ⟨e0, e6, k4, f, f4, ef, ek, eg⟩ := P
  subst e0
  subst e6
  obtain ⟨hn, hok, h, r, eh, hB, er, hr⟩ := id hv
  refine ly_cl (As := [.int x]) (Z' := (jWoU Z x n)) S hw hl (c_X5_worn l D cI cC cL Q Z x n hn h10 h1n) rfl cw rfl hm hdg rfl hcs (fun H1 locs1 r hr1 hw1 => ?_)
  subst hr1
  rw [show jWoR Z x n = _ from by unfold jWoR; rw [if_neg (not_not_intro hx), jWn_q]]
  rw [show jWoU Z x n = va_up Z 5 (jWn (Z 0) (Z 5) n (n - 1)).1 from by unfold jWoU; rw [if_neg (not_not_intro hx)]] at hw1
  exact kk H1 locs1 _ hw1 (P0.up5 _)
theorem q_safe {n B : Nat} (hv : lOk u n B) (h10 : n ≤ 10) (S : CallFix p m c cc nL s args Ts own) (hw : y_W D cI cC cL A s H locs (cWd cI cC cL Q Z ++ W2)) (P : PW Z u w k g) (hl : ls.size = nL) (cw : CallW R s args own RX5 index yX5_safe bytes maxL ret wsX5_safe (y_R 4 94) 0 0 0) (hm : (rest.map fun v => v.category).sum ≤ 8) (hdg : decode cc pc = .ok (.invokevirtual index, 3)) (hcs : cells ≤ R.cells ∧ slots ≤ R.slots)
    (kk : ∀ (H1 : Heap) (locs1 : List Loc) (Z1 : Nat → U), y_W D cI cC cL A s H1 locs1 (cWd cI cC cL Q Z1 ++ W2) → PW Z1 u w k g → W p l e R s m args below meth c H1 locs1 cells slots QQ (F0 m (pc + 3) ls (.int (nI (qSf (u 10 0) n u 8193 8192 0)) :: rest))) : W p l e R s m args below meth c H locs cells slots QQ (F0 m pc ls (.ref (Q 8 0) :: rest)) := by
  have P0 := P
  obtain ⟨e0, e6, k4, f, f4, ef, ek, eg⟩ := P
  subst e0
  subst e6
  obtain ⟨hn, hok, h, r, eh, hB, er, hr⟩ := id hv
  refine ly_cl (As := []) (Z' := (va_up Z 5 (jSf (Z 0 10 0) n 8193 8192 0 (stMix (Z 0) (Z 5))).1)) S hw hl (c_X5_safe l D cI cC cL Q Z n hn h10) rfl cw rfl hm hdg rfl hcs (fun H1 locs1 r hr1 hw1 => ?_)
  subst hr1
  rw [jSf_q (u := Z 0) 8193 8192 0 _ (A7_mix _ _ 2 (by decide) (by decide)) (A7_mix _ _ 3 (by decide) (by decide))]
  exact kk H1 locs1 _ hw1 (P0.up5 _)
theorem q_begin_inv {x : Int32} (hx : ¬ jOut x 2 10 = 0) (S : CallFix p m c cc nL s args Ts own) (hw : y_W D cI cC cL A s H locs (cWd cI cC cL Q Z ++ W2)) (P : PW Z u w k g) (hl : ls.size = nL) (cw : CallW R s args own RX5 index yX5_begin bytes maxL ret wsX5_begin (y_R 4 81) 0 0 1) (hm : (rest.map fun v => v.category).sum ≤ 8) (hdg : decode cc pc = .ok (.invokevirtual index, 3)) (hcs : cells ≤ R.cells ∧ slots ≤ R.slots)
    (kk : ∀ (H1 : Heap) (locs1 : List Loc), y_W D cI cC cL A s H1 locs1 (cWd cI cC cL Q Z ++ W2) → W p l e R s m args below meth c H1 locs1 cells slots QQ (F0 m (pc + 3) ls (.int (-2000001) :: rest))) : W p l e R s m args below meth c H locs cells slots QQ (F0 m pc ls (.int x :: .ref (Q 8 0) :: rest)) := by
  have P0 := P
  obtain ⟨e0, e6, k4, f, f4, ef, ek, eg⟩ := P
  subst e0
  subst e6
  refine ly_cl (As := [.int x]) (Z' := (jBegU Z x f k)) S hw hl (c_X5_begin l D cI cC cL Q Z x f k ef f4 ek k4) rfl cw rfl hm hdg rfl hcs (fun H1 locs1 r hr1 hw1 => ?_)
  subst hr1
  rw [show jBegR Z x = -2000001 from if_pos hx]
  rw [show jBegU Z x f k = Z from if_pos hx] at hw1
  exact kk H1 locs1 hw1
theorem q_stage_inv {x : Int32} {y : Int32} {z : Int32} {n B : Nat} (hv : lOk u n B) (h10 : n ≤ 10) (hx : jHas x (u 0 0) = 0 ∨ ¬ jOut y 0 300 = 0 ∨ ¬ jOut z 0 300 = 0) (S : CallFix p m c cc nL s args Ts own) (hw : y_W D cI cC cL A s H locs (cWd cI cC cL Q Z ++ W2)) (P : PW Z u w k g) (hl : ls.size = nL) (cw : CallW R s args own RX5 index yX5_stage bytes maxL ret wsX5_stage (y_R 4 81) 0 0 3) (hm : (rest.map fun v => v.category).sum ≤ 8) (hdg : decode cc pc = .ok (.invokevirtual index, 3)) (hcs : cells ≤ R.cells ∧ slots ≤ R.slots)
    (kk : ∀ (H1 : Heap) (locs1 : List Loc), y_W D cI cC cL A s H1 locs1 (cWd cI cC cL Q Z ++ W2) → W p l e R s m args below meth c H1 locs1 cells slots QQ (F0 m (pc + 3) ls (.int (-2000001) :: rest))) : W p l e R s m args below meth c H locs cells slots QQ (F0 m pc ls (.int z :: .int y :: .int x :: .ref (Q 8 0) :: rest)) := by
  have P0 := P
  obtain ⟨e0, e6, k4, f, f4, ef, ek, eg⟩ := P
  subst e0
  subst e6
  obtain ⟨hn, hok, h, r, eh, hB, er, hr⟩ := id hv
  refine ly_cl (As := [.int x, .int y, .int z]) (Z' := (jStgU Z x y z f k)) S hw hl (c_X5_stage l D cI cC cL Q Z x y z n hn h10 f k ef f4 ek k4) rfl cw rfl hm hdg rfl hcs (fun H1 locs1 r hr1 hw1 => ?_)
  subst hr1
  rw [jStgR_inv hx]
  rw [jStgU_inv hx] at hw1
  exact kk H1 locs1 hw1
theorem q_set_inv {x : Int32} {y : Int32} (hx : ¬ jOut x 0 4 = 0 ∨ ¬ jOut y (sLst x.toNatClampNeg) (sMst x.toNatClampNeg) = 0) (S : CallFix p m c cc nL s args Ts own) (hw : y_W D cI cC cL A s H locs (cWd cI cC cL Q Z ++ W2)) (P : PW Z u w k g) (hl : ls.size = nL) (hX : y_X A s) (cw : CallW R s args own RX5 index yX5_set bytes maxL ret wsX5_set (y_R 4 81) 0 0 2) (hm : (rest.map fun v => v.category).sum ≤ 8) (hdg : decode cc pc = .ok (.invokevirtual index, 3)) (hcs : cells ≤ R.cells ∧ slots ≤ R.slots)
    (kk : ∀ (H1 : Heap) (locs1 : List Loc), y_W D cI cC cL A s H1 locs1 (cWd cI cC cL Q Z ++ W2) → W p l e R s m args below meth c H1 locs1 cells slots QQ (F0 m (pc + 3) ls (.int (-2000001) :: rest))) : W p l e R s m args below meth c H locs cells slots QQ (F0 m pc ls (.int y :: .int x :: .ref (Q 8 0) :: rest)) := by
  have P0 := P
  obtain ⟨e0, e6, k4, f, f4, ef, ek, eg⟩ := P
  subst e0
  subst e6
  refine ly_clX (As := [.int x, .int y]) (Z' := (jSetU Z x y f k)) S hw hX hl (c_X5_set l D cI cC cL Q Z x y f k ef f4 ek k4) rfl cw rfl hm hdg rfl hcs (fun H1 locs1 r hr1 hw1 => ?_)
  subst hr1
  rw [jSetR_inv hx]
  rw [jSetU_inv hx] at hw1
  exact kk H1 locs1 hw1
theorem q_idle_inv {x : Int32} {n B : Nat} (hv : lOk u n B) (h10 : n ≤ 10) (hB2 : B ≤ 2000) (hx : ¬ jOut x 1 40 = 0) (S : CallFix p m c cc nL s args Ts own) (hw : y_W D cI cC cL A s H locs (cWd cI cC cL Q Z ++ W2)) (P : PW Z u w k g) (hl : ls.size = nL) (cw : CallW R s args own RX5 index yX5_idle bytes maxL ret wsX5_idle (y_R 6 142) 0 0 1) (hm : (rest.map fun v => v.category).sum ≤ 8) (hdg : decode cc pc = .ok (.invokevirtual index, 3)) (hcs : cells ≤ R.cells ∧ slots ≤ R.slots)
    (kk : ∀ (H1 : Heap) (locs1 : List Loc), y_W D cI cC cL A s H1 locs1 (cWd cI cC cL Q Z ++ W2) → W p l e R s m args below meth c H1 locs1 cells slots QQ (F0 m (pc + 3) ls (.int (-2000001) :: rest))) : W p l e R s m args below meth c H locs cells slots QQ (F0 m pc ls (.int x :: .ref (Q 8 0) :: rest)) := by
  have P0 := P
  obtain ⟨e0, e6, k4, f, f4, ef, ek, eg⟩ := P
  subst e0
  subst e6
  obtain ⟨hn, hok, h, r, eh, hB, er, hr⟩ := id hv
  refine ly_cl (As := [.int x]) (Z' := (jIdlU Z x n f k)) S hw hl (c_X5_idle l D cI cC cL Q Z x n B hv h10 hB2 f k ef f4 ek k4) rfl cw rfl hm hdg rfl hcs (fun H1 locs1 r hr1 hw1 => ?_)
  subst hr1
  rw [show jIdlR Z x n = -2000001 from if_pos hx]
  rw [show jIdlU Z x n f k = Z from if_pos hx] at hw1
  exact kk H1 locs1 hw1
theorem q_echo_inv {x : Int32} {y : Int32} {n B : Nat} (hv : lOk u n B) (h10 : n ≤ 10) (hx : ¬ jOut x 0 10000 = 0 ∨ ¬ jOut y 1 40 = 0) (S : CallFix p m c cc nL s args Ts own) (hw : y_W D cI cC cL A s H locs (cWd cI cC cL Q Z ++ W2)) (P : PW Z u w k g) (hl : ls.size = nL) (cw : CallW R s args own RX5 index yX5_echo bytes maxL ret wsX5_echo (y_R 4 95) 0 0 2) (hm : (rest.map fun v => v.category).sum ≤ 8) (hdg : decode cc pc = .ok (.invokevirtual index, 3)) (hcs : cells ≤ R.cells ∧ slots ≤ R.slots)
    (kk : ∀ (H1 : Heap) (locs1 : List Loc), y_W D cI cC cL A s H1 locs1 (cWd cI cC cL Q Z ++ W2) → W p l e R s m args below meth c H1 locs1 cells slots QQ (F0 m (pc + 3) ls (.int (-2000001) :: rest))) : W p l e R s m args below meth c H locs cells slots QQ (F0 m pc ls (.int y :: .int x :: .ref (Q 8 0) :: rest)) := by
  have P0 := P
  obtain ⟨e0, e6, k4, f, f4, ef, ek, eg⟩ := P
  subst e0
  subst e6
  obtain ⟨hn, hok, h, r, eh, hB, er, hr⟩ := id hv
  refine ly_cl (As := [.int x, .int y]) (Z' := (jEchU Z x y n)) S hw hl (c_X5_echo l D cI cC cL Q Z x y n hn h10) rfl cw rfl hm hdg rfl hcs (fun H1 locs1 r hr1 hw1 => ?_)
  subst hr1
  rw [jEchR_inv hx]
  rw [jEchU_inv hx] at hw1
  exact kk H1 locs1 hw1
theorem q_worn_inv {x : Int32} {n B : Nat} (hv : lOk u n B) (h10 : n ≤ 10) (h1n : 1 ≤ n) (hx : ¬ jOut x 0 1 = 0) (S : CallFix p m c cc nL s args Ts own) (hw : y_W D cI cC cL A s H locs (cWd cI cC cL Q Z ++ W2)) (P : PW Z u w k g) (hl : ls.size = nL) (cw : CallW R s args own RX5 index yX5_worn bytes maxL ret wsX5_worn (y_R 5 116) 0 0 1) (hm : (rest.map fun v => v.category).sum ≤ 8) (hdg : decode cc pc = .ok (.invokevirtual index, 3)) (hcs : cells ≤ R.cells ∧ slots ≤ R.slots)
    (kk : ∀ (H1 : Heap) (locs1 : List Loc), y_W D cI cC cL A s H1 locs1 (cWd cI cC cL Q Z ++ W2) → W p l e R s m args below meth c H1 locs1 cells slots QQ (F0 m (pc + 3) ls (.int (-2000001) :: rest))) : W p l e R s m args below meth c H locs cells slots QQ (F0 m pc ls (.int x :: .ref (Q 8 0) :: rest)) := by
  have P0 := P
  obtain ⟨e0, e6, k4, f, f4, ef, ek, eg⟩ := P
  subst e0
  subst e6
  obtain ⟨hn, hok, h, r, eh, hB, er, hr⟩ := id hv
  refine ly_cl (As := [.int x]) (Z' := (jWoU Z x n)) S hw hl (c_X5_worn l D cI cC cL Q Z x n hn h10 h1n) rfl cw rfl hm hdg rfl hcs (fun H1 locs1 r hr1 hw1 => ?_)
  subst hr1
  rw [show jWoR Z x n = -2000001 from if_pos hx]
  rw [show jWoU Z x n = Z from if_pos hx] at hw1
  exact kk H1 locs1 hw1
theorem q_fault_inv {x : Int32} {L : Nat} (hL : w 1 0 = nI L) (hL2 : L ≤ 60) (hx : ¬ jOut x 0 2 = 0) (S : CallFix p m c cc nL s args Ts own) (hw : y_W D cI cC cL A s H locs (cWd cI cC cL Q Z ++ W2)) (P : PW Z u w k g) (hl : ls.size = nL) (cw : CallW R s args own RX5 index yX5_fault bytes maxL ret wsX5_fault (y_R 5 108) 0 0 1) (hm : (rest.map fun v => v.category).sum ≤ 8) (hdg : decode cc pc = .ok (.invokevirtual index, 3)) (hcs : cells ≤ R.cells ∧ slots ≤ R.slots)
    (kk : ∀ (H1 : Heap) (locs1 : List Loc), y_W D cI cC cL A s H1 locs1 (cWd cI cC cL Q Z ++ W2) → W p l e R s m args below meth c H1 locs1 cells slots QQ (F0 m (pc + 3) ls (.int (-2000001) :: rest))) : W p l e R s m args below meth c H locs cells slots QQ (F0 m pc ls (.int x :: .ref (Q 8 0) :: rest)) := by
  have P0 := P
  obtain ⟨e0, e6, k4, f, f4, ef, ek, eg⟩ := P
  subst e0
  subst e6
  refine ly_cl (As := [.int x]) (Z' := (jFltU Z x L)) S hw hl (c_X5_fault l D cI cC cL Q Z x L hL hL2) rfl cw rfl hm hdg rfl hcs (fun H1 locs1 r hr1 hw1 => ?_)
  subst hr1
  rw [show jFltR Z x L = -2000001 from if_pos hx]
  rw [show jFltU Z x L = Z from if_pos hx] at hw1
  exact kk H1 locs1 hw1
theorem q_errors_inv {x : Int32} (hx : ¬ jOut x 0 3 = 0) (S : CallFix p m c cc nL s args Ts own) (hw : y_W D cI cC cL A s H locs (cWd cI cC cL Q Z ++ W2)) (P : PW Z u w k g) (hl : ls.size = nL) (cw : CallW R s args own RX5 index yX5_errors bytes maxL ret wsX5_errors (y_R 1 22) 0 0 1) (hm : (rest.map fun v => v.category).sum ≤ 8) (hdg : decode cc pc = .ok (.invokevirtual index, 3)) (hcs : cells ≤ R.cells ∧ slots ≤ R.slots)
    (kk : ∀ (H1 : Heap) (locs1 : List Loc), y_W D cI cC cL A s H1 locs1 (cWd cI cC cL Q Z ++ W2) → W p l e R s m args below meth c H1 locs1 cells slots QQ (F0 m (pc + 3) ls (.int (-2000001) :: rest))) : W p l e R s m args below meth c H locs cells slots QQ (F0 m pc ls (.int x :: .ref (Q 8 0) :: rest)) := by
  have P0 := P
  obtain ⟨e0, e6, k4, f, f4, ef, ek, eg⟩ := P
  subst e0
  subst e6
  refine ly_cl (As := [.int x]) (Z' := Z) S hw hl (c_X5_errors_bad l D cI cC cL Q Z x hx) rfl cw rfl hm hdg rfl hcs (fun H1 locs1 r hr1 hw1 => ?_)
  subst hr1
  skip
  exact kk H1 locs1 hw1
end YQW
