set_option maxHeartbeats 4000000 in
set_option maxRecDepth 100000 in
/-- ChargeLines.errors, out of range -/
theorem c_X5_errors_bad (l : Launch) (D : va_G) (cI cC cL : ClassId) (Q : Nat → Nat → Nat) (Z : Nat → U) (x : Int32) (hbad : ¬ jOut x 0 3 = 0) : y_MI l yX5_errors wsX5_errors 1 22 D cI cC cL [.ref (Q 8 0), .int x] (cWd cI cC cL Q Z) (-2000001 : Int32) (fun _ : Unit => cWd cI cC cL Q Z) () := by
  refine y_startI (cc := cX5_errors) (maxL := 10) (ret := some .int) (by decide +kernel) rfl (Nat.le_of_ble_eq_true rfl) ⟨_, rfl, fun x _ => rfl⟩ (fun h => by cases h) ?_
  intro p e s mm args below meth c A QQ ls S hw ret hl
  have S : CallFix p mm c cX5_errors 10 s args wsX5_errors RX5 := S
  have hw : y_W D cI cC cL A s s.heap [] (List.flatten [cCl Q, cHi cL Q (Z 7), cLn cI (Q 1) (Z 1), cLn cI (Q 2) (Z 2), cLn cI (Q 3) (Z 3), cLn cI (Q 4) (Z 4), cLo cI (Q 0) (Z 0), cSt cI (Q 0) (Z 0), cPr cI (Q 0) (Z 0), cTx cI cC (Q 6) (Z 6), cSt cI (Q 5) (Z 5)]) := hw
  have hl : lv_has ls 10 [(0, .ref (Q 8 0)), (1, .int x)] := hl
  refine lv_iload_n S.1 S.2.1 dX5_errors_0 rfl (lv_at hl 1 rfl) ?_
  refine lv_iconst (v := 0) S.1 S.2.1 dX5_errors_1 (by decide) ?_
  refine lv_iconst (v := 3) S.1 S.2.1 dX5_errors_2 (by decide) ?_
  refine y_segSI (sc := []) (sr := [cCl Q, cHi cL Q (Z 7), cLn cI (Q 1) (Z 1), cLn cI (Q 2) (Z 2), cLn cI (Q 3) (Z 3), cLn cI (Q 4) (Z 4), cLo cI (Q 0) (Z 0), cSt cI (Q 0) (Z 0), cPr cI (Q 0) (Z 0), cTx cI cC (Q 6) (Z 6), cSt cI (Q 5) (Z 5)]) (As := [.int x, .int 0, .int 3]) (rest := []) S hw hl.1 (c_X5_outside l D cI cC cL x 0 3) (va_cwS 3 S.2.2.2.2 gX5_errors_X5_outside rfl rfl rfl (by decide +kernel) ⟨Nat.le_of_ble_eq_true rfl, Nat.le_of_ble_eq_true rfl⟩) (F' := (fun _ : Unit => [])) (by first | rfl | simp only [List.flatten_cons, List.flatten_nil, List.append_nil, List.append_assoc]) (fun v => by first | rfl | simp only [List.flatten_cons, List.flatten_nil, List.append_nil, List.append_assoc]) rfl (Nat.le_of_ble_eq_true rfl) dX5_errors_3 rfl ⟨Nat.le_refl _, Nat.le_refl _⟩ (fun H locs v_1 x_2 ev_1 ex_2 hw => ?_)
  have hw : y_W D cI cC cL A s H locs (List.flatten [cCl Q, cHi cL Q (Z 7), cLn cI (Q 1) (Z 1), cLn cI (Q 2) (Z 2), cLn cI (Q 3) (Z 3), cLn cI (Q 4) (Z 4), cLo cI (Q 0) (Z 0), cSt cI (Q 0) (Z 0), cPr cI (Q 0) (Z 0), cTx cI cC (Q 6) (Z 6), cSt cI (Q 5) (Z 5)]) := hw
  subst ex_2
  refine lv_if_eq (tgt := 12) S.1 S.2.1 dX5_errors_6 (by decide) (fun c_3 => ?_) (fun c_3 => ?_)
  · skip
    exact absurd c_3 hbad
  · skip
    refine lv_ldc (v := (-2000001)) S.1 S.2.1 S.2.2.2.1 (S.2.2.2.2 _ k_X5_errors_41) dX5_errors_9 ?_
    exact ret _ _ _ _ _ (by exact hw) (by rfl) dX5_errors_11
