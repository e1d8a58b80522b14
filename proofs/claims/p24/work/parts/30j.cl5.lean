theorem i_X5_type_X5 : ∀ w ∈ u_ws RX5 TX5 4, w ∈ wsX5_type := by decide +kernel
theorem f_X5_type_26 : Cond.fieldLink RX5 26 "ChargeLines" "text" "LChargeLines$Text;" ∈ wsX5_type := by decide +kernel
theorem i_X5_type_X4 : ∀ w ∈ u_ws RX4 TX4 9, w ∈ wsX5_type := by decide +kernel
theorem f_X5_type_206 : Cond.fieldLink RX5 206 "ChargeLines$Text" "length" "I" ∈ wsX5_type := by decide +kernel
theorem k_X5_type_89 : Cond.constant RX5 89 (-2000003) ∈ wsX5_type := by decide +kernel
theorem k_X5_type_41 : Cond.constant RX5 41 (-2000001) ∈ wsX5_type := by decide +kernel
set_option maxHeartbeats 4000000 in
set_option maxRecDepth 100000 in
/-- ChargeLines.type -/
theorem c_X5_type (l : Launch) (D : va_G) (cI cC cL : ClassId) (Q : Nat → Nat → Nat) (Z : Nat → U) (x : Int32) (L : Nat) (hL : Z 6 1 0 = nI L) (hL2 : L ≤ 60) : y_MI l yX5_type wsX5_type 1 22 D cI cC cL [.ref (Q 8 0), .int x] (cWd cI cC cL Q Z) (jTypR x L) (fun z : Nat → U => cWd cI cC cL Q z) (jTypU Z x L) := by
  refine y_startI (cc := cX5_type) (maxL := 2) (ret := some .int) (by decide +kernel) rfl (Nat.le_of_ble_eq_true rfl) ⟨_, rfl, fun x _ => rfl⟩ (fun h => by cases h) ?_
  intro p e s mm args below meth c A QQ ls S hw ret hl
  have S : CallFix p mm c cX5_type 2 s args wsX5_type RX5 := S
  have hw : y_W D cI cC cL A s s.heap [] (List.flatten [cCl Q, cHi cL Q (Z 7), cLn cI (Q 1) (Z 1), cLn cI (Q 2) (Z 2), cLn cI (Q 3) (Z 3), cLn cI (Q 4) (Z 4), cLo cI (Q 0) (Z 0), cSt cI (Q 0) (Z 0), cPr cI (Q 0) (Z 0), cTx cI cC (Q 6) (Z 6), cSt cI (Q 5) (Z 5)]) := hw
  have hl : lv_has ls 2 [(0, .ref (Q 8 0)), (1, .int x)] := hl
  refine lv_iload_n S.1 S.2.1 dX5_type_0 rfl (lv_at hl 1 rfl) ?_
  refine lv_bipush (v := 32) S.1 S.2.1 dX5_type_1 (by decide) ?_
  refine lv_bipush (v := 126) S.1 S.2.1 dX5_type_3 (by decide) ?_
  refine y_segSI (sc := []) (sr := [cCl Q, cHi cL Q (Z 7), cLn cI (Q 1) (Z 1), cLn cI (Q 2) (Z 2), cLn cI (Q 3) (Z 3), cLn cI (Q 4) (Z 4), cLo cI (Q 0) (Z 0), cSt cI (Q 0) (Z 0), cPr cI (Q 0) (Z 0), cTx cI cC (Q 6) (Z 6), cSt cI (Q 5) (Z 5)]) (As := [.int x, .int 32, .int 126]) (rest := []) S hw hl.1 (c_X5_outside l D cI cC cL x 32 126) (va_cwS 3 S.2.2.2.2 gX5_type_X5_outside rfl rfl rfl (by decide +kernel) ⟨Nat.le_of_ble_eq_true rfl, Nat.le_of_ble_eq_true rfl⟩) (F' := (fun _ : Unit => [])) (by first | rfl | simp only [List.flatten_cons, List.flatten_nil, List.append_nil, List.append_assoc]) (fun v => by first | rfl | simp only [List.flatten_cons, List.flatten_nil, List.append_nil, List.append_assoc]) rfl (Nat.le_of_ble_eq_true rfl) dX5_type_5 rfl ⟨Nat.le_refl _, Nat.le_refl _⟩ (fun H locs v_1 x_2 ev_1 ex_2 hw => ?_)
  have hw : y_W D cI cC cL A s H locs (List.flatten [cCl Q, cHi cL Q (Z 7), cLn cI (Q 1) (Z 1), cLn cI (Q 2) (Z 2), cLn cI (Q 3) (Z 3), cLn cI (Q 4) (Z 4), cLo cI (Q 0) (Z 0), cSt cI (Q 0) (Z 0), cPr cI (Q 0) (Z 0), cTx cI cC (Q 6) (Z 6), cSt cI (Q 5) (Z 5)]) := hw
  subst ex_2
  refine lv_if_eq (tgt := 14) S.1 S.2.1 dX5_type_8 (by decide) (fun c_3 => ?_) (fun c_3 => ?_)
  · skip
    obtain ⟨a, ea, ha1, ha2⟩ := jOut_nat (a := 32) (b := 126) rfl rfl (by omega) (by omega) c_3
    refine lv_aload_n S.1 S.2.1 dX5_type_14 rfl (lv_at hl 0 rfl) ?_
    refine y_get S hw (C := RX5) (T := TX5) (N := 4) i_X5_type_X5 0 rfl rfl 2 (by decide) f_X5_type_26 rfl dX5_type_15 ?_
    refine y_get S hw (C := RX4) (T := TX4) (N := 9) i_X5_type_X4 68 rfl rfl 1 (by decide) f_X5_type_206 rfl dX5_type_18 ?_
    refine y_top (y := (nI L)) (hL) ?_
    refine lv_bipush (v := 60) S.1 S.2.1 dX5_type_21 (by decide) ?_
    refine lv_icmp_lt (tgt := 29) S.1 S.2.1 dX5_type_23 (by decide) (fun c_4 => ?_) (fun c_4 => ?_)
    · skip
      have c_4N : L < 60 := (nI_ltI (a := L) (b := 60) (by omega) (by omega)).mp c_4
      refine lv_aload_n S.1 S.2.1 dX5_type_29 rfl (lv_at hl 0 rfl) ?_
      refine y_get S hw (C := RX5) (T := TX5) (N := 4) i_X5_type_X5 0 rfl rfl 2 (by decide) f_X5_type_26 rfl dX5_type_30 ?_
      refine lv_iload_n S.1 S.2.1 dX5_type_33 rfl (lv_at hl 1 rfl) ?_
      refine y_top (y := (nI a)) (ea) ?_
      refine lv_i2c (v := x) S.1 S.2.1 dX5_type_34 (by rw [ea]; exact nI_i2c (by omega)) ?_
      have hw : y_W D cI cC cL A s _ _ (List.flatten [cTx cI cC (Q 6) (Z 6), cCl Q, cHi cL Q (Z 7), cLn cI (Q 1) (Z 1), cLn cI (Q 2) (Z 2), cLn cI (Q 3) (Z 3), cLn cI (Q 4) (Z 4), cLo cI (Q 0) (Z 0), cSt cI (Q 0) (Z 0), cPr cI (Q 0) (Z 0), cSt cI (Q 5) (Z 5)]) := hw.front 9 rfl rfl
      refine y_segV (sc := [cTx cI cC (Q 6) (Z 6)]) (sr := [cCl Q, cHi cL Q (Z 7), cLn cI (Q 1) (Z 1), cLn cI (Q 2) (Z 2), cLn cI (Q 3) (Z 3), cLn cI (Q 4) (Z 4), cLo cI (Q 0) (Z 0), cSt cI (Q 0) (Z 0), cPr cI (Q 0) (Z 0), cSt cI (Q 5) (Z 5)]) (As := [.int x]) (rest := []) S hw hl.1 (c_X4_append l D cI cC cL (Q 6) (Z 6) L hL (by omega) x (by omega) (by rw [ea]; exact nI_nar (by omega))) (cwV 1 S.2.2.2.2 gX5_type_X4_append rfl rfl rfl (by decide +kernel) ⟨Nat.le_of_ble_eq_true rfl, Nat.le_of_ble_eq_true rfl⟩) (F' := (fun v_5 : U => [cTx cI cC (Q 6) v_5])) (by first | rfl | simp only [List.flatten_cons, List.flatten_nil, List.append_nil, List.append_assoc]) (fun v => by first | rfl | simp only [List.flatten_cons, List.flatten_nil, List.append_nil, List.append_assoc]) 0 rfl rfl rfl (Nat.le_of_ble_eq_true rfl) dX5_type_35 rfl ⟨Nat.le_refl _, Nat.le_refl _⟩ (fun H locs v_5 ev_5 hw => ?_)
      have hw : y_W D cI cC cL A s H locs (List.flatten [cTx cI cC (Q 6) v_5, cCl Q, cHi cL Q (Z 7), cLn cI (Q 1) (Z 1), cLn cI (Q 2) (Z 2), cLn cI (Q 3) (Z 3), cLn cI (Q 4) (Z 4), cLo cI (Q 0) (Z 0), cSt cI (Q 0) (Z 0), cPr cI (Q 0) (Z 0), cSt cI (Q 5) (Z 5)]) := hw
      refine lv_aload_n S.1 S.2.1 dX5_type_38 rfl (lv_at hl 0 rfl) ?_
      refine y_get S hw (C := RX5) (T := TX5) (N := 4) i_X5_type_X5 3 rfl rfl 2 (by decide) f_X5_type_26 rfl dX5_type_39 ?_
      refine y_get S hw (C := RX4) (T := TX4) (N := 9) i_X5_type_X4 0 rfl rfl 1 (by decide) f_X5_type_206 rfl dX5_type_42 ?_
      exact ret _ _ _ _ _ (by have hw : y_W D cI cC cL A s _ _ (List.flatten [cSt cI (Q 5) (Z 5), cTx cI cC (Q 6) v_5, cCl Q, cHi cL Q (Z 7), cLn cI (Q 1) (Z 1), cLn cI (Q 2) (Z 2), cLn cI (Q 3) (Z 3), cLn cI (Q 4) (Z 4), cLo cI (Q 0) (Z 0), cSt cI (Q 0) (Z 0), cPr cI (Q 0) (Z 0)]) := hw.front 10 rfl rfl; have hw : y_W D cI cC cL A s _ _ (List.flatten [cTx cI cC (Q 6) v_5, cSt cI (Q 5) (Z 5), cCl Q, cHi cL Q (Z 7), cLn cI (Q 1) (Z 1), cLn cI (Q 2) (Z 2), cLn cI (Q 3) (Z 3), cLn cI (Q 4) (Z 4), cLo cI (Q 0) (Z 0), cSt cI (Q 0) (Z 0), cPr cI (Q 0) (Z 0)]) := hw.front 1 rfl rfl; have hw : y_W D cI cC cL A s _ _ (List.flatten [cPr cI (Q 0) (Z 0), cTx cI cC (Q 6) v_5, cSt cI (Q 5) (Z 5), cCl Q, cHi cL Q (Z 7), cLn cI (Q 1) (Z 1), cLn cI (Q 2) (Z 2), cLn cI (Q 3) (Z 3), cLn cI (Q 4) (Z 4), cLo cI (Q 0) (Z 0), cSt cI (Q 0) (Z 0)]) := hw.front 10 rfl rfl; have hw : y_W D cI cC cL A s _ _ (List.flatten [cSt cI (Q 0) (Z 0), cPr cI (Q 0) (Z 0), cTx cI cC (Q 6) v_5, cSt cI (Q 5) (Z 5), cCl Q, cHi cL Q (Z 7), cLn cI (Q 1) (Z 1), cLn cI (Q 2) (Z 2), cLn cI (Q 3) (Z 3), cLn cI (Q 4) (Z 4), cLo cI (Q 0) (Z 0)]) := hw.front 10 rfl rfl; have hw : y_W D cI cC cL A s _ _ (List.flatten [cLo cI (Q 0) (Z 0), cSt cI (Q 0) (Z 0), cPr cI (Q 0) (Z 0), cTx cI cC (Q 6) v_5, cSt cI (Q 5) (Z 5), cCl Q, cHi cL Q (Z 7), cLn cI (Q 1) (Z 1), cLn cI (Q 2) (Z 2), cLn cI (Q 3) (Z 3), cLn cI (Q 4) (Z 4)]) := hw.front 10 rfl rfl; have hw : y_W D cI cC cL A s _ _ (List.flatten [cLn cI (Q 4) (Z 4), cLo cI (Q 0) (Z 0), cSt cI (Q 0) (Z 0), cPr cI (Q 0) (Z 0), cTx cI cC (Q 6) v_5, cSt cI (Q 5) (Z 5), cCl Q, cHi cL Q (Z 7), cLn cI (Q 1) (Z 1), cLn cI (Q 2) (Z 2), cLn cI (Q 3) (Z 3)]) := hw.front 10 rfl rfl; have hw : y_W D cI cC cL A s _ _ (List.flatten [cLn cI (Q 3) (Z 3), cLn cI (Q 4) (Z 4), cLo cI (Q 0) (Z 0), cSt cI (Q 0) (Z 0), cPr cI (Q 0) (Z 0), cTx cI cC (Q 6) v_5, cSt cI (Q 5) (Z 5), cCl Q, cHi cL Q (Z 7), cLn cI (Q 1) (Z 1), cLn cI (Q 2) (Z 2)]) := hw.front 10 rfl rfl; have hw : y_W D cI cC cL A s _ _ (List.flatten [cLn cI (Q 2) (Z 2), cLn cI (Q 3) (Z 3), cLn cI (Q 4) (Z 4), cLo cI (Q 0) (Z 0), cSt cI (Q 0) (Z 0), cPr cI (Q 0) (Z 0), cTx cI cC (Q 6) v_5, cSt cI (Q 5) (Z 5), cCl Q, cHi cL Q (Z 7), cLn cI (Q 1) (Z 1)]) := hw.front 10 rfl rfl; have hw : y_W D cI cC cL A s _ _ (List.flatten [cLn cI (Q 1) (Z 1), cLn cI (Q 2) (Z 2), cLn cI (Q 3) (Z 3), cLn cI (Q 4) (Z 4), cLo cI (Q 0) (Z 0), cSt cI (Q 0) (Z 0), cPr cI (Q 0) (Z 0), cTx cI cC (Q 6) v_5, cSt cI (Q 5) (Z 5), cCl Q, cHi cL Q (Z 7)]) := hw.front 10 rfl rfl; have hw : y_W D cI cC cL A s _ _ (List.flatten [cHi cL Q (Z 7), cLn cI (Q 1) (Z 1), cLn cI (Q 2) (Z 2), cLn cI (Q 3) (Z 3), cLn cI (Q 4) (Z 4), cLo cI (Q 0) (Z 0), cSt cI (Q 0) (Z 0), cPr cI (Q 0) (Z 0), cTx cI cC (Q 6) v_5, cSt cI (Q 5) (Z 5), cCl Q]) := hw.front 10 rfl rfl; have hw : y_W D cI cC cL A s _ _ (List.flatten [cCl Q, cHi cL Q (Z 7), cLn cI (Q 1) (Z 1), cLn cI (Q 2) (Z 2), cLn cI (Q 3) (Z 3), cLn cI (Q 4) (Z 4), cLo cI (Q 0) (Z 0), cSt cI (Q 0) (Z 0), cPr cI (Q 0) (Z 0), cTx cI cC (Q 6) v_5, cSt cI (Q 5) (Z 5)]) := hw.front 10 rfl rfl; rw [show jTypU Z x L = va_up Z 6 v_5 from by rw [ev_5, jTypU, if_neg (not_not_intro c_3), if_pos c_4N]]; exact hw) (by rw [ev_5]; unfold jTypR; rw [if_neg (not_not_intro c_3), if_pos c_4N]; rfl) dX5_type_45
    · skip
      have c_4N : ¬ L < 60 := fun z => c_4 ((nI_ltI (a := L) (b := 60) (by omega) (by omega)).mpr z)
      refine lv_ldc (v := (-2000003)) S.1 S.2.1 S.2.2.2.1 (S.2.2.2.2 _ k_X5_type_89) dX5_type_26 ?_
      exact ret _ _ _ _ _ (by rw [show jTypU Z x L = Z from by rw [jTypU, if_neg (not_not_intro c_3), if_neg c_4N]]; exact hw) (by unfold jTypR; rw [if_neg (not_not_intro c_3), if_neg c_4N]) dX5_type_28
  · skip
    refine lv_ldc (v := (-2000001)) S.1 S.2.1 S.2.2.2.1 (S.2.2.2.2 _ k_X5_type_41) dX5_type_11 ?_
    exact ret _ _ _ _ _ (by rw [show jTypU Z x L = Z from by rw [jTypU, if_pos c_3]]; exact hw) (by unfold jTypR; rw [if_pos c_3]) dX5_type_13

theorem i_X5_clearText_X5 : ∀ w ∈ u_ws RX5 TX5 4, w ∈ wsX5_clearText := by decide +kernel
theorem f_X5_clearText_26 : Cond.fieldLink RX5 26 "ChargeLines" "text" "LChargeLines$Text;" ∈ wsX5_clearText := by decide +kernel
theorem i_X5_clearText_X4 : ∀ w ∈ u_ws RX4 TX4 9, w ∈ wsX5_clearText := by decide +kernel
theorem f_X5_clearText_206 : Cond.fieldLink RX5 206 "ChargeLines$Text" "length" "I" ∈ wsX5_clearText := by decide +kernel
set_option maxHeartbeats 4000000 in
set_option maxRecDepth 100000 in
/-- ChargeLines.clearText -/
theorem c_X5_clearText (l : Launch) (D : va_G) (cI cC cL : ClassId) (Q : Nat → Nat → Nat) (Z : Nat → U) : y_MI l yX5_clearText wsX5_clearText 1 20 D cI cC cL [.ref (Q 8 0)] (cWd cI cC cL Q Z) (Z 6 1 0) (fun z : Nat → U => cWd cI cC cL Q z) (va_up Z 6 (va_up (Z 6) 1 (fun _ => 0))) := by
  refine y_startI (cc := cX5_clearText) (maxL := 2) (ret := some .int) (by decide +kernel) rfl (Nat.le_of_ble_eq_true rfl) ⟨_, rfl, fun x _ => rfl⟩ (fun h => by cases h) ?_
  intro p e s mm args below meth c A QQ ls S hw ret hl
  have S : CallFix p mm c cX5_clearText 2 s args wsX5_clearText RX5 := S
  have hw : y_W D cI cC cL A s s.heap [] (List.flatten [cCl Q, cHi cL Q (Z 7), cLn cI (Q 1) (Z 1), cLn cI (Q 2) (Z 2), cLn cI (Q 3) (Z 3), cLn cI (Q 4) (Z 4), cLo cI (Q 0) (Z 0), cSt cI (Q 0) (Z 0), cPr cI (Q 0) (Z 0), cTx cI cC (Q 6) (Z 6), cSt cI (Q 5) (Z 5)]) := hw
  have hl : lv_has ls 2 [(0, .ref (Q 8 0))] := hl
  refine lv_aload_n S.1 S.2.1 dX5_clearText_0 rfl (lv_at hl 0 rfl) ?_
  refine y_get S hw (C := RX5) (T := TX5) (N := 4) i_X5_clearText_X5 0 rfl rfl 2 (by decide) f_X5_clearText_26 rfl dX5_clearText_1 ?_
  refine y_get S hw (C := RX4) (T := TX4) (N := 9) i_X5_clearText_X4 68 rfl rfl 1 (by decide) f_X5_clearText_206 rfl dX5_clearText_4 ?_
  refine lv_istore_n (lv' := [(1, .int (Z 6 1 0)), (0, .ref (Q 8 0))]) S.1 S.2.1 dX5_clearText_7 rfl hl (by decide) rfl (fun ls hl => ?_)
  refine lv_aload_n S.1 S.2.1 dX5_clearText_8 rfl (lv_at hl 1 rfl) ?_
  refine y_get S hw (C := RX5) (T := TX5) (N := 4) i_X5_clearText_X5 0 rfl rfl 2 (by decide) f_X5_clearText_26 rfl dX5_clearText_9 ?_
  have hw : y_W D cI cC cL A s _ _ (List.flatten [cTx cI cC (Q 6) (Z 6), cCl Q, cHi cL Q (Z 7), cLn cI (Q 1) (Z 1), cLn cI (Q 2) (Z 2), cLn cI (Q 3) (Z 3), cLn cI (Q 4) (Z 4), cLo cI (Q 0) (Z 0), cSt cI (Q 0) (Z 0), cPr cI (Q 0) (Z 0), cSt cI (Q 5) (Z 5)]) := hw.front 9 rfl rfl
  refine y_segV (sc := [cTx cI cC (Q 6) (Z 6)]) (sr := [cCl Q, cHi cL Q (Z 7), cLn cI (Q 1) (Z 1), cLn cI (Q 2) (Z 2), cLn cI (Q 3) (Z 3), cLn cI (Q 4) (Z 4), cLo cI (Q 0) (Z 0), cSt cI (Q 0) (Z 0), cPr cI (Q 0) (Z 0), cSt cI (Q 5) (Z 5)]) (As := []) (rest := []) S hw hl.1 (c_X4_clear l D cI cC cL (Q 6) (Z 6)) (cwV 0 S.2.2.2.2 gX5_clearText_X4_clear rfl rfl rfl (by decide +kernel) ⟨Nat.le_of_ble_eq_true rfl, Nat.le_of_ble_eq_true rfl⟩) (F' := (fun v_1 : U => [cTx cI cC (Q 6) v_1])) (by first | rfl | simp only [List.flatten_cons, List.flatten_nil, List.append_nil, List.append_assoc]) (fun v => by first | rfl | simp only [List.flatten_cons, List.flatten_nil, List.append_nil, List.append_assoc]) 0 rfl rfl rfl (Nat.le_of_ble_eq_true rfl) dX5_clearText_12 rfl ⟨Nat.le_refl _, Nat.le_refl _⟩ (fun H locs v_1 ev_1 hw => ?_)
  have hw : y_W D cI cC cL A s H locs (List.flatten [cTx cI cC (Q 6) v_1, cCl Q, cHi cL Q (Z 7), cLn cI (Q 1) (Z 1), cLn cI (Q 2) (Z 2), cLn cI (Q 3) (Z 3), cLn cI (Q 4) (Z 4), cLo cI (Q 0) (Z 0), cSt cI (Q 0) (Z 0), cPr cI (Q 0) (Z 0), cSt cI (Q 5) (Z 5)]) := hw
  refine lv_iload_n S.1 S.2.1 dX5_clearText_15 rfl (lv_at hl 0 rfl) ?_
  exact ret _ _ _ _ _ (by have hw : y_W D cI cC cL A s _ _ (List.flatten [cSt cI (Q 5) (Z 5), cTx cI cC (Q 6) v_1, cCl Q, cHi cL Q (Z 7), cLn cI (Q 1) (Z 1), cLn cI (Q 2) (Z 2), cLn cI (Q 3) (Z 3), cLn cI (Q 4) (Z 4), cLo cI (Q 0) (Z 0), cSt cI (Q 0) (Z 0), cPr cI (Q 0) (Z 0)]) := hw.front 10 rfl rfl; have hw : y_W D cI cC cL A s _ _ (List.flatten [cTx cI cC (Q 6) v_1, cSt cI (Q 5) (Z 5), cCl Q, cHi cL Q (Z 7), cLn cI (Q 1) (Z 1), cLn cI (Q 2) (Z 2), cLn cI (Q 3) (Z 3), cLn cI (Q 4) (Z 4), cLo cI (Q 0) (Z 0), cSt cI (Q 0) (Z 0), cPr cI (Q 0) (Z 0)]) := hw.front 1 rfl rfl; have hw : y_W D cI cC cL A s _ _ (List.flatten [cPr cI (Q 0) (Z 0), cTx cI cC (Q 6) v_1, cSt cI (Q 5) (Z 5), cCl Q, cHi cL Q (Z 7), cLn cI (Q 1) (Z 1), cLn cI (Q 2) (Z 2), cLn cI (Q 3) (Z 3), cLn cI (Q 4) (Z 4), cLo cI (Q 0) (Z 0), cSt cI (Q 0) (Z 0)]) := hw.front 10 rfl rfl; have hw : y_W D cI cC cL A s _ _ (List.flatten [cSt cI (Q 0) (Z 0), cPr cI (Q 0) (Z 0), cTx cI cC (Q 6) v_1, cSt cI (Q 5) (Z 5), cCl Q, cHi cL Q (Z 7), cLn cI (Q 1) (Z 1), cLn cI (Q 2) (Z 2), cLn cI (Q 3) (Z 3), cLn cI (Q 4) (Z 4), cLo cI (Q 0) (Z 0)]) := hw.front 10 rfl rfl; have hw : y_W D cI cC cL A s _ _ (List.flatten [cLo cI (Q 0) (Z 0), cSt cI (Q 0) (Z 0), cPr cI (Q 0) (Z 0), cTx cI cC (Q 6) v_1, cSt cI (Q 5) (Z 5), cCl Q, cHi cL Q (Z 7), cLn cI (Q 1) (Z 1), cLn cI (Q 2) (Z 2), cLn cI (Q 3) (Z 3), cLn cI (Q 4) (Z 4)]) := hw.front 10 rfl rfl; have hw : y_W D cI cC cL A s _ _ (List.flatten [cLn cI (Q 4) (Z 4), cLo cI (Q 0) (Z 0), cSt cI (Q 0) (Z 0), cPr cI (Q 0) (Z 0), cTx cI cC (Q 6) v_1, cSt cI (Q 5) (Z 5), cCl Q, cHi cL Q (Z 7), cLn cI (Q 1) (Z 1), cLn cI (Q 2) (Z 2), cLn cI (Q 3) (Z 3)]) := hw.front 10 rfl rfl; have hw : y_W D cI cC cL A s _ _ (List.flatten [cLn cI (Q 3) (Z 3), cLn cI (Q 4) (Z 4), cLo cI (Q 0) (Z 0), cSt cI (Q 0) (Z 0), cPr cI (Q 0) (Z 0), cTx cI cC (Q 6) v_1, cSt cI (Q 5) (Z 5), cCl Q, cHi cL Q (Z 7), cLn cI (Q 1) (Z 1), cLn cI (Q 2) (Z 2)]) := hw.front 10 rfl rfl; have hw : y_W D cI cC cL A s _ _ (List.flatten [cLn cI (Q 2) (Z 2), cLn cI (Q 3) (Z 3), cLn cI (Q 4) (Z 4), cLo cI (Q 0) (Z 0), cSt cI (Q 0) (Z 0), cPr cI (Q 0) (Z 0), cTx cI cC (Q 6) v_1, cSt cI (Q 5) (Z 5), cCl Q, cHi cL Q (Z 7), cLn cI (Q 1) (Z 1)]) := hw.front 10 rfl rfl; have hw : y_W D cI cC cL A s _ _ (List.flatten [cLn cI (Q 1) (Z 1), cLn cI (Q 2) (Z 2), cLn cI (Q 3) (Z 3), cLn cI (Q 4) (Z 4), cLo cI (Q 0) (Z 0), cSt cI (Q 0) (Z 0), cPr cI (Q 0) (Z 0), cTx cI cC (Q 6) v_1, cSt cI (Q 5) (Z 5), cCl Q, cHi cL Q (Z 7)]) := hw.front 10 rfl rfl; have hw : y_W D cI cC cL A s _ _ (List.flatten [cHi cL Q (Z 7), cLn cI (Q 1) (Z 1), cLn cI (Q 2) (Z 2), cLn cI (Q 3) (Z 3), cLn cI (Q 4) (Z 4), cLo cI (Q 0) (Z 0), cSt cI (Q 0) (Z 0), cPr cI (Q 0) (Z 0), cTx cI cC (Q 6) v_1, cSt cI (Q 5) (Z 5), cCl Q]) := hw.front 10 rfl rfl; have hw : y_W D cI cC cL A s _ _ (List.flatten [cCl Q, cHi cL Q (Z 7), cLn cI (Q 1) (Z 1), cLn cI (Q 2) (Z 2), cLn cI (Q 3) (Z 3), cLn cI (Q 4) (Z 4), cLo cI (Q 0) (Z 0), cSt cI (Q 0) (Z 0), cPr cI (Q 0) (Z 0), cTx cI cC (Q 6) v_1, cSt cI (Q 5) (Z 5)]) := hw.front 10 rfl rfl; subst ev_1; exact hw) (by rfl) dX5_clearText_16

theorem k_X5_echo_41 : Cond.constant RX5 41 (-2000001) ∈ wsX5_echo := by decide +kernel
theorem i_X5_echo_X5 : ∀ w ∈ u_ws RX5 TX5 4, w ∈ wsX5_echo := by decide +kernel
theorem f_X5_echo_33 : Cond.fieldLink RX5 33 "ChargeLines" "trial" "LChargeLines$Stages;" ∈ wsX5_echo := by decide +kernel
theorem f_X5_echo_12 : Cond.fieldLink RX5 12 "ChargeLines" "line" "LChargeLines$Line;" ∈ wsX5_echo := by decide +kernel
theorem i_X5_echo_X1 : ∀ w ∈ u_ws RX1 TX1 9, w ∈ wsX5_echo := by decide +kernel
theorem f_X5_echo_54 : Cond.fieldLink RX5 54 "ChargeLines$Line" "stages" "LChargeLines$Stages;" ∈ wsX5_echo := by decide +kernel
theorem f_X5_echo_78 : Cond.fieldLink RX5 78 "ChargeLines$Line" "settings" "[I" ∈ wsX5_echo := by decide +kernel
set_option maxHeartbeats 4000000 in
set_option maxRecDepth 100000 in
/-- ChargeLines.echo -/
theorem c_X5_echo (l : Launch) (D : va_G) (cI cC cL : ClassId) (Q : Nat → Nat → Nat) (Z : Nat → U) (x y : Int32) (n : Nat) (hn : Z 0 0 0 = nI n) (h10 : n ≤ 10) : y_MI l yX5_echo wsX5_echo 4 95 D cI cC cL [.ref (Q 8 0), .int x, .int y] (cWd cI cC cL Q Z) (jEchR Z x y n) (fun z : Nat → U => cWd cI cC cL Q z) (jEchU Z x y n) := by
  refine y_startI (cc := cX5_echo) (maxL := 3) (ret := some .int) (by decide +kernel) rfl (Nat.le_of_ble_eq_true rfl) ⟨_, rfl, fun x _ => rfl⟩ (fun h => by cases h) ?_
  intro p e s mm args below meth c A QQ ls S hw ret hl
  have S : CallFix p mm c cX5_echo 3 s args wsX5_echo RX5 := S
  have hw : y_W D cI cC cL A s s.heap [] (List.flatten [cCl Q, cHi cL Q (Z 7), cLn cI (Q 1) (Z 1), cLn cI (Q 2) (Z 2), cLn cI (Q 3) (Z 3), cLn cI (Q 4) (Z 4), cLo cI (Q 0) (Z 0), cSt cI (Q 0) (Z 0), cPr cI (Q 0) (Z 0), cTx cI cC (Q 6) (Z 6), cSt cI (Q 5) (Z 5)]) := hw
  have hl : lv_has ls 3 [(0, .ref (Q 8 0)), (1, .int x), (2, .int y)] := hl
  refine lv_iload_n S.1 S.2.1 dX5_echo_0 rfl (lv_at hl 1 rfl) ?_
  refine lv_iconst (v := 0) S.1 S.2.1 dX5_echo_1 (by decide) ?_
  refine lv_sipush (v := 10000) S.1 S.2.1 dX5_echo_2 (by decide) ?_
  refine y_segSI (sc := []) (sr := [cCl Q, cHi cL Q (Z 7), cLn cI (Q 1) (Z 1), cLn cI (Q 2) (Z 2), cLn cI (Q 3) (Z 3), cLn cI (Q 4) (Z 4), cLo cI (Q 0) (Z 0), cSt cI (Q 0) (Z 0), cPr cI (Q 0) (Z 0), cTx cI cC (Q 6) (Z 6), cSt cI (Q 5) (Z 5)]) (As := [.int x, .int 0, .int 10000]) (rest := []) S hw hl.1 (c_X5_outside l D cI cC cL x 0 10000) (va_cwS 3 S.2.2.2.2 gX5_echo_X5_outside rfl rfl rfl (by decide +kernel) ⟨Nat.le_of_ble_eq_true rfl, Nat.le_of_ble_eq_true rfl⟩) (F' := (fun _ : Unit => [])) (by first | rfl | simp only [List.flatten_cons, List.flatten_nil, List.append_nil, List.append_assoc]) (fun v => by first | rfl | simp only [List.flatten_cons, List.flatten_nil, List.append_nil, List.append_assoc]) rfl (Nat.le_of_ble_eq_true rfl) dX5_echo_5 rfl ⟨Nat.le_refl _, Nat.le_refl _⟩ (fun H locs v_1 x_2 ev_1 ex_2 hw => ?_)
  have hw : y_W D cI cC cL A s H locs (List.flatten [cCl Q, cHi cL Q (Z 7), cLn cI (Q 1) (Z 1), cLn cI (Q 2) (Z 2), cLn cI (Q 3) (Z 3), cLn cI (Q 4) (Z 4), cLo cI (Q 0) (Z 0), cSt cI (Q 0) (Z 0), cPr cI (Q 0) (Z 0), cTx cI cC (Q 6) (Z 6), cSt cI (Q 5) (Z 5)]) := hw
  subst ex_2
  refine lv_if_ne (tgt := 21) S.1 S.2.1 dX5_echo_8 (by decide) (fun c_3 => ?_) (fun c_3 => ?_)
  · skip
    refine lv_ldc (v := (-2000001)) S.1 S.2.1 S.2.2.2.1 (S.2.2.2.2 _ k_X5_echo_41) dX5_echo_21 ?_
    exact ret _ _ _ _ _ (by rw [show jEchU Z x y n = Z from by rw [jEchU, if_pos c_3]]; exact hw) (by unfold jEchR; rw [if_pos c_3]) dX5_echo_23
  · skip
    refine lv_iload_n S.1 S.2.1 dX5_echo_11 rfl (lv_at hl 2 rfl) ?_
    refine lv_iconst (v := 1) S.1 S.2.1 dX5_echo_12 (by decide) ?_
    refine lv_bipush (v := 40) S.1 S.2.1 dX5_echo_13 (by decide) ?_
    refine y_segSI (sc := []) (sr := [cCl Q, cHi cL Q (Z 7), cLn cI (Q 1) (Z 1), cLn cI (Q 2) (Z 2), cLn cI (Q 3) (Z 3), cLn cI (Q 4) (Z 4), cLo cI (Q 0) (Z 0), cSt cI (Q 0) (Z 0), cPr cI (Q 0) (Z 0), cTx cI cC (Q 6) (Z 6), cSt cI (Q 5) (Z 5)]) (As := [.int y, .int 1, .int 40]) (rest := []) S hw hl.1 (c_X5_outside l D cI cC cL y 1 40) (va_cwS 3 S.2.2.2.2 gX5_echo_X5_outside rfl rfl rfl (by decide +kernel) ⟨Nat.le_of_ble_eq_true rfl, Nat.le_of_ble_eq_true rfl⟩) (F' := (fun _ : Unit => [])) (by first | rfl | simp only [List.flatten_cons, List.flatten_nil, List.append_nil, List.append_assoc]) (fun v => by first | rfl | simp only [List.flatten_cons, List.flatten_nil, List.append_nil, List.append_assoc]) rfl (Nat.le_of_ble_eq_true rfl) dX5_echo_15 rfl ⟨Nat.le_refl _, Nat.le_refl _⟩ (fun H locs v_4 x_5 ev_4 ex_5 hw => ?_)
    have hw : y_W D cI cC cL A s H locs (List.flatten [cCl Q, cHi cL Q (Z 7), cLn cI (Q 1) (Z 1), cLn cI (Q 2) (Z 2), cLn cI (Q 3) (Z 3), cLn cI (Q 4) (Z 4), cLo cI (Q 0) (Z 0), cSt cI (Q 0) (Z 0), cPr cI (Q 0) (Z 0), cTx cI cC (Q 6) (Z 6), cSt cI (Q 5) (Z 5)]) := hw
    subst ex_5
    refine lv_if_eq (tgt := 24) S.1 S.2.1 dX5_echo_18 (by decide) (fun c_6 => ?_) (fun c_6 => ?_)
    · skip
      obtain ⟨b, eb, hb1, hb2⟩ := jOut_nat (a := 1) (b := 40) rfl rfl (by omega) (by omega) c_6
      refine lv_aload_n S.1 S.2.1 dX5_echo_24 rfl (lv_at hl 0 rfl) ?_
      refine y_get S hw (C := RX5) (T := TX5) (N := 4) i_X5_echo_X5 0 rfl rfl 3 (by decide) f_X5_echo_33 rfl dX5_echo_25 ?_
      refine lv_aload_n S.1 S.2.1 dX5_echo_28 rfl (lv_at hl 0 rfl) ?_
      refine y_get S hw (C := RX5) (T := TX5) (N := 4) i_X5_echo_X5 0 rfl rfl 0 (by decide) f_X5_echo_12 rfl dX5_echo_29 ?_
      refine y_get S hw (C := RX1) (T := TX1) (N := 9) i_X5_echo_X1 55 rfl rfl 0 (by decide) f_X5_echo_54 rfl dX5_echo_32 ?_
      have hw : y_W D cI cC cL A s _ _ (List.flatten [cSt cI (Q 0) (Z 0), cCl Q, cHi cL Q (Z 7), cLn cI (Q 1) (Z 1), cLn cI (Q 2) (Z 2), cLn cI (Q 3) (Z 3), cLn cI (Q 4) (Z 4), cLo cI (Q 0) (Z 0), cPr cI (Q 0) (Z 0), cTx cI cC (Q 6) (Z 6), cSt cI (Q 5) (Z 5)]) := hw.front 7 rfl rfl
      have hw : y_W D cI cC cL A s _ _ (List.flatten [cSt cI (Q 5) (Z 5), cSt cI (Q 0) (Z 0), cCl Q, cHi cL Q (Z 7), cLn cI (Q 1) (Z 1), cLn cI (Q 2) (Z 2), cLn cI (Q 3) (Z 3), cLn cI (Q 4) (Z 4), cLo cI (Q 0) (Z 0), cPr cI (Q 0) (Z 0), cTx cI cC (Q 6) (Z 6)]) := hw.front 10 rfl rfl
      refine y_segV (sc := [cSt cI (Q 5) (Z 5), cSt cI (Q 0) (Z 0)]) (sr := [cCl Q, cHi cL Q (Z 7), cLn cI (Q 1) (Z 1), cLn cI (Q 2) (Z 2), cLn cI (Q 3) (Z 3), cLn cI (Q 4) (Z 4), cLo cI (Q 0) (Z 0), cPr cI (Q 0) (Z 0), cTx cI cC (Q 6) (Z 6)]) (As := [.ref (Q 0 0)]) (rest := []) S hw hl.1 (c_X3_copyFrom l D cI cC cL (Q 5) (Q 0) (Z 5) (Z 0)) (cwV 1 S.2.2.2.2 gX5_echo_X3_copyFrom rfl rfl rfl (by decide +kernel) ⟨Nat.le_of_ble_eq_true rfl, Nat.le_of_ble_eq_true rfl⟩) (F' := (fun v_7 : U => [cSt cI (Q 5) v_7, cSt cI (Q 0) (Z 0)])) (by first | rfl | simp only [List.flatten_cons, List.flatten_nil, List.append_nil, List.append_assoc]) (fun v => by first | rfl | simp only [List.flatten_cons, List.flatten_nil, List.append_nil, List.append_assoc]) 0 rfl rfl rfl (Nat.le_of_ble_eq_true rfl) dX5_echo_35 rfl ⟨Nat.le_refl _, Nat.le_refl _⟩ (fun H locs v_7 ev_7 hw => ?_)
      have hw : y_W D cI cC cL A s H locs (List.flatten [cSt cI (Q 5) v_7, cSt cI (Q 0) (Z 0), cCl Q, cHi cL Q (Z 7), cLn cI (Q 1) (Z 1), cLn cI (Q 2) (Z 2), cLn cI (Q 3) (Z 3), cLn cI (Q 4) (Z 4), cLo cI (Q 0) (Z 0), cPr cI (Q 0) (Z 0), cTx cI cC (Q 6) (Z 6)]) := hw
      refine lv_aload_n S.1 S.2.1 dX5_echo_38 rfl (lv_at hl 0 rfl) ?_
      refine y_get S hw (C := RX5) (T := TX5) (N := 4) i_X5_echo_X5 8 rfl rfl 3 (by decide) f_X5_echo_33 rfl dX5_echo_39 ?_
      refine lv_iload_n S.1 S.2.1 dX5_echo_42 rfl (lv_at hl 1 rfl) ?_
      refine lv_iload_n S.1 S.2.1 dX5_echo_43 rfl (lv_at hl 2 rfl) ?_
      refine y_top (y := (nI b)) (eb) ?_
      refine lv_aload_n S.1 S.2.1 dX5_echo_44 rfl (lv_at hl 0 rfl) ?_
      refine y_get S hw (C := RX5) (T := TX5) (N := 4) i_X5_echo_X5 8 rfl rfl 0 (by decide) f_X5_echo_12 rfl dX5_echo_45 ?_
      refine y_get S hw (C := RX1) (T := TX1) (N := 9) i_X5_echo_X1 63 rfl rfl 2 (by decide) f_X5_echo_78 rfl dX5_echo_48 ?_
      refine lv_iconst (v := 0) S.1 S.2.1 dX5_echo_51 (by decide) ?_
      refine y_iald S hw 64 (k := 0) rfl (by omega) (Nat.le_of_ble_eq_true rfl) dX5_echo_52 ?_
      refine y_segI (sc := [cSt cI (Q 5) v_7]) (sr := [cSt cI (Q 0) (Z 0), cCl Q, cHi cL Q (Z 7), cLn cI (Q 1) (Z 1), cLn cI (Q 2) (Z 2), cLn cI (Q 3) (Z 3), cLn cI (Q 4) (Z 4), cLo cI (Q 0) (Z 0), cPr cI (Q 0) (Z 0), cTx cI cC (Q 6) (Z 6)]) (As := [.int x, .int (nI b), .int ((Z 0 10) 0)]) (rest := []) S hw hl.1 (c_X3_outputOfLone l D cI cC cL (Q 5) v_7 x ((Z 0 10) 0) n b (by rw [ev_7]; exact hn) (by omega) (by omega)) (cwV 3 S.2.2.2.2 gX5_echo_X3_outputOfLone rfl rfl rfl (by decide +kernel) ⟨Nat.le_of_ble_eq_true rfl, Nat.le_of_ble_eq_true rfl⟩) (F' := (fun v_9 : U => [cSt cI (Q 5) v_9])) (by first | rfl | simp only [List.flatten_cons, List.flatten_nil, List.append_nil, List.append_assoc]) (fun v => by first | rfl | simp only [List.flatten_cons, List.flatten_nil, List.append_nil, List.append_assoc]) 0 rfl rfl rfl (Nat.le_of_ble_eq_true rfl) dX5_echo_53 rfl ⟨Nat.le_refl _, Nat.le_refl _⟩ (fun H locs v_9 x_10 ev_9 ex_10 hw => ?_)
      have hw : y_W D cI cC cL A s H locs (List.flatten [cSt cI (Q 5) v_9, cSt cI (Q 0) (Z 0), cCl Q, cHi cL Q (Z 7), cLn cI (Q 1) (Z 1), cLn cI (Q 2) (Z 2), cLn cI (Q 3) (Z 3), cLn cI (Q 4) (Z 4), cLo cI (Q 0) (Z 0), cPr cI (Q 0) (Z 0), cTx cI cC (Q 6) (Z 6)]) := hw
      subst ex_10
      exact ret _ _ _ _ _ (by have hw : y_W D cI cC cL A s _ _ (List.flatten [cSt cI (Q 5) v_9, cSt cI (Q 0) (Z 0), cCl Q, cHi cL Q (Z 7), cLn cI (Q 1) (Z 1), cLn cI (Q 2) (Z 2), cLn cI (Q 3) (Z 3), cLn cI (Q 4) (Z 4), cLo cI (Q 0) (Z 0), cPr cI (Q 0) (Z 0), cTx cI cC (Q 6) (Z 6)]) := hw.front 0 rfl rfl; have hw : y_W D cI cC cL A s _ _ (List.flatten [cTx cI cC (Q 6) (Z 6), cSt cI (Q 5) v_9, cSt cI (Q 0) (Z 0), cCl Q, cHi cL Q (Z 7), cLn cI (Q 1) (Z 1), cLn cI (Q 2) (Z 2), cLn cI (Q 3) (Z 3), cLn cI (Q 4) (Z 4), cLo cI (Q 0) (Z 0), cPr cI (Q 0) (Z 0)]) := hw.front 10 rfl rfl; have hw : y_W D cI cC cL A s _ _ (List.flatten [cPr cI (Q 0) (Z 0), cTx cI cC (Q 6) (Z 6), cSt cI (Q 5) v_9, cSt cI (Q 0) (Z 0), cCl Q, cHi cL Q (Z 7), cLn cI (Q 1) (Z 1), cLn cI (Q 2) (Z 2), cLn cI (Q 3) (Z 3), cLn cI (Q 4) (Z 4), cLo cI (Q 0) (Z 0)]) := hw.front 10 rfl rfl; have hw : y_W D cI cC cL A s _ _ (List.flatten [cSt cI (Q 0) (Z 0), cPr cI (Q 0) (Z 0), cTx cI cC (Q 6) (Z 6), cSt cI (Q 5) v_9, cCl Q, cHi cL Q (Z 7), cLn cI (Q 1) (Z 1), cLn cI (Q 2) (Z 2), cLn cI (Q 3) (Z 3), cLn cI (Q 4) (Z 4), cLo cI (Q 0) (Z 0)]) := hw.front 3 rfl rfl; have hw : y_W D cI cC cL A s _ _ (List.flatten [cLo cI (Q 0) (Z 0), cSt cI (Q 0) (Z 0), cPr cI (Q 0) (Z 0), cTx cI cC (Q 6) (Z 6), cSt cI (Q 5) v_9, cCl Q, cHi cL Q (Z 7), cLn cI (Q 1) (Z 1), cLn cI (Q 2) (Z 2), cLn cI (Q 3) (Z 3), cLn cI (Q 4) (Z 4)]) := hw.front 10 rfl rfl; have hw : y_W D cI cC cL A s _ _ (List.flatten [cLn cI (Q 4) (Z 4), cLo cI (Q 0) (Z 0), cSt cI (Q 0) (Z 0), cPr cI (Q 0) (Z 0), cTx cI cC (Q 6) (Z 6), cSt cI (Q 5) v_9, cCl Q, cHi cL Q (Z 7), cLn cI (Q 1) (Z 1), cLn cI (Q 2) (Z 2), cLn cI (Q 3) (Z 3)]) := hw.front 10 rfl rfl; have hw : y_W D cI cC cL A s _ _ (List.flatten [cLn cI (Q 3) (Z 3), cLn cI (Q 4) (Z 4), cLo cI (Q 0) (Z 0), cSt cI (Q 0) (Z 0), cPr cI (Q 0) (Z 0), cTx cI cC (Q 6) (Z 6), cSt cI (Q 5) v_9, cCl Q, cHi cL Q (Z 7), cLn cI (Q 1) (Z 1), cLn cI (Q 2) (Z 2)]) := hw.front 10 rfl rfl; have hw : y_W D cI cC cL A s _ _ (List.flatten [cLn cI (Q 2) (Z 2), cLn cI (Q 3) (Z 3), cLn cI (Q 4) (Z 4), cLo cI (Q 0) (Z 0), cSt cI (Q 0) (Z 0), cPr cI (Q 0) (Z 0), cTx cI cC (Q 6) (Z 6), cSt cI (Q 5) v_9, cCl Q, cHi cL Q (Z 7), cLn cI (Q 1) (Z 1)]) := hw.front 10 rfl rfl; have hw : y_W D cI cC cL A s _ _ (List.flatten [cLn cI (Q 1) (Z 1), cLn cI (Q 2) (Z 2), cLn cI (Q 3) (Z 3), cLn cI (Q 4) (Z 4), cLo cI (Q 0) (Z 0), cSt cI (Q 0) (Z 0), cPr cI (Q 0) (Z 0), cTx cI cC (Q 6) (Z 6), cSt cI (Q 5) v_9, cCl Q, cHi cL Q (Z 7)]) := hw.front 10 rfl rfl; have hw : y_W D cI cC cL A s _ _ (List.flatten [cHi cL Q (Z 7), cLn cI (Q 1) (Z 1), cLn cI (Q 2) (Z 2), cLn cI (Q 3) (Z 3), cLn cI (Q 4) (Z 4), cLo cI (Q 0) (Z 0), cSt cI (Q 0) (Z 0), cPr cI (Q 0) (Z 0), cTx cI cC (Q 6) (Z 6), cSt cI (Q 5) v_9, cCl Q]) := hw.front 10 rfl rfl; have hw : y_W D cI cC cL A s _ _ (List.flatten [cCl Q, cHi cL Q (Z 7), cLn cI (Q 1) (Z 1), cLn cI (Q 2) (Z 2), cLn cI (Q 3) (Z 3), cLn cI (Q 4) (Z 4), cLo cI (Q 0) (Z 0), cSt cI (Q 0) (Z 0), cPr cI (Q 0) (Z 0), cTx cI cC (Q 6) (Z 6), cSt cI (Q 5) v_9]) := hw.front 10 rfl rfl; rw [show jEchU Z x y n = va_up Z 5 v_9 from by rw [ev_9, ev_7, jEchU, if_neg (not_not_intro c_3), if_neg (not_not_intro c_6), eb, nI_clamp (by omega)]; rfl]; exact hw) (by rw [ev_7]; unfold jEchR; rw [if_neg (not_not_intro c_3), if_neg (not_not_intro c_6), eb, nI_clamp (by omega)]; rfl) dX5_echo_56
    · skip
      refine lv_ldc (v := (-2000001)) S.1 S.2.1 S.2.2.2.1 (S.2.2.2.2 _ k_X5_echo_41) dX5_echo_21 ?_
      exact ret _ _ _ _ _ (by rw [show jEchU Z x y n = Z from by rw [jEchU, if_neg (not_not_intro c_3), if_pos c_6]]; exact hw) (by unfold jEchR; rw [if_neg (not_not_intro c_3), if_pos c_6]) dX5_echo_23

theorem i_X5_emptyAfter_X5 : ∀ w ∈ u_ws RX5 TX5 4, w ∈ wsX5_emptyAfter := by decide +kernel
theorem f_X5_emptyAfter_33 : Cond.fieldLink RX5 33 "ChargeLines" "trial" "LChargeLines$Stages;" ∈ wsX5_emptyAfter := by decide +kernel
theorem f_X5_emptyAfter_12 : Cond.fieldLink RX5 12 "ChargeLines" "line" "LChargeLines$Line;" ∈ wsX5_emptyAfter := by decide +kernel
theorem i_X5_emptyAfter_X1 : ∀ w ∈ u_ws RX1 TX1 9, w ∈ wsX5_emptyAfter := by decide +kernel
theorem f_X5_emptyAfter_54 : Cond.fieldLink RX5 54 "ChargeLines$Line" "stages" "LChargeLines$Stages;" ∈ wsX5_emptyAfter := by decide +kernel
theorem k_X5_emptyAfter_109 : Cond.constant RX5 109 (-2000004) ∈ wsX5_emptyAfter := by decide +kernel
theorem f_X5_emptyAfter_78 : Cond.fieldLink RX5 78 "ChargeLines$Line" "settings" "[I" ∈ wsX5_emptyAfter := by decide +kernel
set_option maxHeartbeats 4000000 in
set_option maxRecDepth 100000 in
/-- ChargeLines.emptyAfter -/
theorem c_X5_emptyAfter (l : Launch) (D : va_G) (cI cC cL : ClassId) (Q : Nat → Nat → Nat) (Z : Nat → U) (n : Nat) (hn : Z 0 0 0 = nI n) (h10 : n ≤ 10) : y_MI l yX5_emptyAfter wsX5_emptyAfter 3 70 D cI cC cL [.ref (Q 8 0)] (cWd cI cC cL Q Z) ((jEA (Z 0 10 0) n 401 0 (stMix (Z 0) (Z 5))).2) (fun z : Nat → U => cWd cI cC cL Q z) (va_up Z 5 (jEA (Z 0 10 0) n 401 0 (stMix (Z 0) (Z 5))).1) := by
  refine y_startI (cc := cX5_emptyAfter) (maxL := 2) (ret := some .int) (by decide +kernel) rfl (Nat.le_of_ble_eq_true rfl) ⟨_, rfl, fun x _ => rfl⟩ (fun h => by cases h) ?_
  intro p e s mm args below meth c A QQ ls S hw ret hl
  have S : CallFix p mm c cX5_emptyAfter 2 s args wsX5_emptyAfter RX5 := S
  have hw : y_W D cI cC cL A s s.heap [] (List.flatten [cCl Q, cHi cL Q (Z 7), cLn cI (Q 1) (Z 1), cLn cI (Q 2) (Z 2), cLn cI (Q 3) (Z 3), cLn cI (Q 4) (Z 4), cLo cI (Q 0) (Z 0), cSt cI (Q 0) (Z 0), cPr cI (Q 0) (Z 0), cTx cI cC (Q 6) (Z 6), cSt cI (Q 5) (Z 5)]) := hw
  have hl : lv_has ls 2 [(0, .ref (Q 8 0))] := hl
  refine lv_aload_n S.1 S.2.1 dX5_emptyAfter_0 rfl (lv_at hl 0 rfl) ?_
  refine y_get S hw (C := RX5) (T := TX5) (N := 4) i_X5_emptyAfter_X5 0 rfl rfl 3 (by decide) f_X5_emptyAfter_33 rfl dX5_emptyAfter_1 ?_
  refine lv_aload_n S.1 S.2.1 dX5_emptyAfter_4 rfl (lv_at hl 0 rfl) ?_
  refine y_get S hw (C := RX5) (T := TX5) (N := 4) i_X5_emptyAfter_X5 0 rfl rfl 0 (by decide) f_X5_emptyAfter_12 rfl dX5_emptyAfter_5 ?_
  refine y_get S hw (C := RX1) (T := TX1) (N := 9) i_X5_emptyAfter_X1 55 rfl rfl 0 (by decide) f_X5_emptyAfter_54 rfl dX5_emptyAfter_8 ?_
  have hw : y_W D cI cC cL A s _ _ (List.flatten [cSt cI (Q 0) (Z 0), cCl Q, cHi cL Q (Z 7), cLn cI (Q 1) (Z 1), cLn cI (Q 2) (Z 2), cLn cI (Q 3) (Z 3), cLn cI (Q 4) (Z 4), cLo cI (Q 0) (Z 0), cPr cI (Q 0) (Z 0), cTx cI cC (Q 6) (Z 6), cSt cI (Q 5) (Z 5)]) := hw.front 7 rfl rfl
  have hw : y_W D cI cC cL A s _ _ (List.flatten [cSt cI (Q 5) (Z 5), cSt cI (Q 0) (Z 0), cCl Q, cHi cL Q (Z 7), cLn cI (Q 1) (Z 1), cLn cI (Q 2) (Z 2), cLn cI (Q 3) (Z 3), cLn cI (Q 4) (Z 4), cLo cI (Q 0) (Z 0), cPr cI (Q 0) (Z 0), cTx cI cC (Q 6) (Z 6)]) := hw.front 10 rfl rfl
  refine y_segV (sc := [cSt cI (Q 5) (Z 5), cSt cI (Q 0) (Z 0)]) (sr := [cCl Q, cHi cL Q (Z 7), cLn cI (Q 1) (Z 1), cLn cI (Q 2) (Z 2), cLn cI (Q 3) (Z 3), cLn cI (Q 4) (Z 4), cLo cI (Q 0) (Z 0), cPr cI (Q 0) (Z 0), cTx cI cC (Q 6) (Z 6)]) (As := [.ref (Q 0 0)]) (rest := []) S hw hl.1 (c_X3_copyFrom l D cI cC cL (Q 5) (Q 0) (Z 5) (Z 0)) (cwV 1 S.2.2.2.2 gX5_emptyAfter_X3_copyFrom rfl rfl rfl (by decide +kernel) ⟨Nat.le_of_ble_eq_true rfl, Nat.le_of_ble_eq_true rfl⟩) (F' := (fun v_1 : U => [cSt cI (Q 5) v_1, cSt cI (Q 0) (Z 0)])) (by first | rfl | simp only [List.flatten_cons, List.flatten_nil, List.append_nil, List.append_assoc]) (fun v => by first | rfl | simp only [List.flatten_cons, List.flatten_nil, List.append_nil, List.append_assoc]) 0 rfl rfl rfl (Nat.le_of_ble_eq_true rfl) dX5_emptyAfter_11 rfl ⟨Nat.le_refl _, Nat.le_refl _⟩ (fun H locs v_1 ev_1 hw => ?_)
  have hw : y_W D cI cC cL A s H locs (List.flatten [cSt cI (Q 5) v_1, cSt cI (Q 0) (Z 0), cCl Q, cHi cL Q (Z 7), cLn cI (Q 1) (Z 1), cLn cI (Q 2) (Z 2), cLn cI (Q 3) (Z 3), cLn cI (Q 4) (Z 4), cLo cI (Q 0) (Z 0), cPr cI (Q 0) (Z 0), cTx cI cC (Q 6) (Z 6)]) := hw
  refine lv_iconst (v := 0) S.1 S.2.1 dX5_emptyAfter_14 (by decide) ?_
  refine lv_istore_n (lv' := [(1, .int 0), (0, .ref (Q 8 0))]) S.1 S.2.1 dX5_emptyAfter_15 rfl hl (by decide) rfl (fun ls hl => ?_)
  have lp16 : ∀ (fuel : Nat) (k : Nat) (w : U), (k ≤ 401) → (w 0 0 = nI n) → (jEA (Z 0 10 0) n (401 - k) k w = jEA (Z 0 10 0) n 401 0 (stMix (Z 0) (Z 5))) → (401 - k) < fuel → ∀ (H : Heap) (locs : List Loc) (ls : Array Slot), y_W D cI cC cL A s H locs (List.flatten [cSt cI (Q 5) w, cSt cI (Q 0) (Z 0), cCl Q, cHi cL Q (Z 7), cLn cI (Q 1) (Z 1), cLn cI (Q 2) (Z 2), cLn cI (Q 3) (Z 3), cLn cI (Q 4) (Z 4), cLo cI (Q 0) (Z 0), cPr cI (Q 0) (Z 0), cTx cI cC (Q 6) (Z 6)]) → lv_has ls 2 [(0, .ref (Q 8 0)), (1, .int (nI k))] → W p l e (y_R 3 70) s mm args below meth c H locs 0 0 QQ (F0 mm 16 ls []) := by
    intro fuel
    induction fuel with
    | zero =>
      intro k w hk hw0 he hfu
      exact absurd hfu (Nat.not_lt_zero _)
    | succ fuel ih16 =>
      intro k w hk hw0 he hfu H locs ls hw hl
      refine lv_iload_n S.1 S.2.1 dX5_emptyAfter_16 rfl (lv_at hl 1 rfl) ?_
      refine lv_sipush (v := 400) S.1 S.2.1 dX5_emptyAfter_17 (by decide) ?_
      refine lv_icmp_gt (tgt := 59) S.1 S.2.1 dX5_emptyAfter_20 (by decide) (fun c_3 => ?_) (fun c_3 => ?_)
      · skip
        have c_3N : 400 < k := (nI_ltI (a := 400) (b := k) (by omega) (by omega)).mp c_3
        have hJ : jEA (Z 0 10 0) n 401 0 (stMix (Z 0) (Z 5)) = (w, -2000004) := by rw [← he, show 401 - k = 0 from by omega]; rfl
        refine lv_ldc (v := (-2000004)) S.1 S.2.1 S.2.2.2.1 (S.2.2.2.2 _ k_X5_emptyAfter_109) dX5_emptyAfter_59 ?_
        exact ret _ _ _ _ _ (by have hw : y_W D cI cC cL A s _ _ (List.flatten [cSt cI (Q 5) w, cSt cI (Q 0) (Z 0), cCl Q, cHi cL Q (Z 7), cLn cI (Q 1) (Z 1), cLn cI (Q 2) (Z 2), cLn cI (Q 3) (Z 3), cLn cI (Q 4) (Z 4), cLo cI (Q 0) (Z 0), cPr cI (Q 0) (Z 0), cTx cI cC (Q 6) (Z 6)]) := hw.front 0 rfl rfl; have hw : y_W D cI cC cL A s _ _ (List.flatten [cTx cI cC (Q 6) (Z 6), cSt cI (Q 5) w, cSt cI (Q 0) (Z 0), cCl Q, cHi cL Q (Z 7), cLn cI (Q 1) (Z 1), cLn cI (Q 2) (Z 2), cLn cI (Q 3) (Z 3), cLn cI (Q 4) (Z 4), cLo cI (Q 0) (Z 0), cPr cI (Q 0) (Z 0)]) := hw.front 10 rfl rfl; have hw : y_W D cI cC cL A s _ _ (List.flatten [cPr cI (Q 0) (Z 0), cTx cI cC (Q 6) (Z 6), cSt cI (Q 5) w, cSt cI (Q 0) (Z 0), cCl Q, cHi cL Q (Z 7), cLn cI (Q 1) (Z 1), cLn cI (Q 2) (Z 2), cLn cI (Q 3) (Z 3), cLn cI (Q 4) (Z 4), cLo cI (Q 0) (Z 0)]) := hw.front 10 rfl rfl; have hw : y_W D cI cC cL A s _ _ (List.flatten [cSt cI (Q 0) (Z 0), cPr cI (Q 0) (Z 0), cTx cI cC (Q 6) (Z 6), cSt cI (Q 5) w, cCl Q, cHi cL Q (Z 7), cLn cI (Q 1) (Z 1), cLn cI (Q 2) (Z 2), cLn cI (Q 3) (Z 3), cLn cI (Q 4) (Z 4), cLo cI (Q 0) (Z 0)]) := hw.front 3 rfl rfl; have hw : y_W D cI cC cL A s _ _ (List.flatten [cLo cI (Q 0) (Z 0), cSt cI (Q 0) (Z 0), cPr cI (Q 0) (Z 0), cTx cI cC (Q 6) (Z 6), cSt cI (Q 5) w, cCl Q, cHi cL Q (Z 7), cLn cI (Q 1) (Z 1), cLn cI (Q 2) (Z 2), cLn cI (Q 3) (Z 3), cLn cI (Q 4) (Z 4)]) := hw.front 10 rfl rfl; have hw : y_W D cI cC cL A s _ _ (List.flatten [cLn cI (Q 4) (Z 4), cLo cI (Q 0) (Z 0), cSt cI (Q 0) (Z 0), cPr cI (Q 0) (Z 0), cTx cI cC (Q 6) (Z 6), cSt cI (Q 5) w, cCl Q, cHi cL Q (Z 7), cLn cI (Q 1) (Z 1), cLn cI (Q 2) (Z 2), cLn cI (Q 3) (Z 3)]) := hw.front 10 rfl rfl; have hw : y_W D cI cC cL A s _ _ (List.flatten [cLn cI (Q 3) (Z 3), cLn cI (Q 4) (Z 4), cLo cI (Q 0) (Z 0), cSt cI (Q 0) (Z 0), cPr cI (Q 0) (Z 0), cTx cI cC (Q 6) (Z 6), cSt cI (Q 5) w, cCl Q, cHi cL Q (Z 7), cLn cI (Q 1) (Z 1), cLn cI (Q 2) (Z 2)]) := hw.front 10 rfl rfl; have hw : y_W D cI cC cL A s _ _ (List.flatten [cLn cI (Q 2) (Z 2), cLn cI (Q 3) (Z 3), cLn cI (Q 4) (Z 4), cLo cI (Q 0) (Z 0), cSt cI (Q 0) (Z 0), cPr cI (Q 0) (Z 0), cTx cI cC (Q 6) (Z 6), cSt cI (Q 5) w, cCl Q, cHi cL Q (Z 7), cLn cI (Q 1) (Z 1)]) := hw.front 10 rfl rfl; have hw : y_W D cI cC cL A s _ _ (List.flatten [cLn cI (Q 1) (Z 1), cLn cI (Q 2) (Z 2), cLn cI (Q 3) (Z 3), cLn cI (Q 4) (Z 4), cLo cI (Q 0) (Z 0), cSt cI (Q 0) (Z 0), cPr cI (Q 0) (Z 0), cTx cI cC (Q 6) (Z 6), cSt cI (Q 5) w, cCl Q, cHi cL Q (Z 7)]) := hw.front 10 rfl rfl; have hw : y_W D cI cC cL A s _ _ (List.flatten [cHi cL Q (Z 7), cLn cI (Q 1) (Z 1), cLn cI (Q 2) (Z 2), cLn cI (Q 3) (Z 3), cLn cI (Q 4) (Z 4), cLo cI (Q 0) (Z 0), cSt cI (Q 0) (Z 0), cPr cI (Q 0) (Z 0), cTx cI cC (Q 6) (Z 6), cSt cI (Q 5) w, cCl Q]) := hw.front 10 rfl rfl; have hw : y_W D cI cC cL A s _ _ (List.flatten [cCl Q, cHi cL Q (Z 7), cLn cI (Q 1) (Z 1), cLn cI (Q 2) (Z 2), cLn cI (Q 3) (Z 3), cLn cI (Q 4) (Z 4), cLo cI (Q 0) (Z 0), cSt cI (Q 0) (Z 0), cPr cI (Q 0) (Z 0), cTx cI cC (Q 6) (Z 6), cSt cI (Q 5) w]) := hw.front 10 rfl rfl; rw [hJ]; exact hw) (by rw [hJ]) dX5_emptyAfter_61
      · skip
        have c_3N : ¬ 400 < k := fun z => c_3 ((nI_ltI (a := 400) (b := k) (by omega) (by omega)).mpr z)
        refine lv_aload_n S.1 S.2.1 dX5_emptyAfter_23 rfl (lv_at hl 0 rfl) ?_
        refine y_get S hw (C := RX5) (T := TX5) (N := 4) i_X5_emptyAfter_X5 8 rfl rfl 3 (by decide) f_X5_emptyAfter_33 rfl dX5_emptyAfter_24 ?_
        refine y_segI (sc := [cSt cI (Q 5) w]) (sr := [cSt cI (Q 0) (Z 0), cCl Q, cHi cL Q (Z 7), cLn cI (Q 1) (Z 1), cLn cI (Q 2) (Z 2), cLn cI (Q 3) (Z 3), cLn cI (Q 4) (Z 4), cLo cI (Q 0) (Z 0), cPr cI (Q 0) (Z 0), cTx cI cC (Q 6) (Z 6)]) (As := []) (rest := []) S hw hl.1 (c_X3_inStages l D cI cC cL (Q 5) w n (hw0) (by omega)) (cwV 0 S.2.2.2.2 gX5_emptyAfter_X3_inStages rfl rfl rfl (by decide +kernel) ⟨Nat.le_of_ble_eq_true rfl, Nat.le_of_ble_eq_true rfl⟩) (F' := (fun _ : Unit => [cSt cI (Q 5) w])) (by first | rfl | simp only [List.flatten_cons, List.flatten_nil, List.append_nil, List.append_assoc]) (fun v => by first | rfl | simp only [List.flatten_cons, List.flatten_nil, List.append_nil, List.append_assoc]) 0 rfl rfl rfl (Nat.le_of_ble_eq_true rfl) dX5_emptyAfter_27 rfl ⟨Nat.le_refl _, Nat.le_refl _⟩ (fun H locs v_4 x_5 ev_4 ex_5 hw => ?_)
        have hw : y_W D cI cC cL A s H locs (List.flatten [cSt cI (Q 5) w, cSt cI (Q 0) (Z 0), cCl Q, cHi cL Q (Z 7), cLn cI (Q 1) (Z 1), cLn cI (Q 2) (Z 2), cLn cI (Q 3) (Z 3), cLn cI (Q 4) (Z 4), cLo cI (Q 0) (Z 0), cPr cI (Q 0) (Z 0), cTx cI cC (Q 6) (Z 6)]) := hw
        subst ex_5
        refine lv_if_ne (tgt := 35) S.1 S.2.1 dX5_emptyAfter_30 (by decide) (fun c_6 => ?_) (fun c_6 => ?_)
        · skip
          refine lv_aload_n S.1 S.2.1 dX5_emptyAfter_35 rfl (lv_at hl 0 rfl) ?_
          refine y_get S hw (C := RX5) (T := TX5) (N := 4) i_X5_emptyAfter_X5 8 rfl rfl 3 (by decide) f_X5_emptyAfter_33 rfl dX5_emptyAfter_36 ?_
          refine lv_iconst (v := 0) S.1 S.2.1 dX5_emptyAfter_39 (by decide) ?_
          refine lv_aload_n S.1 S.2.1 dX5_emptyAfter_40 rfl (lv_at hl 0 rfl) ?_
          refine y_get S hw (C := RX5) (T := TX5) (N := 4) i_X5_emptyAfter_X5 8 rfl rfl 0 (by decide) f_X5_emptyAfter_12 rfl dX5_emptyAfter_41 ?_
          refine y_get S hw (C := RX1) (T := TX1) (N := 9) i_X5_emptyAfter_X1 63 rfl rfl 2 (by decide) f_X5_emptyAfter_78 rfl dX5_emptyAfter_44 ?_
          refine lv_iconst (v := 0) S.1 S.2.1 dX5_emptyAfter_47 (by decide) ?_
          refine y_iald S hw 64 (k := 0) rfl (by omega) (Nat.le_of_ble_eq_true rfl) dX5_emptyAfter_48 ?_
          refine y_segI (sc := [cSt cI (Q 5) w]) (sr := [cSt cI (Q 0) (Z 0), cCl Q, cHi cL Q (Z 7), cLn cI (Q 1) (Z 1), cLn cI (Q 2) (Z 2), cLn cI (Q 3) (Z 3), cLn cI (Q 4) (Z 4), cLo cI (Q 0) (Z 0), cPr cI (Q 0) (Z 0), cTx cI cC (Q 6) (Z 6)]) (As := [.int 0, .int ((Z 0 10) 0)]) (rest := []) S hw hl.1 (c_X3_handOver l D cI cC cL (Q 5) w 0 ((Z 0 10) 0) n hw0 (by omega)) (cwV 2 S.2.2.2.2 gX5_emptyAfter_X3_handOver rfl rfl rfl (by decide +kernel) ⟨Nat.le_of_ble_eq_true rfl, Nat.le_of_ble_eq_true rfl⟩) (F' := (fun v_7 : U => [cSt cI (Q 5) v_7])) (by first | rfl | simp only [List.flatten_cons, List.flatten_nil, List.append_nil, List.append_assoc]) (fun v => by first | rfl | simp only [List.flatten_cons, List.flatten_nil, List.append_nil, List.append_assoc]) 0 rfl rfl rfl (Nat.le_of_ble_eq_true rfl) dX5_emptyAfter_49 rfl ⟨Nat.le_refl _, Nat.le_refl _⟩ (fun H locs v_7 x_8 ev_7 ex_8 hw => ?_)
          have hw : y_W D cI cC cL A s H locs (List.flatten [cSt cI (Q 5) v_7, cSt cI (Q 0) (Z 0), cCl Q, cHi cL Q (Z 7), cLn cI (Q 1) (Z 1), cLn cI (Q 2) (Z 2), cLn cI (Q 3) (Z 3), cLn cI (Q 4) (Z 4), cLo cI (Q 0) (Z 0), cPr cI (Q 0) (Z 0), cTx cI cC (Q 6) (Z 6)]) := hw
          subst ex_8
          refine lv_pop S.1 S.2.1 dX5_emptyAfter_52 rfl ?_
          refine lv_iinc (v := (nI (k + 1))) (lv' := [(1, .int (nI (k + 1))), (0, .ref (Q 8 0))]) S.1 S.2.1 dX5_emptyAfter_53 hl (k := 1) rfl (by first | exact nI_1 _ | exact nI_add _ _) (by decide) rfl (fun ls hl => ?_)
          refine lv_goto (tgt := 16) S.1 S.2.1 dX5_emptyAfter_56 (by decide) ?_
          exact ih16 (k + 1) v_7 (by omega) (by rw [ev_7]; exact jHO_n hw0) (by rw [← he, ev_7, jEA_s (g := 401 - k) (by omega) c_6, show 401 - k - 1 = 401 - (k + 1) from by omega]) (by omega) _ _ ls hw (lv_sub hl [1, 0] rfl)
        · skip
          have hJ : jEA (Z 0 10 0) n 401 0 (stMix (Z 0) (Z 5)) = (w, nI k) := by rw [← he]; exact jEA_e (by omega) c_6
          refine lv_iload_n S.1 S.2.1 dX5_emptyAfter_33 rfl (lv_at hl 1 rfl) ?_
          exact ret _ _ _ _ _ (by have hw : y_W D cI cC cL A s _ _ (List.flatten [cSt cI (Q 5) w, cSt cI (Q 0) (Z 0), cCl Q, cHi cL Q (Z 7), cLn cI (Q 1) (Z 1), cLn cI (Q 2) (Z 2), cLn cI (Q 3) (Z 3), cLn cI (Q 4) (Z 4), cLo cI (Q 0) (Z 0), cPr cI (Q 0) (Z 0), cTx cI cC (Q 6) (Z 6)]) := hw.front 0 rfl rfl; have hw : y_W D cI cC cL A s _ _ (List.flatten [cTx cI cC (Q 6) (Z 6), cSt cI (Q 5) w, cSt cI (Q 0) (Z 0), cCl Q, cHi cL Q (Z 7), cLn cI (Q 1) (Z 1), cLn cI (Q 2) (Z 2), cLn cI (Q 3) (Z 3), cLn cI (Q 4) (Z 4), cLo cI (Q 0) (Z 0), cPr cI (Q 0) (Z 0)]) := hw.front 10 rfl rfl; have hw : y_W D cI cC cL A s _ _ (List.flatten [cPr cI (Q 0) (Z 0), cTx cI cC (Q 6) (Z 6), cSt cI (Q 5) w, cSt cI (Q 0) (Z 0), cCl Q, cHi cL Q (Z 7), cLn cI (Q 1) (Z 1), cLn cI (Q 2) (Z 2), cLn cI (Q 3) (Z 3), cLn cI (Q 4) (Z 4), cLo cI (Q 0) (Z 0)]) := hw.front 10 rfl rfl; have hw : y_W D cI cC cL A s _ _ (List.flatten [cSt cI (Q 0) (Z 0), cPr cI (Q 0) (Z 0), cTx cI cC (Q 6) (Z 6), cSt cI (Q 5) w, cCl Q, cHi cL Q (Z 7), cLn cI (Q 1) (Z 1), cLn cI (Q 2) (Z 2), cLn cI (Q 3) (Z 3), cLn cI (Q 4) (Z 4), cLo cI (Q 0) (Z 0)]) := hw.front 3 rfl rfl; have hw : y_W D cI cC cL A s _ _ (List.flatten [cLo cI (Q 0) (Z 0), cSt cI (Q 0) (Z 0), cPr cI (Q 0) (Z 0), cTx cI cC (Q 6) (Z 6), cSt cI (Q 5) w, cCl Q, cHi cL Q (Z 7), cLn cI (Q 1) (Z 1), cLn cI (Q 2) (Z 2), cLn cI (Q 3) (Z 3), cLn cI (Q 4) (Z 4)]) := hw.front 10 rfl rfl; have hw : y_W D cI cC cL A s _ _ (List.flatten [cLn cI (Q 4) (Z 4), cLo cI (Q 0) (Z 0), cSt cI (Q 0) (Z 0), cPr cI (Q 0) (Z 0), cTx cI cC (Q 6) (Z 6), cSt cI (Q 5) w, cCl Q, cHi cL Q (Z 7), cLn cI (Q 1) (Z 1), cLn cI (Q 2) (Z 2), cLn cI (Q 3) (Z 3)]) := hw.front 10 rfl rfl; have hw : y_W D cI cC cL A s _ _ (List.flatten [cLn cI (Q 3) (Z 3), cLn cI (Q 4) (Z 4), cLo cI (Q 0) (Z 0), cSt cI (Q 0) (Z 0), cPr cI (Q 0) (Z 0), cTx cI cC (Q 6) (Z 6), cSt cI (Q 5) w, cCl Q, cHi cL Q (Z 7), cLn cI (Q 1) (Z 1), cLn cI (Q 2) (Z 2)]) := hw.front 10 rfl rfl; have hw : y_W D cI cC cL A s _ _ (List.flatten [cLn cI (Q 2) (Z 2), cLn cI (Q 3) (Z 3), cLn cI (Q 4) (Z 4), cLo cI (Q 0) (Z 0), cSt cI (Q 0) (Z 0), cPr cI (Q 0) (Z 0), cTx cI cC (Q 6) (Z 6), cSt cI (Q 5) w, cCl Q, cHi cL Q (Z 7), cLn cI (Q 1) (Z 1)]) := hw.front 10 rfl rfl; have hw : y_W D cI cC cL A s _ _ (List.flatten [cLn cI (Q 1) (Z 1), cLn cI (Q 2) (Z 2), cLn cI (Q 3) (Z 3), cLn cI (Q 4) (Z 4), cLo cI (Q 0) (Z 0), cSt cI (Q 0) (Z 0), cPr cI (Q 0) (Z 0), cTx cI cC (Q 6) (Z 6), cSt cI (Q 5) w, cCl Q, cHi cL Q (Z 7)]) := hw.front 10 rfl rfl; have hw : y_W D cI cC cL A s _ _ (List.flatten [cHi cL Q (Z 7), cLn cI (Q 1) (Z 1), cLn cI (Q 2) (Z 2), cLn cI (Q 3) (Z 3), cLn cI (Q 4) (Z 4), cLo cI (Q 0) (Z 0), cSt cI (Q 0) (Z 0), cPr cI (Q 0) (Z 0), cTx cI cC (Q 6) (Z 6), cSt cI (Q 5) w, cCl Q]) := hw.front 10 rfl rfl; have hw : y_W D cI cC cL A s _ _ (List.flatten [cCl Q, cHi cL Q (Z 7), cLn cI (Q 1) (Z 1), cLn cI (Q 2) (Z 2), cLn cI (Q 3) (Z 3), cLn cI (Q 4) (Z 4), cLo cI (Q 0) (Z 0), cSt cI (Q 0) (Z 0), cPr cI (Q 0) (Z 0), cTx cI cC (Q 6) (Z 6), cSt cI (Q 5) w]) := hw.front 10 rfl rfl; rw [hJ]; exact hw) (by rw [hJ]) dX5_emptyAfter_34
  exact lp16 ((401 - 0) + 1) 0 v_1 (by omega) (by rw [ev_1]; exact hn) (by rw [ev_1]) (Nat.lt_succ_self _) _ _ ls hw (lv_sub hl [1, 0] rfl)

theorem i_X5_outputWithoutShares_X5 : ∀ w ∈ u_ws RX5 TX5 4, w ∈ wsX5_outputWithoutShares := by decide +kernel
theorem f_X5_outputWithoutShares_33 : Cond.fieldLink RX5 33 "ChargeLines" "trial" "LChargeLines$Stages;" ∈ wsX5_outputWithoutShares := by decide +kernel
theorem f_X5_outputWithoutShares_12 : Cond.fieldLink RX5 12 "ChargeLines" "line" "LChargeLines$Line;" ∈ wsX5_outputWithoutShares := by decide +kernel
theorem i_X5_outputWithoutShares_X1 : ∀ w ∈ u_ws RX1 TX1 9, w ∈ wsX5_outputWithoutShares := by decide +kernel
theorem f_X5_outputWithoutShares_54 : Cond.fieldLink RX5 54 "ChargeLines$Line" "stages" "LChargeLines$Stages;" ∈ wsX5_outputWithoutShares := by decide +kernel
theorem i_X5_outputWithoutShares_X3 : ∀ w ∈ u_ws RX3 TX3 8, w ∈ wsX5_outputWithoutShares := by decide +kernel
theorem f_X5_outputWithoutShares_187 : Cond.fieldLink RX5 187 "ChargeLines$Stages" "many" "I" ∈ wsX5_outputWithoutShares := by decide +kernel
theorem f_X5_outputWithoutShares_78 : Cond.fieldLink RX5 78 "ChargeLines$Line" "settings" "[I" ∈ wsX5_outputWithoutShares := by decide +kernel
set_option maxHeartbeats 4000000 in
set_option maxRecDepth 100000 in
/-- ChargeLines.outputWithoutShares -/
theorem c_X5_outputWithoutShares (l : Launch) (D : va_G) (cI cC cL : ClassId) (Q : Nat → Nat → Nat) (Z : Nat → U) (w : U) (n k : Nat) (hn : Z 0 0 0 = nI n) (h10 : n ≤ 10) (hk : k < n) : y_MI l yX5_outputWithoutShares wsX5_outputWithoutShares 4 95 D cI cC cL [.ref (Q 8 0), .int (nI k)] (cOW cI Q Z w) ((jOW (Z 0) w n k).2) (fun v : U => cOW cI Q Z v) ((jOW (Z 0) w n k).1) := by
  refine y_startI (cc := cX5_outputWithoutShares) (maxL := 2) (ret := some .int) (by decide +kernel) rfl (Nat.le_of_ble_eq_true rfl) ⟨_, rfl, fun x _ => rfl⟩ (fun h => by cases h) ?_
  intro p e s mm args below meth c A QQ ls S hw ret hl
  have S : CallFix p mm c cX5_outputWithoutShares 2 s args wsX5_outputWithoutShares RX5 := S
  have hw : y_W D cI cC cL A s s.heap [] (List.flatten [cCl Q, cLo cI (Q 0) (Z 0), cSt cI (Q 0) (Z 0), cSt cI (Q 5) w]) := hw
  have hl : lv_has ls 2 [(0, .ref (Q 8 0)), (1, .int (nI k))] := hl
  refine lv_aload_n S.1 S.2.1 dX5_outputWithoutShares_0 rfl (lv_at hl 0 rfl) ?_
  refine y_get S hw (C := RX5) (T := TX5) (N := 4) i_X5_outputWithoutShares_X5 0 rfl rfl 3 (by decide) f_X5_outputWithoutShares_33 rfl dX5_outputWithoutShares_1 ?_
  refine lv_aload_n S.1 S.2.1 dX5_outputWithoutShares_4 rfl (lv_at hl 0 rfl) ?_
  refine y_get S hw (C := RX5) (T := TX5) (N := 4) i_X5_outputWithoutShares_X5 0 rfl rfl 0 (by decide) f_X5_outputWithoutShares_12 rfl dX5_outputWithoutShares_5 ?_
  refine y_get S hw (C := RX1) (T := TX1) (N := 9) i_X5_outputWithoutShares_X1 1 rfl rfl 0 (by decide) f_X5_outputWithoutShares_54 rfl dX5_outputWithoutShares_8 ?_
  have hw : y_W D cI cC cL A s _ _ (List.flatten [cSt cI (Q 0) (Z 0), cCl Q, cLo cI (Q 0) (Z 0), cSt cI (Q 5) w]) := hw.front 2 rfl rfl
  have hw : y_W D cI cC cL A s _ _ (List.flatten [cSt cI (Q 5) w, cSt cI (Q 0) (Z 0), cCl Q, cLo cI (Q 0) (Z 0)]) := hw.front 3 rfl rfl
  refine y_segV (sc := [cSt cI (Q 5) w, cSt cI (Q 0) (Z 0)]) (sr := [cCl Q, cLo cI (Q 0) (Z 0)]) (As := [.ref (Q 0 0)]) (rest := []) S hw hl.1 (c_X3_copyFrom l D cI cC cL (Q 5) (Q 0) w (Z 0)) (cwV 1 S.2.2.2.2 gX5_outputWithoutShares_X3_copyFrom rfl rfl rfl (by decide +kernel) ⟨Nat.le_of_ble_eq_true rfl, Nat.le_of_ble_eq_true rfl⟩) (F' := (fun v_1 : U => [cSt cI (Q 5) v_1, cSt cI (Q 0) (Z 0)])) (by first | rfl | simp only [List.flatten_cons, List.flatten_nil, List.append_nil, List.append_assoc]) (fun v => by first | rfl | simp only [List.flatten_cons, List.flatten_nil, List.append_nil, List.append_assoc]) 0 rfl rfl rfl (Nat.le_of_ble_eq_true rfl) dX5_outputWithoutShares_11 rfl ⟨Nat.le_refl _, Nat.le_refl _⟩ (fun H locs v_1 ev_1 hw => ?_)
  have hw : y_W D cI cC cL A s H locs (List.flatten [cSt cI (Q 5) v_1, cSt cI (Q 0) (Z 0), cCl Q, cLo cI (Q 0) (Z 0)]) := hw
  refine lv_aload_n S.1 S.2.1 dX5_outputWithoutShares_14 rfl (lv_at hl 0 rfl) ?_
  refine y_get S hw (C := RX5) (T := TX5) (N := 4) i_X5_outputWithoutShares_X5 8 rfl rfl 3 (by decide) f_X5_outputWithoutShares_33 rfl dX5_outputWithoutShares_15 ?_
  refine lv_iload_n S.1 S.2.1 dX5_outputWithoutShares_18 rfl (lv_at hl 1 rfl) ?_
  refine lv_iconst (v := 0) S.1 S.2.1 dX5_outputWithoutShares_19 (by decide) ?_
  refine lv_iconst (v := 0) S.1 S.2.1 dX5_outputWithoutShares_20 (by decide) ?_
  refine y_segV (sc := [cSt cI (Q 5) v_1]) (sr := [cSt cI (Q 0) (Z 0), cCl Q, cLo cI (Q 0) (Z 0)]) (As := [.int (nI k), .int 0, .int 0]) (rest := []) S hw hl.1 (c_X3_changeShares l D cI cC cL (Q 5) v_1 k 0 0 (by omega)) (cwV 3 S.2.2.2.2 gX5_outputWithoutShares_X3_changeShares rfl rfl rfl (by decide +kernel) ⟨Nat.le_of_ble_eq_true rfl, Nat.le_of_ble_eq_true rfl⟩) (F' := (fun v_3 : U => [cSt cI (Q 5) v_3])) (by first | rfl | simp only [List.flatten_cons, List.flatten_nil, List.append_nil, List.append_assoc]) (fun v => by first | rfl | simp only [List.flatten_cons, List.flatten_nil, List.append_nil, List.append_assoc]) 0 rfl rfl rfl (Nat.le_of_ble_eq_true rfl) dX5_outputWithoutShares_21 rfl ⟨Nat.le_refl _, Nat.le_refl _⟩ (fun H locs v_3 ev_3 hw => ?_)
  have hw : y_W D cI cC cL A s H locs (List.flatten [cSt cI (Q 5) v_3, cSt cI (Q 0) (Z 0), cCl Q, cLo cI (Q 0) (Z 0)]) := hw
  refine lv_aload_n S.1 S.2.1 dX5_outputWithoutShares_24 rfl (lv_at hl 0 rfl) ?_
  refine y_get S hw (C := RX5) (T := TX5) (N := 4) i_X5_outputWithoutShares_X5 8 rfl rfl 3 (by decide) f_X5_outputWithoutShares_33 rfl dX5_outputWithoutShares_25 ?_
  refine lv_sipush (v := 10000) S.1 S.2.1 dX5_outputWithoutShares_28 (by decide) ?_
  refine lv_aload_n S.1 S.2.1 dX5_outputWithoutShares_31 rfl (lv_at hl 0 rfl) ?_
  refine y_get S hw (C := RX5) (T := TX5) (N := 4) i_X5_outputWithoutShares_X5 8 rfl rfl 3 (by decide) f_X5_outputWithoutShares_33 rfl dX5_outputWithoutShares_32 ?_
  refine y_get S hw (C := RX3) (T := TX3) (N := 8) i_X5_outputWithoutShares_X3 0 rfl rfl 0 (by decide) f_X5_outputWithoutShares_187 rfl dX5_outputWithoutShares_35 ?_
  refine y_top (y := (nI n)) (by rw [ev_3, ev_1]; exact hn) ?_
  refine lv_aload_n S.1 S.2.1 dX5_outputWithoutShares_38 rfl (lv_at hl 0 rfl) ?_
  refine y_get S hw (C := RX5) (T := TX5) (N := 4) i_X5_outputWithoutShares_X5 8 rfl rfl 0 (by decide) f_X5_outputWithoutShares_12 rfl dX5_outputWithoutShares_39 ?_
  refine y_get S hw (C := RX1) (T := TX1) (N := 9) i_X5_outputWithoutShares_X1 9 rfl rfl 2 (by decide) f_X5_outputWithoutShares_78 rfl dX5_outputWithoutShares_42 ?_
  refine lv_iconst (v := 0) S.1 S.2.1 dX5_outputWithoutShares_45 (by decide) ?_
  refine y_iald S hw 10 (k := 0) rfl (by omega) (Nat.le_of_ble_eq_true rfl) dX5_outputWithoutShares_46 ?_
  refine y_segI (sc := [cSt cI (Q 5) v_3]) (sr := [cSt cI (Q 0) (Z 0), cCl Q, cLo cI (Q 0) (Z 0)]) (As := [.int 10000, .int (nI n), .int ((Z 0 10) 0)]) (rest := []) S hw hl.1 (c_X3_outputOfLone l D cI cC cL (Q 5) v_3 10000 ((Z 0 10) 0) n n (by rw [ev_3, ev_1]; exact hn) (by omega) (by omega)) (cwV 3 S.2.2.2.2 gX5_outputWithoutShares_X3_outputOfLone rfl rfl rfl (by decide +kernel) ⟨Nat.le_of_ble_eq_true rfl, Nat.le_of_ble_eq_true rfl⟩) (F' := (fun v_5 : U => [cSt cI (Q 5) v_5])) (by first | rfl | simp only [List.flatten_cons, List.flatten_nil, List.append_nil, List.append_assoc]) (fun v => by first | rfl | simp only [List.flatten_cons, List.flatten_nil, List.append_nil, List.append_assoc]) 0 rfl rfl rfl (Nat.le_of_ble_eq_true rfl) dX5_outputWithoutShares_47 rfl ⟨Nat.le_refl _, Nat.le_refl _⟩ (fun H locs v_5 x_6 ev_5 ex_6 hw => ?_)
  have hw : y_W D cI cC cL A s H locs (List.flatten [cSt cI (Q 5) v_5, cSt cI (Q 0) (Z 0), cCl Q, cLo cI (Q 0) (Z 0)]) := hw
  subst ex_6
  exact ret _ _ _ _ _ (by have hw : y_W D cI cC cL A s _ _ (List.flatten [cSt cI (Q 5) v_5, cSt cI (Q 0) (Z 0), cCl Q, cLo cI (Q 0) (Z 0)]) := hw.front 0 rfl rfl; have hw : y_W D cI cC cL A s _ _ (List.flatten [cSt cI (Q 0) (Z 0), cSt cI (Q 5) v_5, cCl Q, cLo cI (Q 0) (Z 0)]) := hw.front 1 rfl rfl; have hw : y_W D cI cC cL A s _ _ (List.flatten [cLo cI (Q 0) (Z 0), cSt cI (Q 0) (Z 0), cSt cI (Q 5) v_5, cCl Q]) := hw.front 3 rfl rfl; have hw : y_W D cI cC cL A s _ _ (List.flatten [cCl Q, cLo cI (Q 0) (Z 0), cSt cI (Q 0) (Z 0), cSt cI (Q 5) v_5]) := hw.front 3 rfl rfl; rw [show (jOW (Z 0) w n k).1 = v_5 from by rw [ev_5, ev_3, ev_1]; rfl]; exact hw) (by rw [ev_3, ev_1]; rfl) dX5_outputWithoutShares_50

theorem i_X5_worn_X5 : ∀ w ∈ u_ws RX5 TX5 4, w ∈ wsX5_worn := by decide +kernel
theorem f_X5_worn_12 : Cond.fieldLink RX5 12 "ChargeLines" "line" "LChargeLines$Line;" ∈ wsX5_worn := by decide +kernel
theorem i_X5_worn_X1 : ∀ w ∈ u_ws RX1 TX1 9, w ∈ wsX5_worn := by decide +kernel
theorem f_X5_worn_54 : Cond.fieldLink RX5 54 "ChargeLines$Line" "stages" "LChargeLines$Stages;" ∈ wsX5_worn := by decide +kernel
theorem i_X5_worn_X3 : ∀ w ∈ u_ws RX3 TX3 8, w ∈ wsX5_worn := by decide +kernel
theorem f_X5_worn_187 : Cond.fieldLink RX5 187 "ChargeLines$Stages" "many" "I" ∈ wsX5_worn := by decide +kernel
theorem k_X5_worn_41 : Cond.constant RX5 41 (-2000001) ∈ wsX5_worn := by decide +kernel
set_option maxHeartbeats 4000000 in
set_option maxRecDepth 100000 in
/-- ChargeLines.worn -/
theorem c_X5_worn (l : Launch) (D : va_G) (cI cC cL : ClassId) (Q : Nat → Nat → Nat) (Z : Nat → U) (x : Int32) (n : Nat) (hn : Z 0 0 0 = nI n) (h10 : n ≤ 10) (h1n : 1 ≤ n) : y_MI l yX5_worn wsX5_worn 5 116 D cI cC cL [.ref (Q 8 0), .int x] (cWd cI cC cL Q Z) (jWoR Z x n) (fun z : Nat → U => cWd cI cC cL Q z) (jWoU Z x n) := by
  refine y_startI (cc := cX5_worn) (maxL := 6) (ret := some .int) (by decide +kernel) rfl (Nat.le_of_ble_eq_true rfl) ⟨_, rfl, fun x _ => rfl⟩ (fun h => by cases h) ?_
  intro p e s mm args below meth c A QQ ls S hw ret hl
  have S : CallFix p mm c cX5_worn 6 s args wsX5_worn RX5 := S
  have hw : y_W D cI cC cL A s s.heap [] (List.flatten [cCl Q, cHi cL Q (Z 7), cLn cI (Q 1) (Z 1), cLn cI (Q 2) (Z 2), cLn cI (Q 3) (Z 3), cLn cI (Q 4) (Z 4), cLo cI (Q 0) (Z 0), cSt cI (Q 0) (Z 0), cPr cI (Q 0) (Z 0), cTx cI cC (Q 6) (Z 6), cSt cI (Q 5) (Z 5)]) := hw
  have hl : lv_has ls 6 [(0, .ref (Q 8 0)), (1, .int x)] := hl
  refine lv_iload_n S.1 S.2.1 dX5_worn_0 rfl (lv_at hl 1 rfl) ?_
  refine lv_iconst (v := 0) S.1 S.2.1 dX5_worn_1 (by decide) ?_
  refine lv_iconst (v := 1) S.1 S.2.1 dX5_worn_2 (by decide) ?_
  refine y_segSI (sc := []) (sr := [cCl Q, cHi cL Q (Z 7), cLn cI (Q 1) (Z 1), cLn cI (Q 2) (Z 2), cLn cI (Q 3) (Z 3), cLn cI (Q 4) (Z 4), cLo cI (Q 0) (Z 0), cSt cI (Q 0) (Z 0), cPr cI (Q 0) (Z 0), cTx cI cC (Q 6) (Z 6), cSt cI (Q 5) (Z 5)]) (As := [.int x, .int 0, .int 1]) (rest := []) S hw hl.1 (c_X5_outside l D cI cC cL x 0 1) (va_cwS 3 S.2.2.2.2 gX5_worn_X5_outside rfl rfl rfl (by decide +kernel) ⟨Nat.le_of_ble_eq_true rfl, Nat.le_of_ble_eq_true rfl⟩) (F' := (fun _ : Unit => [])) (by first | rfl | simp only [List.flatten_cons, List.flatten_nil, List.append_nil, List.append_assoc]) (fun v => by first | rfl | simp only [List.flatten_cons, List.flatten_nil, List.append_nil, List.append_assoc]) rfl (Nat.le_of_ble_eq_true rfl) dX5_worn_3 rfl ⟨Nat.le_refl _, Nat.le_refl _⟩ (fun H locs v_1 x_2 ev_1 ex_2 hw => ?_)
  have hw : y_W D cI cC cL A s H locs (List.flatten [cCl Q, cHi cL Q (Z 7), cLn cI (Q 1) (Z 1), cLn cI (Q 2) (Z 2), cLn cI (Q 3) (Z 3), cLn cI (Q 4) (Z 4), cLo cI (Q 0) (Z 0), cSt cI (Q 0) (Z 0), cPr cI (Q 0) (Z 0), cTx cI cC (Q 6) (Z 6), cSt cI (Q 5) (Z 5)]) := hw
  subst ex_2
  refine lv_if_eq (tgt := 12) S.1 S.2.1 dX5_worn_6 (by decide) (fun c_3 => ?_) (fun c_3 => ?_)
  · skip
    refine lv_iconst (v := 0) S.1 S.2.1 dX5_worn_12 (by decide) ?_
    refine lv_istore_n (lv' := [(2, .int 0), (0, .ref (Q 8 0)), (1, .int x)]) S.1 S.2.1 dX5_worn_13 rfl hl (by decide) rfl (fun ls hl => ?_)
    refine lv_aload_n S.1 S.2.1 dX5_worn_14 rfl (lv_at hl 1 rfl) ?_
    refine lv_iconst (v := 0) S.1 S.2.1 dX5_worn_15 (by decide) ?_
    have hw : y_W D cI cC cL A s _ _ (List.flatten [cSt cI (Q 5) (Z 5), cCl Q, cHi cL Q (Z 7), cLn cI (Q 1) (Z 1), cLn cI (Q 2) (Z 2), cLn cI (Q 3) (Z 3), cLn cI (Q 4) (Z 4), cLo cI (Q 0) (Z 0), cSt cI (Q 0) (Z 0), cPr cI (Q 0) (Z 0), cTx cI cC (Q 6) (Z 6)]) := hw.front 10 rfl rfl
    have hw : y_W D cI cC cL A s _ _ (List.flatten [cSt cI (Q 0) (Z 0), cSt cI (Q 5) (Z 5), cCl Q, cHi cL Q (Z 7), cLn cI (Q 1) (Z 1), cLn cI (Q 2) (Z 2), cLn cI (Q 3) (Z 3), cLn cI (Q 4) (Z 4), cLo cI (Q 0) (Z 0), cPr cI (Q 0) (Z 0), cTx cI cC (Q 6) (Z 6)]) := hw.front 8 rfl rfl
    have hw : y_W D cI cC cL A s _ _ (List.flatten [cLo cI (Q 0) (Z 0), cSt cI (Q 0) (Z 0), cSt cI (Q 5) (Z 5), cCl Q, cHi cL Q (Z 7), cLn cI (Q 1) (Z 1), cLn cI (Q 2) (Z 2), cLn cI (Q 3) (Z 3), cLn cI (Q 4) (Z 4), cPr cI (Q 0) (Z 0), cTx cI cC (Q 6) (Z 6)]) := hw.front 8 rfl rfl
    have hw : y_W D cI cC cL A s _ _ (List.flatten [cCl Q, cLo cI (Q 0) (Z 0), cSt cI (Q 0) (Z 0), cSt cI (Q 5) (Z 5), cHi cL Q (Z 7), cLn cI (Q 1) (Z 1), cLn cI (Q 2) (Z 2), cLn cI (Q 3) (Z 3), cLn cI (Q 4) (Z 4), cPr cI (Q 0) (Z 0), cTx cI cC (Q 6) (Z 6)]) := hw.front 3 rfl rfl
    refine y_segI (sc := [cCl Q, cLo cI (Q 0) (Z 0), cSt cI (Q 0) (Z 0), cSt cI (Q 5) (Z 5)]) (sr := [cHi cL Q (Z 7), cLn cI (Q 1) (Z 1), cLn cI (Q 2) (Z 2), cLn cI (Q 3) (Z 3), cLn cI (Q 4) (Z 4), cPr cI (Q 0) (Z 0), cTx cI cC (Q 6) (Z 6)]) (As := [.int 0]) (rest := []) S hw hl.1 (c_X5_outputWithoutShares l D cI cC cL Q Z (Z 5) n 0 hn h10 (by omega)) (cwV 1 S.2.2.2.2 gX5_worn_X5_outputWithoutShares rfl rfl rfl (by decide +kernel) ⟨Nat.le_of_ble_eq_true rfl, Nat.le_of_ble_eq_true rfl⟩) (F' := (fun v_4 : U => [cCl Q, cLo cI (Q 0) (Z 0), cSt cI (Q 0) (Z 0), cSt cI (Q 5) v_4])) (by first | rfl | simp only [List.flatten_cons, List.flatten_nil, List.append_nil, List.append_assoc]) (fun v => by first | rfl | simp only [List.flatten_cons, List.flatten_nil, List.append_nil, List.append_assoc]) 0 rfl rfl rfl (Nat.le_of_ble_eq_true rfl) dX5_worn_16 rfl ⟨Nat.le_refl _, Nat.le_refl _⟩ (fun H locs v_4 x_5 ev_4 ex_5 hw => ?_)
    have hw : y_W D cI cC cL A s H locs (List.flatten [cCl Q, cLo cI (Q 0) (Z 0), cSt cI (Q 0) (Z 0), cSt cI (Q 5) v_4, cHi cL Q (Z 7), cLn cI (Q 1) (Z 1), cLn cI (Q 2) (Z 2), cLn cI (Q 3) (Z 3), cLn cI (Q 4) (Z 4), cPr cI (Q 0) (Z 0), cTx cI cC (Q 6) (Z 6)]) := hw
    subst ex_5
    refine lv_istore_n (lv' := [(3, .int ((jOW (Z 0) (Z 5) n 0).2)), (2, .int 0), (0, .ref (Q 8 0)), (1, .int x)]) S.1 S.2.1 dX5_worn_19 rfl hl (by decide) rfl (fun ls hl => ?_)
    refine lv_iconst (v := 1) S.1 S.2.1 dX5_worn_20 (by decide) ?_
    refine lv_istore (lv' := [(4, .int 1), (3, .int ((jOW (Z 0) (Z 5) n 0).2)), (2, .int 0), (0, .ref (Q 8 0)), (1, .int x)]) S.1 S.2.1 dX5_worn_21 hl (by decide) rfl (fun ls hl => ?_)
    have lp23 : ∀ (fuel : Nat) (i : Nat) (w : U) (z2 : Int32) (z3 : Int32), (i + 1 ≤ n) → ((w, z2, z3) = jWn (Z 0) (Z 5) n i) → (n - i) < fuel → ∀ (H : Heap) (locs : List Loc) (ls : Array Slot), y_W D cI cC cL A s H locs (List.flatten [cCl Q, cLo cI (Q 0) (Z 0), cSt cI (Q 0) (Z 0), cSt cI (Q 5) w, cHi cL Q (Z 7), cLn cI (Q 1) (Z 1), cLn cI (Q 2) (Z 2), cLn cI (Q 3) (Z 3), cLn cI (Q 4) (Z 4), cPr cI (Q 0) (Z 0), cTx cI cC (Q 6) (Z 6)]) → lv_has ls 6 [(0, .ref (Q 8 0)), (1, .int x), (2, .int z2), (3, .int z3), (4, .int (nI (i + 1)))] → W p l e (y_R 5 116) s mm args below meth c H locs 0 0 QQ (F0 mm 23 ls []) := by
      intro fuel
      induction fuel with
      | zero =>
        intro i w z2 z3 hi hv hfu
        exact absurd hfu (Nat.not_lt_zero _)
      | succ fuel ih23 =>
        intro i w z2 z3 hi hv hfu H locs ls hw hl
        refine lv_iload S.1 S.2.1 dX5_worn_23 (lv_at hl 4 rfl) ?_
        refine lv_aload_n S.1 S.2.1 dX5_worn_25 rfl (lv_at hl 0 rfl) ?_
        refine y_get S hw (C := RX5) (T := TX5) (N := 4) i_X5_worn_X5 0 rfl rfl 0 (by decide) f_X5_worn_12 rfl dX5_worn_26 ?_
        refine y_get S hw (C := RX1) (T := TX1) (N := 9) i_X5_worn_X1 1 rfl rfl 0 (by decide) f_X5_worn_54 rfl dX5_worn_29 ?_
        refine y_get S hw (C := RX3) (T := TX3) (N := 8) i_X5_worn_X3 7 rfl rfl 0 (by decide) f_X5_worn_187 rfl dX5_worn_32 ?_
        refine y_top (y := (nI n)) (hn) ?_
        refine lv_icmp_ge (tgt := 64) S.1 S.2.1 dX5_worn_35 (by decide) (fun c_6 => ?_) (fun c_6 => ?_)
        · skip
          have c_6N : n ≤ (i + 1) := (nI_leI (a := n) (b := (i + 1)) (by omega) (by omega)).mp c_6
          have hJ : jWn (Z 0) (Z 5) n (n - 1) = (w, z2, z3) := by rw [show n - 1 = i from by omega, hv]
          refine lv_iload_n S.1 S.2.1 dX5_worn_64 rfl (lv_at hl 1 rfl) ?_
          refine lv_if_ne (tgt := 72) S.1 S.2.1 dX5_worn_65 (by decide) (fun c_7 => ?_) (fun c_7 => ?_)
          · skip
            refine lv_iload_n S.1 S.2.1 dX5_worn_72 rfl (lv_at hl 3 rfl) ?_
            exact ret _ _ _ _ _ (by have hw : y_W D cI cC cL A s _ _ (List.flatten [cSt cI (Q 5) w, cCl Q, cLo cI (Q 0) (Z 0), cSt cI (Q 0) (Z 0), cHi cL Q (Z 7), cLn cI (Q 1) (Z 1), cLn cI (Q 2) (Z 2), cLn cI (Q 3) (Z 3), cLn cI (Q 4) (Z 4), cPr cI (Q 0) (Z 0), cTx cI cC (Q 6) (Z 6)]) := hw.front 3 rfl rfl; have hw : y_W D cI cC cL A s _ _ (List.flatten [cTx cI cC (Q 6) (Z 6), cSt cI (Q 5) w, cCl Q, cLo cI (Q 0) (Z 0), cSt cI (Q 0) (Z 0), cHi cL Q (Z 7), cLn cI (Q 1) (Z 1), cLn cI (Q 2) (Z 2), cLn cI (Q 3) (Z 3), cLn cI (Q 4) (Z 4), cPr cI (Q 0) (Z 0)]) := hw.front 10 rfl rfl; have hw : y_W D cI cC cL A s _ _ (List.flatten [cPr cI (Q 0) (Z 0), cTx cI cC (Q 6) (Z 6), cSt cI (Q 5) w, cCl Q, cLo cI (Q 0) (Z 0), cSt cI (Q 0) (Z 0), cHi cL Q (Z 7), cLn cI (Q 1) (Z 1), cLn cI (Q 2) (Z 2), cLn cI (Q 3) (Z 3), cLn cI (Q 4) (Z 4)]) := hw.front 10 rfl rfl; have hw : y_W D cI cC cL A s _ _ (List.flatten [cSt cI (Q 0) (Z 0), cPr cI (Q 0) (Z 0), cTx cI cC (Q 6) (Z 6), cSt cI (Q 5) w, cCl Q, cLo cI (Q 0) (Z 0), cHi cL Q (Z 7), cLn cI (Q 1) (Z 1), cLn cI (Q 2) (Z 2), cLn cI (Q 3) (Z 3), cLn cI (Q 4) (Z 4)]) := hw.front 5 rfl rfl; have hw : y_W D cI cC cL A s _ _ (List.flatten [cLo cI (Q 0) (Z 0), cSt cI (Q 0) (Z 0), cPr cI (Q 0) (Z 0), cTx cI cC (Q 6) (Z 6), cSt cI (Q 5) w, cCl Q, cHi cL Q (Z 7), cLn cI (Q 1) (Z 1), cLn cI (Q 2) (Z 2), cLn cI (Q 3) (Z 3), cLn cI (Q 4) (Z 4)]) := hw.front 5 rfl rfl; have hw : y_W D cI cC cL A s _ _ (List.flatten [cLn cI (Q 4) (Z 4), cLo cI (Q 0) (Z 0), cSt cI (Q 0) (Z 0), cPr cI (Q 0) (Z 0), cTx cI cC (Q 6) (Z 6), cSt cI (Q 5) w, cCl Q, cHi cL Q (Z 7), cLn cI (Q 1) (Z 1), cLn cI (Q 2) (Z 2), cLn cI (Q 3) (Z 3)]) := hw.front 10 rfl rfl; have hw : y_W D cI cC cL A s _ _ (List.flatten [cLn cI (Q 3) (Z 3), cLn cI (Q 4) (Z 4), cLo cI (Q 0) (Z 0), cSt cI (Q 0) (Z 0), cPr cI (Q 0) (Z 0), cTx cI cC (Q 6) (Z 6), cSt cI (Q 5) w, cCl Q, cHi cL Q (Z 7), cLn cI (Q 1) (Z 1), cLn cI (Q 2) (Z 2)]) := hw.front 10 rfl rfl; have hw : y_W D cI cC cL A s _ _ (List.flatten [cLn cI (Q 2) (Z 2), cLn cI (Q 3) (Z 3), cLn cI (Q 4) (Z 4), cLo cI (Q 0) (Z 0), cSt cI (Q 0) (Z 0), cPr cI (Q 0) (Z 0), cTx cI cC (Q 6) (Z 6), cSt cI (Q 5) w, cCl Q, cHi cL Q (Z 7), cLn cI (Q 1) (Z 1)]) := hw.front 10 rfl rfl; have hw : y_W D cI cC cL A s _ _ (List.flatten [cLn cI (Q 1) (Z 1), cLn cI (Q 2) (Z 2), cLn cI (Q 3) (Z 3), cLn cI (Q 4) (Z 4), cLo cI (Q 0) (Z 0), cSt cI (Q 0) (Z 0), cPr cI (Q 0) (Z 0), cTx cI cC (Q 6) (Z 6), cSt cI (Q 5) w, cCl Q, cHi cL Q (Z 7)]) := hw.front 10 rfl rfl; have hw : y_W D cI cC cL A s _ _ (List.flatten [cHi cL Q (Z 7), cLn cI (Q 1) (Z 1), cLn cI (Q 2) (Z 2), cLn cI (Q 3) (Z 3), cLn cI (Q 4) (Z 4), cLo cI (Q 0) (Z 0), cSt cI (Q 0) (Z 0), cPr cI (Q 0) (Z 0), cTx cI cC (Q 6) (Z 6), cSt cI (Q 5) w, cCl Q]) := hw.front 10 rfl rfl; have hw : y_W D cI cC cL A s _ _ (List.flatten [cCl Q, cHi cL Q (Z 7), cLn cI (Q 1) (Z 1), cLn cI (Q 2) (Z 2), cLn cI (Q 3) (Z 3), cLn cI (Q 4) (Z 4), cLo cI (Q 0) (Z 0), cSt cI (Q 0) (Z 0), cPr cI (Q 0) (Z 0), cTx cI cC (Q 6) (Z 6), cSt cI (Q 5) w]) := hw.front 10 rfl rfl; rw [show jWoU Z x n = va_up Z 5 w from by rw [jWoU, if_neg (not_not_intro c_3), hJ]]; exact hw) (by unfold jWoR; rw [if_neg (not_not_intro c_3), if_pos c_7, hJ]) dX5_worn_73
          · skip
            refine lv_iload_n S.1 S.2.1 dX5_worn_68 rfl (lv_at hl 2 rfl) ?_
            refine lv_goto (tgt := 73) S.1 S.2.1 dX5_worn_69 (by decide) ?_
            exact ret _ _ _ _ _ (by have hw : y_W D cI cC cL A s _ _ (List.flatten [cSt cI (Q 5) w, cCl Q, cLo cI (Q 0) (Z 0), cSt cI (Q 0) (Z 0), cHi cL Q (Z 7), cLn cI (Q 1) (Z 1), cLn cI (Q 2) (Z 2), cLn cI (Q 3) (Z 3), cLn cI (Q 4) (Z 4), cPr cI (Q 0) (Z 0), cTx cI cC (Q 6) (Z 6)]) := hw.front 3 rfl rfl; have hw : y_W D cI cC cL A s _ _ (List.flatten [cTx cI cC (Q 6) (Z 6), cSt cI (Q 5) w, cCl Q, cLo cI (Q 0) (Z 0), cSt cI (Q 0) (Z 0), cHi cL Q (Z 7), cLn cI (Q 1) (Z 1), cLn cI (Q 2) (Z 2), cLn cI (Q 3) (Z 3), cLn cI (Q 4) (Z 4), cPr cI (Q 0) (Z 0)]) := hw.front 10 rfl rfl; have hw : y_W D cI cC cL A s _ _ (List.flatten [cPr cI (Q 0) (Z 0), cTx cI cC (Q 6) (Z 6), cSt cI (Q 5) w, cCl Q, cLo cI (Q 0) (Z 0), cSt cI (Q 0) (Z 0), cHi cL Q (Z 7), cLn cI (Q 1) (Z 1), cLn cI (Q 2) (Z 2), cLn cI (Q 3) (Z 3), cLn cI (Q 4) (Z 4)]) := hw.front 10 rfl rfl; have hw : y_W D cI cC cL A s _ _ (List.flatten [cSt cI (Q 0) (Z 0), cPr cI (Q 0) (Z 0), cTx cI cC (Q 6) (Z 6), cSt cI (Q 5) w, cCl Q, cLo cI (Q 0) (Z 0), cHi cL Q (Z 7), cLn cI (Q 1) (Z 1), cLn cI (Q 2) (Z 2), cLn cI (Q 3) (Z 3), cLn cI (Q 4) (Z 4)]) := hw.front 5 rfl rfl; have hw : y_W D cI cC cL A s _ _ (List.flatten [cLo cI (Q 0) (Z 0), cSt cI (Q 0) (Z 0), cPr cI (Q 0) (Z 0), cTx cI cC (Q 6) (Z 6), cSt cI (Q 5) w, cCl Q, cHi cL Q (Z 7), cLn cI (Q 1) (Z 1), cLn cI (Q 2) (Z 2), cLn cI (Q 3) (Z 3), cLn cI (Q 4) (Z 4)]) := hw.front 5 rfl rfl; have hw : y_W D cI cC cL A s _ _ (List.flatten [cLn cI (Q 4) (Z 4), cLo cI (Q 0) (Z 0), cSt cI (Q 0) (Z 0), cPr cI (Q 0) (Z 0), cTx cI cC (Q 6) (Z 6), cSt cI (Q 5) w, cCl Q, cHi cL Q (Z 7), cLn cI (Q 1) (Z 1), cLn cI (Q 2) (Z 2), cLn cI (Q 3) (Z 3)]) := hw.front 10 rfl rfl; have hw : y_W D cI cC cL A s _ _ (List.flatten [cLn cI (Q 3) (Z 3), cLn cI (Q 4) (Z 4), cLo cI (Q 0) (Z 0), cSt cI (Q 0) (Z 0), cPr cI (Q 0) (Z 0), cTx cI cC (Q 6) (Z 6), cSt cI (Q 5) w, cCl Q, cHi cL Q (Z 7), cLn cI (Q 1) (Z 1), cLn cI (Q 2) (Z 2)]) := hw.front 10 rfl rfl; have hw : y_W D cI cC cL A s _ _ (List.flatten [cLn cI (Q 2) (Z 2), cLn cI (Q 3) (Z 3), cLn cI (Q 4) (Z 4), cLo cI (Q 0) (Z 0), cSt cI (Q 0) (Z 0), cPr cI (Q 0) (Z 0), cTx cI cC (Q 6) (Z 6), cSt cI (Q 5) w, cCl Q, cHi cL Q (Z 7), cLn cI (Q 1) (Z 1)]) := hw.front 10 rfl rfl; have hw : y_W D cI cC cL A s _ _ (List.flatten [cLn cI (Q 1) (Z 1), cLn cI (Q 2) (Z 2), cLn cI (Q 3) (Z 3), cLn cI (Q 4) (Z 4), cLo cI (Q 0) (Z 0), cSt cI (Q 0) (Z 0), cPr cI (Q 0) (Z 0), cTx cI cC (Q 6) (Z 6), cSt cI (Q 5) w, cCl Q, cHi cL Q (Z 7)]) := hw.front 10 rfl rfl; have hw : y_W D cI cC cL A s _ _ (List.flatten [cHi cL Q (Z 7), cLn cI (Q 1) (Z 1), cLn cI (Q 2) (Z 2), cLn cI (Q 3) (Z 3), cLn cI (Q 4) (Z 4), cLo cI (Q 0) (Z 0), cSt cI (Q 0) (Z 0), cPr cI (Q 0) (Z 0), cTx cI cC (Q 6) (Z 6), cSt cI (Q 5) w, cCl Q]) := hw.front 10 rfl rfl; have hw : y_W D cI cC cL A s _ _ (List.flatten [cCl Q, cHi cL Q (Z 7), cLn cI (Q 1) (Z 1), cLn cI (Q 2) (Z 2), cLn cI (Q 3) (Z 3), cLn cI (Q 4) (Z 4), cLo cI (Q 0) (Z 0), cSt cI (Q 0) (Z 0), cPr cI (Q 0) (Z 0), cTx cI cC (Q 6) (Z 6), cSt cI (Q 5) w]) := hw.front 10 rfl rfl; rw [show jWoU Z x n = va_up Z 5 w from by rw [jWoU, if_neg (not_not_intro c_3), hJ]]; exact hw) (by unfold jWoR; rw [if_neg (not_not_intro c_3), if_neg (not_not_intro c_7), hJ]) dX5_worn_73
        · skip
          have c_6N : ¬ n ≤ (i + 1) := fun z => c_6 ((nI_leI (a := n) (b := (i + 1)) (by omega) (by omega)).mpr z)
          refine lv_aload_n S.1 S.2.1 dX5_worn_38 rfl (lv_at hl 0 rfl) ?_
          refine lv_iload S.1 S.2.1 dX5_worn_39 (lv_at hl 4 rfl) ?_
          have hw : y_W D cI cC cL A s _ _ (List.flatten [cSt cI (Q 5) w, cCl Q, cLo cI (Q 0) (Z 0), cSt cI (Q 0) (Z 0), cHi cL Q (Z 7), cLn cI (Q 1) (Z 1), cLn cI (Q 2) (Z 2), cLn cI (Q 3) (Z 3), cLn cI (Q 4) (Z 4), cPr cI (Q 0) (Z 0), cTx cI cC (Q 6) (Z 6)]) := hw.front 3 rfl rfl
          have hw : y_W D cI cC cL A s _ _ (List.flatten [cSt cI (Q 0) (Z 0), cSt cI (Q 5) w, cCl Q, cLo cI (Q 0) (Z 0), cHi cL Q (Z 7), cLn cI (Q 1) (Z 1), cLn cI (Q 2) (Z 2), cLn cI (Q 3) (Z 3), cLn cI (Q 4) (Z 4), cPr cI (Q 0) (Z 0), cTx cI cC (Q 6) (Z 6)]) := hw.front 3 rfl rfl
          have hw : y_W D cI cC cL A s _ _ (List.flatten [cLo cI (Q 0) (Z 0), cSt cI (Q 0) (Z 0), cSt cI (Q 5) w, cCl Q, cHi cL Q (Z 7), cLn cI (Q 1) (Z 1), cLn cI (Q 2) (Z 2), cLn cI (Q 3) (Z 3), cLn cI (Q 4) (Z 4), cPr cI (Q 0) (Z 0), cTx cI cC (Q 6) (Z 6)]) := hw.front 3 rfl rfl
          have hw : y_W D cI cC cL A s _ _ (List.flatten [cCl Q, cLo cI (Q 0) (Z 0), cSt cI (Q 0) (Z 0), cSt cI (Q 5) w, cHi cL Q (Z 7), cLn cI (Q 1) (Z 1), cLn cI (Q 2) (Z 2), cLn cI (Q 3) (Z 3), cLn cI (Q 4) (Z 4), cPr cI (Q 0) (Z 0), cTx cI cC (Q 6) (Z 6)]) := hw.front 3 rfl rfl
          refine y_segI (sc := [cCl Q, cLo cI (Q 0) (Z 0), cSt cI (Q 0) (Z 0), cSt cI (Q 5) w]) (sr := [cHi cL Q (Z 7), cLn cI (Q 1) (Z 1), cLn cI (Q 2) (Z 2), cLn cI (Q 3) (Z 3), cLn cI (Q 4) (Z 4), cPr cI (Q 0) (Z 0), cTx cI cC (Q 6) (Z 6)]) (As := [.int (nI (i + 1))]) (rest := []) S hw hl.1 (c_X5_outputWithoutShares l D cI cC cL Q Z w n (i + 1) hn h10 (by omega)) (cwV 1 S.2.2.2.2 gX5_worn_X5_outputWithoutShares rfl rfl rfl (by decide +kernel) ⟨Nat.le_of_ble_eq_true rfl, Nat.le_of_ble_eq_true rfl⟩) (F' := (fun v_8 : U => [cCl Q, cLo cI (Q 0) (Z 0), cSt cI (Q 0) (Z 0), cSt cI (Q 5) v_8])) (by first | rfl | simp only [List.flatten_cons, List.flatten_nil, List.append_nil, List.append_assoc]) (fun v => by first | rfl | simp only [List.flatten_cons, List.flatten_nil, List.append_nil, List.append_assoc]) 0 rfl rfl rfl (Nat.le_of_ble_eq_true rfl) dX5_worn_41 rfl ⟨Nat.le_refl _, Nat.le_refl _⟩ (fun H locs v_8 x_9 ev_8 ex_9 hw => ?_)
          have hw : y_W D cI cC cL A s H locs (List.flatten [cCl Q, cLo cI (Q 0) (Z 0), cSt cI (Q 0) (Z 0), cSt cI (Q 5) v_8, cHi cL Q (Z 7), cLn cI (Q 1) (Z 1), cLn cI (Q 2) (Z 2), cLn cI (Q 3) (Z 3), cLn cI (Q 4) (Z 4), cPr cI (Q 0) (Z 0), cTx cI cC (Q 6) (Z 6)]) := hw
          subst ex_9
          refine lv_istore (lv' := [(5, .int ((jOW (Z 0) w n (i + 1)).2)), (0, .ref (Q 8 0)), (1, .int x), (2, .int z2), (3, .int z3), (4, .int (nI (i + 1)))]) S.1 S.2.1 dX5_worn_44 hl (by decide) rfl (fun ls hl => ?_)
          refine lv_iload S.1 S.2.1 dX5_worn_46 (lv_at hl 0 rfl) ?_
          refine lv_iload_n S.1 S.2.1 dX5_worn_48 rfl (lv_at hl 4 rfl) ?_
          refine lv_icmp_le (tgt := 58) S.1 S.2.1 dX5_worn_49 (by decide) (fun c_10 => ?_) (fun c_10 => ?_)
          · skip
            refine lv_iinc (v := (nI ((i + 1) + 1))) (lv' := [(4, .int (nI ((i + 1) + 1))), (5, .int ((jOW (Z 0) w n (i + 1)).2)), (0, .ref (Q 8 0)), (1, .int x), (2, .int z2), (3, .int z3)]) S.1 S.2.1 dX5_worn_58 hl (k := 5) rfl (by first | exact nI_1 _ | exact nI_add _ _) (by decide) rfl (fun ls hl => ?_)
            refine lv_goto (tgt := 23) S.1 S.2.1 dX5_worn_61 (by decide) ?_
            exact ih23 (i + 1) v_8 z2 z3 (by omega) (by rw [jWn, ← hv, ev_8]; simp only [if_pos c_10]) (by omega) _ _ ls hw (lv_sub hl [2, 3, 4, 5, 0] rfl)
          · skip
            refine lv_iload S.1 S.2.1 dX5_worn_52 (lv_at hl 5 rfl) ?_
            refine lv_istore_n (lv' := [(2, .int (nI (i + 1))), (5, .int ((jOW (Z 0) w n (i + 1)).2)), (0, .ref (Q 8 0)), (1, .int x), (3, .int z3), (4, .int (nI (i + 1)))]) S.1 S.2.1 dX5_worn_54 rfl hl (by decide) rfl (fun ls hl => ?_)
            refine lv_iload S.1 S.2.1 dX5_worn_55 (lv_at hl 1 rfl) ?_
            refine lv_istore_n (lv' := [(3, .int ((jOW (Z 0) w n (i + 1)).2)), (2, .int (nI (i + 1))), (5, .int ((jOW (Z 0) w n (i + 1)).2)), (0, .ref (Q 8 0)), (1, .int x), (4, .int (nI (i + 1)))]) S.1 S.2.1 dX5_worn_57 rfl hl (by decide) rfl (fun ls hl => ?_)
            refine lv_iinc (v := (nI ((i + 1) + 1))) (lv' := [(4, .int (nI ((i + 1) + 1))), (3, .int ((jOW (Z 0) w n (i + 1)).2)), (2, .int (nI (i + 1))), (5, .int ((jOW (Z 0) w n (i + 1)).2)), (0, .ref (Q 8 0)), (1, .int x)]) S.1 S.2.1 dX5_worn_58 hl (k := 5) rfl (by first | exact nI_1 _ | exact nI_add _ _) (by decide) rfl (fun ls hl => ?_)
            refine lv_goto (tgt := 23) S.1 S.2.1 dX5_worn_61 (by decide) ?_
            exact ih23 (i + 1) v_8 (nI (i + 1)) ((jOW (Z 0) w n (i + 1)).2) (by omega) (by rw [jWn, ← hv, ev_8]; simp only [if_neg c_10]) (by omega) _ _ ls hw (lv_sub hl [4, 5, 2, 1, 0] rfl)
    exact lp23 ((n - 0) + 1) 0 v_4 0 ((jOW (Z 0) (Z 5) n 0).2) (by omega) (by rw [ev_4]; rfl) (Nat.lt_succ_self _) _ _ ls hw (lv_sub hl [3, 4, 2, 1, 0] rfl)
  · skip
    refine lv_ldc (v := (-2000001)) S.1 S.2.1 S.2.2.2.1 (S.2.2.2.2 _ k_X5_worn_41) dX5_worn_9 ?_
    exact ret _ _ _ _ _ (by rw [show jWoU Z x n = Z from by rw [jWoU, if_pos c_3]]; exact hw) (by unfold jWoR; rw [if_pos c_3]) dX5_worn_11

theorem i_X5_safe_X5 : ∀ w ∈ u_ws RX5 TX5 4, w ∈ wsX5_safe := by decide +kernel
theorem f_X5_safe_12 : Cond.fieldLink RX5 12 "ChargeLines" "line" "LChargeLines$Line;" ∈ wsX5_safe := by decide +kernel
theorem i_X5_safe_X1 : ∀ w ∈ u_ws RX1 TX1 9, w ∈ wsX5_safe := by decide +kernel
theorem f_X5_safe_78 : Cond.fieldLink RX5 78 "ChargeLines$Line" "settings" "[I" ∈ wsX5_safe := by decide +kernel
theorem f_X5_safe_33 : Cond.fieldLink RX5 33 "ChargeLines" "trial" "LChargeLines$Stages;" ∈ wsX5_safe := by decide +kernel
theorem f_X5_safe_54 : Cond.fieldLink RX5 54 "ChargeLines$Line" "stages" "LChargeLines$Stages;" ∈ wsX5_safe := by decide +kernel
set_option maxHeartbeats 4000000 in
set_option maxRecDepth 100000 in
/-- ChargeLines.safe -/
theorem c_X5_safe (l : Launch) (D : va_G) (cI cC cL : ClassId) (Q : Nat → Nat → Nat) (Z : Nat → U) (n : Nat) (hn : Z 0 0 0 = nI n) (h10 : n ≤ 10) : y_MI l yX5_safe wsX5_safe 4 94 D cI cC cL [.ref (Q 8 0)] (cWd cI cC cL Q Z) (nI (jSf (Z 0 10 0) n 8193 8192 0 (stMix (Z 0) (Z 5))).2) (fun z : Nat → U => cWd cI cC cL Q z) (va_up Z 5 (jSf (Z 0 10 0) n 8193 8192 0 (stMix (Z 0) (Z 5))).1) := by
  refine y_startI (cc := cX5_safe) (maxL := 5) (ret := some .int) (by decide +kernel) rfl (Nat.le_of_ble_eq_true rfl) ⟨_, rfl, fun x _ => rfl⟩ (fun h => by cases h) ?_
  intro p e s mm args below meth c A QQ ls S hw ret hl
  have S : CallFix p mm c cX5_safe 5 s args wsX5_safe RX5 := S
  have hw : y_W D cI cC cL A s s.heap [] (List.flatten [cCl Q, cHi cL Q (Z 7), cLn cI (Q 1) (Z 1), cLn cI (Q 2) (Z 2), cLn cI (Q 3) (Z 3), cLn cI (Q 4) (Z 4), cLo cI (Q 0) (Z 0), cSt cI (Q 0) (Z 0), cPr cI (Q 0) (Z 0), cTx cI cC (Q 6) (Z 6), cSt cI (Q 5) (Z 5)]) := hw
  have hl : lv_has ls 5 [(0, .ref (Q 8 0))] := hl
  refine lv_aload_n S.1 S.2.1 dX5_safe_0 rfl (lv_at hl 0 rfl) ?_
  refine y_get S hw (C := RX5) (T := TX5) (N := 4) i_X5_safe_X5 0 rfl rfl 0 (by decide) f_X5_safe_12 rfl dX5_safe_1 ?_
  refine y_get S hw (C := RX1) (T := TX1) (N := 9) i_X5_safe_X1 55 rfl rfl 2 (by decide) f_X5_safe_78 rfl dX5_safe_4 ?_
  refine lv_iconst (v := 0) S.1 S.2.1 dX5_safe_7 (by decide) ?_
  refine y_iald S hw 56 (k := 0) rfl (by omega) (Nat.le_of_ble_eq_true rfl) dX5_safe_8 ?_
  refine lv_istore_n (lv' := [(1, .int ((Z 0 10) 0)), (0, .ref (Q 8 0))]) S.1 S.2.1 dX5_safe_9 rfl hl (by decide) rfl (fun ls hl => ?_)
  refine lv_aload_n S.1 S.2.1 dX5_safe_10 rfl (lv_at hl 1 rfl) ?_
  refine y_get S hw (C := RX5) (T := TX5) (N := 4) i_X5_safe_X5 0 rfl rfl 3 (by decide) f_X5_safe_33 rfl dX5_safe_11 ?_
  refine lv_aload_n S.1 S.2.1 dX5_safe_14 rfl (lv_at hl 1 rfl) ?_
  refine y_get S hw (C := RX5) (T := TX5) (N := 4) i_X5_safe_X5 0 rfl rfl 0 (by decide) f_X5_safe_12 rfl dX5_safe_15 ?_
  refine y_get S hw (C := RX1) (T := TX1) (N := 9) i_X5_safe_X1 55 rfl rfl 0 (by decide) f_X5_safe_54 rfl dX5_safe_18 ?_
  have hw : y_W D cI cC cL A s _ _ (List.flatten [cSt cI (Q 0) (Z 0), cCl Q, cHi cL Q (Z 7), cLn cI (Q 1) (Z 1), cLn cI (Q 2) (Z 2), cLn cI (Q 3) (Z 3), cLn cI (Q 4) (Z 4), cLo cI (Q 0) (Z 0), cPr cI (Q 0) (Z 0), cTx cI cC (Q 6) (Z 6), cSt cI (Q 5) (Z 5)]) := hw.front 7 rfl rfl
  have hw : y_W D cI cC cL A s _ _ (List.flatten [cSt cI (Q 5) (Z 5), cSt cI (Q 0) (Z 0), cCl Q, cHi cL Q (Z 7), cLn cI (Q 1) (Z 1), cLn cI (Q 2) (Z 2), cLn cI (Q 3) (Z 3), cLn cI (Q 4) (Z 4), cLo cI (Q 0) (Z 0), cPr cI (Q 0) (Z 0), cTx cI cC (Q 6) (Z 6)]) := hw.front 10 rfl rfl
  refine y_segV (sc := [cSt cI (Q 5) (Z 5), cSt cI (Q 0) (Z 0)]) (sr := [cCl Q, cHi cL Q (Z 7), cLn cI (Q 1) (Z 1), cLn cI (Q 2) (Z 2), cLn cI (Q 3) (Z 3), cLn cI (Q 4) (Z 4), cLo cI (Q 0) (Z 0), cPr cI (Q 0) (Z 0), cTx cI cC (Q 6) (Z 6)]) (As := [.ref (Q 0 0)]) (rest := []) S hw hl.1 (c_X3_copyFrom l D cI cC cL (Q 5) (Q 0) (Z 5) (Z 0)) (cwV 1 S.2.2.2.2 gX5_safe_X3_copyFrom rfl rfl rfl (by decide +kernel) ⟨Nat.le_of_ble_eq_true rfl, Nat.le_of_ble_eq_true rfl⟩) (F' := (fun v_1 : U => [cSt cI (Q 5) v_1, cSt cI (Q 0) (Z 0)])) (by first | rfl | simp only [List.flatten_cons, List.flatten_nil, List.append_nil, List.append_assoc]) (fun v => by first | rfl | simp only [List.flatten_cons, List.flatten_nil, List.append_nil, List.append_assoc]) 0 rfl rfl rfl (Nat.le_of_ble_eq_true rfl) dX5_safe_21 rfl ⟨Nat.le_refl _, Nat.le_refl _⟩ (fun H locs v_1 ev_1 hw => ?_)
  have hw : y_W D cI cC cL A s H locs (List.flatten [cSt cI (Q 5) v_1, cSt cI (Q 0) (Z 0), cCl Q, cHi cL Q (Z 7), cLn cI (Q 1) (Z 1), cLn cI (Q 2) (Z 2), cLn cI (Q 3) (Z 3), cLn cI (Q 4) (Z 4), cLo cI (Q 0) (Z 0), cPr cI (Q 0) (Z 0), cTx cI cC (Q 6) (Z 6)]) := hw
  refine lv_iconst (v := 0) S.1 S.2.1 dX5_safe_24 (by decide) ?_
  refine lv_istore_n (lv' := [(2, .int 0), (1, .int ((Z 0 10) 0)), (0, .ref (Q 8 0))]) S.1 S.2.1 dX5_safe_25 rfl hl (by decide) rfl (fun ls hl => ?_)
  refine lv_sipush (v := 8192) S.1 S.2.1 dX5_safe_26 (by decide) ?_
  refine lv_istore_n (lv' := [(3, .int 8192), (2, .int 0), (1, .int ((Z 0 10) 0)), (0, .ref (Q 8 0))]) S.1 S.2.1 dX5_safe_29 rfl hl (by decide) rfl (fun ls hl => ?_)
  have lp30 : ∀ (fuel : Nat) (g : Nat) (t : Nat) (f : Nat) (w : U), (t ≤ 8192) → (t < g) → (f ≤ 10000) → (w 0 0 = nI n) → (jSf (Z 0 10 0) n g t f w = jSf (Z 0 10 0) n 8193 8192 0 (stMix (Z 0) (Z 5))) → t < fuel → ∀ (H : Heap) (locs : List Loc) (ls : Array Slot), y_W D cI cC cL A s H locs (List.flatten [cSt cI (Q 5) w, cSt cI (Q 0) (Z 0), cCl Q, cHi cL Q (Z 7), cLn cI (Q 1) (Z 1), cLn cI (Q 2) (Z 2), cLn cI (Q 3) (Z 3), cLn cI (Q 4) (Z 4), cLo cI (Q 0) (Z 0), cPr cI (Q 0) (Z 0), cTx cI cC (Q 6) (Z 6)]) → lv_has ls 5 [(0, .ref (Q 8 0)), (1, .int (Z 0 10 0)), (2, .int (nI f)), (3, .int (nI t))] → W p l e (y_R 4 94) s mm args below meth c H locs 0 0 QQ (F0 mm 30 ls []) := by
    intro fuel
    induction fuel with
    | zero =>
      intro g t f w hz8 hgz hf hw0 he hfu
      exact absurd hfu (Nat.not_lt_zero _)
    | succ fuel ih30 =>
      intro g t f w hz8 hgz hf hw0 he hfu H locs ls hw hl
      refine lv_iload_n S.1 S.2.1 dX5_safe_30 rfl (lv_at hl 3 rfl) ?_
      refine lv_if_le (tgt := 72) S.1 S.2.1 dX5_safe_31 (by decide) (fun c_3 => ?_) (fun c_3 => ?_)
      · skip
        have c_3N : t ≤ 0 := (nI_leI (a := t) (b := 0) (by omega) (by omega)).mp c_3
        have hJ : jSf (Z 0 10 0) n 8193 8192 0 (stMix (Z 0) (Z 5)) = (w, f) := by rw [← he, show t = 0 from by omega]; exact jSf_e
        refine lv_iload_n S.1 S.2.1 dX5_safe_72 rfl (lv_at hl 2 rfl) ?_
        exact ret _ _ _ _ _ (by have hw : y_W D cI cC cL A s _ _ (List.flatten [cSt cI (Q 5) w, cSt cI (Q 0) (Z 0), cCl Q, cHi cL Q (Z 7), cLn cI (Q 1) (Z 1), cLn cI (Q 2) (Z 2), cLn cI (Q 3) (Z 3), cLn cI (Q 4) (Z 4), cLo cI (Q 0) (Z 0), cPr cI (Q 0) (Z 0), cTx cI cC (Q 6) (Z 6)]) := hw.front 0 rfl rfl; have hw : y_W D cI cC cL A s _ _ (List.flatten [cTx cI cC (Q 6) (Z 6), cSt cI (Q 5) w, cSt cI (Q 0) (Z 0), cCl Q, cHi cL Q (Z 7), cLn cI (Q 1) (Z 1), cLn cI (Q 2) (Z 2), cLn cI (Q 3) (Z 3), cLn cI (Q 4) (Z 4), cLo cI (Q 0) (Z 0), cPr cI (Q 0) (Z 0)]) := hw.front 10 rfl rfl; have hw : y_W D cI cC cL A s _ _ (List.flatten [cPr cI (Q 0) (Z 0), cTx cI cC (Q 6) (Z 6), cSt cI (Q 5) w, cSt cI (Q 0) (Z 0), cCl Q, cHi cL Q (Z 7), cLn cI (Q 1) (Z 1), cLn cI (Q 2) (Z 2), cLn cI (Q 3) (Z 3), cLn cI (Q 4) (Z 4), cLo cI (Q 0) (Z 0)]) := hw.front 10 rfl rfl; have hw : y_W D cI cC cL A s _ _ (List.flatten [cSt cI (Q 0) (Z 0), cPr cI (Q 0) (Z 0), cTx cI cC (Q 6) (Z 6), cSt cI (Q 5) w, cCl Q, cHi cL Q (Z 7), cLn cI (Q 1) (Z 1), cLn cI (Q 2) (Z 2), cLn cI (Q 3) (Z 3), cLn cI (Q 4) (Z 4), cLo cI (Q 0) (Z 0)]) := hw.front 3 rfl rfl; have hw : y_W D cI cC cL A s _ _ (List.flatten [cLo cI (Q 0) (Z 0), cSt cI (Q 0) (Z 0), cPr cI (Q 0) (Z 0), cTx cI cC (Q 6) (Z 6), cSt cI (Q 5) w, cCl Q, cHi cL Q (Z 7), cLn cI (Q 1) (Z 1), cLn cI (Q 2) (Z 2), cLn cI (Q 3) (Z 3), cLn cI (Q 4) (Z 4)]) := hw.front 10 rfl rfl; have hw : y_W D cI cC cL A s _ _ (List.flatten [cLn cI (Q 4) (Z 4), cLo cI (Q 0) (Z 0), cSt cI (Q 0) (Z 0), cPr cI (Q 0) (Z 0), cTx cI cC (Q 6) (Z 6), cSt cI (Q 5) w, cCl Q, cHi cL Q (Z 7), cLn cI (Q 1) (Z 1), cLn cI (Q 2) (Z 2), cLn cI (Q 3) (Z 3)]) := hw.front 10 rfl rfl; have hw : y_W D cI cC cL A s _ _ (List.flatten [cLn cI (Q 3) (Z 3), cLn cI (Q 4) (Z 4), cLo cI (Q 0) (Z 0), cSt cI (Q 0) (Z 0), cPr cI (Q 0) (Z 0), cTx cI cC (Q 6) (Z 6), cSt cI (Q 5) w, cCl Q, cHi cL Q (Z 7), cLn cI (Q 1) (Z 1), cLn cI (Q 2) (Z 2)]) := hw.front 10 rfl rfl; have hw : y_W D cI cC cL A s _ _ (List.flatten [cLn cI (Q 2) (Z 2), cLn cI (Q 3) (Z 3), cLn cI (Q 4) (Z 4), cLo cI (Q 0) (Z 0), cSt cI (Q 0) (Z 0), cPr cI (Q 0) (Z 0), cTx cI cC (Q 6) (Z 6), cSt cI (Q 5) w, cCl Q, cHi cL Q (Z 7), cLn cI (Q 1) (Z 1)]) := hw.front 10 rfl rfl; have hw : y_W D cI cC cL A s _ _ (List.flatten [cLn cI (Q 1) (Z 1), cLn cI (Q 2) (Z 2), cLn cI (Q 3) (Z 3), cLn cI (Q 4) (Z 4), cLo cI (Q 0) (Z 0), cSt cI (Q 0) (Z 0), cPr cI (Q 0) (Z 0), cTx cI cC (Q 6) (Z 6), cSt cI (Q 5) w, cCl Q, cHi cL Q (Z 7)]) := hw.front 10 rfl rfl; have hw : y_W D cI cC cL A s _ _ (List.flatten [cHi cL Q (Z 7), cLn cI (Q 1) (Z 1), cLn cI (Q 2) (Z 2), cLn cI (Q 3) (Z 3), cLn cI (Q 4) (Z 4), cLo cI (Q 0) (Z 0), cSt cI (Q 0) (Z 0), cPr cI (Q 0) (Z 0), cTx cI cC (Q 6) (Z 6), cSt cI (Q 5) w, cCl Q]) := hw.front 10 rfl rfl; have hw : y_W D cI cC cL A s _ _ (List.flatten [cCl Q, cHi cL Q (Z 7), cLn cI (Q 1) (Z 1), cLn cI (Q 2) (Z 2), cLn cI (Q 3) (Z 3), cLn cI (Q 4) (Z 4), cLo cI (Q 0) (Z 0), cSt cI (Q 0) (Z 0), cPr cI (Q 0) (Z 0), cTx cI cC (Q 6) (Z 6), cSt cI (Q 5) w]) := hw.front 10 rfl rfl; rw [hJ]; exact hw) (by rw [hJ]) dX5_safe_73
      · skip
        have c_3N : ¬ t ≤ 0 := fun z => c_3 ((nI_leI (a := t) (b := 0) (by omega) (by omega)).mpr z)
        refine lv_iload_n S.1 S.2.1 dX5_safe_34 rfl (lv_at hl 2 rfl) ?_
        refine lv_iload_n S.1 S.2.1 dX5_safe_35 rfl (lv_at hl 3 rfl) ?_
        refine y_iaddN S f t dX5_safe_36 ?_
        refine lv_istore (lv' := [(4, .int (nI (f + t))), (0, .ref (Q 8 0)), (1, .int (Z 0 10 0)), (2, .int (nI f)), (3, .int (nI t))]) S.1 S.2.1 dX5_safe_37 hl (by decide) rfl (fun ls hl => ?_)
        refine lv_iload S.1 S.2.1 dX5_safe_39 (lv_at hl 0 rfl) ?_
        refine lv_sipush (v := 10000) S.1 S.2.1 dX5_safe_41 (by decide) ?_
        refine lv_icmp_gt (tgt := 65) S.1 S.2.1 dX5_safe_44 (by decide) (fun c_4 => ?_) (fun c_4 => ?_)
        · skip
          have c_4N : 10000 < (f + t) := (nI_ltI (a := 10000) (b := (f + t)) (by omega) (by omega)).mp c_4
          refine lv_iload_n S.1 S.2.1 dX5_safe_65 rfl (lv_at hl 4 rfl) ?_
          refine lv_iconst (v := 2) S.1 S.2.1 dX5_safe_66 (by decide) ?_
          refine lv_idiv S.1 S.2.1 dX5_safe_67 (by decide) ?_
          refine y_top (y := (nI (t / 2))) (pk_div (d := 2) (by omega) (by decide) (by decide)) ?_
          refine lv_istore_n (lv' := [(3, .int (nI (t / 2))), (4, .int (nI (f + t))), (0, .ref (Q 8 0)), (1, .int (Z 0 10 0)), (2, .int (nI f))]) S.1 S.2.1 dX5_safe_68 rfl hl (by decide) rfl (fun ls hl => ?_)
          refine lv_goto (tgt := 30) S.1 S.2.1 dX5_safe_69 (by decide) ?_
          exact ih30 (g - 1) (t / 2) f w (by omega) (by omega) (by omega) (hw0) (by rw [← he]; exact (jSf_x (by omega) (by omega) (by omega)).symm) (by omega) _ _ ls hw (lv_sub hl [2, 3, 4, 0] rfl)
        · skip
          have c_4N : ¬ 10000 < (f + t) := fun z => c_4 ((nI_ltI (a := 10000) (b := (f + t)) (by omega) (by omega)).mpr z)
          refine lv_aload_n S.1 S.2.1 dX5_safe_47 rfl (lv_at hl 1 rfl) ?_
          refine y_get S hw (C := RX5) (T := TX5) (N := 4) i_X5_safe_X5 8 rfl rfl 3 (by decide) f_X5_safe_33 rfl dX5_safe_48 ?_
          refine lv_iload S.1 S.2.1 dX5_safe_51 (lv_at hl 0 rfl) ?_
          refine lv_bipush (v := 40) S.1 S.2.1 dX5_safe_53 (by decide) ?_
          refine lv_iload_n S.1 S.2.1 dX5_safe_55 rfl (lv_at hl 2 rfl) ?_
          refine y_segI (sc := [cSt cI (Q 5) w]) (sr := [cSt cI (Q 0) (Z 0), cCl Q, cHi cL Q (Z 7), cLn cI (Q 1) (Z 1), cLn cI (Q 2) (Z 2), cLn cI (Q 3) (Z 3), cLn cI (Q 4) (Z 4), cLo cI (Q 0) (Z 0), cPr cI (Q 0) (Z 0), cTx cI cC (Q 6) (Z 6)]) (As := [.int (nI (f + t)), .int 40, .int (Z 0 10 0)]) (rest := []) S hw hl.1 (c_X3_holds l D cI cC cL (Q 5) w (nI (f + t)) (Z 0 10 0) n 40 hw0 (by omega) (by omega)) (cwV 3 S.2.2.2.2 gX5_safe_X3_holds rfl rfl rfl (by decide +kernel) ⟨Nat.le_of_ble_eq_true rfl, Nat.le_of_ble_eq_true rfl⟩) (F' := (fun v_5 : U => [cSt cI (Q 5) v_5])) (by first | rfl | simp only [List.flatten_cons, List.flatten_nil, List.append_nil, List.append_assoc]) (fun v => by first | rfl | simp only [List.flatten_cons, List.flatten_nil, List.append_nil, List.append_assoc]) 0 rfl rfl rfl (Nat.le_of_ble_eq_true rfl) dX5_safe_56 rfl ⟨Nat.le_refl _, Nat.le_refl _⟩ (fun H locs v_5 x_6 ev_5 ex_6 hw => ?_)
          have hw : y_W D cI cC cL A s H locs (List.flatten [cSt cI (Q 5) v_5, cSt cI (Q 0) (Z 0), cCl Q, cHi cL Q (Z 7), cLn cI (Q 1) (Z 1), cLn cI (Q 2) (Z 2), cLn cI (Q 3) (Z 3), cLn cI (Q 4) (Z 4), cLo cI (Q 0) (Z 0), cPr cI (Q 0) (Z 0), cTx cI cC (Q 6) (Z 6)]) := hw
          refine lv_if_eq (tgt := 65) S.1 S.2.1 dX5_safe_59 (by decide) (fun c_7 => ?_) (fun c_7 => ?_)
          · skip
            have hh9 := y_10f (ex_6.symm.trans c_7)
            refine lv_iload_n S.1 S.2.1 dX5_safe_65 rfl (lv_at hl 4 rfl) ?_
            refine lv_iconst (v := 2) S.1 S.2.1 dX5_safe_66 (by decide) ?_
            refine lv_idiv S.1 S.2.1 dX5_safe_67 (by decide) ?_
            refine y_top (y := (nI (t / 2))) (pk_div (d := 2) (by omega) (by decide) (by decide)) ?_
            refine lv_istore_n (lv' := [(3, .int (nI (t / 2))), (4, .int (nI (f + t))), (0, .ref (Q 8 0)), (1, .int (Z 0 10 0)), (2, .int (nI f))]) S.1 S.2.1 dX5_safe_68 rfl hl (by decide) rfl (fun ls hl => ?_)
            refine lv_goto (tgt := 30) S.1 S.2.1 dX5_safe_69 (by decide) ?_
            exact ih30 (g - 1) (t / 2) f v_5 (by omega) (by omega) (by omega) (by rw [ev_5]; exact jHd_n (u := jEm w) hw0 40) (by rw [← he, ev_5]; exact (jSf_n (by omega) (by omega) (by omega) hh9).symm) (by omega) _ _ ls hw (lv_sub hl [2, 3, 4, 0] rfl)
          · skip
            have hh9 := y_10t (fun z => c_7 (ex_6.trans z))
            refine lv_iload S.1 S.2.1 dX5_safe_62 (lv_at hl 0 rfl) ?_
            refine lv_istore_n (lv' := [(2, .int (nI (f + t))), (4, .int (nI (f + t))), (0, .ref (Q 8 0)), (1, .int (Z 0 10 0)), (3, .int (nI t))]) S.1 S.2.1 dX5_safe_64 rfl hl (by decide) rfl (fun ls hl => ?_)
            refine lv_iload_n S.1 S.2.1 dX5_safe_65 rfl (lv_at hl 4 rfl) ?_
            refine lv_iconst (v := 2) S.1 S.2.1 dX5_safe_66 (by decide) ?_
            refine lv_idiv S.1 S.2.1 dX5_safe_67 (by decide) ?_
            refine y_top (y := (nI (t / 2))) (pk_div (d := 2) (by omega) (by decide) (by decide)) ?_
            refine lv_istore_n (lv' := [(3, .int (nI (t / 2))), (2, .int (nI (f + t))), (4, .int (nI (f + t))), (0, .ref (Q 8 0)), (1, .int (Z 0 10 0))]) S.1 S.2.1 dX5_safe_68 rfl hl (by decide) rfl (fun ls hl => ?_)
            refine lv_goto (tgt := 30) S.1 S.2.1 dX5_safe_69 (by decide) ?_
            exact ih30 (g - 1) (t / 2) (f + t) v_5 (by omega) (by omega) (by omega) (by rw [ev_5]; exact jHd_n (u := jEm w) hw0 40) (by rw [← he, ev_5]; exact (jSf_y (by omega) (by omega) (by omega) hh9).symm) (by omega) _ _ ls hw (lv_sub hl [3, 4, 1, 0] rfl)
  exact lp30 (8192 + 1) 8193 8192 0 v_1 (by omega) (by omega) (by omega) (by rw [ev_1]; exact hn) (by rw [ev_1]) (Nat.lt_succ_self _) _ _ ls hw (lv_sub hl [3, 2, 1, 0] rfl)
