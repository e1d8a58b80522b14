set_option maxHeartbeats 4000000 in
set_option maxRecDepth 100000 in
/-- ChargeLines.outside -/
theorem c_X5_outside (l : Launch) (D : va_G) (cI cC cL : ClassId) (x y z : Int32) : y_MI l yX5_outside wsX5_outside 0 0 D cI cC cL [.int x, .int y, .int z] [] (jOut x y z) (fun _ : Unit => []) () := by
  refine y_startI (cc := cX5_outside) (maxL := 3) (ret := some .boolean) (by decide +kernel) rfl (Nat.le_of_ble_eq_true rfl) ⟨_, rfl, fun x h => by rcases h rfl with rfl | rfl <;> rfl⟩ (fun _ => jOut_01) ?_
  intro p e s mm args below meth c A QQ ls S hw ret hl
  have S : CallFix p mm c cX5_outside 3 s args wsX5_outside RX5 := S
  have hw : y_W D cI cC cL A s s.heap [] [] := hw
  have hl : lv_has ls 3 [(0, .int x), (1, .int y), (2, .int z)] := hl
  refine lv_iload_n S.1 S.2.1 dX5_outside_0 rfl (lv_at hl 0 rfl) ?_
  refine lv_iload_n S.1 S.2.1 dX5_outside_1 rfl (lv_at hl 1 rfl) ?_
  refine lv_icmp_lt (tgt := 10) S.1 S.2.1 dX5_outside_2 (by decide) (fun c_1 => ?_) (fun c_1 => ?_)
  · skip
    refine lv_iconst (v := 1) S.1 S.2.1 dX5_outside_10 (by decide) ?_
    refine lv_goto (tgt := 15) S.1 S.2.1 dX5_outside_11 (by decide) ?_
    exact ret _ _ _ _ _ (by exact hw) (by simp only [jOut, c_1, ↓reduceIte]) dX5_outside_15
  · skip
    refine lv_iload_n S.1 S.2.1 dX5_outside_5 rfl (lv_at hl 0 rfl) ?_
    refine lv_iload_n S.1 S.2.1 dX5_outside_6 rfl (lv_at hl 2 rfl) ?_
    refine lv_icmp_le (tgt := 14) S.1 S.2.1 dX5_outside_7 (by decide) (fun c_2 => ?_) (fun c_2 => ?_)
    · skip
      refine lv_iconst (v := 0) S.1 S.2.1 dX5_outside_14 (by decide) ?_
      exact ret _ _ _ _ _ (by exact hw) (by simp only [jOut, c_1, c_2, ↓reduceIte]) dX5_outside_15
    · skip
      refine lv_iconst (v := 1) S.1 S.2.1 dX5_outside_10 (by decide) ?_
      refine lv_goto (tgt := 15) S.1 S.2.1 dX5_outside_11 (by decide) ?_
      exact ret _ _ _ _ _ (by exact hw) (by simp only [jOut, c_1, c_2, ↓reduceIte]) dX5_outside_15

theorem i_X5_account_X5 : ∀ w ∈ u_ws RX5 TX5 4, w ∈ wsX5_account := by decide +kernel
theorem f_X5_account_12 : Cond.fieldLink RX5 12 "ChargeLines" "line" "LChargeLines$Line;" ∈ wsX5_account := by decide +kernel
theorem i_X5_account_X1 : ∀ w ∈ u_ws RX1 TX1 9, w ∈ wsX5_account := by decide +kernel
theorem f_X5_account_54 : Cond.fieldLink RX5 54 "ChargeLines$Line" "stages" "LChargeLines$Stages;" ∈ wsX5_account := by decide +kernel
theorem i_X5_account_X3 : ∀ w ∈ u_ws RX3 TX3 8, w ∈ wsX5_account := by decide +kernel
theorem f_X5_account_158 : Cond.fieldLink RX5 158 "ChargeLines$Stages" "given" "I" ∈ wsX5_account := by decide +kernel
theorem f_X5_account_161 : Cond.fieldLink RX5 161 "ChargeLines$Stages" "cameOut" "I" ∈ wsX5_account := by decide +kernel
theorem f_X5_account_164 : Cond.fieldLink RX5 164 "ChargeLines$Stages" "leaked" "I" ∈ wsX5_account := by decide +kernel
theorem f_X5_account_167 : Cond.fieldLink RX5 167 "ChargeLines$Stages" "spilled" "I" ∈ wsX5_account := by decide +kernel
theorem k_X5_account_41 : Cond.constant RX5 41 (-2000001) ∈ wsX5_account := by decide +kernel
set_option maxHeartbeats 4000000 in
set_option maxRecDepth 100000 in
/-- ChargeLines.account -/
theorem c_X5_account (l : Launch) (D : va_G) (cI cC cL : ClassId) (Q : Nat → Nat → Nat) (Z : Nat → U) (x : Int32) (n : Nat) (hn : Z 0 0 0 = nI n) (h10 : n ≤ 10) : y_MI l yX5_account wsX5_account 1 22 D cI cC cL [.ref (Q 8 0), .int x] (cWd cI cC cL Q Z) (jAcc Z x n) (fun _ : Unit => cWd cI cC cL Q Z) () := by
  refine y_startI (cc := cX5_account) (maxL := 2) (ret := some .int) (by decide +kernel) rfl (Nat.le_of_ble_eq_true rfl) ⟨_, rfl, fun x _ => rfl⟩ (fun h => by cases h) ?_
  intro p e s mm args below meth c A QQ ls S hw ret hl
  have S : CallFix p mm c cX5_account 2 s args wsX5_account RX5 := S
  have hw : y_W D cI cC cL A s s.heap [] (List.flatten [cCl Q, cHi cL Q (Z 7), cLn cI (Q 1) (Z 1), cLn cI (Q 2) (Z 2), cLn cI (Q 3) (Z 3), cLn cI (Q 4) (Z 4), cLo cI (Q 0) (Z 0), cSt cI (Q 0) (Z 0), cPr cI (Q 0) (Z 0), cTx cI cC (Q 6) (Z 6), cSt cI (Q 5) (Z 5)]) := hw
  have hl : lv_has ls 2 [(0, .ref (Q 8 0)), (1, .int x)] := hl
  refine lv_iload_n S.1 S.2.1 dX5_account_0 rfl (lv_at hl 1 rfl) ?_
  by_cases c_1_0 : x = 0
  · skip
    refine lv_tableIn (tgt := 36) S.1 S.2.1 dX5_account_1 (by rw [c_1_0]; decide) (by rw [c_1_0]; decide) (by rw [c_1_0]; rfl) (by decide) ?_
    refine lv_aload_n S.1 S.2.1 dX5_account_36 rfl (lv_at hl 0 rfl) ?_
    refine y_get S hw (C := RX5) (T := TX5) (N := 4) i_X5_account_X5 0 rfl rfl 0 (by decide) f_X5_account_12 rfl dX5_account_37 ?_
    refine y_get S hw (C := RX1) (T := TX1) (N := 9) i_X5_account_X1 55 rfl rfl 0 (by decide) f_X5_account_54 rfl dX5_account_40 ?_
    refine y_get S hw (C := RX3) (T := TX3) (N := 8) i_X5_account_X3 61 rfl rfl 4 (by decide) f_X5_account_158 rfl dX5_account_43 ?_
    exact ret _ _ _ _ _ (by exact hw) (by unfold jAcc; rw [if_pos c_1_0]) dX5_account_46
  by_cases c_1_1 : x = 1
  · skip
    refine lv_tableIn (tgt := 47) S.1 S.2.1 dX5_account_1 (by rw [c_1_1]; decide) (by rw [c_1_1]; decide) (by rw [c_1_1]; rfl) (by decide) ?_
    refine lv_aload_n S.1 S.2.1 dX5_account_47 rfl (lv_at hl 0 rfl) ?_
    refine y_get S hw (C := RX5) (T := TX5) (N := 4) i_X5_account_X5 0 rfl rfl 0 (by decide) f_X5_account_12 rfl dX5_account_48 ?_
    refine y_get S hw (C := RX1) (T := TX1) (N := 9) i_X5_account_X1 55 rfl rfl 0 (by decide) f_X5_account_54 rfl dX5_account_51 ?_
    refine y_get S hw (C := RX3) (T := TX3) (N := 8) i_X5_account_X3 61 rfl rfl 5 (by decide) f_X5_account_161 rfl dX5_account_54 ?_
    exact ret _ _ _ _ _ (by exact hw) (by unfold jAcc; rw [if_neg c_1_0, if_pos c_1_1]) dX5_account_57
  by_cases c_1_2 : x = 2
  · skip
    refine lv_tableIn (tgt := 58) S.1 S.2.1 dX5_account_1 (by rw [c_1_2]; decide) (by rw [c_1_2]; decide) (by rw [c_1_2]; rfl) (by decide) ?_
    refine lv_aload_n S.1 S.2.1 dX5_account_58 rfl (lv_at hl 0 rfl) ?_
    refine y_get S hw (C := RX5) (T := TX5) (N := 4) i_X5_account_X5 0 rfl rfl 0 (by decide) f_X5_account_12 rfl dX5_account_59 ?_
    refine y_get S hw (C := RX1) (T := TX1) (N := 9) i_X5_account_X1 55 rfl rfl 0 (by decide) f_X5_account_54 rfl dX5_account_62 ?_
    refine y_get S hw (C := RX3) (T := TX3) (N := 8) i_X5_account_X3 61 rfl rfl 6 (by decide) f_X5_account_164 rfl dX5_account_65 ?_
    exact ret _ _ _ _ _ (by exact hw) (by unfold jAcc; rw [if_neg c_1_0, if_neg c_1_1, if_pos c_1_2]) dX5_account_68
  by_cases c_1_3 : x = 3
  · skip
    refine lv_tableIn (tgt := 69) S.1 S.2.1 dX5_account_1 (by rw [c_1_3]; decide) (by rw [c_1_3]; decide) (by rw [c_1_3]; rfl) (by decide) ?_
    refine lv_aload_n S.1 S.2.1 dX5_account_69 rfl (lv_at hl 0 rfl) ?_
    refine y_get S hw (C := RX5) (T := TX5) (N := 4) i_X5_account_X5 0 rfl rfl 0 (by decide) f_X5_account_12 rfl dX5_account_70 ?_
    refine y_get S hw (C := RX1) (T := TX1) (N := 9) i_X5_account_X1 55 rfl rfl 0 (by decide) f_X5_account_54 rfl dX5_account_73 ?_
    refine y_get S hw (C := RX3) (T := TX3) (N := 8) i_X5_account_X3 61 rfl rfl 7 (by decide) f_X5_account_167 rfl dX5_account_76 ?_
    exact ret _ _ _ _ _ (by exact hw) (by unfold jAcc; rw [if_neg c_1_0, if_neg c_1_1, if_neg c_1_2, if_pos c_1_3]) dX5_account_79
  by_cases c_1_4 : x = 4
  · skip
    refine lv_tableIn (tgt := 80) S.1 S.2.1 dX5_account_1 (by rw [c_1_4]; decide) (by rw [c_1_4]; decide) (by rw [c_1_4]; rfl) (by decide) ?_
    refine lv_aload_n S.1 S.2.1 dX5_account_80 rfl (lv_at hl 0 rfl) ?_
    refine y_get S hw (C := RX5) (T := TX5) (N := 4) i_X5_account_X5 0 rfl rfl 0 (by decide) f_X5_account_12 rfl dX5_account_81 ?_
    refine y_get S hw (C := RX1) (T := TX1) (N := 9) i_X5_account_X1 55 rfl rfl 0 (by decide) f_X5_account_54 rfl dX5_account_84 ?_
    have hw : y_W D cI cC cL A s _ _ (List.flatten [cSt cI (Q 0) (Z 0), cCl Q, cHi cL Q (Z 7), cLn cI (Q 1) (Z 1), cLn cI (Q 2) (Z 2), cLn cI (Q 3) (Z 3), cLn cI (Q 4) (Z 4), cLo cI (Q 0) (Z 0), cPr cI (Q 0) (Z 0), cTx cI cC (Q 6) (Z 6), cSt cI (Q 5) (Z 5)]) := hw.front 7 rfl rfl
    refine y_segI (sc := [cSt cI (Q 0) (Z 0)]) (sr := [cCl Q, cHi cL Q (Z 7), cLn cI (Q 1) (Z 1), cLn cI (Q 2) (Z 2), cLn cI (Q 3) (Z 3), cLn cI (Q 4) (Z 4), cLo cI (Q 0) (Z 0), cPr cI (Q 0) (Z 0), cTx cI cC (Q 6) (Z 6), cSt cI (Q 5) (Z 5)]) (As := []) (rest := []) S hw hl.1 (c_X3_inStages l D cI cC cL (Q 0) (Z 0) n (hn) (by omega)) (cwV 0 S.2.2.2.2 gX5_account_X3_inStages rfl rfl rfl (by decide +kernel) ⟨Nat.le_of_ble_eq_true rfl, Nat.le_of_ble_eq_true rfl⟩) (F' := (fun _ : Unit => [cSt cI (Q 0) (Z 0)])) (by first | rfl | simp only [List.flatten_cons, List.flatten_nil, List.append_nil, List.append_assoc]) (fun v => by first | rfl | simp only [List.flatten_cons, List.flatten_nil, List.append_nil, List.append_assoc]) 0 rfl rfl rfl (Nat.le_of_ble_eq_true rfl) dX5_account_87 rfl ⟨Nat.le_refl _, Nat.le_refl _⟩ (fun H locs v_2 x_3 ev_2 ex_3 hw => ?_)
    have hw : y_W D cI cC cL A s H locs (List.flatten [cSt cI (Q 0) (Z 0), cCl Q, cHi cL Q (Z 7), cLn cI (Q 1) (Z 1), cLn cI (Q 2) (Z 2), cLn cI (Q 3) (Z 3), cLn cI (Q 4) (Z 4), cLo cI (Q 0) (Z 0), cPr cI (Q 0) (Z 0), cTx cI cC (Q 6) (Z 6), cSt cI (Q 5) (Z 5)]) := hw
    subst ex_3
    exact ret _ _ _ _ _ (by have hw : y_W D cI cC cL A s _ _ (List.flatten [cSt cI (Q 5) (Z 5), cSt cI (Q 0) (Z 0), cCl Q, cHi cL Q (Z 7), cLn cI (Q 1) (Z 1), cLn cI (Q 2) (Z 2), cLn cI (Q 3) (Z 3), cLn cI (Q 4) (Z 4), cLo cI (Q 0) (Z 0), cPr cI (Q 0) (Z 0), cTx cI cC (Q 6) (Z 6)]) := hw.front 10 rfl rfl; have hw : y_W D cI cC cL A s _ _ (List.flatten [cTx cI cC (Q 6) (Z 6), cSt cI (Q 5) (Z 5), cSt cI (Q 0) (Z 0), cCl Q, cHi cL Q (Z 7), cLn cI (Q 1) (Z 1), cLn cI (Q 2) (Z 2), cLn cI (Q 3) (Z 3), cLn cI (Q 4) (Z 4), cLo cI (Q 0) (Z 0), cPr cI (Q 0) (Z 0)]) := hw.front 10 rfl rfl; have hw : y_W D cI cC cL A s _ _ (List.flatten [cPr cI (Q 0) (Z 0), cTx cI cC (Q 6) (Z 6), cSt cI (Q 5) (Z 5), cSt cI (Q 0) (Z 0), cCl Q, cHi cL Q (Z 7), cLn cI (Q 1) (Z 1), cLn cI (Q 2) (Z 2), cLn cI (Q 3) (Z 3), cLn cI (Q 4) (Z 4), cLo cI (Q 0) (Z 0)]) := hw.front 10 rfl rfl; have hw : y_W D cI cC cL A s _ _ (List.flatten [cSt cI (Q 0) (Z 0), cPr cI (Q 0) (Z 0), cTx cI cC (Q 6) (Z 6), cSt cI (Q 5) (Z 5), cCl Q, cHi cL Q (Z 7), cLn cI (Q 1) (Z 1), cLn cI (Q 2) (Z 2), cLn cI (Q 3) (Z 3), cLn cI (Q 4) (Z 4), cLo cI (Q 0) (Z 0)]) := hw.front 3 rfl rfl; have hw : y_W D cI cC cL A s _ _ (List.flatten [cLo cI (Q 0) (Z 0), cSt cI (Q 0) (Z 0), cPr cI (Q 0) (Z 0), cTx cI cC (Q 6) (Z 6), cSt cI (Q 5) (Z 5), cCl Q, cHi cL Q (Z 7), cLn cI (Q 1) (Z 1), cLn cI (Q 2) (Z 2), cLn cI (Q 3) (Z 3), cLn cI (Q 4) (Z 4)]) := hw.front 10 rfl rfl; have hw : y_W D cI cC cL A s _ _ (List.flatten [cLn cI (Q 4) (Z 4), cLo cI (Q 0) (Z 0), cSt cI (Q 0) (Z 0), cPr cI (Q 0) (Z 0), cTx cI cC (Q 6) (Z 6), cSt cI (Q 5) (Z 5), cCl Q, cHi cL Q (Z 7), cLn cI (Q 1) (Z 1), cLn cI (Q 2) (Z 2), cLn cI (Q 3) (Z 3)]) := hw.front 10 rfl rfl; have hw : y_W D cI cC cL A s _ _ (List.flatten [cLn cI (Q 3) (Z 3), cLn cI (Q 4) (Z 4), cLo cI (Q 0) (Z 0), cSt cI (Q 0) (Z 0), cPr cI (Q 0) (Z 0), cTx cI cC (Q 6) (Z 6), cSt cI (Q 5) (Z 5), cCl Q, cHi cL Q (Z 7), cLn cI (Q 1) (Z 1), cLn cI (Q 2) (Z 2)]) := hw.front 10 rfl rfl; have hw : y_W D cI cC cL A s _ _ (List.flatten [cLn cI (Q 2) (Z 2), cLn cI (Q 3) (Z 3), cLn cI (Q 4) (Z 4), cLo cI (Q 0) (Z 0), cSt cI (Q 0) (Z 0), cPr cI (Q 0) (Z 0), cTx cI cC (Q 6) (Z 6), cSt cI (Q 5) (Z 5), cCl Q, cHi cL Q (Z 7), cLn cI (Q 1) (Z 1)]) := hw.front 10 rfl rfl; have hw : y_W D cI cC cL A s _ _ (List.flatten [cLn cI (Q 1) (Z 1), cLn cI (Q 2) (Z 2), cLn cI (Q 3) (Z 3), cLn cI (Q 4) (Z 4), cLo cI (Q 0) (Z 0), cSt cI (Q 0) (Z 0), cPr cI (Q 0) (Z 0), cTx cI cC (Q 6) (Z 6), cSt cI (Q 5) (Z 5), cCl Q, cHi cL Q (Z 7)]) := hw.front 10 rfl rfl; have hw : y_W D cI cC cL A s _ _ (List.flatten [cHi cL Q (Z 7), cLn cI (Q 1) (Z 1), cLn cI (Q 2) (Z 2), cLn cI (Q 3) (Z 3), cLn cI (Q 4) (Z 4), cLo cI (Q 0) (Z 0), cSt cI (Q 0) (Z 0), cPr cI (Q 0) (Z 0), cTx cI cC (Q 6) (Z 6), cSt cI (Q 5) (Z 5), cCl Q]) := hw.front 10 rfl rfl; have hw : y_W D cI cC cL A s _ _ (List.flatten [cCl Q, cHi cL Q (Z 7), cLn cI (Q 1) (Z 1), cLn cI (Q 2) (Z 2), cLn cI (Q 3) (Z 3), cLn cI (Q 4) (Z 4), cLo cI (Q 0) (Z 0), cSt cI (Q 0) (Z 0), cPr cI (Q 0) (Z 0), cTx cI cC (Q 6) (Z 6), cSt cI (Q 5) (Z 5)]) := hw.front 10 rfl rfl; exact hw) (by unfold jAcc; rw [if_neg c_1_0, if_neg c_1_1, if_neg c_1_2, if_neg c_1_3, if_pos c_1_4]) dX5_account_90
  refine lv_tableOut (tgt := 91) S.1 S.2.1 dX5_account_1 (y_tabOut 0 4 (by decide) (by decide) (fun k h1 h2 => ?_)) (by decide) ?_
  · have hk : k = 0 ∨ k = 1 ∨ k = 2 ∨ k = 3 ∨ k = 4 := by omega
    rcases hk with rfl | rfl | rfl | rfl | rfl
    · exact c_1_0
    · exact c_1_1
    · exact c_1_2
    · exact c_1_3
    · exact c_1_4
  refine lv_ldc (v := (-2000001)) S.1 S.2.1 S.2.2.2.1 (S.2.2.2.2 _ k_X5_account_41) dX5_account_91 ?_
  exact ret _ _ _ _ _ (by exact hw) (by unfold jAcc; rw [if_neg c_1_0, if_neg c_1_1, if_neg c_1_2, if_neg c_1_3, if_neg c_1_4]) dX5_account_93
