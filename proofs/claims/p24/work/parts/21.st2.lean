theorem i_X3_copyFrom_X3 : ∀ w ∈ u_ws RX3 TX3 8, w ∈ wsX3_copyFrom := by decide +kernel
theorem f_X3_copyFrom_9 : Cond.fieldLink RX3 9 "ChargeLines$Stages" "many" "I" ∈ wsX3_copyFrom := by decide +kernel
theorem f_X3_copyFrom_15 : Cond.fieldLink RX3 15 "ChargeLines$Stages" "charge" "[I" ∈ wsX3_copyFrom := by decide +kernel
theorem w_X3_copyFrom_cl25 : Cond.methodLink RX3 25 arraycopyName ∈ wsX3_copyFrom := by decide +kernel
theorem w_X3_copyFrom_cn : Cond.native arraycopyName ∈ wsX3_copyFrom := by decide +kernel
theorem w_X3_copyFrom_cs : Cond.static arraycopyName ∈ wsX3_copyFrom := by decide +kernel
theorem w_X3_copyFrom_ci : Cond.initialized "java/lang/System" ∈ wsX3_copyFrom := by decide +kernel
theorem f_X3_copyFrom_19 : Cond.fieldLink RX3 19 "ChargeLines$Stages" "stays" "[I" ∈ wsX3_copyFrom := by decide +kernel
theorem f_X3_copyFrom_22 : Cond.fieldLink RX3 22 "ChargeLines$Stages" "leaks" "[I" ∈ wsX3_copyFrom := by decide +kernel
theorem f_X3_copyFrom_31 : Cond.fieldLink RX3 31 "ChargeLines$Stages" "given" "I" ∈ wsX3_copyFrom := by decide +kernel
theorem f_X3_copyFrom_34 : Cond.fieldLink RX3 34 "ChargeLines$Stages" "cameOut" "I" ∈ wsX3_copyFrom := by decide +kernel
theorem f_X3_copyFrom_37 : Cond.fieldLink RX3 37 "ChargeLines$Stages" "leaked" "I" ∈ wsX3_copyFrom := by decide +kernel
theorem f_X3_copyFrom_40 : Cond.fieldLink RX3 40 "ChargeLines$Stages" "spilled" "I" ∈ wsX3_copyFrom := by decide +kernel
set_option maxHeartbeats 4000000 in
set_option maxRecDepth 100000 in
/-- Stages.copyFrom -/
theorem c_X3_copyFrom (l : Launch) (D : va_G) (cI cC cL : ClassId) (q q2 : Nat → Nat) (u u2 : U) : y_MV l yX3_copyFrom wsX3_copyFrom 1 18 D cI cC cL [.ref (q 0), .ref (q2 0)] (cSt cI q u ++ cSt cI q2 u2) (fun v : U => cSt cI q v ++ cSt cI q2 u2) (stMix u2 u) := by
  refine y_startV (cc := cX3_copyFrom) (maxL := 2) (by decide) rfl (Nat.le_of_ble_eq_true rfl) ?_
  intro p e s mm args below meth c A QQ ls S hw ret hl
  have S : CallFix p mm c cX3_copyFrom 2 s args wsX3_copyFrom RX3 := S
  have hw : y_W D cI cC cL A s s.heap [] [((q 0), .inr (3, [.int (u 0 0), .ref (q 1), .ref (q 2), .ref (q 3), .int (u 4 0), .int (u 5 0), .int (u 6 0), .int (u 7 0)])), ((q 1), .inl (cI, 10, .inl (u 1))), ((q 2), .inl (cI, 10, .inl (u 2))), ((q 3), .inl (cI, 10, .inl (u 3))), ((q2 0), .inr (3, [.int (u2 0 0), .ref (q2 1), .ref (q2 2), .ref (q2 3), .int (u2 4 0), .int (u2 5 0), .int (u2 6 0), .int (u2 7 0)])), ((q2 1), .inl (cI, 10, .inl (u2 1))), ((q2 2), .inl (cI, 10, .inl (u2 2))), ((q2 3), .inl (cI, 10, .inl (u2 3)))] := hw
  have hl : lv_has ls 2 [(0, .ref (q 0)), (1, .ref (q2 0))] := hl
  refine lv_aload_n S.1 S.2.1 dX3_copyFrom_0 rfl (lv_at hl 0 rfl) ?_
  refine lv_aload_n S.1 S.2.1 dX3_copyFrom_1 rfl (lv_at hl 1 rfl) ?_
  refine y_get S hw (C := RX3) (T := TX3) (N := 8) i_X3_copyFrom_X3 4 rfl rfl 0 (by decide) f_X3_copyFrom_9 rfl dX3_copyFrom_2 ?_
  refine y_put S hw (C := RX3) (T := TX3) (N := 8) i_X3_copyFrom_X3 tyX3_ok nmX3 0 rfl rfl 0 (by decide) f_X3_copyFrom_9 (by decide +kernel) rfl rfl (Nat.le_of_ble_eq_true rfl) dX3_copyFrom_5 (ws' := [((q 0), .inr (3, [.int (u2 0 0), .ref (q 1), .ref (q 2), .ref (q 3), .int (u 4 0), .int (u 5 0), .int (u 6 0), .int (u 7 0)])), ((q 1), .inl (cI, 10, .inl (u 1))), ((q 2), .inl (cI, 10, .inl (u 2))), ((q 3), .inl (cI, 10, .inl (u 3))), ((q2 0), .inr (3, [.int (u2 0 0), .ref (q2 1), .ref (q2 2), .ref (q2 3), .int (u2 4 0), .int (u2 5 0), .int (u2 6 0), .int (u2 7 0)])), ((q2 1), .inl (cI, 10, .inl (u2 1))), ((q2 2), .inl (cI, 10, .inl (u2 2))), ((q2 3), .inl (cI, 10, .inl (u2 3)))]) rfl (fun H locs hw => ?_)
  refine lv_aload_n S.1 S.2.1 dX3_copyFrom_8 rfl (lv_at hl 1 rfl) ?_
  refine y_get S hw (C := RX3) (T := TX3) (N := 8) i_X3_copyFrom_X3 4 rfl rfl 1 (by decide) f_X3_copyFrom_15 rfl dX3_copyFrom_9 ?_
  refine lv_iconst (v := 0) S.1 S.2.1 dX3_copyFrom_12 (by decide) ?_
  refine lv_aload_n S.1 S.2.1 dX3_copyFrom_13 rfl (lv_at hl 0 rfl) ?_
  refine y_get S hw (C := RX3) (T := TX3) (N := 8) i_X3_copyFrom_X3 0 rfl rfl 1 (by decide) f_X3_copyFrom_15 rfl dX3_copyFrom_14 ?_
  refine lv_iconst (v := 0) S.1 S.2.1 dX3_copyFrom_17 (by decide) ?_
  refine lv_bipush (v := 10) S.1 S.2.1 dX3_copyFrom_18 (by decide) ?_
  refine y_copy (rest := []) S hw hl.1 w_X3_copyFrom_cl25 w_X3_copyFrom_cn w_X3_copyFrom_cs w_X3_copyFrom_ci 5 1 rfl rfl (by decide) (Nat.le_of_ble_eq_true rfl) (Nat.le_of_ble_eq_true rfl) (Nat.le_of_ble_eq_true rfl) dX3_copyFrom_20 (ws' := [((q 0), .inr (3, [.int (u2 0 0), .ref (q 1), .ref (q 2), .ref (q 3), .int (u 4 0), .int (u 5 0), .int (u 6 0), .int (u 7 0)])), ((q 1), .inl (cI, 10, .inl (u2 1))), ((q 2), .inl (cI, 10, .inl (u 2))), ((q 3), .inl (cI, 10, .inl (u 3))), ((q2 0), .inr (3, [.int (u2 0 0), .ref (q2 1), .ref (q2 2), .ref (q2 3), .int (u2 4 0), .int (u2 5 0), .int (u2 6 0), .int (u2 7 0)])), ((q2 1), .inl (cI, 10, .inl (u2 1))), ((q2 2), .inl (cI, 10, .inl (u2 2))), ((q2 3), .inl (cI, 10, .inl (u2 3)))]) rfl (fun H locs hw => ?_)
  refine lv_aload_n S.1 S.2.1 dX3_copyFrom_23 rfl (lv_at hl 1 rfl) ?_
  refine y_get S hw (C := RX3) (T := TX3) (N := 8) i_X3_copyFrom_X3 4 rfl rfl 2 (by decide) f_X3_copyFrom_19 rfl dX3_copyFrom_24 ?_
  refine lv_iconst (v := 0) S.1 S.2.1 dX3_copyFrom_27 (by decide) ?_
  refine lv_aload_n S.1 S.2.1 dX3_copyFrom_28 rfl (lv_at hl 0 rfl) ?_
  refine y_get S hw (C := RX3) (T := TX3) (N := 8) i_X3_copyFrom_X3 0 rfl rfl 2 (by decide) f_X3_copyFrom_19 rfl dX3_copyFrom_29 ?_
  refine lv_iconst (v := 0) S.1 S.2.1 dX3_copyFrom_32 (by decide) ?_
  refine lv_bipush (v := 10) S.1 S.2.1 dX3_copyFrom_33 (by decide) ?_
  refine y_copy (rest := []) S hw hl.1 w_X3_copyFrom_cl25 w_X3_copyFrom_cn w_X3_copyFrom_cs w_X3_copyFrom_ci 6 2 rfl rfl (by decide) (Nat.le_of_ble_eq_true rfl) (Nat.le_of_ble_eq_true rfl) (Nat.le_of_ble_eq_true rfl) dX3_copyFrom_35 (ws' := [((q 0), .inr (3, [.int (u2 0 0), .ref (q 1), .ref (q 2), .ref (q 3), .int (u 4 0), .int (u 5 0), .int (u 6 0), .int (u 7 0)])), ((q 1), .inl (cI, 10, .inl (u2 1))), ((q 2), .inl (cI, 10, .inl (u2 2))), ((q 3), .inl (cI, 10, .inl (u 3))), ((q2 0), .inr (3, [.int (u2 0 0), .ref (q2 1), .ref (q2 2), .ref (q2 3), .int (u2 4 0), .int (u2 5 0), .int (u2 6 0), .int (u2 7 0)])), ((q2 1), .inl (cI, 10, .inl (u2 1))), ((q2 2), .inl (cI, 10, .inl (u2 2))), ((q2 3), .inl (cI, 10, .inl (u2 3)))]) rfl (fun H locs hw => ?_)
  refine lv_aload_n S.1 S.2.1 dX3_copyFrom_38 rfl (lv_at hl 1 rfl) ?_
  refine y_get S hw (C := RX3) (T := TX3) (N := 8) i_X3_copyFrom_X3 4 rfl rfl 3 (by decide) f_X3_copyFrom_22 rfl dX3_copyFrom_39 ?_
  refine lv_iconst (v := 0) S.1 S.2.1 dX3_copyFrom_42 (by decide) ?_
  refine lv_aload_n S.1 S.2.1 dX3_copyFrom_43 rfl (lv_at hl 0 rfl) ?_
  refine y_get S hw (C := RX3) (T := TX3) (N := 8) i_X3_copyFrom_X3 0 rfl rfl 3 (by decide) f_X3_copyFrom_22 rfl dX3_copyFrom_44 ?_
  refine lv_iconst (v := 0) S.1 S.2.1 dX3_copyFrom_47 (by decide) ?_
  refine lv_bipush (v := 10) S.1 S.2.1 dX3_copyFrom_48 (by decide) ?_
  refine y_copy (rest := []) S hw hl.1 w_X3_copyFrom_cl25 w_X3_copyFrom_cn w_X3_copyFrom_cs w_X3_copyFrom_ci 7 3 rfl rfl (by decide) (Nat.le_of_ble_eq_true rfl) (Nat.le_of_ble_eq_true rfl) (Nat.le_of_ble_eq_true rfl) dX3_copyFrom_50 (ws' := [((q 0), .inr (3, [.int (u2 0 0), .ref (q 1), .ref (q 2), .ref (q 3), .int (u 4 0), .int (u 5 0), .int (u 6 0), .int (u 7 0)])), ((q 1), .inl (cI, 10, .inl (u2 1))), ((q 2), .inl (cI, 10, .inl (u2 2))), ((q 3), .inl (cI, 10, .inl (u2 3))), ((q2 0), .inr (3, [.int (u2 0 0), .ref (q2 1), .ref (q2 2), .ref (q2 3), .int (u2 4 0), .int (u2 5 0), .int (u2 6 0), .int (u2 7 0)])), ((q2 1), .inl (cI, 10, .inl (u2 1))), ((q2 2), .inl (cI, 10, .inl (u2 2))), ((q2 3), .inl (cI, 10, .inl (u2 3)))]) rfl (fun H locs hw => ?_)
  refine lv_aload_n S.1 S.2.1 dX3_copyFrom_53 rfl (lv_at hl 0 rfl) ?_
  refine lv_aload_n S.1 S.2.1 dX3_copyFrom_54 rfl (lv_at hl 1 rfl) ?_
  refine y_get S hw (C := RX3) (T := TX3) (N := 8) i_X3_copyFrom_X3 4 rfl rfl 4 (by decide) f_X3_copyFrom_31 rfl dX3_copyFrom_55 ?_
  refine y_put S hw (C := RX3) (T := TX3) (N := 8) i_X3_copyFrom_X3 tyX3_ok nmX3 0 rfl rfl 4 (by decide) f_X3_copyFrom_31 (by decide +kernel) rfl rfl (Nat.le_of_ble_eq_true rfl) dX3_copyFrom_58 (ws' := [((q 0), .inr (3, [.int (u2 0 0), .ref (q 1), .ref (q 2), .ref (q 3), .int (u2 4 0), .int (u 5 0), .int (u 6 0), .int (u 7 0)])), ((q 1), .inl (cI, 10, .inl (u2 1))), ((q 2), .inl (cI, 10, .inl (u2 2))), ((q 3), .inl (cI, 10, .inl (u2 3))), ((q2 0), .inr (3, [.int (u2 0 0), .ref (q2 1), .ref (q2 2), .ref (q2 3), .int (u2 4 0), .int (u2 5 0), .int (u2 6 0), .int (u2 7 0)])), ((q2 1), .inl (cI, 10, .inl (u2 1))), ((q2 2), .inl (cI, 10, .inl (u2 2))), ((q2 3), .inl (cI, 10, .inl (u2 3)))]) rfl (fun H locs hw => ?_)
  refine lv_aload_n S.1 S.2.1 dX3_copyFrom_61 rfl (lv_at hl 0 rfl) ?_
  refine lv_aload_n S.1 S.2.1 dX3_copyFrom_62 rfl (lv_at hl 1 rfl) ?_
  refine y_get S hw (C := RX3) (T := TX3) (N := 8) i_X3_copyFrom_X3 4 rfl rfl 5 (by decide) f_X3_copyFrom_34 rfl dX3_copyFrom_63 ?_
  refine y_put S hw (C := RX3) (T := TX3) (N := 8) i_X3_copyFrom_X3 tyX3_ok nmX3 0 rfl rfl 5 (by decide) f_X3_copyFrom_34 (by decide +kernel) rfl rfl (Nat.le_of_ble_eq_true rfl) dX3_copyFrom_66 (ws' := [((q 0), .inr (3, [.int (u2 0 0), .ref (q 1), .ref (q 2), .ref (q 3), .int (u2 4 0), .int (u2 5 0), .int (u 6 0), .int (u 7 0)])), ((q 1), .inl (cI, 10, .inl (u2 1))), ((q 2), .inl (cI, 10, .inl (u2 2))), ((q 3), .inl (cI, 10, .inl (u2 3))), ((q2 0), .inr (3, [.int (u2 0 0), .ref (q2 1), .ref (q2 2), .ref (q2 3), .int (u2 4 0), .int (u2 5 0), .int (u2 6 0), .int (u2 7 0)])), ((q2 1), .inl (cI, 10, .inl (u2 1))), ((q2 2), .inl (cI, 10, .inl (u2 2))), ((q2 3), .inl (cI, 10, .inl (u2 3)))]) rfl (fun H locs hw => ?_)
  refine lv_aload_n S.1 S.2.1 dX3_copyFrom_69 rfl (lv_at hl 0 rfl) ?_
  refine lv_aload_n S.1 S.2.1 dX3_copyFrom_70 rfl (lv_at hl 1 rfl) ?_
  refine y_get S hw (C := RX3) (T := TX3) (N := 8) i_X3_copyFrom_X3 4 rfl rfl 6 (by decide) f_X3_copyFrom_37 rfl dX3_copyFrom_71 ?_
  refine y_put S hw (C := RX3) (T := TX3) (N := 8) i_X3_copyFrom_X3 tyX3_ok nmX3 0 rfl rfl 6 (by decide) f_X3_copyFrom_37 (by decide +kernel) rfl rfl (Nat.le_of_ble_eq_true rfl) dX3_copyFrom_74 (ws' := [((q 0), .inr (3, [.int (u2 0 0), .ref (q 1), .ref (q 2), .ref (q 3), .int (u2 4 0), .int (u2 5 0), .int (u2 6 0), .int (u 7 0)])), ((q 1), .inl (cI, 10, .inl (u2 1))), ((q 2), .inl (cI, 10, .inl (u2 2))), ((q 3), .inl (cI, 10, .inl (u2 3))), ((q2 0), .inr (3, [.int (u2 0 0), .ref (q2 1), .ref (q2 2), .ref (q2 3), .int (u2 4 0), .int (u2 5 0), .int (u2 6 0), .int (u2 7 0)])), ((q2 1), .inl (cI, 10, .inl (u2 1))), ((q2 2), .inl (cI, 10, .inl (u2 2))), ((q2 3), .inl (cI, 10, .inl (u2 3)))]) rfl (fun H locs hw => ?_)
  refine lv_aload_n S.1 S.2.1 dX3_copyFrom_77 rfl (lv_at hl 0 rfl) ?_
  refine lv_aload_n S.1 S.2.1 dX3_copyFrom_78 rfl (lv_at hl 1 rfl) ?_
  refine y_get S hw (C := RX3) (T := TX3) (N := 8) i_X3_copyFrom_X3 4 rfl rfl 7 (by decide) f_X3_copyFrom_40 rfl dX3_copyFrom_79 ?_
  refine y_put S hw (C := RX3) (T := TX3) (N := 8) i_X3_copyFrom_X3 tyX3_ok nmX3 0 rfl rfl 7 (by decide) f_X3_copyFrom_40 (by decide +kernel) rfl rfl (Nat.le_of_ble_eq_true rfl) dX3_copyFrom_82 (ws' := [((q 0), .inr (3, [.int (u2 0 0), .ref (q 1), .ref (q 2), .ref (q 3), .int (u2 4 0), .int (u2 5 0), .int (u2 6 0), .int (u2 7 0)])), ((q 1), .inl (cI, 10, .inl (u2 1))), ((q 2), .inl (cI, 10, .inl (u2 2))), ((q 3), .inl (cI, 10, .inl (u2 3))), ((q2 0), .inr (3, [.int (u2 0 0), .ref (q2 1), .ref (q2 2), .ref (q2 3), .int (u2 4 0), .int (u2 5 0), .int (u2 6 0), .int (u2 7 0)])), ((q2 1), .inl (cI, 10, .inl (u2 1))), ((q2 2), .inl (cI, 10, .inl (u2 2))), ((q2 3), .inl (cI, 10, .inl (u2 3)))]) rfl (fun H locs hw => ?_)
  exact ret _ _ _ _ (by exact hw) dX3_copyFrom_85

set_option maxHeartbeats 4000000 in
set_option maxRecDepth 100000 in
/-- Stages.outputOfLone -/
theorem c_X3_outputOfLone (l : Launch) (D : va_G) (cI cC cL : ClassId) (q : Nat → Nat) (u : U) (x cap : Int32) (n k : Nat) (hn : u 0 0 = nI n) (h10 : n ≤ 10) (hk : k ≤ 40) : y_MI l yX3_outputOfLone wsX3_outputOfLone 3 70 D cI cC cL [.ref (q 0), .int x, .int (nI k), .int cap] (cSt cI q u) ((jLone x cap u n k).2) (fun v : U => cSt cI q v) ((jLone x cap u n k).1) := by
  refine y_startI (cc := cX3_outputOfLone) (maxL := 6) (ret := some .int) (by decide +kernel) rfl (Nat.le_of_ble_eq_true rfl) ⟨_, rfl, fun x _ => rfl⟩ (fun h => by cases h) ?_
  intro p e s mm args below meth c A QQ ls S hw ret hl
  have S : CallFix p mm c cX3_outputOfLone 6 s args wsX3_outputOfLone RX3 := S
  have hw : y_W D cI cC cL A s s.heap [] [((q 0), .inr (3, [.int (u 0 0), .ref (q 1), .ref (q 2), .ref (q 3), .int (u 4 0), .int (u 5 0), .int (u 6 0), .int (u 7 0)])), ((q 1), .inl (cI, 10, .inl (u 1))), ((q 2), .inl (cI, 10, .inl (u 2))), ((q 3), .inl (cI, 10, .inl (u 3)))] := hw
  have hl : lv_has ls 6 [(0, .ref (q 0)), (1, .int x), (2, .int (nI k)), (3, .int cap)] := hl
  refine lv_aload_n S.1 S.2.1 dX3_outputOfLone_0 rfl (lv_at hl 0 rfl) ?_
  refine y_callV (As := []) (rest := []) S hw hl.1 (c_X3_empty l D cI cC cL q u) (cwV 0 S.2.2.2.2 gX3_outputOfLone_X3_empty rfl rfl rfl (by decide +kernel) ⟨Nat.le_of_ble_eq_true rfl, Nat.le_of_ble_eq_true rfl⟩) 0 rfl rfl [0, 1, 2, 3] [] rfl (by decide +kernel) (wr := []) rfl (by decide +kernel) (by decide +kernel) rfl (Nat.le_of_ble_eq_true rfl) dX3_outputOfLone_1 rfl ⟨Nat.le_refl _, Nat.le_refl _⟩ (fun H locs v_1 ev_1 hw => ?_)
  have hw : y_W D cI cC cL A s H locs [((q 0), .inr (3, [.int (v_1 0 0), .ref (q 1), .ref (q 2), .ref (q 3), .int (v_1 4 0), .int (v_1 5 0), .int (v_1 6 0), .int (v_1 7 0)])), ((q 1), .inl (cI, 10, .inl (v_1 1))), ((q 2), .inl (cI, 10, .inl (v_1 2))), ((q 3), .inl (cI, 10, .inl (v_1 3)))] := hw
  refine lv_aload_n S.1 S.2.1 dX3_outputOfLone_4 rfl (lv_at hl 0 rfl) ?_
  refine lv_iload_n S.1 S.2.1 dX3_outputOfLone_5 rfl (lv_at hl 1 rfl) ?_
  refine lv_iload_n S.1 S.2.1 dX3_outputOfLone_6 rfl (lv_at hl 3 rfl) ?_
  refine y_callI (As := [.int x, .int cap]) (rest := []) S hw hl.1 (c_X3_handOver l D cI cC cL q v_1 x cap n (by rw [ev_1]; exact hn) (by omega)) (cwV 2 S.2.2.2.2 gX3_outputOfLone_X3_handOver rfl rfl rfl (by decide +kernel) ⟨Nat.le_of_ble_eq_true rfl, Nat.le_of_ble_eq_true rfl⟩) 0 rfl rfl [0, 1, 2, 3] [] rfl (by decide +kernel) (wr := []) rfl (by decide +kernel) (by decide +kernel) rfl (Nat.le_of_ble_eq_true rfl) dX3_outputOfLone_7 rfl ⟨Nat.le_refl _, Nat.le_refl _⟩ (fun H locs v_3 x_4 ev_3 ex_4 hw => ?_)
  have hw : y_W D cI cC cL A s H locs [((q 0), .inr (3, [.int (v_3 0 0), .ref (q 1), .ref (q 2), .ref (q 3), .int (v_3 4 0), .int (v_3 5 0), .int (v_3 6 0), .int (v_3 7 0)])), ((q 1), .inl (cI, 10, .inl (v_3 1))), ((q 2), .inl (cI, 10, .inl (v_3 2))), ((q 3), .inl (cI, 10, .inl (v_3 3)))] := hw
  subst ex_4
  refine lv_istore (lv' := [(4, .int ((jHO x cap v_1 n).2)), (0, .ref (q 0)), (1, .int x), (2, .int (nI k)), (3, .int cap)]) S.1 S.2.1 dX3_outputOfLone_10 hl (by decide) rfl (fun ls hl => ?_)
  refine lv_iconst (v := 0) S.1 S.2.1 dX3_outputOfLone_12 (by decide) ?_
  refine lv_istore (lv' := [(5, .int 0), (4, .int ((jHO x cap v_1 n).2)), (0, .ref (q 0)), (1, .int x), (2, .int (nI k)), (3, .int cap)]) S.1 S.2.1 dX3_outputOfLone_13 hl (by decide) rfl (fun ls hl => ?_)
  have lp15 : ∀ (fuel : Nat) (i : Nat) (w : U × Int32), (i ≤ k) → (w = jIt cap n (jHO x cap (jEm u) n) i) → (w.1 0 0 = nI n) → (k - i) < fuel → ∀ (H : Heap) (locs : List Loc) (ls : Array Slot), y_W D cI cC cL A s H locs [((q 0), .inr (3, [.int (w.1 0 0), .ref (q 1), .ref (q 2), .ref (q 3), .int (w.1 4 0), .int (w.1 5 0), .int (w.1 6 0), .int (w.1 7 0)])), ((q 1), .inl (cI, 10, .inl (w.1 1))), ((q 2), .inl (cI, 10, .inl (w.1 2))), ((q 3), .inl (cI, 10, .inl (w.1 3)))] → lv_has ls 6 [(0, .ref (q 0)), (1, .int x), (2, .int (nI k)), (3, .int cap), (4, .int w.2), (5, .int (nI i))] → W p l e (y_R 3 70) s mm args below meth c H locs 0 0 QQ (F0 mm 15 ls []) := by
    intro fuel
    induction fuel with
    | zero =>
      intro i w hi hv h0 hfu
      exact absurd hfu (Nat.not_lt_zero _)
    | succ fuel ih15 =>
      intro i w hi hv h0 hfu H locs ls hw hl
      refine lv_iload S.1 S.2.1 dX3_outputOfLone_15 (lv_at hl 5 rfl) ?_
      refine lv_iload_n S.1 S.2.1 dX3_outputOfLone_17 rfl (lv_at hl 2 rfl) ?_
      refine lv_icmp_ge (tgt := 35) S.1 S.2.1 dX3_outputOfLone_18 (by decide) (fun c_5 => ?_) (fun c_5 => ?_)
      · skip
        have c_5N : k ≤ i := (nI_leI (a := k) (b := i) (by omega) (by omega)).mp c_5
        refine lv_iload S.1 S.2.1 dX3_outputOfLone_35 (lv_at hl 4 rfl) ?_
        exact ret _ _ _ _ _ (by rw [jLone, show k = i from by omega, ← hv]; exact hw) (by rw [jLone, show k = i from by omega, ← hv]) dX3_outputOfLone_37
      · skip
        have c_5N : ¬ k ≤ i := fun z => c_5 ((nI_leI (a := k) (b := i) (by omega) (by omega)).mpr z)
        refine lv_aload_n S.1 S.2.1 dX3_outputOfLone_21 rfl (lv_at hl 0 rfl) ?_
        refine lv_iconst (v := 0) S.1 S.2.1 dX3_outputOfLone_22 (by decide) ?_
        refine lv_iload_n S.1 S.2.1 dX3_outputOfLone_23 rfl (lv_at hl 3 rfl) ?_
        refine y_callI (As := [.int 0, .int cap]) (rest := []) S hw hl.1 (c_X3_handOver l D cI cC cL q w.1 0 cap n h0 (by omega)) (cwV 2 S.2.2.2.2 gX3_outputOfLone_X3_handOver rfl rfl rfl (by decide +kernel) ⟨Nat.le_of_ble_eq_true rfl, Nat.le_of_ble_eq_true rfl⟩) 0 rfl rfl [0, 1, 2, 3] [] rfl (by decide +kernel) (wr := []) rfl (by decide +kernel) (by decide +kernel) rfl (Nat.le_of_ble_eq_true rfl) dX3_outputOfLone_24 rfl ⟨Nat.le_refl _, Nat.le_refl _⟩ (fun H locs v_6 x_7 ev_6 ex_7 hw => ?_)
        have hw : y_W D cI cC cL A s H locs [((q 0), .inr (3, [.int (v_6 0 0), .ref (q 1), .ref (q 2), .ref (q 3), .int (v_6 4 0), .int (v_6 5 0), .int (v_6 6 0), .int (v_6 7 0)])), ((q 1), .inl (cI, 10, .inl (v_6 1))), ((q 2), .inl (cI, 10, .inl (v_6 2))), ((q 3), .inl (cI, 10, .inl (v_6 3)))] := hw
        subst ex_7
        refine lv_istore (lv' := [(4, .int ((jHO 0 cap w.1 n).2)), (0, .ref (q 0)), (1, .int x), (2, .int (nI k)), (3, .int cap), (5, .int (nI i))]) S.1 S.2.1 dX3_outputOfLone_27 hl (by decide) rfl (fun ls hl => ?_)
        refine lv_iinc (v := (nI (i + 1))) (lv' := [(5, .int (nI (i + 1))), (4, .int ((jHO 0 cap w.1 n).2)), (0, .ref (q 0)), (1, .int x), (2, .int (nI k)), (3, .int cap)]) S.1 S.2.1 dX3_outputOfLone_29 hl (k := 5) rfl (by first | exact nI_1 _ | exact nI_add _ _) (by decide) rfl (fun ls hl => ?_)
        refine lv_goto (tgt := 15) S.1 S.2.1 dX3_outputOfLone_32 (by decide) ?_
        exact ih15 (i + 1) (v_6, ((jHO 0 cap w.1 n).2)) (by omega) (by rw [ev_6, hv]; rfl) (by rw [ev_6]; exact jHO_n h0) (by omega) _ _ ls hw (lv_sub hl [2, 3, 4, 5, 1, 0] rfl)
  exact lp15 ((k - 0) + 1) 0 (v_3, (jHO x cap v_1 n).2) (Nat.zero_le _) (by rw [ev_3, ev_1]; rfl) (by rw [ev_3, ev_1]; exact jHO_n hn) (Nat.lt_succ_self _) _ _ ls hw (lv_sub hl [2, 3, 4, 5, 1, 0] rfl)

theorem i_X3_holds_X3 : ∀ w ∈ u_ws RX3 TX3 8, w ∈ wsX3_holds := by decide +kernel
theorem f_X3_holds_40 : Cond.fieldLink RX3 40 "ChargeLines$Stages" "spilled" "I" ∈ wsX3_holds := by decide +kernel
set_option maxHeartbeats 4000000 in
set_option maxRecDepth 100000 in
/-- Stages.holds -/
theorem c_X3_holds (l : Launch) (D : va_G) (cI cC cL : ClassId) (q : Nat → Nat) (u : U) (x cap : Int32) (n k : Nat) (hn : u 0 0 = nI n) (h10 : n ≤ 10) (hk : k ≤ 40) : y_MI l yX3_holds wsX3_holds 3 70 D cI cC cL [.ref (q 0), .int x, .int (nI k), .int cap] (cSt cI q u) (if jHd x cap (jEm u) n k 7 0 = 0 then 1 else 0) (fun v : U => cSt cI q v) (jHd x cap (jEm u) n k) := by
  refine y_startI (cc := cX3_holds) (maxL := 5) (ret := some .boolean) (by decide +kernel) rfl (Nat.le_of_ble_eq_true rfl) ⟨_, rfl, fun x h => by rcases h rfl with rfl | rfl <;> rfl⟩ (fun _ => y_b01) ?_
  intro p e s mm args below meth c A QQ ls S hw ret hl
  have S : CallFix p mm c cX3_holds 5 s args wsX3_holds RX3 := S
  have hw : y_W D cI cC cL A s s.heap [] [((q 0), .inr (3, [.int (u 0 0), .ref (q 1), .ref (q 2), .ref (q 3), .int (u 4 0), .int (u 5 0), .int (u 6 0), .int (u 7 0)])), ((q 1), .inl (cI, 10, .inl (u 1))), ((q 2), .inl (cI, 10, .inl (u 2))), ((q 3), .inl (cI, 10, .inl (u 3)))] := hw
  have hl : lv_has ls 5 [(0, .ref (q 0)), (1, .int x), (2, .int (nI k)), (3, .int cap)] := hl
  refine lv_aload_n S.1 S.2.1 dX3_holds_0 rfl (lv_at hl 0 rfl) ?_
  refine y_callV (As := []) (rest := []) S hw hl.1 (c_X3_empty l D cI cC cL q u) (cwV 0 S.2.2.2.2 gX3_holds_X3_empty rfl rfl rfl (by decide +kernel) ⟨Nat.le_of_ble_eq_true rfl, Nat.le_of_ble_eq_true rfl⟩) 0 rfl rfl [0, 1, 2, 3] [] rfl (by decide +kernel) (wr := []) rfl (by decide +kernel) (by decide +kernel) rfl (Nat.le_of_ble_eq_true rfl) dX3_holds_1 rfl ⟨Nat.le_refl _, Nat.le_refl _⟩ (fun H locs v_1 ev_1 hw => ?_)
  have hw : y_W D cI cC cL A s H locs [((q 0), .inr (3, [.int (v_1 0 0), .ref (q 1), .ref (q 2), .ref (q 3), .int (v_1 4 0), .int (v_1 5 0), .int (v_1 6 0), .int (v_1 7 0)])), ((q 1), .inl (cI, 10, .inl (v_1 1))), ((q 2), .inl (cI, 10, .inl (v_1 2))), ((q 3), .inl (cI, 10, .inl (v_1 3)))] := hw
  refine lv_iconst (v := 0) S.1 S.2.1 dX3_holds_4 (by decide) ?_
  refine lv_istore (lv' := [(4, .int 0), (0, .ref (q 0)), (1, .int x), (2, .int (nI k)), (3, .int cap)]) S.1 S.2.1 dX3_holds_5 hl (by decide) rfl (fun ls hl => ?_)
  have lp7 : ∀ (fuel : Nat) (i : Nat) (w : U), (i ≤ k) → (w = jHd x cap (jEm u) n i) → (w 0 0 = nI n) → (k - i) < fuel → ∀ (H : Heap) (locs : List Loc) (ls : Array Slot), y_W D cI cC cL A s H locs [((q 0), .inr (3, [.int (w 0 0), .ref (q 1), .ref (q 2), .ref (q 3), .int (w 4 0), .int (w 5 0), .int (w 6 0), .int (w 7 0)])), ((q 1), .inl (cI, 10, .inl (w 1))), ((q 2), .inl (cI, 10, .inl (w 2))), ((q 3), .inl (cI, 10, .inl (w 3)))] → lv_has ls 5 [(0, .ref (q 0)), (1, .int x), (2, .int (nI k)), (3, .int cap), (4, .int (nI i))] → W p l e (y_R 3 70) s mm args below meth c H locs 0 0 QQ (F0 mm 7 ls []) := by
    intro fuel
    induction fuel with
    | zero =>
      intro i w hi hv h0 hfu
      exact absurd hfu (Nat.not_lt_zero _)
    | succ fuel ih7 =>
      intro i w hi hv h0 hfu H locs ls hw hl
      refine lv_iload S.1 S.2.1 dX3_holds_7 (lv_at hl 4 rfl) ?_
      refine lv_iload_n S.1 S.2.1 dX3_holds_9 rfl (lv_at hl 2 rfl) ?_
      refine lv_icmp_ge (tgt := 33) S.1 S.2.1 dX3_holds_10 (by decide) (fun c_3 => ?_) (fun c_3 => ?_)
      · skip
        have c_3N : k ≤ i := (nI_leI (a := k) (b := i) (by omega) (by omega)).mp c_3
        have hJ : jHd x cap (jEm u) n k = w := by rw [hv, show k = i from by omega]
        refine lv_aload_n S.1 S.2.1 dX3_holds_33 rfl (lv_at hl 0 rfl) ?_
        refine y_get S hw (C := RX3) (T := TX3) (N := 8) i_X3_holds_X3 0 rfl rfl 7 (by decide) f_X3_holds_40 rfl dX3_holds_34 ?_
        refine lv_if_ne (tgt := 44) S.1 S.2.1 dX3_holds_37 (by decide) (fun c_4 => ?_) (fun c_4 => ?_)
        · skip
          refine lv_iconst (v := 0) S.1 S.2.1 dX3_holds_44 (by decide) ?_
          exact ret _ _ _ _ _ (by rw [hJ]; exact hw) (by rw [hJ]; first | exact (if_pos c_4).symm | exact (if_neg c_4).symm) dX3_holds_45
        · skip
          refine lv_iconst (v := 1) S.1 S.2.1 dX3_holds_40 (by decide) ?_
          refine lv_goto (tgt := 45) S.1 S.2.1 dX3_holds_41 (by decide) ?_
          exact ret _ _ _ _ _ (by rw [hJ]; exact hw) (by rw [hJ]; first | exact (if_pos c_4).symm | exact (if_neg c_4).symm) dX3_holds_45
      · skip
        have c_3N : ¬ k ≤ i := fun z => c_3 ((nI_leI (a := k) (b := i) (by omega) (by omega)).mpr z)
        refine lv_aload_n S.1 S.2.1 dX3_holds_13 rfl (lv_at hl 0 rfl) ?_
        refine y_get S hw (C := RX3) (T := TX3) (N := 8) i_X3_holds_X3 0 rfl rfl 7 (by decide) f_X3_holds_40 rfl dX3_holds_14 ?_
        refine lv_if_ne (tgt := 33) S.1 S.2.1 dX3_holds_17 (by decide) (fun c_5 => ?_) (fun c_5 => ?_)
        · skip
          have hJ : jHd x cap (jEm u) n k = w := by
            rw [show k = i + (k - i) from by omega, hv]
            exact jHd_on x cap (jEm u) n i (by rw [← hv]; exact c_5) _
          refine lv_aload_n S.1 S.2.1 dX3_holds_33 rfl (lv_at hl 0 rfl) ?_
          refine y_get S hw (C := RX3) (T := TX3) (N := 8) i_X3_holds_X3 0 rfl rfl 7 (by decide) f_X3_holds_40 rfl dX3_holds_34 ?_
          refine lv_if_ne (tgt := 44) S.1 S.2.1 dX3_holds_37 (by decide) (fun c_6 => ?_) (fun c_6 => ?_)
          · skip
            refine lv_iconst (v := 0) S.1 S.2.1 dX3_holds_44 (by decide) ?_
            exact ret _ _ _ _ _ (by rw [hJ]; exact hw) (by rw [hJ]; first | exact (if_pos c_6).symm | exact (if_neg c_6).symm) dX3_holds_45
          · skip
            exact absurd c_6 c_5
        · skip
          refine lv_aload_n S.1 S.2.1 dX3_holds_20 rfl (lv_at hl 0 rfl) ?_
          refine lv_iload_n S.1 S.2.1 dX3_holds_21 rfl (lv_at hl 1 rfl) ?_
          refine lv_iload_n S.1 S.2.1 dX3_holds_22 rfl (lv_at hl 3 rfl) ?_
          refine y_callI (As := [.int x, .int cap]) (rest := []) S hw hl.1 (c_X3_handOver l D cI cC cL q w x cap n h0 (by omega)) (cwV 2 S.2.2.2.2 gX3_holds_X3_handOver rfl rfl rfl (by decide +kernel) ⟨Nat.le_of_ble_eq_true rfl, Nat.le_of_ble_eq_true rfl⟩) 0 rfl rfl [0, 1, 2, 3] [] rfl (by decide +kernel) (wr := []) rfl (by decide +kernel) (by decide +kernel) rfl (Nat.le_of_ble_eq_true rfl) dX3_holds_23 rfl ⟨Nat.le_refl _, Nat.le_refl _⟩ (fun H locs v_7 x_8 ev_7 ex_8 hw => ?_)
          have hw : y_W D cI cC cL A s H locs [((q 0), .inr (3, [.int (v_7 0 0), .ref (q 1), .ref (q 2), .ref (q 3), .int (v_7 4 0), .int (v_7 5 0), .int (v_7 6 0), .int (v_7 7 0)])), ((q 1), .inl (cI, 10, .inl (v_7 1))), ((q 2), .inl (cI, 10, .inl (v_7 2))), ((q 3), .inl (cI, 10, .inl (v_7 3)))] := hw
          subst ex_8
          refine lv_pop S.1 S.2.1 dX3_holds_26 rfl ?_
          refine lv_iinc (v := (nI (i + 1))) (lv' := [(4, .int (nI (i + 1))), (0, .ref (q 0)), (1, .int x), (2, .int (nI k)), (3, .int cap)]) S.1 S.2.1 dX3_holds_27 hl (k := 4) rfl (by first | exact nI_1 _ | exact nI_add _ _) (by decide) rfl (fun ls hl => ?_)
          refine lv_goto (tgt := 7) S.1 S.2.1 dX3_holds_30 (by decide) ?_
          exact ih7 (i + 1) v_7 (by omega) (by rw [ev_7, hv]; rw [hv] at c_5; exact (if_pos c_5).symm) (by rw [ev_7]; exact jHO_n h0) (by omega) _ _ ls hw (lv_sub hl [1, 2, 3, 4, 0] rfl)
  exact lp7 ((k - 0) + 1) 0 v_1 (Nat.zero_le _) (ev_1) (by rw [ev_1]; exact hn) (Nat.lt_succ_self _) _ _ ls hw (lv_sub hl [1, 2, 3, 4, 0] rfl)

set_option maxHeartbeats 4000000 in
set_option maxRecDepth 100000 in
/-- Math.floorDiv -/
theorem c_J9_floorDiv_7cf53 (l : Launch) (D : va_G) (cI cC cL : ClassId) (x y : Int32) (hy : ¬ y = 0) : y_MI l yJ9_floorDiv_7cf53 wsJ9_floorDiv_7cf53 0 0 D cI cC cL [.int x, .int y] [] (jFD x y) (fun _ : Unit => []) () := by
  refine y_startIF (cc := cJ9_floorDiv_7cf53) (maxL := 3) (ret := some .int) (by decide +kernel) rfl (Nat.le_of_ble_eq_true rfl) ⟨_, rfl, fun x _ => rfl⟩ (fun h => by cases h) ?_
  intro p e s mm args below meth c A QQ ls S hw ret hl
  have S : CallFix p mm c cJ9_floorDiv_7cf53 3 s args wsJ9_floorDiv_7cf53 RJ9 := S
  have hw : y_W D cI cC cL A s s.heap [] [] := hw
  have hl : lv_has ls 3 [(0, .int x), (1, .int y)] := hl
  refine lv_iload_n S.1 S.2.1 dJ9_floorDiv_7cf53_0 rfl (lv_at hl 0 rfl) ?_
  refine lv_iload_n S.1 S.2.1 dJ9_floorDiv_7cf53_1 rfl (lv_at hl 1 rfl) ?_
  refine lv_idiv S.1 S.2.1 dJ9_floorDiv_7cf53_2 hy ?_
  refine lv_istore_n (lv' := [(2, .int (x / y)), (0, .int x), (1, .int y)]) S.1 S.2.1 dJ9_floorDiv_7cf53_3 rfl hl (by decide) rfl (fun ls hl => ?_)
  refine lv_iload_n S.1 S.2.1 dJ9_floorDiv_7cf53_4 rfl (lv_at hl 1 rfl) ?_
  refine lv_iload_n S.1 S.2.1 dJ9_floorDiv_7cf53_5 rfl (lv_at hl 2 rfl) ?_
  refine lv_ixor S.1 S.2.1 dJ9_floorDiv_7cf53_6 ?_
  refine lv_if_ge (tgt := 21) S.1 S.2.1 dJ9_floorDiv_7cf53_7 (by decide) (fun c_1 => ?_) (fun c_1 => ?_)
  · skip
    refine lv_iload_n S.1 S.2.1 dJ9_floorDiv_7cf53_21 rfl (lv_at hl 0 rfl) ?_
    exact ret _ _ _ _ _ (by exact hw) (by simp only [jFD, c_1, ↓reduceIte]) dJ9_floorDiv_7cf53_22
  · skip
    refine lv_iload_n S.1 S.2.1 dJ9_floorDiv_7cf53_10 rfl (lv_at hl 0 rfl) ?_
    refine lv_iload_n S.1 S.2.1 dJ9_floorDiv_7cf53_11 rfl (lv_at hl 2 rfl) ?_
    refine lv_imul S.1 S.2.1 dJ9_floorDiv_7cf53_12 ?_
    refine lv_iload_n S.1 S.2.1 dJ9_floorDiv_7cf53_13 rfl (lv_at hl 1 rfl) ?_
    refine lv_icmp_eq (tgt := 21) S.1 S.2.1 dJ9_floorDiv_7cf53_14 (by decide) (fun c_2 => ?_) (fun c_2 => ?_)
    · skip
      refine lv_iload_n S.1 S.2.1 dJ9_floorDiv_7cf53_21 rfl (lv_at hl 0 rfl) ?_
      exact ret _ _ _ _ _ (by exact hw) (by simp only [jFD, c_1, c_2, ↓reduceIte]) dJ9_floorDiv_7cf53_22
    · skip
      refine lv_iload_n S.1 S.2.1 dJ9_floorDiv_7cf53_17 rfl (lv_at hl 0 rfl) ?_
      refine lv_iconst (v := 1) S.1 S.2.1 dJ9_floorDiv_7cf53_18 (by decide) ?_
      refine lv_isub S.1 S.2.1 dJ9_floorDiv_7cf53_19 ?_
      exact ret _ _ _ _ _ (by exact hw) (by simp only [jFD, c_1, c_2, ↓reduceIte]) dJ9_floorDiv_7cf53_20

theorem i_X2_copyFrom_X2 : ∀ w ∈ u_ws RX2 TX2 2, w ∈ wsX2_copyFrom := by decide +kernel
theorem f_X2_copyFrom_9 : Cond.fieldLink RX2 9 "ChargeLines$Pairs" "outputs" "[I" ∈ wsX2_copyFrom := by decide +kernel
theorem w_X2_copyFrom_cl18 : Cond.methodLink RX2 18 arraycopyName ∈ wsX2_copyFrom := by decide +kernel
theorem w_X2_copyFrom_cn : Cond.native arraycopyName ∈ wsX2_copyFrom := by decide +kernel
theorem w_X2_copyFrom_cs : Cond.static arraycopyName ∈ wsX2_copyFrom := by decide +kernel
theorem w_X2_copyFrom_ci : Cond.initialized "java/lang/System" ∈ wsX2_copyFrom := by decide +kernel
theorem f_X2_copyFrom_15 : Cond.fieldLink RX2 15 "ChargeLines$Pairs" "sizes" "[I" ∈ wsX2_copyFrom := by decide +kernel
set_option maxHeartbeats 4000000 in
set_option maxRecDepth 100000 in
/-- Pairs.copyFrom -/
theorem c_X2_copyFrom (l : Launch) (D : va_G) (cI cC cL : ClassId) (q q2 : Nat → Nat) (u u2 : U) : y_MV l yX2_copyFrom wsX2_copyFrom 1 18 D cI cC cL [.ref (q 4), .ref (q2 4)] (cPr cI q u ++ cPr cI q2 u2) (fun v : U => cPr cI q v ++ cPr cI q2 u2) (prMix u2 u) := by
  refine y_startV (cc := cX2_copyFrom) (maxL := 2) (by decide) rfl (Nat.le_of_ble_eq_true rfl) ?_
  intro p e s mm args below meth c A QQ ls S hw ret hl
  have S : CallFix p mm c cX2_copyFrom 2 s args wsX2_copyFrom RX2 := S
  have hw : y_W D cI cC cL A s s.heap [] [((q 4), .inr (2, [.ref (q 5), .ref (q 6)])), ((q 5), .inl (cI, 3, .inl (u 8))), ((q 6), .inl (cI, 3, .inl (u 9))), ((q2 4), .inr (2, [.ref (q2 5), .ref (q2 6)])), ((q2 5), .inl (cI, 3, .inl (u2 8))), ((q2 6), .inl (cI, 3, .inl (u2 9)))] := hw
  have hl : lv_has ls 2 [(0, .ref (q 4)), (1, .ref (q2 4))] := hl
  refine lv_aload_n S.1 S.2.1 dX2_copyFrom_0 rfl (lv_at hl 1 rfl) ?_
  refine y_get S hw (C := RX2) (T := TX2) (N := 2) i_X2_copyFrom_X2 3 rfl rfl 0 (by decide) f_X2_copyFrom_9 rfl dX2_copyFrom_1 ?_
  refine lv_iconst (v := 0) S.1 S.2.1 dX2_copyFrom_4 (by decide) ?_
  refine lv_aload_n S.1 S.2.1 dX2_copyFrom_5 rfl (lv_at hl 0 rfl) ?_
  refine y_get S hw (C := RX2) (T := TX2) (N := 2) i_X2_copyFrom_X2 0 rfl rfl 0 (by decide) f_X2_copyFrom_9 rfl dX2_copyFrom_6 ?_
  refine lv_iconst (v := 0) S.1 S.2.1 dX2_copyFrom_9 (by decide) ?_
  refine lv_iconst (v := 3) S.1 S.2.1 dX2_copyFrom_10 (by decide) ?_
  refine y_copy (rest := []) S hw hl.1 w_X2_copyFrom_cl18 w_X2_copyFrom_cn w_X2_copyFrom_cs w_X2_copyFrom_ci 4 1 rfl rfl (by decide) (Nat.le_of_ble_eq_true rfl) (Nat.le_of_ble_eq_true rfl) (Nat.le_of_ble_eq_true rfl) dX2_copyFrom_11 (ws' := [((q 4), .inr (2, [.ref (q 5), .ref (q 6)])), ((q 5), .inl (cI, 3, .inl (u2 8))), ((q 6), .inl (cI, 3, .inl (u 9))), ((q2 4), .inr (2, [.ref (q2 5), .ref (q2 6)])), ((q2 5), .inl (cI, 3, .inl (u2 8))), ((q2 6), .inl (cI, 3, .inl (u2 9)))]) rfl (fun H locs hw => ?_)
  refine lv_aload_n S.1 S.2.1 dX2_copyFrom_14 rfl (lv_at hl 1 rfl) ?_
  refine y_get S hw (C := RX2) (T := TX2) (N := 2) i_X2_copyFrom_X2 3 rfl rfl 1 (by decide) f_X2_copyFrom_15 rfl dX2_copyFrom_15 ?_
  refine lv_iconst (v := 0) S.1 S.2.1 dX2_copyFrom_18 (by decide) ?_
  refine lv_aload_n S.1 S.2.1 dX2_copyFrom_19 rfl (lv_at hl 0 rfl) ?_
  refine y_get S hw (C := RX2) (T := TX2) (N := 2) i_X2_copyFrom_X2 0 rfl rfl 1 (by decide) f_X2_copyFrom_15 rfl dX2_copyFrom_20 ?_
  refine lv_iconst (v := 0) S.1 S.2.1 dX2_copyFrom_23 (by decide) ?_
  refine lv_iconst (v := 3) S.1 S.2.1 dX2_copyFrom_24 (by decide) ?_
  refine y_copy (rest := []) S hw hl.1 w_X2_copyFrom_cl18 w_X2_copyFrom_cn w_X2_copyFrom_cs w_X2_copyFrom_ci 5 2 rfl rfl (by decide) (Nat.le_of_ble_eq_true rfl) (Nat.le_of_ble_eq_true rfl) (Nat.le_of_ble_eq_true rfl) dX2_copyFrom_25 (ws' := [((q 4), .inr (2, [.ref (q 5), .ref (q 6)])), ((q 5), .inl (cI, 3, .inl (u2 8))), ((q 6), .inl (cI, 3, .inl (u2 9))), ((q2 4), .inr (2, [.ref (q2 5), .ref (q2 6)])), ((q2 5), .inl (cI, 3, .inl (u2 8))), ((q2 6), .inl (cI, 3, .inl (u2 9)))]) rfl (fun H locs hw => ?_)
  exact ret _ _ _ _ (by exact hw) dX2_copyFrom_28

theorem i_X2_forget_X2 : ∀ w ∈ u_ws RX2 TX2 2, w ∈ wsX2_forget := by decide +kernel
theorem f_X2_forget_9 : Cond.fieldLink RX2 9 "ChargeLines$Pairs" "outputs" "[I" ∈ wsX2_forget := by decide +kernel
theorem f_X2_forget_15 : Cond.fieldLink RX2 15 "ChargeLines$Pairs" "sizes" "[I" ∈ wsX2_forget := by decide +kernel
set_option maxHeartbeats 4000000 in
set_option maxRecDepth 100000 in
/-- Pairs.forget -/
theorem c_X2_forget (l : Launch) (D : va_G) (cI cC cL : ClassId) (q : Nat → Nat) (u : U) : y_MV l yX2_forget wsX2_forget 1 23 D cI cC cL [.ref (q 4)] (cPr cI q u) (fun v : U => cPr cI q v) (jForget u) := by
  refine y_startV (cc := cX2_forget) (maxL := 1) (by decide) rfl (Nat.le_of_ble_eq_true rfl) ?_
  intro p e s mm args below meth c A QQ ls S hw ret hl
  have S : CallFix p mm c cX2_forget 1 s args wsX2_forget RX2 := S
  have hw : y_W D cI cC cL A s s.heap [] [((q 4), .inr (2, [.ref (q 5), .ref (q 6)])), ((q 5), .inl (cI, 3, .inl (u 8))), ((q 6), .inl (cI, 3, .inl (u 9)))] := hw
  have hl : lv_has ls 1 [(0, .ref (q 4))] := hl
  refine lv_aload_n S.1 S.2.1 dX2_forget_0 rfl (lv_at hl 0 rfl) ?_
  refine y_get S hw (C := RX2) (T := TX2) (N := 2) i_X2_forget_X2 0 rfl rfl 0 (by decide) f_X2_forget_9 rfl dX2_forget_1 ?_
  refine lv_iconst (v := 0) S.1 S.2.1 dX2_forget_4 (by decide) ?_
  refine y_callSV (As := [.ref (q 5), .int 0]) (rest := []) S hw hl.1 (c_J7_fill_53178 l D cI cC cL (q 5) 3 (u 8) 0 (by decide)) (va_cwS 2 S.2.2.2.2 gX2_forget_J7_fill_53178 rfl rfl rfl (by decide +kernel) ⟨Nat.le_of_ble_eq_true rfl, Nat.le_of_ble_eq_true rfl⟩) [1] [0, 2] rfl (by decide +kernel) (wr := [((q 4), .inr (2, [.ref (q 5), .ref (q 6)])), ((q 6), .inl (cI, 3, .inl (u 9)))]) rfl (by decide +kernel) (by decide +kernel) rfl (Nat.le_of_ble_eq_true rfl) dX2_forget_5 rfl ⟨Nat.le_refl _, Nat.le_refl _⟩ (fun H locs v_1 ev_1 hw => ?_)
  have hw : y_W D cI cC cL A s H locs [((q 4), .inr (2, [.ref (q 5), .ref (q 6)])), ((q 6), .inl (cI, 3, .inl (u 9))), ((q 5), .inl (cI, 3, .inl (fun _ => 0)))] := hw
  refine lv_aload_n S.1 S.2.1 dX2_forget_8 rfl (lv_at hl 0 rfl) ?_
  refine y_get S hw (C := RX2) (T := TX2) (N := 2) i_X2_forget_X2 0 rfl rfl 1 (by decide) f_X2_forget_15 rfl dX2_forget_9 ?_
  refine lv_iconst (v := 0) S.1 S.2.1 dX2_forget_12 (by decide) ?_
  refine y_callSV (As := [.ref (q 6), .int 0]) (rest := []) S hw hl.1 (c_J7_fill_53178 l D cI cC cL (q 6) 3 (u 9) 0 (by decide)) (va_cwS 2 S.2.2.2.2 gX2_forget_J7_fill_53178 rfl rfl rfl (by decide +kernel) ⟨Nat.le_of_ble_eq_true rfl, Nat.le_of_ble_eq_true rfl⟩) [1] [0, 2] rfl (by decide +kernel) (wr := [((q 4), .inr (2, [.ref (q 5), .ref (q 6)])), ((q 5), .inl (cI, 3, .inl (fun _ => 0)))]) rfl (by decide +kernel) (by decide +kernel) rfl (Nat.le_of_ble_eq_true rfl) dX2_forget_13 rfl ⟨Nat.le_refl _, Nat.le_refl _⟩ (fun H locs v_3 ev_3 hw => ?_)
  have hw : y_W D cI cC cL A s H locs [((q 4), .inr (2, [.ref (q 5), .ref (q 6)])), ((q 5), .inl (cI, 3, .inl (fun _ => 0))), ((q 6), .inl (cI, 3, .inl (fun _ => 0)))] := hw
  exact ret _ _ _ _ (by exact hw) dX2_forget_16

theorem i_X2_learn_X2 : ∀ w ∈ u_ws RX2 TX2 2, w ∈ wsX2_learn := by decide +kernel
theorem f_X2_learn_9 : Cond.fieldLink RX2 9 "ChargeLines$Pairs" "outputs" "[I" ∈ wsX2_learn := by decide +kernel
theorem f_X2_learn_15 : Cond.fieldLink RX2 15 "ChargeLines$Pairs" "sizes" "[I" ∈ wsX2_learn := by decide +kernel
set_option maxHeartbeats 4000000 in
set_option maxRecDepth 100000 in
/-- Pairs.learn -/
theorem c_X2_learn (l : Launch) (D : va_G) (cI cC cL : ClassId) (q : Nat → Nat) (u : U) (k : Nat) (o z : Int32) (hk : k < 3) : y_MV l yX2_learn wsX2_learn 0 0 D cI cC cL [.ref (q 4), .int (nI k), .int o, .int z] (cPr cI q u) (fun v : U => cPr cI q v) (jLearn u k o z) := by
  refine y_startV (cc := cX2_learn) (maxL := 4) (by decide) rfl (Nat.le_of_ble_eq_true rfl) ?_
  intro p e s mm args below meth c A QQ ls S hw ret hl
  have S : CallFix p mm c cX2_learn 4 s args wsX2_learn RX2 := S
  have hw : y_W D cI cC cL A s s.heap [] [((q 4), .inr (2, [.ref (q 5), .ref (q 6)])), ((q 5), .inl (cI, 3, .inl (u 8))), ((q 6), .inl (cI, 3, .inl (u 9)))] := hw
  have hl : lv_has ls 4 [(0, .ref (q 4)), (1, .int (nI k)), (2, .int o), (3, .int z)] := hl
  refine lv_aload_n S.1 S.2.1 dX2_learn_0 rfl (lv_at hl 0 rfl) ?_
  refine y_get S hw (C := RX2) (T := TX2) (N := 2) i_X2_learn_X2 0 rfl rfl 0 (by decide) f_X2_learn_9 rfl dX2_learn_1 ?_
  refine lv_iload_n S.1 S.2.1 dX2_learn_4 rfl (lv_at hl 1 rfl) ?_
  refine lv_iload_n S.1 S.2.1 dX2_learn_5 rfl (lv_at hl 2 rfl) ?_
  refine y_iast S hw 1 (k := k) rfl (by omega) (Nat.le_of_ble_eq_true rfl) dX2_learn_6 (ws' := [((q 4), .inr (2, [.ref (q 5), .ref (q 6)])), ((q 5), .inl (cI, 3, .inl (upd (u 8) k o))), ((q 6), .inl (cI, 3, .inl (u 9)))]) rfl (fun H locs hw => ?_)
  refine lv_aload_n S.1 S.2.1 dX2_learn_7 rfl (lv_at hl 0 rfl) ?_
  refine y_get S hw (C := RX2) (T := TX2) (N := 2) i_X2_learn_X2 0 rfl rfl 1 (by decide) f_X2_learn_15 rfl dX2_learn_8 ?_
  refine lv_iload_n S.1 S.2.1 dX2_learn_11 rfl (lv_at hl 1 rfl) ?_
  refine lv_iload_n S.1 S.2.1 dX2_learn_12 rfl (lv_at hl 3 rfl) ?_
  refine y_iast S hw 2 (k := k) rfl (by omega) (Nat.le_of_ble_eq_true rfl) dX2_learn_13 (ws' := [((q 4), .inr (2, [.ref (q 5), .ref (q 6)])), ((q 5), .inl (cI, 3, .inl (upd (u 8) k o))), ((q 6), .inl (cI, 3, .inl (upd (u 9) k z)))]) rfl (fun H locs hw => ?_)
  exact ret _ _ _ _ (by exact hw) dX2_learn_14

theorem i_X2_isKnown_X2 : ∀ w ∈ u_ws RX2 TX2 2, w ∈ wsX2_isKnown := by decide +kernel
theorem f_X2_isKnown_15 : Cond.fieldLink RX2 15 "ChargeLines$Pairs" "sizes" "[I" ∈ wsX2_isKnown := by decide +kernel
set_option maxHeartbeats 4000000 in
set_option maxRecDepth 100000 in
/-- Pairs.isKnown -/
theorem c_X2_isKnown (l : Launch) (D : va_G) (cI cC cL : ClassId) (q : Nat → Nat) (u : U) (k : Nat) (hk : k < 3) : y_MI l yX2_isKnown wsX2_isKnown 0 0 D cI cC cL [.ref (q 4), .int (nI k)] (cPr cI q u) (jKn (u 9 k)) (fun _ : Unit => cPr cI q u) () := by
  refine y_startI (cc := cX2_isKnown) (maxL := 2) (ret := some .boolean) (by decide +kernel) rfl (Nat.le_of_ble_eq_true rfl) ⟨_, rfl, fun x h => by rcases h rfl with rfl | rfl <;> rfl⟩ (fun _ => jKn_01) ?_
  intro p e s mm args below meth c A QQ ls S hw ret hl
  have S : CallFix p mm c cX2_isKnown 2 s args wsX2_isKnown RX2 := S
  have hw : y_W D cI cC cL A s s.heap [] [((q 4), .inr (2, [.ref (q 5), .ref (q 6)])), ((q 5), .inl (cI, 3, .inl (u 8))), ((q 6), .inl (cI, 3, .inl (u 9)))] := hw
  have hl : lv_has ls 2 [(0, .ref (q 4)), (1, .int (nI k))] := hl
  refine lv_aload_n S.1 S.2.1 dX2_isKnown_0 rfl (lv_at hl 0 rfl) ?_
  refine y_get S hw (C := RX2) (T := TX2) (N := 2) i_X2_isKnown_X2 0 rfl rfl 1 (by decide) f_X2_isKnown_15 rfl dX2_isKnown_1 ?_
  refine lv_iload_n S.1 S.2.1 dX2_isKnown_4 rfl (lv_at hl 1 rfl) ?_
  refine y_iald S hw 2 (k := k) rfl (by omega) (Nat.le_of_ble_eq_true rfl) dX2_isKnown_5 ?_
  refine lv_if_le (tgt := 13) S.1 S.2.1 dX2_isKnown_6 (by decide) (fun c_1 => ?_) (fun c_1 => ?_)
  · skip
    refine lv_iconst (v := 0) S.1 S.2.1 dX2_isKnown_13 (by decide) ?_
    exact ret _ _ _ _ _ (by exact hw) (by simp only [jKn, c_1, ↓reduceIte]) dX2_isKnown_14
  · skip
    refine lv_iconst (v := 1) S.1 S.2.1 dX2_isKnown_9 (by decide) ?_
    refine lv_goto (tgt := 14) S.1 S.2.1 dX2_isKnown_10 (by decide) ?_
    exact ret _ _ _ _ _ (by exact hw) (by simp only [jKn, c_1, ↓reduceIte]) dX2_isKnown_14

set_option maxHeartbeats 4000000 in
set_option maxRecDepth 100000 in
/-- Pairs.known -/
theorem c_X2_known (l : Launch) (D : va_G) (cI cC cL : ClassId) (q : Nat → Nat) (u : U) : y_MI l yX2_known wsX2_known 1 21 D cI cC cL [.ref (q 4)] (cPr cI q u) (jCnt (u 9) 3) (fun _ : Unit => cPr cI q u) () := by
  refine y_startI (cc := cX2_known) (maxL := 3) (ret := some .int) (by decide +kernel) rfl (Nat.le_of_ble_eq_true rfl) ⟨_, rfl, fun x _ => rfl⟩ (fun h => by cases h) ?_
  intro p e s mm args below meth c A QQ ls S hw ret hl
  have S : CallFix p mm c cX2_known 3 s args wsX2_known RX2 := S
  have hw : y_W D cI cC cL A s s.heap [] [((q 4), .inr (2, [.ref (q 5), .ref (q 6)])), ((q 5), .inl (cI, 3, .inl (u 8))), ((q 6), .inl (cI, 3, .inl (u 9)))] := hw
  have hl : lv_has ls 3 [(0, .ref (q 4))] := hl
  refine lv_iconst (v := 0) S.1 S.2.1 dX2_known_0 (by decide) ?_
  refine lv_istore_n (lv' := [(1, .int 0), (0, .ref (q 4))]) S.1 S.2.1 dX2_known_1 rfl hl (by decide) rfl (fun ls hl => ?_)
  refine lv_iconst (v := 0) S.1 S.2.1 dX2_known_2 (by decide) ?_
  refine lv_istore_n (lv' := [(2, .int 0), (1, .int 0), (0, .ref (q 4))]) S.1 S.2.1 dX2_known_3 rfl hl (by decide) rfl (fun ls hl => ?_)
  have lp4 : ∀ (fuel : Nat) (i : Nat) (z : Int32), (i ≤ 3) → (z = jCnt (u 9) i) → (3 - i) < fuel → ∀ (H : Heap) (locs : List Loc) (ls : Array Slot), y_W D cI cC cL A s H locs [((q 4), .inr (2, [.ref (q 5), .ref (q 6)])), ((q 5), .inl (cI, 3, .inl (u 8))), ((q 6), .inl (cI, 3, .inl (u 9)))] → lv_has ls 3 [(0, .ref (q 4)), (1, .int z), (2, .int (nI i))] → W p l e (y_R 1 21) s mm args below meth c H locs 0 0 QQ (F0 mm 4 ls []) := by
    intro fuel
    induction fuel with
    | zero =>
      intro i z hi hz hfu
      exact absurd hfu (Nat.not_lt_zero _)
    | succ fuel ih4 =>
      intro i z hi hz hfu H locs ls hw hl
      refine lv_iload_n S.1 S.2.1 dX2_known_4 rfl (lv_at hl 2 rfl) ?_
      refine lv_iconst (v := 3) S.1 S.2.1 dX2_known_5 (by decide) ?_
      refine lv_icmp_ge (tgt := 31) S.1 S.2.1 dX2_known_6 (by decide) (fun c_1 => ?_) (fun c_1 => ?_)
      · skip
        have c_1N : 3 ≤ i := (nI_leI (a := 3) (b := i) (by omega) (by omega)).mp c_1
        refine lv_iload_n S.1 S.2.1 dX2_known_31 rfl (lv_at hl 1 rfl) ?_
        exact ret _ _ _ _ _ (by exact hw) (by rw [hz, show i = 3 from by omega]) dX2_known_32
      · skip
        have c_1N : ¬ 3 ≤ i := fun z => c_1 ((nI_leI (a := 3) (b := i) (by omega) (by omega)).mpr z)
        refine lv_iload_n S.1 S.2.1 dX2_known_9 rfl (lv_at hl 1 rfl) ?_
        refine lv_aload_n S.1 S.2.1 dX2_known_10 rfl (lv_at hl 0 rfl) ?_
        refine lv_iload_n S.1 S.2.1 dX2_known_11 rfl (lv_at hl 2 rfl) ?_
        refine y_callI (As := [.int (nI i)]) (rest := [.int z]) S hw hl.1 (c_X2_isKnown l D cI cC cL q u i (by omega)) (cwV 1 S.2.2.2.2 gX2_known_X2_isKnown rfl rfl rfl (by decide +kernel) ⟨Nat.le_of_ble_eq_true rfl, Nat.le_of_ble_eq_true rfl⟩) 0 rfl rfl [0, 1, 2] [] rfl (by decide +kernel) (wr := []) rfl (by decide +kernel) (by decide +kernel) rfl (Nat.le_of_ble_eq_true rfl) dX2_known_12 rfl ⟨Nat.le_refl _, Nat.le_refl _⟩ (fun H locs v_2 x_3 ev_2 ex_3 hw => ?_)
        have hw : y_W D cI cC cL A s H locs [((q 4), .inr (2, [.ref (q 5), .ref (q 6)])), ((q 5), .inl (cI, 3, .inl (u 8))), ((q 6), .inl (cI, 3, .inl (u 9)))] := hw
        subst ex_3
        refine lv_if_eq (tgt := 22) S.1 S.2.1 dX2_known_15 (by decide) (fun c_4 => ?_) (fun c_4 => ?_)
        · skip
          refine lv_iconst (v := 0) S.1 S.2.1 dX2_known_22 (by decide) ?_
          refine lv_iadd S.1 S.2.1 dX2_known_23 ?_
          refine lv_istore_n (lv' := [(1, .int (z + 0)), (0, .ref (q 4)), (2, .int (nI i))]) S.1 S.2.1 dX2_known_24 rfl hl (by decide) rfl (fun ls hl => ?_)
          refine lv_iinc (v := (nI (i + 1))) (lv' := [(2, .int (nI (i + 1))), (1, .int (z + 0)), (0, .ref (q 4))]) S.1 S.2.1 dX2_known_25 hl (k := 2) rfl (by first | exact nI_1 _ | exact nI_add _ _) (by decide) rfl (fun ls hl => ?_)
          refine lv_goto (tgt := 4) S.1 S.2.1 dX2_known_28 (by decide) ?_
          exact ih4 (i + 1) (z + 0) (by omega) (by rw [hz, jCnt]; simp only [c_1, c_4, ↓reduceIte]) (by omega) _ _ ls hw (lv_sub hl [2, 1, 0] rfl)
        · skip
          refine lv_iconst (v := 1) S.1 S.2.1 dX2_known_18 (by decide) ?_
          refine lv_goto (tgt := 23) S.1 S.2.1 dX2_known_19 (by decide) ?_
          refine lv_iadd S.1 S.2.1 dX2_known_23 ?_
          refine lv_istore_n (lv' := [(1, .int (z + 1)), (0, .ref (q 4)), (2, .int (nI i))]) S.1 S.2.1 dX2_known_24 rfl hl (by decide) rfl (fun ls hl => ?_)
          refine lv_iinc (v := (nI (i + 1))) (lv' := [(2, .int (nI (i + 1))), (1, .int (z + 1)), (0, .ref (q 4))]) S.1 S.2.1 dX2_known_25 hl (k := 2) rfl (by first | exact nI_1 _ | exact nI_add _ _) (by decide) rfl (fun ls hl => ?_)
          refine lv_goto (tgt := 4) S.1 S.2.1 dX2_known_28 (by decide) ?_
          exact ih4 (i + 1) (z + 1) (by omega) (by rw [hz, jCnt]; simp only [c_1, c_4, ↓reduceIte]) (by omega) _ _ ls hw (lv_sub hl [2, 1, 0] rfl)
  exact lp4 ((3 - 0) + 1) 0 0 (Nat.zero_le _) (rfl) (Nat.lt_succ_self _) _ _ ls hw (lv_sub hl [2, 1, 0] rfl)

theorem i_X2_mendBetween_X2 : ∀ w ∈ u_ws RX2 TX2 2, w ∈ wsX2_mendBetween := by decide +kernel
theorem f_X2_mendBetween_9 : Cond.fieldLink RX2 9 "ChargeLines$Pairs" "outputs" "[I" ∈ wsX2_mendBetween := by decide +kernel
theorem f_X2_mendBetween_15 : Cond.fieldLink RX2 15 "ChargeLines$Pairs" "sizes" "[I" ∈ wsX2_mendBetween := by decide +kernel
set_option maxHeartbeats 4000000 in
set_option maxRecDepth 100000 in
/-- Pairs.mendBetween -/
theorem c_X2_mendBetween (l : Launch) (D : va_G) (cI cC cL : ClassId) (q : Nat → Nat) (u : U) (j i : Nat) (o : Int32) (hj : j < 3) (hi : i < 3) : y_MI l yX2_mendBetween wsX2_mendBetween 1 22 D cI cC cL [.ref (q 4), .int (nI j), .int (nI i), .int o] (cPr cI q u) (jMBt u j i o) (fun _ : Unit => cPr cI q u) () := by
  refine y_startI (cc := cX2_mendBetween) (maxL := 6) (ret := some .int) (by decide +kernel) rfl (Nat.le_of_ble_eq_true rfl) ⟨_, rfl, fun x _ => rfl⟩ (fun h => by cases h) ?_
  intro p e s mm args below meth c A QQ ls S hw ret hl
  have S : CallFix p mm c cX2_mendBetween 6 s args wsX2_mendBetween RX2 := S
  have hw : y_W D cI cC cL A s s.heap [] [((q 4), .inr (2, [.ref (q 5), .ref (q 6)])), ((q 5), .inl (cI, 3, .inl (u 8))), ((q 6), .inl (cI, 3, .inl (u 9)))] := hw
  have hl : lv_has ls 6 [(0, .ref (q 4)), (1, .int (nI j)), (2, .int (nI i)), (3, .int o)] := hl
  refine lv_aload_n S.1 S.2.1 dX2_mendBetween_0 rfl (lv_at hl 0 rfl) ?_
  refine y_get S hw (C := RX2) (T := TX2) (N := 2) i_X2_mendBetween_X2 0 rfl rfl 0 (by decide) f_X2_mendBetween_9 rfl dX2_mendBetween_1 ?_
  refine lv_iload_n S.1 S.2.1 dX2_mendBetween_4 rfl (lv_at hl 2 rfl) ?_
  refine y_iald S hw 1 (k := i) rfl (by omega) (Nat.le_of_ble_eq_true rfl) dX2_mendBetween_5 ?_
  refine lv_aload_n S.1 S.2.1 dX2_mendBetween_6 rfl (lv_at hl 0 rfl) ?_
  refine y_get S hw (C := RX2) (T := TX2) (N := 2) i_X2_mendBetween_X2 0 rfl rfl 0 (by decide) f_X2_mendBetween_9 rfl dX2_mendBetween_7 ?_
  refine lv_iload_n S.1 S.2.1 dX2_mendBetween_10 rfl (lv_at hl 1 rfl) ?_
  refine y_iald S hw 1 (k := j) rfl (by omega) (Nat.le_of_ble_eq_true rfl) dX2_mendBetween_11 ?_
  refine lv_isub S.1 S.2.1 dX2_mendBetween_12 ?_
  refine lv_istore (lv' := [(4, .int (((u 8) i) - ((u 8) j))), (0, .ref (q 4)), (1, .int (nI j)), (2, .int (nI i)), (3, .int o)]) S.1 S.2.1 dX2_mendBetween_13 hl (by decide) rfl (fun ls hl => ?_)
  refine lv_iload S.1 S.2.1 dX2_mendBetween_15 (lv_at hl 0 rfl) ?_
  refine lv_if_ne (tgt := 27) S.1 S.2.1 dX2_mendBetween_17 (by decide) (fun c_1 => ?_) (fun c_1 => ?_)
  · skip
    refine lv_iload_n S.1 S.2.1 dX2_mendBetween_27 rfl (lv_at hl 4 rfl) ?_
    refine lv_aload_n S.1 S.2.1 dX2_mendBetween_28 rfl (lv_at hl 1 rfl) ?_
    refine y_get S hw (C := RX2) (T := TX2) (N := 2) i_X2_mendBetween_X2 0 rfl rfl 0 (by decide) f_X2_mendBetween_9 rfl dX2_mendBetween_29 ?_
    refine lv_iload_n S.1 S.2.1 dX2_mendBetween_32 rfl (lv_at hl 2 rfl) ?_
    refine y_iald S hw 1 (k := j) rfl (by omega) (Nat.le_of_ble_eq_true rfl) dX2_mendBetween_33 ?_
    refine lv_isub S.1 S.2.1 dX2_mendBetween_34 ?_
    refine lv_aload_n S.1 S.2.1 dX2_mendBetween_35 rfl (lv_at hl 1 rfl) ?_
    refine y_get S hw (C := RX2) (T := TX2) (N := 2) i_X2_mendBetween_X2 0 rfl rfl 1 (by decide) f_X2_mendBetween_15 rfl dX2_mendBetween_36 ?_
    refine lv_iload_n S.1 S.2.1 dX2_mendBetween_39 rfl (lv_at hl 3 rfl) ?_
    refine y_iald S hw 2 (k := i) rfl (by omega) (Nat.le_of_ble_eq_true rfl) dX2_mendBetween_40 ?_
    refine lv_aload_n S.1 S.2.1 dX2_mendBetween_41 rfl (lv_at hl 1 rfl) ?_
    refine y_get S hw (C := RX2) (T := TX2) (N := 2) i_X2_mendBetween_X2 0 rfl rfl 1 (by decide) f_X2_mendBetween_15 rfl dX2_mendBetween_42 ?_
    refine lv_iload_n S.1 S.2.1 dX2_mendBetween_45 rfl (lv_at hl 2 rfl) ?_
    refine y_iald S hw 2 (k := j) rfl (by omega) (Nat.le_of_ble_eq_true rfl) dX2_mendBetween_46 ?_
    refine lv_isub S.1 S.2.1 dX2_mendBetween_47 ?_
    refine lv_imul S.1 S.2.1 dX2_mendBetween_48 ?_
    refine lv_istore (lv' := [(5, .int ((o - ((u 8) j)) * (((u 9) i) - ((u 9) j)))), (4, .int (((u 8) i) - ((u 8) j))), (0, .ref (q 4)), (1, .int (nI j)), (2, .int (nI i)), (3, .int o)]) S.1 S.2.1 dX2_mendBetween_49 hl (by decide) rfl (fun ls hl => ?_)
    refine lv_aload_n S.1 S.2.1 dX2_mendBetween_51 rfl (lv_at hl 2 rfl) ?_
    refine y_get S hw (C := RX2) (T := TX2) (N := 2) i_X2_mendBetween_X2 0 rfl rfl 1 (by decide) f_X2_mendBetween_15 rfl dX2_mendBetween_52 ?_
    refine lv_iload_n S.1 S.2.1 dX2_mendBetween_55 rfl (lv_at hl 3 rfl) ?_
    refine y_iald S hw 2 (k := j) rfl (by omega) (Nat.le_of_ble_eq_true rfl) dX2_mendBetween_56 ?_
    refine lv_iload S.1 S.2.1 dX2_mendBetween_57 (lv_at hl 0 rfl) ?_
    refine lv_iload S.1 S.2.1 dX2_mendBetween_59 (lv_at hl 1 rfl) ?_
    refine y_callSI (As := [.int ((o - ((u 8) j)) * (((u 9) i) - ((u 9) j))), .int (((u 8) i) - ((u 8) j))]) (rest := [.int ((u 9) j)]) S hw hl.1 (c_J9_floorDiv_7cf53 l D cI cC cL ((o - ((u 8) j)) * (((u 9) i) - ((u 9) j))) (((u 8) i) - ((u 8) j)) c_1) (va_cwS 2 S.2.2.2.2 gX2_mendBetween_J9_floorDiv_7cf53 rfl rfl rfl (by decide +kernel) ⟨Nat.le_of_ble_eq_true rfl, Nat.le_of_ble_eq_true rfl⟩) [] [0, 1, 2] rfl (by decide +kernel) (wr := [((q 4), .inr (2, [.ref (q 5), .ref (q 6)])), ((q 5), .inl (cI, 3, .inl (u 8))), ((q 6), .inl (cI, 3, .inl (u 9)))]) rfl (by decide +kernel) (by decide +kernel) rfl (Nat.le_of_ble_eq_true rfl) dX2_mendBetween_61 rfl ⟨Nat.le_refl _, Nat.le_refl _⟩ (fun H locs v_2 x_3 ev_2 ex_3 hw => ?_)
    have hw : y_W D cI cC cL A s H locs [((q 4), .inr (2, [.ref (q 5), .ref (q 6)])), ((q 5), .inl (cI, 3, .inl (u 8))), ((q 6), .inl (cI, 3, .inl (u 9)))] := hw
    subst ex_3
    refine lv_iadd S.1 S.2.1 dX2_mendBetween_64 ?_
    exact ret _ _ _ _ _ (by exact hw) (by rw [jMBt]; first | exact (if_neg c_1).symm | exact (if_pos c_1).symm) dX2_mendBetween_65
  · skip
    refine lv_aload_n S.1 S.2.1 dX2_mendBetween_20 rfl (lv_at hl 1 rfl) ?_
    refine y_get S hw (C := RX2) (T := TX2) (N := 2) i_X2_mendBetween_X2 0 rfl rfl 1 (by decide) f_X2_mendBetween_15 rfl dX2_mendBetween_21 ?_
    refine lv_iload_n S.1 S.2.1 dX2_mendBetween_24 rfl (lv_at hl 2 rfl) ?_
    refine y_iald S hw 2 (k := j) rfl (by omega) (Nat.le_of_ble_eq_true rfl) dX2_mendBetween_25 ?_
    exact ret _ _ _ _ _ (by exact hw) (by rw [jMBt]; first | exact (if_neg c_1).symm | exact (if_pos c_1).symm) dX2_mendBetween_26

theorem i_X2_mendBy_X2 : ∀ w ∈ u_ws RX2 TX2 2, w ∈ wsX2_mendBy := by decide +kernel
theorem f_X2_mendBy_9 : Cond.fieldLink RX2 9 "ChargeLines$Pairs" "outputs" "[I" ∈ wsX2_mendBy := by decide +kernel
theorem f_X2_mendBy_15 : Cond.fieldLink RX2 15 "ChargeLines$Pairs" "sizes" "[I" ∈ wsX2_mendBy := by decide +kernel
theorem k_X2_mendBy_48 : Cond.constantLong RX2 48 (1000000) ∈ wsX2_mendBy := by decide +kernel
theorem w_X2_mendBy_ml50 : Cond.methodLink RX2 50 Lib.MathLoose.min_long.x ∈ wsX2_mendBy := by decide +kernel
theorem w_X2_mendBy_ms50 : Cond.static Lib.MathLoose.min_long.x ∈ wsX2_mendBy := by decide +kernel
theorem w_X2_mendBy_mi50 : Cond.initialized "java/lang/Math" ∈ wsX2_mendBy := by decide +kernel
theorem w_X2_mendBy_mc50 : Cond.code Lib.MathLoose.min_long.x Lib.MathLoose.min_long.code 4 (some .long) ∈ wsX2_mendBy := by decide +kernel
theorem k_X2_mendBy_34 : Cond.constant RX2 34 (-2000004) ∈ wsX2_mendBy := by decide +kernel
set_option maxHeartbeats 4000000 in
set_option maxRecDepth 100000 in
/-- Pairs.mendBy -/
theorem c_X2_mendBy (l : Launch) (D : va_G) (cI cC cL : ClassId) (q : Nat → Nat) (u : U) (j : Nat) (o : Int32) (hj : j < 3) : y_MI l yX2_mendBy wsX2_mendBy 1 15 D cI cC cL [.ref (q 4), .int (nI j), .int o] (cPr cI q u) (jMBy u j o) (fun _ : Unit => cPr cI q u) () := by
  refine y_startI (cc := cX2_mendBy) (maxL := 6) (ret := some .int) (by decide +kernel) rfl (Nat.le_of_ble_eq_true rfl) ⟨_, rfl, fun x _ => rfl⟩ (fun h => by cases h) ?_
  intro p e s mm args below meth c A QQ ls S hw ret hl
  have S : CallFix p mm c cX2_mendBy 6 s args wsX2_mendBy RX2 := S
  have hw : y_W D cI cC cL A s s.heap [] [((q 4), .inr (2, [.ref (q 5), .ref (q 6)])), ((q 5), .inl (cI, 3, .inl (u 8))), ((q 6), .inl (cI, 3, .inl (u 9)))] := hw
  have hl : lv_has ls 6 [(0, .ref (q 4)), (1, .int (nI j)), (2, .int o)] := hl
  refine lv_aload_n S.1 S.2.1 dX2_mendBy_0 rfl (lv_at hl 0 rfl) ?_
  refine y_get S hw (C := RX2) (T := TX2) (N := 2) i_X2_mendBy_X2 0 rfl rfl 0 (by decide) f_X2_mendBy_9 rfl dX2_mendBy_1 ?_
  refine lv_iload_n S.1 S.2.1 dX2_mendBy_4 rfl (lv_at hl 1 rfl) ?_
  refine y_iald S hw 1 (k := j) rfl (by omega) (Nat.le_of_ble_eq_true rfl) dX2_mendBy_5 ?_
  refine lv_istore_n (lv' := [(3, .int ((u 8) j)), (0, .ref (q 4)), (1, .int (nI j)), (2, .int o)]) S.1 S.2.1 dX2_mendBy_6 rfl hl (by decide) rfl (fun ls hl => ?_)
  refine lv_iload_n S.1 S.2.1 dX2_mendBy_7 rfl (lv_at hl 0 rfl) ?_
  refine lv_if_ne (tgt := 14) S.1 S.2.1 dX2_mendBy_8 (by decide) (fun c_1 => ?_) (fun c_1 => ?_)
  · skip
    refine lv_iload_n S.1 S.2.1 dX2_mendBy_14 rfl (lv_at hl 3 rfl) ?_
    refine lv_i2l (v := o.toInt64) S.1 S.2.1 dX2_mendBy_15 rfl ?_
    refine lv_aload_n S.1 S.2.1 dX2_mendBy_16 rfl (lv_at hl 1 rfl) ?_
    refine y_get S hw (C := RX2) (T := TX2) (N := 2) i_X2_mendBy_X2 0 rfl rfl 1 (by decide) f_X2_mendBy_15 rfl dX2_mendBy_17 ?_
    refine lv_iload_n S.1 S.2.1 dX2_mendBy_20 rfl (lv_at hl 2 rfl) ?_
    refine y_iald S hw 2 (k := j) rfl (by omega) (Nat.le_of_ble_eq_true rfl) dX2_mendBy_21 ?_
    refine lv_i2l (v := ((u 9) j).toInt64) S.1 S.2.1 dX2_mendBy_22 rfl ?_
    refine lv_lmul S.1 S.2.1 dX2_mendBy_23 ?_
    refine lv_iload_n S.1 S.2.1 dX2_mendBy_24 rfl (lv_at hl 0 rfl) ?_
    refine lv_i2l (v := ((u 8) j).toInt64) S.1 S.2.1 dX2_mendBy_25 rfl ?_
    refine lv_ldiv S.1 S.2.1 dX2_mendBy_26 (y_l0 c_1) ?_
    refine lv_lstore (lv' := [(4, .long (((o.toInt64) * (((u 9) j).toInt64)) / (((u 8) j).toInt64))), (3, .int ((u 8) j)), (0, .ref (q 4)), (1, .int (nI j)), (2, .int o)]) S.1 S.2.1 dX2_mendBy_27 hl (by decide) rfl (fun ls hl => ?_)
    refine lv_lload S.1 S.2.1 dX2_mendBy_29 (lv_at hl 0 rfl) ?_
    refine lv_ldc2 (v := 1000000) S.1 S.2.1 S.2.2.2.1 (S.2.2.2.2 _ k_X2_mendBy_48) dX2_mendBy_31 ?_
    refine va_mmin_long S.1 S.2.1 (by rw [S.2.2.1, hl.1]) S.2.2.2.1 (S.2.2.2.2 _ w_X2_mendBy_ml50) (S.2.2.2.2 _ w_X2_mendBy_ms50) (S.2.2.2.2 _ w_X2_mendBy_mi50) (S.2.2.2.2 _ w_X2_mendBy_mc50) (Nat.le_of_ble_eq_true rfl) (rest := []) (Nat.le_of_ble_eq_true rfl) (Nat.le_of_ble_eq_true rfl) (Nat.le_of_ble_eq_true rfl) (x := (((o.toInt64) * (((u 9) j).toInt64)) / (((u 8) j).toInt64))) (y := 1000000) dX2_mendBy_34 ?_
    refine lv_l2i (v := (if 1000000 < (((o.toInt64) * (((u 9) j).toInt64)) / (((u 8) j).toInt64)) then 1000000 else (((o.toInt64) * (((u 9) j).toInt64)) / (((u 8) j).toInt64))).toInt32) S.1 S.2.1 dX2_mendBy_37 rfl ?_
    exact ret _ _ _ _ _ (by exact hw) (by rw [jMBy]; first | exact (if_neg c_1).symm | exact (if_pos c_1).symm) dX2_mendBy_38
  · skip
    refine lv_ldc (v := (-2000004)) S.1 S.2.1 S.2.2.2.1 (S.2.2.2.2 _ k_X2_mendBy_34) dX2_mendBy_11 ?_
    exact ret _ _ _ _ _ (by exact hw) (by rw [jMBy]; first | exact (if_neg c_1).symm | exact (if_pos c_1).symm) dX2_mendBy_13

theorem k_X2_mend_34 : Cond.constant RX2 34 (-2000004) ∈ wsX2_mend := by decide +kernel
theorem i_X2_mend_X2 : ∀ w ∈ u_ws RX2 TX2 2, w ∈ wsX2_mend := by decide +kernel
theorem f_X2_mend_9 : Cond.fieldLink RX2 9 "ChargeLines$Pairs" "outputs" "[I" ∈ wsX2_mend := by decide +kernel
set_option maxHeartbeats 4000000 in
set_option maxRecDepth 100000 in
/-- Pairs.mend -/
theorem c_X2_mend (l : Launch) (D : va_G) (cI cC cL : ClassId) (q : Nat → Nat) (u : U) (o : Int32) : y_MI l yX2_mend wsX2_mend 2 47 D cI cC cL [.ref (q 4), .int o] (cPr cI q u) (jMend u o) (fun _ : Unit => cPr cI q u) () := by
  refine y_startI (cc := cX2_mend) (maxL := 6) (ret := some .int) (by decide +kernel) rfl (Nat.le_of_ble_eq_true rfl) ⟨_, rfl, fun x _ => rfl⟩ (fun h => by cases h) ?_
  intro p e s mm args below meth c A QQ ls S hw ret hl
  have S : CallFix p mm c cX2_mend 6 s args wsX2_mend RX2 := S
  have hw : y_W D cI cC cL A s s.heap [] [((q 4), .inr (2, [.ref (q 5), .ref (q 6)])), ((q 5), .inl (cI, 3, .inl (u 8))), ((q 6), .inl (cI, 3, .inl (u 9)))] := hw
  have hl : lv_has ls 6 [(0, .ref (q 4)), (1, .int o)] := hl
  refine lv_iconst (v := (-1)) S.1 S.2.1 dX2_mend_0 (by decide) ?_
  refine lv_istore_n (lv' := [(2, .int (-1)), (0, .ref (q 4)), (1, .int o)]) S.1 S.2.1 dX2_mend_1 rfl hl (by decide) rfl (fun ls hl => ?_)
  refine lv_iconst (v := (-1)) S.1 S.2.1 dX2_mend_2 (by decide) ?_
  refine lv_istore_n (lv' := [(3, .int (-1)), (2, .int (-1)), (0, .ref (q 4)), (1, .int o)]) S.1 S.2.1 dX2_mend_3 rfl hl (by decide) rfl (fun ls hl => ?_)
  refine lv_iconst (v := 0) S.1 S.2.1 dX2_mend_4 (by decide) ?_
  refine lv_istore (lv' := [(4, .int 0), (3, .int (-1)), (2, .int (-1)), (0, .ref (q 4)), (1, .int o)]) S.1 S.2.1 dX2_mend_5 hl (by decide) rfl (fun ls hl => ?_)
  have lp7 : ∀ (fuel : Nat) (i : Nat) (lo : Int32) (hi : Int32), (i ≤ 3) → ((lo, hi) = jML u o i) → (lo = -1 ∨ ∃ j, j < 3 ∧ lo = nI j) → (hi = -1 ∨ ∃ j, j < 3 ∧ hi = nI j) → (3 - i) < fuel → ∀ (H : Heap) (locs : List Loc) (ls : Array Slot), y_W D cI cC cL A s H locs [((q 4), .inr (2, [.ref (q 5), .ref (q 6)])), ((q 5), .inl (cI, 3, .inl (u 8))), ((q 6), .inl (cI, 3, .inl (u 9)))] → lv_has ls 6 [(0, .ref (q 4)), (1, .int o), (2, .int lo), (3, .int hi), (4, .int (nI i))] → W p l e (y_R 2 47) s mm args below meth c H locs 0 0 QQ (F0 mm 7 ls []) := by
    intro fuel
    induction fuel with
    | zero =>
      intro i lo hi hi3 hv hlo hhi hfu
      exact absurd hfu (Nat.not_lt_zero _)
    | succ fuel ih7 =>
      intro i lo hi hi3 hv hlo hhi hfu H locs ls hw hl
      refine lv_iload S.1 S.2.1 dX2_mend_7 (lv_at hl 4 rfl) ?_
      refine lv_iconst (v := 3) S.1 S.2.1 dX2_mend_9 (by decide) ?_
      refine lv_icmp_ge (tgt := 92) S.1 S.2.1 dX2_mend_10 (by decide) (fun c_1 => ?_) (fun c_1 => ?_)
      · skip
        have c_1N : 3 ≤ i := (nI_leI (a := 3) (b := i) (by omega) (by omega)).mp c_1
        have hJ : jML u o 3 = (lo, hi) := by rw [show 3 = i from by omega, ← hv]
        refine lv_iload_n S.1 S.2.1 dX2_mend_92 rfl (lv_at hl 2 rfl) ?_
        refine lv_iconst (v := (-1)) S.1 S.2.1 dX2_mend_93 (by decide) ?_
        refine lv_icmp_ne (tgt := 105) S.1 S.2.1 dX2_mend_94 (by decide) (fun c_2 => ?_) (fun c_2 => ?_)
        · skip
          obtain ⟨j_lo, hj_lo, ej_lo⟩ := hlo.resolve_left c_2
          refine lv_iload_n S.1 S.2.1 dX2_mend_105 rfl (lv_at hl 2 rfl) ?_
          refine y_top (y := (nI j_lo)) (ej_lo) ?_
          refine lv_iconst (v := (-1)) S.1 S.2.1 dX2_mend_106 (by decide) ?_
          refine lv_icmp_ne (tgt := 117) S.1 S.2.1 dX2_mend_107 (by decide) (fun c_3 => ?_) (fun c_3 => ?_)
          · skip
            refine lv_iload_n S.1 S.2.1 dX2_mend_117 rfl (lv_at hl 3 rfl) ?_
            refine lv_iconst (v := (-1)) S.1 S.2.1 dX2_mend_118 (by decide) ?_
            refine lv_icmp_ne (tgt := 131) S.1 S.2.1 dX2_mend_119 (by decide) (fun c_4 => ?_) (fun c_4 => ?_)
            · skip
              obtain ⟨j_hi, hj_hi, ej_hi⟩ := hhi.resolve_left c_4
              refine lv_aload_n S.1 S.2.1 dX2_mend_131 rfl (lv_at hl 0 rfl) ?_
              refine lv_iload_n S.1 S.2.1 dX2_mend_132 rfl (lv_at hl 2 rfl) ?_
              refine y_top (y := (nI j_lo)) (ej_lo) ?_
              refine lv_iload_n S.1 S.2.1 dX2_mend_133 rfl (lv_at hl 3 rfl) ?_
              refine y_top (y := (nI j_hi)) (ej_hi) ?_
              refine lv_iload_n S.1 S.2.1 dX2_mend_134 rfl (lv_at hl 1 rfl) ?_
              refine y_callI (As := [.int (nI j_lo), .int (nI j_hi), .int o]) (rest := []) S hw hl.1 (c_X2_mendBetween l D cI cC cL q u j_lo j_hi o (by omega) (by omega)) (cwV 3 S.2.2.2.2 gX2_mend_X2_mendBetween rfl rfl rfl (by decide +kernel) ⟨Nat.le_of_ble_eq_true rfl, Nat.le_of_ble_eq_true rfl⟩) 0 rfl rfl [0, 1, 2] [] rfl (by decide +kernel) (wr := []) rfl (by decide +kernel) (by decide +kernel) rfl (Nat.le_of_ble_eq_true rfl) dX2_mend_135 rfl ⟨Nat.le_refl _, Nat.le_refl _⟩ (fun H locs v_5 x_6 ev_5 ex_6 hw => ?_)
              have hw : y_W D cI cC cL A s H locs [((q 4), .inr (2, [.ref (q 5), .ref (q 6)])), ((q 5), .inl (cI, 3, .inl (u 8))), ((q 6), .inl (cI, 3, .inl (u 9)))] := hw
              subst ex_6
              exact ret _ _ _ _ _ (by exact hw) (by rw [jMend, hJ]; simp only [c_1, c_2, c_3, c_4, ej_lo, ej_hi, nI_clamp (show j_lo < 2 ^ 31 by omega), nI_clamp (show j_hi < 2 ^ 31 by omega), y_m1 j_lo hj_lo, y_m1 j_hi hj_hi, not_true_eq_false, not_false_eq_true, Decidable.not_not, ↓reduceIte]) dX2_mend_138
            · skip
              refine lv_aload_n S.1 S.2.1 dX2_mend_122 rfl (lv_at hl 0 rfl) ?_
              refine lv_iload_n S.1 S.2.1 dX2_mend_123 rfl (lv_at hl 2 rfl) ?_
              refine y_top (y := (nI j_lo)) (ej_lo) ?_
              refine lv_iload_n S.1 S.2.1 dX2_mend_124 rfl (lv_at hl 1 rfl) ?_
              refine y_callI (As := [.int (nI j_lo), .int o]) (rest := []) S hw hl.1 (c_X2_mendBy l D cI cC cL q u j_lo o (by omega)) (cwV 2 S.2.2.2.2 gX2_mend_X2_mendBy rfl rfl rfl (by decide +kernel) ⟨Nat.le_of_ble_eq_true rfl, Nat.le_of_ble_eq_true rfl⟩) 0 rfl rfl [0, 1, 2] [] rfl (by decide +kernel) (wr := []) rfl (by decide +kernel) (by decide +kernel) rfl (Nat.le_of_ble_eq_true rfl) dX2_mend_125 rfl ⟨Nat.le_refl _, Nat.le_refl _⟩ (fun H locs v_7 x_8 ev_7 ex_8 hw => ?_)
              have hw : y_W D cI cC cL A s H locs [((q 4), .inr (2, [.ref (q 5), .ref (q 6)])), ((q 5), .inl (cI, 3, .inl (u 8))), ((q 6), .inl (cI, 3, .inl (u 9)))] := hw
              subst ex_8
              refine lv_goto (tgt := 138) S.1 S.2.1 dX2_mend_128 (by decide) ?_
              exact ret _ _ _ _ _ (by exact hw) (by rw [jMend, hJ]; simp only [c_1, c_2, c_3, c_4, ej_lo, nI_clamp (show j_lo < 2 ^ 31 by omega), y_m1 j_lo hj_lo, not_true_eq_false, not_false_eq_true, Decidable.not_not, ↓reduceIte]) dX2_mend_138
          · skip
            exact absurd c_3 (y_m1 j_lo hj_lo)
        · skip
          refine lv_iload_n S.1 S.2.1 dX2_mend_97 rfl (lv_at hl 3 rfl) ?_
          refine lv_iconst (v := (-1)) S.1 S.2.1 dX2_mend_98 (by decide) ?_
          refine lv_icmp_ne (tgt := 105) S.1 S.2.1 dX2_mend_99 (by decide) (fun c_9 => ?_) (fun c_9 => ?_)
          · skip
            obtain ⟨j_hi, hj_hi, ej_hi⟩ := hhi.resolve_left c_9
            refine lv_iload_n S.1 S.2.1 dX2_mend_105 rfl (lv_at hl 2 rfl) ?_
            refine lv_iconst (v := (-1)) S.1 S.2.1 dX2_mend_106 (by decide) ?_
            refine lv_icmp_ne (tgt := 117) S.1 S.2.1 dX2_mend_107 (by decide) (fun c_10 => ?_) (fun c_10 => ?_)
            · skip
              exact absurd c_2 c_10
            · skip
              refine lv_aload_n S.1 S.2.1 dX2_mend_110 rfl (lv_at hl 0 rfl) ?_
              refine lv_iload_n S.1 S.2.1 dX2_mend_111 rfl (lv_at hl 3 rfl) ?_
              refine y_top (y := (nI j_hi)) (ej_hi) ?_
              refine lv_iload_n S.1 S.2.1 dX2_mend_112 rfl (lv_at hl 1 rfl) ?_
              refine y_callI (As := [.int (nI j_hi), .int o]) (rest := []) S hw hl.1 (c_X2_mendBy l D cI cC cL q u j_hi o (by omega)) (cwV 2 S.2.2.2.2 gX2_mend_X2_mendBy rfl rfl rfl (by decide +kernel) ⟨Nat.le_of_ble_eq_true rfl, Nat.le_of_ble_eq_true rfl⟩) 0 rfl rfl [0, 1, 2] [] rfl (by decide +kernel) (wr := []) rfl (by decide +kernel) (by decide +kernel) rfl (Nat.le_of_ble_eq_true rfl) dX2_mend_113 rfl ⟨Nat.le_refl _, Nat.le_refl _⟩ (fun H locs v_11 x_12 ev_11 ex_12 hw => ?_)
              have hw : y_W D cI cC cL A s H locs [((q 4), .inr (2, [.ref (q 5), .ref (q 6)])), ((q 5), .inl (cI, 3, .inl (u 8))), ((q 6), .inl (cI, 3, .inl (u 9)))] := hw
              subst ex_12
              exact ret _ _ _ _ _ (by exact hw) (by rw [jMend, hJ]; simp only [c_1, c_2, c_9, c_10, ej_hi, nI_clamp (show j_hi < 2 ^ 31 by omega), y_m1 j_hi hj_hi, not_true_eq_false, not_false_eq_true, Decidable.not_not, ↓reduceIte]) dX2_mend_116
          · skip
            refine lv_ldc (v := (-2000004)) S.1 S.2.1 S.2.2.2.1 (S.2.2.2.2 _ k_X2_mend_34) dX2_mend_102 ?_
            exact ret _ _ _ _ _ (by exact hw) (by rw [jMend, hJ]; simp only [c_1, c_2, c_9, not_true_eq_false, not_false_eq_true, Decidable.not_not, ↓reduceIte]) dX2_mend_104
      · skip
        have c_1N : ¬ 3 ≤ i := fun z => c_1 ((nI_leI (a := 3) (b := i) (by omega) (by omega)).mpr z)
        refine lv_aload_n S.1 S.2.1 dX2_mend_13 rfl (lv_at hl 0 rfl) ?_
        refine y_get S hw (C := RX2) (T := TX2) (N := 2) i_X2_mend_X2 0 rfl rfl 0 (by decide) f_X2_mend_9 rfl dX2_mend_14 ?_
        refine lv_iload S.1 S.2.1 dX2_mend_17 (lv_at hl 4 rfl) ?_
        refine y_iald S hw 1 (k := i) rfl (by omega) (Nat.le_of_ble_eq_true rfl) dX2_mend_19 ?_
        refine lv_istore (lv' := [(5, .int ((u 8) i)), (0, .ref (q 4)), (1, .int o), (2, .int lo), (3, .int hi), (4, .int (nI i))]) S.1 S.2.1 dX2_mend_20 hl (by decide) rfl (fun ls hl => ?_)
        refine lv_aload_n S.1 S.2.1 dX2_mend_22 rfl (lv_at hl 1 rfl) ?_
        refine lv_iload S.1 S.2.1 dX2_mend_23 (lv_at hl 5 rfl) ?_
        refine y_callI (As := [.int (nI i)]) (rest := []) S hw hl.1 (c_X2_isKnown l D cI cC cL q u i (by omega)) (cwV 1 S.2.2.2.2 gX2_mend_X2_isKnown rfl rfl rfl (by decide +kernel) ⟨Nat.le_of_ble_eq_true rfl, Nat.le_of_ble_eq_true rfl⟩) 0 rfl rfl [0, 1, 2] [] rfl (by decide +kernel) (wr := []) rfl (by decide +kernel) (by decide +kernel) rfl (Nat.le_of_ble_eq_true rfl) dX2_mend_25 rfl ⟨Nat.le_refl _, Nat.le_refl _⟩ (fun H locs v_13 x_14 ev_13 ex_14 hw => ?_)
        have hw : y_W D cI cC cL A s H locs [((q 4), .inr (2, [.ref (q 5), .ref (q 6)])), ((q 5), .inl (cI, 3, .inl (u 8))), ((q 6), .inl (cI, 3, .inl (u 9)))] := hw
        subst ex_14
        refine lv_if_eq (tgt := 86) S.1 S.2.1 dX2_mend_28 (by decide) (fun c_15 => ?_) (fun c_15 => ?_)
        · skip
          refine lv_iinc (v := (nI (i + 1))) (lv' := [(4, .int (nI (i + 1))), (5, .int ((u 8) i)), (0, .ref (q 4)), (1, .int o), (2, .int lo), (3, .int hi)]) S.1 S.2.1 dX2_mend_86 hl (k := 5) rfl (by first | exact nI_1 _ | exact nI_add _ _) (by decide) rfl (fun ls hl => ?_)
          refine lv_goto (tgt := 7) S.1 S.2.1 dX2_mend_89 (by decide) ?_
          exact ih7 (i + 1) lo hi (by omega) (by rw [jML, ← hv]; simp only [jMS, jLo, jHi, c_1, c_15, not_false_eq_true, not_true_eq_false, ↓reduceIte]) (by first | exact hlo | exact Or.inr ⟨i, by omega, rfl⟩) (by first | exact hhi | exact Or.inr ⟨i, by omega, rfl⟩) (by omega) _ _ ls hw (lv_sub hl [2, 3, 4, 5, 0] rfl)
        · skip
          refine lv_iload S.1 S.2.1 dX2_mend_31 (lv_at hl 0 rfl) ?_
          refine lv_if_le (tgt := 86) S.1 S.2.1 dX2_mend_33 (by decide) (fun c_16 => ?_) (fun c_16 => ?_)
          · skip
            refine lv_iinc (v := (nI (i + 1))) (lv' := [(4, .int (nI (i + 1))), (5, .int ((u 8) i)), (0, .ref (q 4)), (1, .int o), (2, .int lo), (3, .int hi)]) S.1 S.2.1 dX2_mend_86 hl (k := 5) rfl (by first | exact nI_1 _ | exact nI_add _ _) (by decide) rfl (fun ls hl => ?_)
            refine lv_goto (tgt := 7) S.1 S.2.1 dX2_mend_89 (by decide) ?_
            exact ih7 (i + 1) lo hi (by omega) (by rw [jML, ← hv]; simp only [jMS, jLo, jHi, c_1, c_15, c_16, not_false_eq_true, not_true_eq_false, ↓reduceIte]) (by first | exact hlo | exact Or.inr ⟨i, by omega, rfl⟩) (by first | exact hhi | exact Or.inr ⟨i, by omega, rfl⟩) (by omega) _ _ ls hw (lv_sub hl [2, 3, 4, 5, 0] rfl)
          · skip
            refine lv_iload S.1 S.2.1 dX2_mend_36 (lv_at hl 0 rfl) ?_
            refine lv_iload_n S.1 S.2.1 dX2_mend_38 rfl (lv_at hl 2 rfl) ?_
            refine lv_icmp_gt (tgt := 61) S.1 S.2.1 dX2_mend_39 (by decide) (fun c_17 => ?_) (fun c_17 => ?_)
            · skip
              refine lv_iload S.1 S.2.1 dX2_mend_61 (lv_at hl 0 rfl) ?_
              refine lv_iload_n S.1 S.2.1 dX2_mend_63 rfl (lv_at hl 2 rfl) ?_
              refine lv_icmp_lt (tgt := 86) S.1 S.2.1 dX2_mend_64 (by decide) (fun c_18 => ?_) (fun c_18 => ?_)
              · skip
                refine lv_iinc (v := (nI (i + 1))) (lv' := [(4, .int (nI (i + 1))), (5, .int ((u 8) i)), (0, .ref (q 4)), (1, .int o), (2, .int lo), (3, .int hi)]) S.1 S.2.1 dX2_mend_86 hl (k := 5) rfl (by first | exact nI_1 _ | exact nI_add _ _) (by decide) rfl (fun ls hl => ?_)
                refine lv_goto (tgt := 7) S.1 S.2.1 dX2_mend_89 (by decide) ?_
                exact ih7 (i + 1) lo hi (by omega) (by rw [jML, ← hv]; simp only [jMS, jLo, jHi, c_1, c_15, c_16, c_17, c_18, not_false_eq_true, not_true_eq_false, ↓reduceIte]) (by first | exact hlo | exact Or.inr ⟨i, by omega, rfl⟩) (by first | exact hhi | exact Or.inr ⟨i, by omega, rfl⟩) (by omega) _ _ ls hw (lv_sub hl [2, 3, 4, 5, 0] rfl)
              · skip
                refine lv_iload_n S.1 S.2.1 dX2_mend_67 rfl (lv_at hl 4 rfl) ?_
                refine lv_iconst (v := (-1)) S.1 S.2.1 dX2_mend_68 (by decide) ?_
                refine lv_icmp_eq (tgt := 83) S.1 S.2.1 dX2_mend_69 (by decide) (fun c_19 => ?_) (fun c_19 => ?_)
                · skip
                  refine lv_iload S.1 S.2.1 dX2_mend_83 (lv_at hl 5 rfl) ?_
                  refine lv_istore_n (lv' := [(3, .int (nI i)), (5, .int ((u 8) i)), (0, .ref (q 4)), (1, .int o), (2, .int lo), (4, .int (nI i))]) S.1 S.2.1 dX2_mend_85 rfl hl (by decide) rfl (fun ls hl => ?_)
                  refine lv_iinc (v := (nI (i + 1))) (lv' := [(4, .int (nI (i + 1))), (3, .int (nI i)), (5, .int ((u 8) i)), (0, .ref (q 4)), (1, .int o), (2, .int lo)]) S.1 S.2.1 dX2_mend_86 hl (k := 5) rfl (by first | exact nI_1 _ | exact nI_add _ _) (by decide) rfl (fun ls hl => ?_)
                  refine lv_goto (tgt := 7) S.1 S.2.1 dX2_mend_89 (by decide) ?_
                  exact ih7 (i + 1) lo (nI i) (by omega) (by rw [jML, ← hv]; simp only [jMS, jLo, jHi, c_1, c_15, c_16, c_17, c_18, c_19, not_false_eq_true, not_true_eq_false, ↓reduceIte]) (by first | exact hlo | exact Or.inr ⟨i, by omega, rfl⟩) (by first | exact hhi | exact Or.inr ⟨i, by omega, rfl⟩) (by omega) _ _ ls hw (lv_sub hl [3, 4, 5, 1, 0] rfl)
                · skip
                  refine lv_iload S.1 S.2.1 dX2_mend_72 (lv_at hl 0 rfl) ?_
                  refine lv_aload_n S.1 S.2.1 dX2_mend_74 rfl (lv_at hl 1 rfl) ?_
                  refine y_get S hw (C := RX2) (T := TX2) (N := 2) i_X2_mend_X2 0 rfl rfl 0 (by decide) f_X2_mend_9 rfl dX2_mend_75 ?_
                  refine lv_iload_n S.1 S.2.1 dX2_mend_78 rfl (lv_at hl 4 rfl) ?_
                  obtain ⟨j_hi, hj_hi, ej_hi⟩ := hhi.resolve_left c_19
                  refine y_top (y := (nI j_hi)) (ej_hi) ?_
                  refine y_iald S hw 1 (k := j_hi) rfl (by omega) (Nat.le_of_ble_eq_true rfl) dX2_mend_79 ?_
                  refine y_top (y := (u 8 hi.toNatClampNeg)) (by rw [ej_hi, nI_clamp (by omega)]) ?_
                  refine lv_icmp_ge (tgt := 86) S.1 S.2.1 dX2_mend_80 (by decide) (fun c_20 => ?_) (fun c_20 => ?_)
                  · skip
                    refine lv_iinc (v := (nI (i + 1))) (lv' := [(4, .int (nI (i + 1))), (5, .int ((u 8) i)), (0, .ref (q 4)), (1, .int o), (2, .int lo), (3, .int hi)]) S.1 S.2.1 dX2_mend_86 hl (k := 5) rfl (by first | exact nI_1 _ | exact nI_add _ _) (by decide) rfl (fun ls hl => ?_)
                    refine lv_goto (tgt := 7) S.1 S.2.1 dX2_mend_89 (by decide) ?_
                    exact ih7 (i + 1) lo hi (by omega) (by rw [jML, ← hv]; simp only [jMS, jLo, jHi, c_1, c_15, c_16, c_17, c_18, c_19, c_20, not_false_eq_true, not_true_eq_false, ↓reduceIte]) (by first | exact hlo | exact Or.inr ⟨i, by omega, rfl⟩) (by first | exact hhi | exact Or.inr ⟨i, by omega, rfl⟩) (by omega) _ _ ls hw (lv_sub hl [2, 3, 4, 5, 0] rfl)
                  · skip
                    refine lv_iload S.1 S.2.1 dX2_mend_83 (lv_at hl 5 rfl) ?_
                    refine lv_istore_n (lv' := [(3, .int (nI i)), (5, .int ((u 8) i)), (0, .ref (q 4)), (1, .int o), (2, .int lo), (4, .int (nI i))]) S.1 S.2.1 dX2_mend_85 rfl hl (by decide) rfl (fun ls hl => ?_)
                    refine lv_iinc (v := (nI (i + 1))) (lv' := [(4, .int (nI (i + 1))), (3, .int (nI i)), (5, .int ((u 8) i)), (0, .ref (q 4)), (1, .int o), (2, .int lo)]) S.1 S.2.1 dX2_mend_86 hl (k := 5) rfl (by first | exact nI_1 _ | exact nI_add _ _) (by decide) rfl (fun ls hl => ?_)
                    refine lv_goto (tgt := 7) S.1 S.2.1 dX2_mend_89 (by decide) ?_
                    exact ih7 (i + 1) lo (nI i) (by omega) (by rw [jML, ← hv]; simp only [jMS, jLo, jHi, c_1, c_15, c_16, c_17, c_18, c_19, c_20, not_false_eq_true, not_true_eq_false, ↓reduceIte]) (by first | exact hlo | exact Or.inr ⟨i, by omega, rfl⟩) (by first | exact hhi | exact Or.inr ⟨i, by omega, rfl⟩) (by omega) _ _ ls hw (lv_sub hl [3, 4, 5, 1, 0] rfl)
            · skip
              refine lv_iload_n S.1 S.2.1 dX2_mend_42 rfl (lv_at hl 3 rfl) ?_
              refine lv_iconst (v := (-1)) S.1 S.2.1 dX2_mend_43 (by decide) ?_
              refine lv_icmp_eq (tgt := 58) S.1 S.2.1 dX2_mend_44 (by decide) (fun c_21 => ?_) (fun c_21 => ?_)
              · skip
                refine lv_iload S.1 S.2.1 dX2_mend_58 (lv_at hl 5 rfl) ?_
                refine lv_istore_n (lv' := [(2, .int (nI i)), (5, .int ((u 8) i)), (0, .ref (q 4)), (1, .int o), (3, .int hi), (4, .int (nI i))]) S.1 S.2.1 dX2_mend_60 rfl hl (by decide) rfl (fun ls hl => ?_)
                refine lv_iload S.1 S.2.1 dX2_mend_61 (lv_at hl 1 rfl) ?_
                refine lv_iload_n S.1 S.2.1 dX2_mend_63 rfl (lv_at hl 3 rfl) ?_
                refine lv_icmp_lt (tgt := 86) S.1 S.2.1 dX2_mend_64 (by decide) (fun c_22 => ?_) (fun c_22 => ?_)
                · skip
                  refine lv_iinc (v := (nI (i + 1))) (lv' := [(4, .int (nI (i + 1))), (2, .int (nI i)), (5, .int ((u 8) i)), (0, .ref (q 4)), (1, .int o), (3, .int hi)]) S.1 S.2.1 dX2_mend_86 hl (k := 5) rfl (by first | exact nI_1 _ | exact nI_add _ _) (by decide) rfl (fun ls hl => ?_)
                  refine lv_goto (tgt := 7) S.1 S.2.1 dX2_mend_89 (by decide) ?_
                  exact ih7 (i + 1) (nI i) hi (by omega) (by rw [jML, ← hv]; simp only [jMS, jLo, jHi, c_1, c_15, c_16, c_17, c_21, c_22, not_false_eq_true, not_true_eq_false, ↓reduceIte]) (by first | exact hlo | exact Or.inr ⟨i, by omega, rfl⟩) (by first | exact hhi | exact Or.inr ⟨i, by omega, rfl⟩) (by omega) _ _ ls hw (lv_sub hl [3, 4, 1, 5, 0] rfl)
                · skip
                  refine lv_iload_n S.1 S.2.1 dX2_mend_67 rfl (lv_at hl 4 rfl) ?_
                  refine lv_iconst (v := (-1)) S.1 S.2.1 dX2_mend_68 (by decide) ?_
                  refine lv_icmp_eq (tgt := 83) S.1 S.2.1 dX2_mend_69 (by decide) (fun c_23 => ?_) (fun c_23 => ?_)
                  · skip
                    refine lv_iload S.1 S.2.1 dX2_mend_83 (lv_at hl 5 rfl) ?_
                    refine lv_istore_n (lv' := [(3, .int (nI i)), (2, .int (nI i)), (5, .int ((u 8) i)), (0, .ref (q 4)), (1, .int o), (4, .int (nI i))]) S.1 S.2.1 dX2_mend_85 rfl hl (by decide) rfl (fun ls hl => ?_)
                    refine lv_iinc (v := (nI (i + 1))) (lv' := [(4, .int (nI (i + 1))), (3, .int (nI i)), (2, .int (nI i)), (5, .int ((u 8) i)), (0, .ref (q 4)), (1, .int o)]) S.1 S.2.1 dX2_mend_86 hl (k := 5) rfl (by first | exact nI_1 _ | exact nI_add _ _) (by decide) rfl (fun ls hl => ?_)
                    refine lv_goto (tgt := 7) S.1 S.2.1 dX2_mend_89 (by decide) ?_
                    exact ih7 (i + 1) (nI i) (nI i) (by omega) (by rw [jML, ← hv]; simp only [jMS, jLo, jHi, c_1, c_15, c_16, c_17, c_21, c_22, c_23, not_false_eq_true, not_true_eq_false, ↓reduceIte]) (by first | exact hlo | exact Or.inr ⟨i, by omega, rfl⟩) (by first | exact hhi | exact Or.inr ⟨i, by omega, rfl⟩) (by omega) _ _ ls hw (lv_sub hl [4, 5, 2, 1, 0] rfl)
                  · skip
                    refine lv_iload S.1 S.2.1 dX2_mend_72 (lv_at hl 1 rfl) ?_
                    refine lv_aload_n S.1 S.2.1 dX2_mend_74 rfl (lv_at hl 2 rfl) ?_
                    refine y_get S hw (C := RX2) (T := TX2) (N := 2) i_X2_mend_X2 0 rfl rfl 0 (by decide) f_X2_mend_9 rfl dX2_mend_75 ?_
                    refine lv_iload_n S.1 S.2.1 dX2_mend_78 rfl (lv_at hl 4 rfl) ?_
                    obtain ⟨j_hi, hj_hi, ej_hi⟩ := hhi.resolve_left c_23
                    refine y_top (y := (nI j_hi)) (ej_hi) ?_
                    refine y_iald S hw 1 (k := j_hi) rfl (by omega) (Nat.le_of_ble_eq_true rfl) dX2_mend_79 ?_
                    refine y_top (y := (u 8 hi.toNatClampNeg)) (by rw [ej_hi, nI_clamp (by omega)]) ?_
                    refine lv_icmp_ge (tgt := 86) S.1 S.2.1 dX2_mend_80 (by decide) (fun c_24 => ?_) (fun c_24 => ?_)
                    · skip
                      refine lv_iinc (v := (nI (i + 1))) (lv' := [(4, .int (nI (i + 1))), (2, .int (nI i)), (5, .int ((u 8) i)), (0, .ref (q 4)), (1, .int o), (3, .int hi)]) S.1 S.2.1 dX2_mend_86 hl (k := 5) rfl (by first | exact nI_1 _ | exact nI_add _ _) (by decide) rfl (fun ls hl => ?_)
                      refine lv_goto (tgt := 7) S.1 S.2.1 dX2_mend_89 (by decide) ?_
                      exact ih7 (i + 1) (nI i) hi (by omega) (by rw [jML, ← hv]; simp only [jMS, jLo, jHi, c_1, c_15, c_16, c_17, c_21, c_22, c_23, c_24, not_false_eq_true, not_true_eq_false, ↓reduceIte]) (by first | exact hlo | exact Or.inr ⟨i, by omega, rfl⟩) (by first | exact hhi | exact Or.inr ⟨i, by omega, rfl⟩) (by omega) _ _ ls hw (lv_sub hl [3, 4, 1, 5, 0] rfl)
                    · skip
                      refine lv_iload S.1 S.2.1 dX2_mend_83 (lv_at hl 5 rfl) ?_
                      refine lv_istore_n (lv' := [(3, .int (nI i)), (2, .int (nI i)), (5, .int ((u 8) i)), (0, .ref (q 4)), (1, .int o), (4, .int (nI i))]) S.1 S.2.1 dX2_mend_85 rfl hl (by decide) rfl (fun ls hl => ?_)
                      refine lv_iinc (v := (nI (i + 1))) (lv' := [(4, .int (nI (i + 1))), (3, .int (nI i)), (2, .int (nI i)), (5, .int ((u 8) i)), (0, .ref (q 4)), (1, .int o)]) S.1 S.2.1 dX2_mend_86 hl (k := 5) rfl (by first | exact nI_1 _ | exact nI_add _ _) (by decide) rfl (fun ls hl => ?_)
                      refine lv_goto (tgt := 7) S.1 S.2.1 dX2_mend_89 (by decide) ?_
                      exact ih7 (i + 1) (nI i) (nI i) (by omega) (by rw [jML, ← hv]; simp only [jMS, jLo, jHi, c_1, c_15, c_16, c_17, c_21, c_22, c_23, c_24, not_false_eq_true, not_true_eq_false, ↓reduceIte]) (by first | exact hlo | exact Or.inr ⟨i, by omega, rfl⟩) (by first | exact hhi | exact Or.inr ⟨i, by omega, rfl⟩) (by omega) _ _ ls hw (lv_sub hl [4, 5, 2, 1, 0] rfl)
              · skip
                refine lv_iload S.1 S.2.1 dX2_mend_47 (lv_at hl 0 rfl) ?_
                refine lv_aload_n S.1 S.2.1 dX2_mend_49 rfl (lv_at hl 1 rfl) ?_
                refine y_get S hw (C := RX2) (T := TX2) (N := 2) i_X2_mend_X2 0 rfl rfl 0 (by decide) f_X2_mend_9 rfl dX2_mend_50 ?_
                refine lv_iload_n S.1 S.2.1 dX2_mend_53 rfl (lv_at hl 3 rfl) ?_
                obtain ⟨j_lo, hj_lo, ej_lo⟩ := hlo.resolve_left c_21
                refine y_top (y := (nI j_lo)) (ej_lo) ?_
                refine y_iald S hw 1 (k := j_lo) rfl (by omega) (Nat.le_of_ble_eq_true rfl) dX2_mend_54 ?_
                refine y_top (y := (u 8 lo.toNatClampNeg)) (by rw [ej_lo, nI_clamp (by omega)]) ?_
                refine lv_icmp_le (tgt := 61) S.1 S.2.1 dX2_mend_55 (by decide) (fun c_25 => ?_) (fun c_25 => ?_)
                · skip
                  refine lv_iload S.1 S.2.1 dX2_mend_61 (lv_at hl 0 rfl) ?_
                  refine lv_iload_n S.1 S.2.1 dX2_mend_63 rfl (lv_at hl 2 rfl) ?_
                  refine lv_icmp_lt (tgt := 86) S.1 S.2.1 dX2_mend_64 (by decide) (fun c_26 => ?_) (fun c_26 => ?_)
                  · skip
                    refine lv_iinc (v := (nI (i + 1))) (lv' := [(4, .int (nI (i + 1))), (5, .int ((u 8) i)), (0, .ref (q 4)), (1, .int o), (2, .int lo), (3, .int hi)]) S.1 S.2.1 dX2_mend_86 hl (k := 5) rfl (by first | exact nI_1 _ | exact nI_add _ _) (by decide) rfl (fun ls hl => ?_)
                    refine lv_goto (tgt := 7) S.1 S.2.1 dX2_mend_89 (by decide) ?_
                    exact ih7 (i + 1) lo hi (by omega) (by rw [jML, ← hv]; simp only [jMS, jLo, jHi, c_1, c_15, c_16, c_17, c_21, c_25, c_26, not_false_eq_true, not_true_eq_false, ↓reduceIte]) (by first | exact hlo | exact Or.inr ⟨i, by omega, rfl⟩) (by first | exact hhi | exact Or.inr ⟨i, by omega, rfl⟩) (by omega) _ _ ls hw (lv_sub hl [2, 3, 4, 5, 0] rfl)
                  · skip
                    refine lv_iload_n S.1 S.2.1 dX2_mend_67 rfl (lv_at hl 4 rfl) ?_
                    refine lv_iconst (v := (-1)) S.1 S.2.1 dX2_mend_68 (by decide) ?_
                    refine lv_icmp_eq (tgt := 83) S.1 S.2.1 dX2_mend_69 (by decide) (fun c_27 => ?_) (fun c_27 => ?_)
                    · skip
                      refine lv_iload S.1 S.2.1 dX2_mend_83 (lv_at hl 5 rfl) ?_
                      refine lv_istore_n (lv' := [(3, .int (nI i)), (5, .int ((u 8) i)), (0, .ref (q 4)), (1, .int o), (2, .int lo), (4, .int (nI i))]) S.1 S.2.1 dX2_mend_85 rfl hl (by decide) rfl (fun ls hl => ?_)
                      refine lv_iinc (v := (nI (i + 1))) (lv' := [(4, .int (nI (i + 1))), (3, .int (nI i)), (5, .int ((u 8) i)), (0, .ref (q 4)), (1, .int o), (2, .int lo)]) S.1 S.2.1 dX2_mend_86 hl (k := 5) rfl (by first | exact nI_1 _ | exact nI_add _ _) (by decide) rfl (fun ls hl => ?_)
                      refine lv_goto (tgt := 7) S.1 S.2.1 dX2_mend_89 (by decide) ?_
                      exact ih7 (i + 1) lo (nI i) (by omega) (by rw [jML, ← hv]; simp only [jMS, jLo, jHi, c_1, c_15, c_16, c_17, c_21, c_25, c_26, c_27, not_false_eq_true, not_true_eq_false, ↓reduceIte]) (by first | exact hlo | exact Or.inr ⟨i, by omega, rfl⟩) (by first | exact hhi | exact Or.inr ⟨i, by omega, rfl⟩) (by omega) _ _ ls hw (lv_sub hl [3, 4, 5, 1, 0] rfl)
                    · skip
                      refine lv_iload S.1 S.2.1 dX2_mend_72 (lv_at hl 0 rfl) ?_
                      refine lv_aload_n S.1 S.2.1 dX2_mend_74 rfl (lv_at hl 1 rfl) ?_
                      refine y_get S hw (C := RX2) (T := TX2) (N := 2) i_X2_mend_X2 0 rfl rfl 0 (by decide) f_X2_mend_9 rfl dX2_mend_75 ?_
                      refine lv_iload_n S.1 S.2.1 dX2_mend_78 rfl (lv_at hl 4 rfl) ?_
                      obtain ⟨j_hi, hj_hi, ej_hi⟩ := hhi.resolve_left c_27
                      refine y_top (y := (nI j_hi)) (ej_hi) ?_
                      refine y_iald S hw 1 (k := j_hi) rfl (by omega) (Nat.le_of_ble_eq_true rfl) dX2_mend_79 ?_
                      refine y_top (y := (u 8 hi.toNatClampNeg)) (by rw [ej_hi, nI_clamp (by omega)]) ?_
                      refine lv_icmp_ge (tgt := 86) S.1 S.2.1 dX2_mend_80 (by decide) (fun c_28 => ?_) (fun c_28 => ?_)
                      · skip
                        refine lv_iinc (v := (nI (i + 1))) (lv' := [(4, .int (nI (i + 1))), (5, .int ((u 8) i)), (0, .ref (q 4)), (1, .int o), (2, .int lo), (3, .int hi)]) S.1 S.2.1 dX2_mend_86 hl (k := 5) rfl (by first | exact nI_1 _ | exact nI_add _ _) (by decide) rfl (fun ls hl => ?_)
                        refine lv_goto (tgt := 7) S.1 S.2.1 dX2_mend_89 (by decide) ?_
                        exact ih7 (i + 1) lo hi (by omega) (by rw [jML, ← hv]; simp only [jMS, jLo, jHi, c_1, c_15, c_16, c_17, c_21, c_25, c_26, c_27, c_28, not_false_eq_true, not_true_eq_false, ↓reduceIte]) (by first | exact hlo | exact Or.inr ⟨i, by omega, rfl⟩) (by first | exact hhi | exact Or.inr ⟨i, by omega, rfl⟩) (by omega) _ _ ls hw (lv_sub hl [2, 3, 4, 5, 0] rfl)
                      · skip
                        refine lv_iload S.1 S.2.1 dX2_mend_83 (lv_at hl 5 rfl) ?_
                        refine lv_istore_n (lv' := [(3, .int (nI i)), (5, .int ((u 8) i)), (0, .ref (q 4)), (1, .int o), (2, .int lo), (4, .int (nI i))]) S.1 S.2.1 dX2_mend_85 rfl hl (by decide) rfl (fun ls hl => ?_)
                        refine lv_iinc (v := (nI (i + 1))) (lv' := [(4, .int (nI (i + 1))), (3, .int (nI i)), (5, .int ((u 8) i)), (0, .ref (q 4)), (1, .int o), (2, .int lo)]) S.1 S.2.1 dX2_mend_86 hl (k := 5) rfl (by first | exact nI_1 _ | exact nI_add _ _) (by decide) rfl (fun ls hl => ?_)
                        refine lv_goto (tgt := 7) S.1 S.2.1 dX2_mend_89 (by decide) ?_
                        exact ih7 (i + 1) lo (nI i) (by omega) (by rw [jML, ← hv]; simp only [jMS, jLo, jHi, c_1, c_15, c_16, c_17, c_21, c_25, c_26, c_27, c_28, not_false_eq_true, not_true_eq_false, ↓reduceIte]) (by first | exact hlo | exact Or.inr ⟨i, by omega, rfl⟩) (by first | exact hhi | exact Or.inr ⟨i, by omega, rfl⟩) (by omega) _ _ ls hw (lv_sub hl [3, 4, 5, 1, 0] rfl)
                · skip
                  refine lv_iload S.1 S.2.1 dX2_mend_58 (lv_at hl 5 rfl) ?_
                  refine lv_istore_n (lv' := [(2, .int (nI i)), (5, .int ((u 8) i)), (0, .ref (q 4)), (1, .int o), (3, .int hi), (4, .int (nI i))]) S.1 S.2.1 dX2_mend_60 rfl hl (by decide) rfl (fun ls hl => ?_)
                  refine lv_iload S.1 S.2.1 dX2_mend_61 (lv_at hl 1 rfl) ?_
                  refine lv_iload_n S.1 S.2.1 dX2_mend_63 rfl (lv_at hl 3 rfl) ?_
                  refine lv_icmp_lt (tgt := 86) S.1 S.2.1 dX2_mend_64 (by decide) (fun c_29 => ?_) (fun c_29 => ?_)
                  · skip
                    refine lv_iinc (v := (nI (i + 1))) (lv' := [(4, .int (nI (i + 1))), (2, .int (nI i)), (5, .int ((u 8) i)), (0, .ref (q 4)), (1, .int o), (3, .int hi)]) S.1 S.2.1 dX2_mend_86 hl (k := 5) rfl (by first | exact nI_1 _ | exact nI_add _ _) (by decide) rfl (fun ls hl => ?_)
                    refine lv_goto (tgt := 7) S.1 S.2.1 dX2_mend_89 (by decide) ?_
                    exact ih7 (i + 1) (nI i) hi (by omega) (by rw [jML, ← hv]; simp only [jMS, jLo, jHi, c_1, c_15, c_16, c_17, c_21, c_25, c_29, not_false_eq_true, not_true_eq_false, ↓reduceIte]) (by first | exact hlo | exact Or.inr ⟨i, by omega, rfl⟩) (by first | exact hhi | exact Or.inr ⟨i, by omega, rfl⟩) (by omega) _ _ ls hw (lv_sub hl [3, 4, 1, 5, 0] rfl)
                  · skip
                    refine lv_iload_n S.1 S.2.1 dX2_mend_67 rfl (lv_at hl 4 rfl) ?_
                    refine lv_iconst (v := (-1)) S.1 S.2.1 dX2_mend_68 (by decide) ?_
                    refine lv_icmp_eq (tgt := 83) S.1 S.2.1 dX2_mend_69 (by decide) (fun c_30 => ?_) (fun c_30 => ?_)
                    · skip
                      refine lv_iload S.1 S.2.1 dX2_mend_83 (lv_at hl 5 rfl) ?_
                      refine lv_istore_n (lv' := [(3, .int (nI i)), (2, .int (nI i)), (5, .int ((u 8) i)), (0, .ref (q 4)), (1, .int o), (4, .int (nI i))]) S.1 S.2.1 dX2_mend_85 rfl hl (by decide) rfl (fun ls hl => ?_)
                      refine lv_iinc (v := (nI (i + 1))) (lv' := [(4, .int (nI (i + 1))), (3, .int (nI i)), (2, .int (nI i)), (5, .int ((u 8) i)), (0, .ref (q 4)), (1, .int o)]) S.1 S.2.1 dX2_mend_86 hl (k := 5) rfl (by first | exact nI_1 _ | exact nI_add _ _) (by decide) rfl (fun ls hl => ?_)
                      refine lv_goto (tgt := 7) S.1 S.2.1 dX2_mend_89 (by decide) ?_
                      exact ih7 (i + 1) (nI i) (nI i) (by omega) (by rw [jML, ← hv]; simp only [jMS, jLo, jHi, c_1, c_15, c_16, c_17, c_21, c_25, c_29, c_30, not_false_eq_true, not_true_eq_false, ↓reduceIte]) (by first | exact hlo | exact Or.inr ⟨i, by omega, rfl⟩) (by first | exact hhi | exact Or.inr ⟨i, by omega, rfl⟩) (by omega) _ _ ls hw (lv_sub hl [4, 5, 2, 1, 0] rfl)
                    · skip
                      refine lv_iload S.1 S.2.1 dX2_mend_72 (lv_at hl 1 rfl) ?_
                      refine lv_aload_n S.1 S.2.1 dX2_mend_74 rfl (lv_at hl 2 rfl) ?_
                      refine y_get S hw (C := RX2) (T := TX2) (N := 2) i_X2_mend_X2 0 rfl rfl 0 (by decide) f_X2_mend_9 rfl dX2_mend_75 ?_
                      refine lv_iload_n S.1 S.2.1 dX2_mend_78 rfl (lv_at hl 4 rfl) ?_
                      obtain ⟨j_hi, hj_hi, ej_hi⟩ := hhi.resolve_left c_30
                      refine y_top (y := (nI j_hi)) (ej_hi) ?_
                      refine y_iald S hw 1 (k := j_hi) rfl (by omega) (Nat.le_of_ble_eq_true rfl) dX2_mend_79 ?_
                      refine y_top (y := (u 8 hi.toNatClampNeg)) (by rw [ej_hi, nI_clamp (by omega)]) ?_
                      refine lv_icmp_ge (tgt := 86) S.1 S.2.1 dX2_mend_80 (by decide) (fun c_31 => ?_) (fun c_31 => ?_)
                      · skip
                        refine lv_iinc (v := (nI (i + 1))) (lv' := [(4, .int (nI (i + 1))), (2, .int (nI i)), (5, .int ((u 8) i)), (0, .ref (q 4)), (1, .int o), (3, .int hi)]) S.1 S.2.1 dX2_mend_86 hl (k := 5) rfl (by first | exact nI_1 _ | exact nI_add _ _) (by decide) rfl (fun ls hl => ?_)
                        refine lv_goto (tgt := 7) S.1 S.2.1 dX2_mend_89 (by decide) ?_
                        exact ih7 (i + 1) (nI i) hi (by omega) (by rw [jML, ← hv]; simp only [jMS, jLo, jHi, c_1, c_15, c_16, c_17, c_21, c_25, c_29, c_30, c_31, not_false_eq_true, not_true_eq_false, ↓reduceIte]) (by first | exact hlo | exact Or.inr ⟨i, by omega, rfl⟩) (by first | exact hhi | exact Or.inr ⟨i, by omega, rfl⟩) (by omega) _ _ ls hw (lv_sub hl [3, 4, 1, 5, 0] rfl)
                      · skip
                        refine lv_iload S.1 S.2.1 dX2_mend_83 (lv_at hl 5 rfl) ?_
                        refine lv_istore_n (lv' := [(3, .int (nI i)), (2, .int (nI i)), (5, .int ((u 8) i)), (0, .ref (q 4)), (1, .int o), (4, .int (nI i))]) S.1 S.2.1 dX2_mend_85 rfl hl (by decide) rfl (fun ls hl => ?_)
                        refine lv_iinc (v := (nI (i + 1))) (lv' := [(4, .int (nI (i + 1))), (3, .int (nI i)), (2, .int (nI i)), (5, .int ((u 8) i)), (0, .ref (q 4)), (1, .int o)]) S.1 S.2.1 dX2_mend_86 hl (k := 5) rfl (by first | exact nI_1 _ | exact nI_add _ _) (by decide) rfl (fun ls hl => ?_)
                        refine lv_goto (tgt := 7) S.1 S.2.1 dX2_mend_89 (by decide) ?_
                        exact ih7 (i + 1) (nI i) (nI i) (by omega) (by rw [jML, ← hv]; simp only [jMS, jLo, jHi, c_1, c_15, c_16, c_17, c_21, c_25, c_29, c_30, c_31, not_false_eq_true, not_true_eq_false, ↓reduceIte]) (by first | exact hlo | exact Or.inr ⟨i, by omega, rfl⟩) (by first | exact hhi | exact Or.inr ⟨i, by omega, rfl⟩) (by omega) _ _ ls hw (lv_sub hl [4, 5, 2, 1, 0] rfl)
  exact lp7 ((3 - 0) + 1) 0 (-1) (-1) (Nat.zero_le _) (rfl) (Or.inl rfl) (Or.inl rfl) (Nat.lt_succ_self _) _ _ ls hw (lv_sub hl [3, 4, 2, 1, 0] rfl)
