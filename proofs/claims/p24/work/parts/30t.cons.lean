theorem w_X3_init_ol : Cond.methodLink RX3 3 objectInit ∈ wsX3_init := by decide +kernel
theorem w_X3_init_oi : Cond.instanceMethod objectInit ∈ wsX3_init := by decide +kernel
theorem w_X3_init_oc : Cond.code objectInit ⟨#[0xb1]⟩ 1 none ∈ wsX3_init := by decide +kernel
theorem i_X3_init_X3 : ∀ w ∈ u_ws RX3 TX3 8, w ∈ wsX3_init := by decide +kernel
theorem f_X3_init_9 : Cond.fieldLink RX3 9 "ChargeLines$Stages" "many" "I" ∈ wsX3_init := by decide +kernel
theorem w_X3_init_arint : Cond.arrayClass .int ∈ wsX3_init := by decide +kernel
theorem f_X3_init_15 : Cond.fieldLink RX3 15 "ChargeLines$Stages" "charge" "[I" ∈ wsX3_init := by decide +kernel
theorem f_X3_init_19 : Cond.fieldLink RX3 19 "ChargeLines$Stages" "stays" "[I" ∈ wsX3_init := by decide +kernel
theorem f_X3_init_22 : Cond.fieldLink RX3 22 "ChargeLines$Stages" "leaks" "[I" ∈ wsX3_init := by decide +kernel
set_option maxHeartbeats 4000000 in
set_option maxRecDepth 100000 in
/-- Stages() -/
theorem c_X3_init (l : Launch) (D : va_G) (cI cC cL : ClassId) (b : Nat) : y_MN l yX3_init wsX3_init 1 12 3 30 D cI cC cL [.ref b] [(b, .inr (3, [.int 0, .null, .null, .null, .int 0, .int 0, .int 0, .int 0]))] (fun q : Nat → Nat => q 0 = b) (fun q : Nat → Nat => cSt cI q jSt0) := by
  refine y_startN (cc := cX3_init) (maxL := 1) (by decide) rfl (Nat.le_of_ble_eq_true rfl) ?_
  intro p e s mm args below meth c A QQ ls S hnm hX hw ret hl
  have S : CallFix p mm c cX3_init 1 s args wsX3_init RX3 := S
  have h_c : 3 ≤ (y_RN 1 12 3 30).cells := Nat.le_refl _
  have h_s : 30 ≤ (y_RN 1 12 3 30).slots := Nat.le_refl _
  have hl : lv_has ls 1 [(0, .ref b)] := hl
  have hw : y_W D cI cC cL A s s.heap [] [(b, .inr (3, [.int 0, .null, .null, .null, .int 0, .int 0, .int 0, .int 0]))] := hw
  refine lv_aload_n S.1 S.2.1 dX3_init_0 rfl (lv_at hl 0 rfl) ?_
  refine W.objInit S.1 S.2.1 S.2.2.2.1 (S.2.2.2.2 _ w_X3_init_ol) (S.2.2.2.2 _ w_X3_init_oi) (S.2.2.2.2 _ w_X3_init_oc) rfl (by rw [S.2.2.1]; exact hl.1) rfl dX3_init_1 (Nat.le_of_ble_eq_true rfl) (Nat.le_of_ble_eq_true rfl) ?_
  refine W.eq (g2 := F0 mm 4 ls []) rfl ?_
  refine lv_aload_n S.1 S.2.1 dX3_init_4 rfl (lv_at hl 0 rfl) ?_
  refine lv_iconst (v := 4) S.1 S.2.1 dX3_init_5 (by decide) ?_
  refine y_put S hw (C := RX3) (T := TX3) (N := 8) i_X3_init_X3 tyX3_ok nmX3 0 rfl rfl 0 (by decide) f_X3_init_9 (by decide +kernel) rfl rfl (Nat.le_of_ble_eq_true rfl) dX3_init_6 (ws' := [(b, .inr (3, [.int 4, .null, .null, .null, .int 0, .int 0, .int 0, .int 0]))]) rfl (fun H locs hw => ?_)
  refine lv_aload_n S.1 S.2.1 dX3_init_9 rfl (lv_at hl 0 rfl) ?_
  refine lv_bipush (v := 10) S.1 S.2.1 dX3_init_10 (by decide) ?_
  refine y_newI S hw w_X3_init_arint (n := 10) (N := 10) (by decide) (by decide) (Nat.le_of_ble_eq_true rfl) (Nat.le_of_ble_eq_true rfl) (Nat.le_of_ble_eq_true rfl) dX3_init_12 (fun q1 H hw => ?_)
  have hw : y_W D cI cC cL A s _ _ ([(b, .inr (3, [.int 4, .null, .null, .null, .int 0, .int 0, .int 0, .int 0]))] ++ [(q1, .inl (cI, 10, .inl (fun _ => 0)))]) := hw
  refine W.widen (k := 1) (n := 10) (Nat.le_of_ble_eq_true rfl) (Nat.le_of_ble_eq_true rfl) ?_
  refine y_putF S hw hnm (C := RX3) (T := TX3) (N := 8) i_X3_init_X3 tyX3_ok nmX3 0 rfl rfl 1 (by decide) f_X3_init_15 rfl rfl rfl rfl (Nat.le_of_ble_eq_true rfl) dX3_init_14 (ws' := ([(b, .inr (3, [.int 4, .ref q1, .null, .null, .int 0, .int 0, .int 0, .int 0]))] ++ [(q1, .inl (cI, 10, .inl (fun _ => 0)))])) rfl (fun H locs hw => ?_)
  refine lv_aload_n S.1 S.2.1 dX3_init_17 rfl (lv_at hl 0 rfl) ?_
  refine lv_bipush (v := 10) S.1 S.2.1 dX3_init_18 (by decide) ?_
  refine y_newI S hw w_X3_init_arint (n := 10) (N := 10) (by decide) (by decide) (Nat.le_of_ble_eq_true rfl) (Nat.le_of_ble_eq_true rfl) (Nat.le_of_ble_eq_true rfl) dX3_init_20 (fun q2 H hw => ?_)
  have hw : y_W D cI cC cL A s _ _ (([(b, .inr (3, [.int 4, .ref q1, .null, .null, .int 0, .int 0, .int 0, .int 0]))] ++ [(q1, .inl (cI, 10, .inl (fun _ => 0)))]) ++ [(q2, .inl (cI, 10, .inl (fun _ => 0)))]) := hw
  refine W.widen (k := 2) (n := 20) (Nat.le_of_ble_eq_true rfl) (Nat.le_of_ble_eq_true rfl) ?_
  refine y_putF S hw hnm (C := RX3) (T := TX3) (N := 8) i_X3_init_X3 tyX3_ok nmX3 0 rfl rfl 2 (by decide) f_X3_init_19 rfl rfl rfl rfl (Nat.le_of_ble_eq_true rfl) dX3_init_22 (ws' := (([(b, .inr (3, [.int 4, .ref q1, .ref q2, .null, .int 0, .int 0, .int 0, .int 0]))] ++ [(q1, .inl (cI, 10, .inl (fun _ => 0)))]) ++ [(q2, .inl (cI, 10, .inl (fun _ => 0)))])) rfl (fun H locs hw => ?_)
  refine lv_aload_n S.1 S.2.1 dX3_init_25 rfl (lv_at hl 0 rfl) ?_
  refine lv_bipush (v := 10) S.1 S.2.1 dX3_init_26 (by decide) ?_
  refine y_newI S hw w_X3_init_arint (n := 10) (N := 10) (by decide) (by decide) (Nat.le_of_ble_eq_true rfl) (Nat.le_of_ble_eq_true rfl) (Nat.le_of_ble_eq_true rfl) dX3_init_28 (fun q3 H hw => ?_)
  have hw : y_W D cI cC cL A s _ _ ((([(b, .inr (3, [.int 4, .ref q1, .ref q2, .null, .int 0, .int 0, .int 0, .int 0]))] ++ [(q1, .inl (cI, 10, .inl (fun _ => 0)))]) ++ [(q2, .inl (cI, 10, .inl (fun _ => 0)))]) ++ [(q3, .inl (cI, 10, .inl (fun _ => 0)))]) := hw
  refine W.widen (k := 3) (n := 30) (Nat.le_of_ble_eq_true rfl) (Nat.le_of_ble_eq_true rfl) ?_
  refine y_putF S hw hnm (C := RX3) (T := TX3) (N := 8) i_X3_init_X3 tyX3_ok nmX3 0 rfl rfl 3 (by decide) f_X3_init_22 rfl rfl rfl rfl (Nat.le_of_ble_eq_true rfl) dX3_init_30 (ws' := ((([(b, .inr (3, [.int 4, .ref q1, .ref q2, .ref q3, .int 0, .int 0, .int 0, .int 0]))] ++ [(q1, .inl (cI, 10, .inl (fun _ => 0)))]) ++ [(q2, .inl (cI, 10, .inl (fun _ => 0)))]) ++ [(q3, .inl (cI, 10, .inl (fun _ => 0)))])) rfl (fun H locs hw => ?_)
  exact ret _ _ _ _ (fun i => match i with | 0 => b | 1 => q1 | 2 => q2 | _ => q3) (hw.sub [0, 1, 2, 3] (by decide) rfl) rfl dX3_init_33

theorem w_X2_init_ol : Cond.methodLink RX2 3 objectInit ∈ wsX2_init := by decide +kernel
theorem w_X2_init_oi : Cond.instanceMethod objectInit ∈ wsX2_init := by decide +kernel
theorem w_X2_init_oc : Cond.code objectInit ⟨#[0xb1]⟩ 1 none ∈ wsX2_init := by decide +kernel
theorem w_X2_init_arint : Cond.arrayClass .int ∈ wsX2_init := by decide +kernel
theorem i_X2_init_X2 : ∀ w ∈ u_ws RX2 TX2 2, w ∈ wsX2_init := by decide +kernel
theorem f_X2_init_9 : Cond.fieldLink RX2 9 "ChargeLines$Pairs" "outputs" "[I" ∈ wsX2_init := by decide +kernel
theorem f_X2_init_15 : Cond.fieldLink RX2 15 "ChargeLines$Pairs" "sizes" "[I" ∈ wsX2_init := by decide +kernel
set_option maxHeartbeats 4000000 in
set_option maxRecDepth 100000 in
/-- Pairs() -/
theorem c_X2_init (l : Launch) (D : va_G) (cI cC cL : ClassId) (b : Nat) : y_MN l yX2_init wsX2_init 1 12 2 6 D cI cC cL [.ref b] [(b, .inr (2, [.null, .null]))] (fun q : Nat → Nat => q 4 = b) (fun q : Nat → Nat => cPr cI q jLn0) := by
  refine y_startN (cc := cX2_init) (maxL := 1) (by decide) rfl (Nat.le_of_ble_eq_true rfl) ?_
  intro p e s mm args below meth c A QQ ls S hnm hX hw ret hl
  have S : CallFix p mm c cX2_init 1 s args wsX2_init RX2 := S
  have h_c : 2 ≤ (y_RN 1 12 2 6).cells := Nat.le_refl _
  have h_s : 6 ≤ (y_RN 1 12 2 6).slots := Nat.le_refl _
  have hl : lv_has ls 1 [(0, .ref b)] := hl
  have hw : y_W D cI cC cL A s s.heap [] [(b, .inr (2, [.null, .null]))] := hw
  refine lv_aload_n S.1 S.2.1 dX2_init_0 rfl (lv_at hl 0 rfl) ?_
  refine W.objInit S.1 S.2.1 S.2.2.2.1 (S.2.2.2.2 _ w_X2_init_ol) (S.2.2.2.2 _ w_X2_init_oi) (S.2.2.2.2 _ w_X2_init_oc) rfl (by rw [S.2.2.1]; exact hl.1) rfl dX2_init_1 (Nat.le_of_ble_eq_true rfl) (Nat.le_of_ble_eq_true rfl) ?_
  refine W.eq (g2 := F0 mm 4 ls []) rfl ?_
  refine lv_aload_n S.1 S.2.1 dX2_init_4 rfl (lv_at hl 0 rfl) ?_
  refine lv_iconst (v := 3) S.1 S.2.1 dX2_init_5 (by decide) ?_
  refine y_newI S hw w_X2_init_arint (n := 3) (N := 3) (by decide) (by decide) (Nat.le_of_ble_eq_true rfl) (Nat.le_of_ble_eq_true rfl) (Nat.le_of_ble_eq_true rfl) dX2_init_6 (fun q1 H hw => ?_)
  have hw : y_W D cI cC cL A s _ _ ([(b, .inr (2, [.null, .null]))] ++ [(q1, .inl (cI, 3, .inl (fun _ => 0)))]) := hw
  refine W.widen (k := 1) (n := 3) (Nat.le_of_ble_eq_true rfl) (Nat.le_of_ble_eq_true rfl) ?_
  refine y_putF S hw hnm (C := RX2) (T := TX2) (N := 2) i_X2_init_X2 tyX2_ok nmX2 0 rfl rfl 0 (by decide) f_X2_init_9 rfl rfl rfl rfl (Nat.le_of_ble_eq_true rfl) dX2_init_8 (ws' := ([(b, .inr (2, [.ref q1, .null]))] ++ [(q1, .inl (cI, 3, .inl (fun _ => 0)))])) rfl (fun H locs hw => ?_)
  refine lv_aload_n S.1 S.2.1 dX2_init_11 rfl (lv_at hl 0 rfl) ?_
  refine lv_iconst (v := 3) S.1 S.2.1 dX2_init_12 (by decide) ?_
  refine y_newI S hw w_X2_init_arint (n := 3) (N := 3) (by decide) (by decide) (Nat.le_of_ble_eq_true rfl) (Nat.le_of_ble_eq_true rfl) (Nat.le_of_ble_eq_true rfl) dX2_init_13 (fun q2 H hw => ?_)
  have hw : y_W D cI cC cL A s _ _ (([(b, .inr (2, [.ref q1, .null]))] ++ [(q1, .inl (cI, 3, .inl (fun _ => 0)))]) ++ [(q2, .inl (cI, 3, .inl (fun _ => 0)))]) := hw
  refine W.widen (k := 2) (n := 6) (Nat.le_of_ble_eq_true rfl) (Nat.le_of_ble_eq_true rfl) ?_
  refine y_putF S hw hnm (C := RX2) (T := TX2) (N := 2) i_X2_init_X2 tyX2_ok nmX2 0 rfl rfl 1 (by decide) f_X2_init_15 rfl rfl rfl rfl (Nat.le_of_ble_eq_true rfl) dX2_init_15 (ws' := (([(b, .inr (2, [.ref q1, .ref q2]))] ++ [(q1, .inl (cI, 3, .inl (fun _ => 0)))]) ++ [(q2, .inl (cI, 3, .inl (fun _ => 0)))])) rfl (fun H locs hw => ?_)
  exact ret _ _ _ _ (fun i => match i with | 4 => b | 5 => q1 | _ => q2) (hw.sub [0, 1, 2] (by decide) rfl) rfl dX2_init_18

theorem w_X4_init_ol : Cond.methodLink RX4 3 objectInit ∈ wsX4_init := by decide +kernel
theorem w_X4_init_oi : Cond.instanceMethod objectInit ∈ wsX4_init := by decide +kernel
theorem w_X4_init_oc : Cond.code objectInit ⟨#[0xb1]⟩ 1 none ∈ wsX4_init := by decide +kernel
theorem w_X4_init_archar : Cond.arrayClass .char ∈ wsX4_init := by decide +kernel
theorem i_X4_init_X4 : ∀ w ∈ u_ws RX4 TX4 9, w ∈ wsX4_init := by decide +kernel
theorem f_X4_init_9 : Cond.fieldLink RX4 9 "ChargeLines$Text" "signs" "[C" ∈ wsX4_init := by decide +kernel
theorem w_X4_init_arint : Cond.arrayClass .int ∈ wsX4_init := by decide +kernel
theorem f_X4_init_15 : Cond.fieldLink RX4 15 "ChargeLines$Text" "numbers" "[I" ∈ wsX4_init := by decide +kernel
set_option maxHeartbeats 4000000 in
set_option maxRecDepth 100000 in
/-- Text() -/
theorem c_X4_init (l : Launch) (D : va_G) (cI cC cL : ClassId) (b : Nat) : y_MN l yX4_init wsX4_init 1 12 2 63 D cI cC cL [.ref b] [(b, .inr (4, [.null, .int 0, .int 0, .int 0, .int 0, .int 0, .null, .int 0, .int 0]))] (fun q : Nat → Nat => q 0 = b) (fun q : Nat → Nat => cTx cI cC q jTx0) := by
  refine y_startN (cc := cX4_init) (maxL := 1) (by decide) rfl (Nat.le_of_ble_eq_true rfl) ?_
  intro p e s mm args below meth c A QQ ls S hnm hX hw ret hl
  have S : CallFix p mm c cX4_init 1 s args wsX4_init RX4 := S
  have h_c : 2 ≤ (y_RN 1 12 2 63).cells := Nat.le_refl _
  have h_s : 63 ≤ (y_RN 1 12 2 63).slots := Nat.le_refl _
  have hl : lv_has ls 1 [(0, .ref b)] := hl
  have hw : y_W D cI cC cL A s s.heap [] [(b, .inr (4, [.null, .int 0, .int 0, .int 0, .int 0, .int 0, .null, .int 0, .int 0]))] := hw
  refine lv_aload_n S.1 S.2.1 dX4_init_0 rfl (lv_at hl 0 rfl) ?_
  refine W.objInit S.1 S.2.1 S.2.2.2.1 (S.2.2.2.2 _ w_X4_init_ol) (S.2.2.2.2 _ w_X4_init_oi) (S.2.2.2.2 _ w_X4_init_oc) rfl (by rw [S.2.2.1]; exact hl.1) rfl dX4_init_1 (Nat.le_of_ble_eq_true rfl) (Nat.le_of_ble_eq_true rfl) ?_
  refine W.eq (g2 := F0 mm 4 ls []) rfl ?_
  refine lv_aload_n S.1 S.2.1 dX4_init_4 rfl (lv_at hl 0 rfl) ?_
  refine lv_bipush (v := 60) S.1 S.2.1 dX4_init_5 (by decide) ?_
  refine y_newC S hw w_X4_init_archar (n := 60) (N := 60) (by decide) (by decide) (Nat.le_of_ble_eq_true rfl) (Nat.le_of_ble_eq_true rfl) (Nat.le_of_ble_eq_true rfl) dX4_init_7 (fun q1 H hw => ?_)
  have hw : y_W D cI cC cL A s _ _ ([(b, .inr (4, [.null, .int 0, .int 0, .int 0, .int 0, .int 0, .null, .int 0, .int 0]))] ++ [(q1, .inl (cC, 60, .inl (fun _ => 0)))]) := hw
  refine W.widen (k := 1) (n := 60) (Nat.le_of_ble_eq_true rfl) (Nat.le_of_ble_eq_true rfl) ?_
  refine y_putF S hw hnm (C := RX4) (T := TX4) (N := 9) i_X4_init_X4 tyX4_ok nmX4 0 rfl rfl 0 (by decide) f_X4_init_9 rfl rfl rfl rfl (Nat.le_of_ble_eq_true rfl) dX4_init_9 (ws' := ([(b, .inr (4, [.ref q1, .int 0, .int 0, .int 0, .int 0, .int 0, .null, .int 0, .int 0]))] ++ [(q1, .inl (cC, 60, .inl (fun _ => 0)))])) rfl (fun H locs hw => ?_)
  refine lv_aload_n S.1 S.2.1 dX4_init_12 rfl (lv_at hl 0 rfl) ?_
  refine lv_iconst (v := 3) S.1 S.2.1 dX4_init_13 (by decide) ?_
  refine y_newI S hw w_X4_init_arint (n := 3) (N := 3) (by decide) (by decide) (Nat.le_of_ble_eq_true rfl) (Nat.le_of_ble_eq_true rfl) (Nat.le_of_ble_eq_true rfl) dX4_init_14 (fun q2 H hw => ?_)
  have hw : y_W D cI cC cL A s _ _ (([(b, .inr (4, [.ref q1, .int 0, .int 0, .int 0, .int 0, .int 0, .null, .int 0, .int 0]))] ++ [(q1, .inl (cC, 60, .inl (fun _ => 0)))]) ++ [(q2, .inl (cI, 3, .inl (fun _ => 0)))]) := hw
  refine W.widen (k := 2) (n := 63) (Nat.le_of_ble_eq_true rfl) (Nat.le_of_ble_eq_true rfl) ?_
  refine y_putF S hw hnm (C := RX4) (T := TX4) (N := 9) i_X4_init_X4 tyX4_ok nmX4 0 rfl rfl 6 (by decide) f_X4_init_15 rfl rfl rfl rfl (Nat.le_of_ble_eq_true rfl) dX4_init_16 (ws' := (([(b, .inr (4, [.ref q1, .int 0, .int 0, .int 0, .int 0, .int 0, .ref q2, .int 0, .int 0]))] ++ [(q1, .inl (cC, 60, .inl (fun _ => 0)))]) ++ [(q2, .inl (cI, 3, .inl (fun _ => 0)))])) rfl (fun H locs hw => ?_)
  exact ret _ _ _ _ (fun i => match i with | 0 => b | 1 => q1 | _ => q2) (hw.sub [0, 1, 2] (by decide) rfl) rfl dX4_init_19

theorem w_X1_init_ol : Cond.methodLink RX1 3 objectInit ∈ wsX1_init := by decide +kernel
theorem w_X1_init_oi : Cond.instanceMethod objectInit ∈ wsX1_init := by decide +kernel
theorem w_X1_init_oc : Cond.code objectInit ⟨#[0xb1]⟩ 1 none ∈ wsX1_init := by decide +kernel
theorem w_X1_init_cl9 : Cond.classLink RX1 9 RX3 ∈ wsX1_init := by decide +kernel
theorem w_X1_init_inX3 : Cond.instantiable RX3 8 ∈ wsX1_init := by decide +kernel
theorem w_X1_init_iiX3 : Cond.initialized RX3 ∈ wsX1_init := by decide +kernel
theorem i_X1_init_X3 : ∀ w ∈ u_ws RX3 TX3 8, w ∈ wsX1_init := by decide +kernel
theorem w_X1_init_imX3 : Cond.instanceMethod yX3_init ∈ wsX1_init := by decide +kernel
theorem i_X1_init_X1 : ∀ w ∈ u_ws RX1 TX1 9, w ∈ wsX1_init := by decide +kernel
theorem f_X1_init_12 : Cond.fieldLink RX1 12 "ChargeLines$Line" "stages" "LChargeLines$Stages;" ∈ wsX1_init := by decide +kernel
theorem w_X1_init_cl18 : Cond.classLink RX1 18 RX2 ∈ wsX1_init := by decide +kernel
theorem w_X1_init_inX2 : Cond.instantiable RX2 2 ∈ wsX1_init := by decide +kernel
theorem w_X1_init_iiX2 : Cond.initialized RX2 ∈ wsX1_init := by decide +kernel
theorem i_X1_init_X2 : ∀ w ∈ u_ws RX2 TX2 2, w ∈ wsX1_init := by decide +kernel
theorem w_X1_init_imX2 : Cond.instanceMethod yX2_init ∈ wsX1_init := by decide +kernel
theorem f_X1_init_21 : Cond.fieldLink RX1 21 "ChargeLines$Line" "pairs" "LChargeLines$Pairs;" ∈ wsX1_init := by decide +kernel
theorem w_X1_init_c1 : Cond.methodLink RX1 29 ⟨"[I", "clone", "()Ljava/lang/Object;"⟩ ∈ wsX1_init := by decide +kernel
theorem w_X1_init_c2 : Cond.sameMethod "[I" "java/lang/Object" "clone" "()Ljava/lang/Object;" ∈ wsX1_init := by decide +kernel
theorem w_X1_init_c3 : Cond.native ⟨"java/lang/Object", "clone", "()Ljava/lang/Object;"⟩ ∈ wsX1_init := by decide +kernel
theorem w_X1_init_c4 : Cond.instanceMethod ⟨"java/lang/Object", "clone", "()Ljava/lang/Object;"⟩ ∈ wsX1_init := by decide +kernel
theorem w_X1_init_c5 : Cond.selects "[I" ⟨"[I", "clone", "()Ljava/lang/Object;"⟩ ⟨"java/lang/Object", "clone", "()Ljava/lang/Object;"⟩ ∈ wsX1_init := by decide +kernel
theorem w_X1_init_cc30 : Cond.classLink RX1 30 "[I" ∈ wsX1_init := by decide +kernel
theorem f_X1_init_34 : Cond.fieldLink RX1 34 "ChargeLines$Line" "settings" "[I" ∈ wsX1_init := by decide +kernel
theorem w_X1_init_arint : Cond.arrayClass .int ∈ wsX1_init := by decide +kernel
theorem f_X1_init_37 : Cond.fieldLink RX1 37 "ChargeLines$Line" "samples" "[I" ∈ wsX1_init := by decide +kernel
theorem f_X1_init_40 : Cond.fieldLink RX1 40 "ChargeLines$Line" "referencesOfSamples" "[I" ∈ wsX1_init := by decide +kernel
theorem f_X1_init_43 : Cond.fieldLink RX1 43 "ChargeLines$Line" "outputs" "[I" ∈ wsX1_init := by decide +kernel
theorem f_X1_init_46 : Cond.fieldLink RX1 46 "ChargeLines$Line" "mendedOutputs" "[I" ∈ wsX1_init := by decide +kernel
set_option maxHeartbeats 4000000 in
set_option maxRecDepth 100000 in
/-- Line() -/
theorem c_X1_init (l : Launch) (D : va_G) (cI cC cL : ClassId) (b : Nat) : y_MN l yX1_init wsX1_init 2 32 12 179 D cI cC cL [.ref b] [(b, .inr (1, [.null, .null, .null, .int 0, .int 0, .null, .null, .null, .null]))] (fun q : Nat → Nat => q 7 = b) (fun q : Nat → Nat => cLn cI q jLn0) := by
  refine y_startN (cc := cX1_init) (maxL := 1) (by decide) rfl (Nat.le_of_ble_eq_true rfl) ?_
  intro p e s mm args below meth c A QQ ls S hnm hX hw ret hl
  have S : CallFix p mm c cX1_init 1 s args wsX1_init RX1 := S
  have h_c : 12 ≤ (y_RN 2 32 12 179).cells := Nat.le_refl _
  have h_s : 179 ≤ (y_RN 2 32 12 179).slots := Nat.le_refl _
  have hl : lv_has ls 1 [(0, .ref b)] := hl
  have hw : y_W D cI cC cL A s s.heap [] [(b, .inr (1, [.null, .null, .null, .int 0, .int 0, .null, .null, .null, .null]))] := hw
  refine lv_aload_n S.1 S.2.1 dX1_init_0 rfl (lv_at hl 0 rfl) ?_
  refine W.objInit S.1 S.2.1 S.2.2.2.1 (S.2.2.2.2 _ w_X1_init_ol) (S.2.2.2.2 _ w_X1_init_oi) (S.2.2.2.2 _ w_X1_init_oc) rfl (by rw [S.2.2.1]; exact hl.1) rfl dX1_init_1 (Nat.le_of_ble_eq_true rfl) (Nat.le_of_ble_eq_true rfl) ?_
  refine W.eq (g2 := F0 mm 4 ls []) rfl ?_
  refine lv_aload_n S.1 S.2.1 dX1_init_4 rfl (lv_at hl 0 rfl) ?_
  refine y_new (ci := 3) (fs := [.int 0, .null, .null, .null, .int 0, .int 0, .int 0, .int 0]) S hw (C := RX3) (T := TX3) (N := 8) i_X1_init_X3 tyX3_ok w_X1_init_cl9 w_X1_init_inX3 w_X1_init_iiX3 rfl (fun j hj => by rcases (show j = 0 ∨ j = 1 ∨ j = 2 ∨ j = 3 ∨ j = 4 ∨ j = 5 ∨ j = 6 ∨ j = 7 by omega) with rfl | rfl | rfl | rfl | rfl | rfl | rfl | rfl <;> rfl) (Nat.le_of_ble_eq_true rfl) (Nat.le_of_ble_eq_true rfl) dX1_init_5 (fun q1 H hw => ?_)
  have hw : y_W D cI cC cL A s _ _ ([(b, .inr (1, [.null, .null, .null, .int 0, .int 0, .null, .null, .null, .null]))] ++ [(q1, .inr (3, [.int 0, .null, .null, .null, .int 0, .int 0, .int 0, .int 0]))]) := hw
  refine W.widen (k := 1) (n := 8) (Nat.le_of_ble_eq_true rfl) (Nat.le_of_ble_eq_true rfl) ?_
  refine lv_dup S.1 S.2.1 dX1_init_8 rfl ?_
  refine y_callN (rest := [.ref q1, .ref b]) S hw hX hl.1 (c_X3_init l D cI cC cL q1) ⟨va_cnB 0 S.2.2.2.2 gX1_init_X3_init_n11 rfl rfl rfl hX.1.2.2.2.2.1 (S.2.2.2.2 _ w_X1_init_iiX3) (by decide +kernel) ⟨Nat.le_of_ble_eq_true rfl, Nat.le_of_ble_eq_true rfl⟩, rfl, S.2.2.2.2 _ w_X1_init_imX3⟩ (Nat.le_of_ble_eq_true rfl) dX1_init_9 ⟨Nat.le_of_ble_eq_true rfl, Nat.le_of_ble_eq_true rfl⟩ (fun H locs v2 ev2 hw => ?_)
  have hw : y_W D cI cC cL A s _ _ ([(b, .inr (1, [.null, .null, .null, .int 0, .int 0, .null, .null, .null, .null]))] ++ (cSt cI v2 jSt0)) := hw
  refine W.widen (k := 4) (n := 38) (Nat.le_of_ble_eq_true rfl) (Nat.le_of_ble_eq_true rfl) ?_
  have ev2 : v2 0 = q1 := ev2
  refine y_putF S hw hnm (C := RX1) (T := TX1) (N := 9) i_X1_init_X1 tyX1_ok nmX1 0 rfl rfl 0 (by decide) f_X1_init_12 rfl rfl rfl rfl (Nat.le_of_ble_eq_true rfl) dX1_init_12 (ws' := ([(b, .inr (1, [.ref q1, .null, .null, .int 0, .int 0, .null, .null, .null, .null]))] ++ (cSt cI v2 jSt0))) rfl (fun H locs hw => ?_)
  refine lv_aload_n S.1 S.2.1 dX1_init_15 rfl (lv_at hl 0 rfl) ?_
  refine y_new (ci := 2) (fs := [.null, .null]) S hw (C := RX2) (T := TX2) (N := 2) i_X1_init_X2 tyX2_ok w_X1_init_cl18 w_X1_init_inX2 w_X1_init_iiX2 rfl (fun j hj => by rcases (show j = 0 ∨ j = 1 by omega) with rfl | rfl <;> rfl) (Nat.le_of_ble_eq_true rfl) (Nat.le_of_ble_eq_true rfl) dX1_init_16 (fun q3 H hw => ?_)
  have hw : y_W D cI cC cL A s _ _ (([(b, .inr (1, [.ref q1, .null, .null, .int 0, .int 0, .null, .null, .null, .null]))] ++ (cSt cI v2 jSt0)) ++ [(q3, .inr (2, [.null, .null]))]) := hw
  refine W.widen (k := 5) (n := 40) (Nat.le_of_ble_eq_true rfl) (Nat.le_of_ble_eq_true rfl) ?_
  refine lv_dup S.1 S.2.1 dX1_init_19 rfl ?_
  refine y_callN (rest := [.ref q3, .ref b]) S hw hX hl.1 (c_X2_init l D cI cC cL q3) ⟨va_cnB 0 S.2.2.2.2 gX1_init_X2_init_n20 rfl rfl rfl hX.1.2.2.2.2.2.1 (S.2.2.2.2 _ w_X1_init_iiX2) (by decide +kernel) ⟨Nat.le_of_ble_eq_true rfl, Nat.le_of_ble_eq_true rfl⟩, rfl, S.2.2.2.2 _ w_X1_init_imX2⟩ (Nat.le_of_ble_eq_true rfl) dX1_init_20 ⟨Nat.le_of_ble_eq_true rfl, Nat.le_of_ble_eq_true rfl⟩ (fun H locs v4 ev4 hw => ?_)
  have hw : y_W D cI cC cL A s _ _ (([(b, .inr (1, [.ref q1, .null, .null, .int 0, .int 0, .null, .null, .null, .null]))] ++ (cSt cI v2 jSt0)) ++ (cPr cI v4 jLn0)) := hw
  refine W.widen (k := 7) (n := 46) (Nat.le_of_ble_eq_true rfl) (Nat.le_of_ble_eq_true rfl) ?_
  have ev4 : v4 4 = q3 := ev4
  refine y_putF S hw hnm (C := RX1) (T := TX1) (N := 9) i_X1_init_X1 tyX1_ok nmX1 0 rfl rfl 1 (by decide) f_X1_init_21 rfl rfl rfl rfl (Nat.le_of_ble_eq_true rfl) dX1_init_23 (ws' := (([(b, .inr (1, [.ref q1, .ref q3, .null, .int 0, .int 0, .null, .null, .null, .null]))] ++ (cSt cI v2 jSt0)) ++ (cPr cI v4 jLn0))) rfl (fun H locs hw => ?_)
  refine lv_aload_n S.1 S.2.1 dX1_init_26 rfl (lv_at hl 0 rfl) ?_
  obtain ⟨t, cell, hZ, g2, g3, g4, g5, g6, g7, g8⟩ := hX.2.1
  refine y_getsN S hw rfl hX hZ dX1_init_27 ?_
  refine y_cloneS S hw hl.1 hX (f := sFst) g2 g3 g4 g5 g6 g7 g8 w_X1_init_c1 w_X1_init_c2 w_X1_init_c3 w_X1_init_c4 w_X1_init_c5 (Nat.le_of_ble_eq_true rfl) (Nat.le_of_ble_eq_true rfl) (Nat.le_of_ble_eq_true rfl) (Nat.le_of_ble_eq_true rfl) dX1_init_30 (fun q5 H hw => ?_)
  have hw : y_W D cI cC cL A s _ _ ((([(b, .inr (1, [.ref q1, .ref q3, .null, .int 0, .int 0, .null, .null, .null, .null]))] ++ (cSt cI v2 jSt0)) ++ (cPr cI v4 jLn0)) ++ [(q5, .inl (cI, 5, .inl sFst))]) := hw
  refine W.widen (k := 8) (n := 51) (Nat.le_of_ble_eq_true rfl) (Nat.le_of_ble_eq_true rfl) ?_
  refine y_castA S hw w_X1_init_cc30 8 rfl dX1_init_33 ?_
  refine y_putF S hw hnm (C := RX1) (T := TX1) (N := 9) i_X1_init_X1 tyX1_ok nmX1 0 rfl rfl 2 (by decide) f_X1_init_34 rfl rfl rfl rfl (Nat.le_of_ble_eq_true rfl) dX1_init_36 (ws' := ((([(b, .inr (1, [.ref q1, .ref q3, .ref q5, .int 0, .int 0, .null, .null, .null, .null]))] ++ (cSt cI v2 jSt0)) ++ (cPr cI v4 jLn0)) ++ [(q5, .inl (cI, 5, .inl sFst))])) rfl (fun H locs hw => ?_)
  refine lv_aload_n S.1 S.2.1 dX1_init_39 rfl (lv_at hl 0 rfl) ?_
  refine lv_bipush (v := 32) S.1 S.2.1 dX1_init_40 (by decide) ?_
  refine y_newI S hw w_X1_init_arint (n := 32) (N := 32) (by decide) (by decide) (Nat.le_of_ble_eq_true rfl) (Nat.le_of_ble_eq_true rfl) (Nat.le_of_ble_eq_true rfl) dX1_init_42 (fun q6 H hw => ?_)
  have hw : y_W D cI cC cL A s _ _ (((([(b, .inr (1, [.ref q1, .ref q3, .ref q5, .int 0, .int 0, .null, .null, .null, .null]))] ++ (cSt cI v2 jSt0)) ++ (cPr cI v4 jLn0)) ++ [(q5, .inl (cI, 5, .inl sFst))]) ++ [(q6, .inl (cI, 32, .inl (fun _ => 0)))]) := hw
  refine W.widen (k := 9) (n := 83) (Nat.le_of_ble_eq_true rfl) (Nat.le_of_ble_eq_true rfl) ?_
  refine y_putF S hw hnm (C := RX1) (T := TX1) (N := 9) i_X1_init_X1 tyX1_ok nmX1 0 rfl rfl 5 (by decide) f_X1_init_37 rfl rfl rfl rfl (Nat.le_of_ble_eq_true rfl) dX1_init_44 (ws' := (((([(b, .inr (1, [.ref q1, .ref q3, .ref q5, .int 0, .int 0, .ref q6, .null, .null, .null]))] ++ (cSt cI v2 jSt0)) ++ (cPr cI v4 jLn0)) ++ [(q5, .inl (cI, 5, .inl sFst))]) ++ [(q6, .inl (cI, 32, .inl (fun _ => 0)))])) rfl (fun H locs hw => ?_)
  refine lv_aload_n S.1 S.2.1 dX1_init_47 rfl (lv_at hl 0 rfl) ?_
  refine lv_bipush (v := 32) S.1 S.2.1 dX1_init_48 (by decide) ?_
  refine y_newI S hw w_X1_init_arint (n := 32) (N := 32) (by decide) (by decide) (Nat.le_of_ble_eq_true rfl) (Nat.le_of_ble_eq_true rfl) (Nat.le_of_ble_eq_true rfl) dX1_init_50 (fun q7 H hw => ?_)
  have hw : y_W D cI cC cL A s _ _ ((((([(b, .inr (1, [.ref q1, .ref q3, .ref q5, .int 0, .int 0, .ref q6, .null, .null, .null]))] ++ (cSt cI v2 jSt0)) ++ (cPr cI v4 jLn0)) ++ [(q5, .inl (cI, 5, .inl sFst))]) ++ [(q6, .inl (cI, 32, .inl (fun _ => 0)))]) ++ [(q7, .inl (cI, 32, .inl (fun _ => 0)))]) := hw
  refine W.widen (k := 10) (n := 115) (Nat.le_of_ble_eq_true rfl) (Nat.le_of_ble_eq_true rfl) ?_
  refine y_putF S hw hnm (C := RX1) (T := TX1) (N := 9) i_X1_init_X1 tyX1_ok nmX1 0 rfl rfl 6 (by decide) f_X1_init_40 rfl rfl rfl rfl (Nat.le_of_ble_eq_true rfl) dX1_init_52 (ws' := ((((([(b, .inr (1, [.ref q1, .ref q3, .ref q5, .int 0, .int 0, .ref q6, .ref q7, .null, .null]))] ++ (cSt cI v2 jSt0)) ++ (cPr cI v4 jLn0)) ++ [(q5, .inl (cI, 5, .inl sFst))]) ++ [(q6, .inl (cI, 32, .inl (fun _ => 0)))]) ++ [(q7, .inl (cI, 32, .inl (fun _ => 0)))])) rfl (fun H locs hw => ?_)
  refine lv_aload_n S.1 S.2.1 dX1_init_55 rfl (lv_at hl 0 rfl) ?_
  refine lv_bipush (v := 32) S.1 S.2.1 dX1_init_56 (by decide) ?_
  refine y_newI S hw w_X1_init_arint (n := 32) (N := 32) (by decide) (by decide) (Nat.le_of_ble_eq_true rfl) (Nat.le_of_ble_eq_true rfl) (Nat.le_of_ble_eq_true rfl) dX1_init_58 (fun q8 H hw => ?_)
  have hw : y_W D cI cC cL A s _ _ (((((([(b, .inr (1, [.ref q1, .ref q3, .ref q5, .int 0, .int 0, .ref q6, .ref q7, .null, .null]))] ++ (cSt cI v2 jSt0)) ++ (cPr cI v4 jLn0)) ++ [(q5, .inl (cI, 5, .inl sFst))]) ++ [(q6, .inl (cI, 32, .inl (fun _ => 0)))]) ++ [(q7, .inl (cI, 32, .inl (fun _ => 0)))]) ++ [(q8, .inl (cI, 32, .inl (fun _ => 0)))]) := hw
  refine W.widen (k := 11) (n := 147) (Nat.le_of_ble_eq_true rfl) (Nat.le_of_ble_eq_true rfl) ?_
  refine y_putF S hw hnm (C := RX1) (T := TX1) (N := 9) i_X1_init_X1 tyX1_ok nmX1 0 rfl rfl 7 (by decide) f_X1_init_43 rfl rfl rfl rfl (Nat.le_of_ble_eq_true rfl) dX1_init_60 (ws' := (((((([(b, .inr (1, [.ref q1, .ref q3, .ref q5, .int 0, .int 0, .ref q6, .ref q7, .ref q8, .null]))] ++ (cSt cI v2 jSt0)) ++ (cPr cI v4 jLn0)) ++ [(q5, .inl (cI, 5, .inl sFst))]) ++ [(q6, .inl (cI, 32, .inl (fun _ => 0)))]) ++ [(q7, .inl (cI, 32, .inl (fun _ => 0)))]) ++ [(q8, .inl (cI, 32, .inl (fun _ => 0)))])) rfl (fun H locs hw => ?_)
  refine lv_aload_n S.1 S.2.1 dX1_init_63 rfl (lv_at hl 0 rfl) ?_
  refine lv_bipush (v := 32) S.1 S.2.1 dX1_init_64 (by decide) ?_
  refine y_newI S hw w_X1_init_arint (n := 32) (N := 32) (by decide) (by decide) (Nat.le_of_ble_eq_true rfl) (Nat.le_of_ble_eq_true rfl) (Nat.le_of_ble_eq_true rfl) dX1_init_66 (fun q9 H hw => ?_)
  have hw : y_W D cI cC cL A s _ _ ((((((([(b, .inr (1, [.ref q1, .ref q3, .ref q5, .int 0, .int 0, .ref q6, .ref q7, .ref q8, .null]))] ++ (cSt cI v2 jSt0)) ++ (cPr cI v4 jLn0)) ++ [(q5, .inl (cI, 5, .inl sFst))]) ++ [(q6, .inl (cI, 32, .inl (fun _ => 0)))]) ++ [(q7, .inl (cI, 32, .inl (fun _ => 0)))]) ++ [(q8, .inl (cI, 32, .inl (fun _ => 0)))]) ++ [(q9, .inl (cI, 32, .inl (fun _ => 0)))]) := hw
  refine W.widen (k := 12) (n := 179) (Nat.le_of_ble_eq_true rfl) (Nat.le_of_ble_eq_true rfl) ?_
  refine y_putF S hw hnm (C := RX1) (T := TX1) (N := 9) i_X1_init_X1 tyX1_ok nmX1 0 rfl rfl 8 (by decide) f_X1_init_46 rfl rfl rfl rfl (Nat.le_of_ble_eq_true rfl) dX1_init_68 (ws' := ((((((([(b, .inr (1, [.ref q1, .ref q3, .ref q5, .int 0, .int 0, .ref q6, .ref q7, .ref q8, .ref q9]))] ++ (cSt cI v2 jSt0)) ++ (cPr cI v4 jLn0)) ++ [(q5, .inl (cI, 5, .inl sFst))]) ++ [(q6, .inl (cI, 32, .inl (fun _ => 0)))]) ++ [(q7, .inl (cI, 32, .inl (fun _ => 0)))]) ++ [(q8, .inl (cI, 32, .inl (fun _ => 0)))]) ++ [(q9, .inl (cI, 32, .inl (fun _ => 0)))])) rfl (fun H locs hw => ?_)
  rw [← ev2, ← ev4] at hw
  exact ret _ _ _ _ (fun i => match i with | 0 => v2 0 | 1 => v2 1 | 2 => v2 2 | 3 => v2 3 | 4 => v4 4 | 5 => v4 5 | 6 => v4 6 | 7 => b | 8 => q5 | 9 => q6 | 10 => q7 | 11 => q8 | _ => q9) (hw.sub [0, 8, 9, 10, 11, 12, 1, 2, 3, 4, 5, 6, 7] (by decide) rfl) rfl dX1_init_71

theorem w_X0_init_ol : Cond.methodLink RX0 3 objectInit ∈ wsX0_init := by decide +kernel
theorem w_X0_init_oi : Cond.instanceMethod objectInit ∈ wsX0_init := by decide +kernel
theorem w_X0_init_oc : Cond.code objectInit ⟨#[0xb1]⟩ 1 none ∈ wsX0_init := by decide +kernel
theorem w_X0_init_cl9 : Cond.classLink RX0 9 RX1 ∈ wsX0_init := by decide +kernel
theorem i_X0_init_X0 : ∀ w ∈ u_ws RX0 TX0 3, w ∈ wsX0_init := by decide +kernel
theorem f_X0_init_11 : Cond.fieldLink RX0 11 "ChargeLines$History" "states" "[LChargeLines$Line;" ∈ wsX0_init := by decide +kernel
theorem w_X0_init_inX1 : Cond.instantiable RX1 9 ∈ wsX0_init := by decide +kernel
theorem w_X0_init_iiX1 : Cond.initialized RX1 ∈ wsX0_init := by decide +kernel
theorem i_X0_init_X1 : ∀ w ∈ u_ws RX1 TX1 9, w ∈ wsX0_init := by decide +kernel
theorem w_X0_init_imX1 : Cond.instanceMethod yX1_init ∈ wsX0_init := by decide +kernel
set_option maxHeartbeats 4000000 in
set_option maxRecDepth 100000 in
/-- History() -/
theorem c_X0_init (l : Launch) (D : va_G) (cI cC cL : ClassId) (b : Nat) : y_MN l yX0_init wsX0_init 3 52 53 756 D cI cC cL [.ref b] [(b, .inr (0, [.null, .int 0, .int 0]))] (fun Q : Nat → Nat → Nat => Q 7 0 = b) (fun Q : Nat → Nat → Nat => cHN cI cL Q) := by
  refine y_startN (cc := cX0_init) (maxL := 2) (by decide) rfl (Nat.le_of_ble_eq_true rfl) ?_
  intro p e s mm args below meth c A QQ ls S hnm hX hw ret hl
  have S : CallFix p mm c cX0_init 2 s args wsX0_init RX0 := S
  have h_c : 53 ≤ (y_RN 3 52 53 756).cells := Nat.le_refl _
  have h_s : 756 ≤ (y_RN 3 52 53 756).slots := Nat.le_refl _
  have hl : lv_has ls 2 [(0, .ref b)] := hl
  have hw : y_W D cI cC cL A s s.heap [] [(b, .inr (0, [.null, .int 0, .int 0]))] := hw
  refine lv_aload_n S.1 S.2.1 dX0_init_0 rfl (lv_at hl 0 rfl) ?_
  refine W.objInit S.1 S.2.1 S.2.2.2.1 (S.2.2.2.2 _ w_X0_init_ol) (S.2.2.2.2 _ w_X0_init_oi) (S.2.2.2.2 _ w_X0_init_oc) rfl (by rw [S.2.2.1]; exact hl.1) rfl dX0_init_1 (Nat.le_of_ble_eq_true rfl) (Nat.le_of_ble_eq_true rfl) ?_
  refine W.eq (g2 := F0 mm 4 ls []) rfl ?_
  refine lv_aload_n S.1 S.2.1 dX0_init_4 rfl (lv_at hl 0 rfl) ?_
  refine lv_iconst (v := 4) S.1 S.2.1 dX0_init_5 (by decide) ?_
  refine y_newQ S hX hw w_X0_init_cl9 (n := 4) (N := 4) (by decide) (by decide) (Nat.le_of_ble_eq_true rfl) (Nat.le_of_ble_eq_true rfl) (Nat.le_of_ble_eq_true rfl) dX0_init_6 (fun q1 H hw => ?_)
  have hw : y_W D cI cC cL A s _ _ ([(b, .inr (0, [.null, .int 0, .int 0]))] ++ [(q1, .inl (cL, 4, .inr (.inr (.inr (.inr (fun _ => none))))))]) := hw
  refine W.widen (k := 1) (n := 4) (Nat.le_of_ble_eq_true rfl) (Nat.le_of_ble_eq_true rfl) ?_
  refine y_putF S hw hnm (C := RX0) (T := TX0) (N := 3) i_X0_init_X0 tyX0_ok nmX0 0 rfl rfl 0 (by decide) f_X0_init_11 rfl rfl rfl rfl (Nat.le_of_ble_eq_true rfl) dX0_init_9 (ws' := ([(b, .inr (0, [.ref q1, .int 0, .int 0]))] ++ [(q1, .inl (cL, 4, .inr (.inr (.inr (.inr (fun _ => none))))))])) rfl (fun H locs hw => ?_)
  refine lv_iconst (v := 0) S.1 S.2.1 dX0_init_12 (by decide) ?_
  refine lv_istore_n (lv' := [(1, .int 0), (0, .ref b)]) S.1 S.2.1 dX0_init_13 rfl hl (by decide) rfl (fun ls hl => ?_)
  refine lv_iload_n S.1 S.2.1 dX0_init_14 rfl (lv_at hl 0 rfl) ?_
  refine lv_iconst (v := 4) S.1 S.2.1 dX0_init_15 (by decide) ?_
  refine lv_icmp_ge (tgt := 38) S.1 S.2.1 dX0_init_16 (by decide) (fun c2 => absurd c2 (by decide)) (fun c2 => ?_)
  refine lv_aload_n S.1 S.2.1 dX0_init_19 rfl (lv_at hl 1 rfl) ?_
  refine y_get S hw (C := RX0) (T := TX0) (N := 3) i_X0_init_X0 0 rfl rfl 0 (by decide) f_X0_init_11 rfl dX0_init_20 ?_
  refine lv_iload_n S.1 S.2.1 dX0_init_23 rfl (lv_at hl 0 rfl) ?_
  refine y_new (ci := 1) (fs := [.null, .null, .null, .int 0, .int 0, .null, .null, .null, .null]) S hw (C := RX1) (T := TX1) (N := 9) i_X0_init_X1 tyX1_ok w_X0_init_cl9 w_X0_init_inX1 w_X0_init_iiX1 rfl (fun j hj => by rcases (show j = 0 ∨ j = 1 ∨ j = 2 ∨ j = 3 ∨ j = 4 ∨ j = 5 ∨ j = 6 ∨ j = 7 ∨ j = 8 by omega) with rfl | rfl | rfl | rfl | rfl | rfl | rfl | rfl | rfl <;> rfl) (Nat.le_of_ble_eq_true rfl) (Nat.le_of_ble_eq_true rfl) dX0_init_24 (fun q3 H hw => ?_)
  have hw : y_W D cI cC cL A s _ _ (([(b, .inr (0, [.ref q1, .int 0, .int 0]))] ++ [(q1, .inl (cL, 4, .inr (.inr (.inr (.inr (fun _ => none))))))]) ++ [(q3, .inr (1, [.null, .null, .null, .int 0, .int 0, .null, .null, .null, .null]))]) := hw
  refine W.widen (k := 2) (n := 13) (Nat.le_of_ble_eq_true rfl) (Nat.le_of_ble_eq_true rfl) ?_
  refine lv_dup S.1 S.2.1 dX0_init_27 rfl ?_
  refine y_callN (rest := [.ref q3, .int 0, .ref q1]) S hw hX hl.1 (c_X1_init l D cI cC cL q3) ⟨va_cnB 0 S.2.2.2.2 gX0_init_X1_init_n17 rfl rfl rfl hX.1.2.2.2.1 (S.2.2.2.2 _ w_X0_init_iiX1) (by decide +kernel) ⟨Nat.le_of_ble_eq_true rfl, Nat.le_of_ble_eq_true rfl⟩, rfl, S.2.2.2.2 _ w_X0_init_imX1⟩ (Nat.le_of_ble_eq_true rfl) dX0_init_28 ⟨Nat.le_of_ble_eq_true rfl, Nat.le_of_ble_eq_true rfl⟩ (fun H locs v4 ev4 hw => ?_)
  have hw : y_W D cI cC cL A s _ _ (([(b, .inr (0, [.ref q1, .int 0, .int 0]))] ++ [(q1, .inl (cL, 4, .inr (.inr (.inr (.inr (fun _ => none))))))]) ++ (cLn cI v4 jLn0)) := hw
  refine W.widen (k := 14) (n := 192) (Nat.le_of_ble_eq_true rfl) (Nat.le_of_ble_eq_true rfl) ?_
  have ev4 : v4 7 = q3 := ev4
  rw [← ev4]
  refine y_astq S hw 1 2 1 (k := 0) rfl rfl rfl (by decide) (Nat.le_of_ble_eq_true rfl) dX0_init_31 (ws' := (([(b, .inr (0, [.ref q1, .int 0, .int 0]))] ++ [(q1, .inl (cL, 4, .inr (.inr (.inr (.inr (va_up (fun _ => none) 0 (some (v4 7))))))))]) ++ (cLn cI v4 jLn0))) rfl (fun H locs hw => ?_)
  refine lv_iinc (v := 1) (lv' := [(1, .int 1), (0, .ref b)]) S.1 S.2.1 dX0_init_32 hl (k := 0) rfl (by decide) (by decide) rfl (fun ls hl => ?_)
  refine lv_goto (tgt := 14) S.1 S.2.1 dX0_init_35 (by decide) ?_
  refine lv_iload_n S.1 S.2.1 dX0_init_14 rfl (lv_at hl 0 rfl) ?_
  refine lv_iconst (v := 4) S.1 S.2.1 dX0_init_15 (by decide) ?_
  refine lv_icmp_ge (tgt := 38) S.1 S.2.1 dX0_init_16 (by decide) (fun c5 => absurd c5 (by decide)) (fun c5 => ?_)
  refine lv_aload_n S.1 S.2.1 dX0_init_19 rfl (lv_at hl 1 rfl) ?_
  refine y_get S hw (C := RX0) (T := TX0) (N := 3) i_X0_init_X0 0 rfl rfl 0 (by decide) f_X0_init_11 rfl dX0_init_20 ?_
  refine lv_iload_n S.1 S.2.1 dX0_init_23 rfl (lv_at hl 0 rfl) ?_
  refine y_new (ci := 1) (fs := [.null, .null, .null, .int 0, .int 0, .null, .null, .null, .null]) S hw (C := RX1) (T := TX1) (N := 9) i_X0_init_X1 tyX1_ok w_X0_init_cl9 w_X0_init_inX1 w_X0_init_iiX1 rfl (fun j hj => by rcases (show j = 0 ∨ j = 1 ∨ j = 2 ∨ j = 3 ∨ j = 4 ∨ j = 5 ∨ j = 6 ∨ j = 7 ∨ j = 8 by omega) with rfl | rfl | rfl | rfl | rfl | rfl | rfl | rfl | rfl <;> rfl) (Nat.le_of_ble_eq_true rfl) (Nat.le_of_ble_eq_true rfl) dX0_init_24 (fun q6 H hw => ?_)
  have hw : y_W D cI cC cL A s _ _ ((([(b, .inr (0, [.ref q1, .int 0, .int 0]))] ++ [(q1, .inl (cL, 4, .inr (.inr (.inr (.inr (va_up (fun _ => none) 0 (some (v4 7))))))))]) ++ (cLn cI v4 jLn0)) ++ [(q6, .inr (1, [.null, .null, .null, .int 0, .int 0, .null, .null, .null, .null]))]) := hw
  refine W.widen (k := 15) (n := 201) (Nat.le_of_ble_eq_true rfl) (Nat.le_of_ble_eq_true rfl) ?_
  refine lv_dup S.1 S.2.1 dX0_init_27 rfl ?_
  refine y_callN (rest := [.ref q6, .int 1, .ref q1]) S hw hX hl.1 (c_X1_init l D cI cC cL q6) ⟨va_cnB 0 S.2.2.2.2 gX0_init_X1_init_n17 rfl rfl rfl hX.1.2.2.2.1 (S.2.2.2.2 _ w_X0_init_iiX1) (by decide +kernel) ⟨Nat.le_of_ble_eq_true rfl, Nat.le_of_ble_eq_true rfl⟩, rfl, S.2.2.2.2 _ w_X0_init_imX1⟩ (Nat.le_of_ble_eq_true rfl) dX0_init_28 ⟨Nat.le_of_ble_eq_true rfl, Nat.le_of_ble_eq_true rfl⟩ (fun H locs v7 ev7 hw => ?_)
  have hw : y_W D cI cC cL A s _ _ ((([(b, .inr (0, [.ref q1, .int 0, .int 0]))] ++ [(q1, .inl (cL, 4, .inr (.inr (.inr (.inr (va_up (fun _ => none) 0 (some (v4 7))))))))]) ++ (cLn cI v4 jLn0)) ++ (cLn cI v7 jLn0)) := hw
  refine W.widen (k := 27) (n := 380) (Nat.le_of_ble_eq_true rfl) (Nat.le_of_ble_eq_true rfl) ?_
  have ev7 : v7 7 = q6 := ev7
  rw [← ev7]
  refine y_astq S hw 1 15 1 (k := 1) rfl rfl rfl (by decide) (Nat.le_of_ble_eq_true rfl) dX0_init_31 (ws' := ((([(b, .inr (0, [.ref q1, .int 0, .int 0]))] ++ [(q1, .inl (cL, 4, .inr (.inr (.inr (.inr (va_up (va_up (fun _ => none) 0 (some (v4 7))) 1 (some (v7 7))))))))]) ++ (cLn cI v4 jLn0)) ++ (cLn cI v7 jLn0))) rfl (fun H locs hw => ?_)
  refine lv_iinc (v := 2) (lv' := [(1, .int 2), (0, .ref b)]) S.1 S.2.1 dX0_init_32 hl (k := 0) rfl (by decide) (by decide) rfl (fun ls hl => ?_)
  refine lv_goto (tgt := 14) S.1 S.2.1 dX0_init_35 (by decide) ?_
  refine lv_iload_n S.1 S.2.1 dX0_init_14 rfl (lv_at hl 0 rfl) ?_
  refine lv_iconst (v := 4) S.1 S.2.1 dX0_init_15 (by decide) ?_
  refine lv_icmp_ge (tgt := 38) S.1 S.2.1 dX0_init_16 (by decide) (fun c8 => absurd c8 (by decide)) (fun c8 => ?_)
  refine lv_aload_n S.1 S.2.1 dX0_init_19 rfl (lv_at hl 1 rfl) ?_
  refine y_get S hw (C := RX0) (T := TX0) (N := 3) i_X0_init_X0 0 rfl rfl 0 (by decide) f_X0_init_11 rfl dX0_init_20 ?_
  refine lv_iload_n S.1 S.2.1 dX0_init_23 rfl (lv_at hl 0 rfl) ?_
  refine y_new (ci := 1) (fs := [.null, .null, .null, .int 0, .int 0, .null, .null, .null, .null]) S hw (C := RX1) (T := TX1) (N := 9) i_X0_init_X1 tyX1_ok w_X0_init_cl9 w_X0_init_inX1 w_X0_init_iiX1 rfl (fun j hj => by rcases (show j = 0 ∨ j = 1 ∨ j = 2 ∨ j = 3 ∨ j = 4 ∨ j = 5 ∨ j = 6 ∨ j = 7 ∨ j = 8 by omega) with rfl | rfl | rfl | rfl | rfl | rfl | rfl | rfl | rfl <;> rfl) (Nat.le_of_ble_eq_true rfl) (Nat.le_of_ble_eq_true rfl) dX0_init_24 (fun q9 H hw => ?_)
  have hw : y_W D cI cC cL A s _ _ (((([(b, .inr (0, [.ref q1, .int 0, .int 0]))] ++ [(q1, .inl (cL, 4, .inr (.inr (.inr (.inr (va_up (va_up (fun _ => none) 0 (some (v4 7))) 1 (some (v7 7))))))))]) ++ (cLn cI v4 jLn0)) ++ (cLn cI v7 jLn0)) ++ [(q9, .inr (1, [.null, .null, .null, .int 0, .int 0, .null, .null, .null, .null]))]) := hw
  refine W.widen (k := 28) (n := 389) (Nat.le_of_ble_eq_true rfl) (Nat.le_of_ble_eq_true rfl) ?_
  refine lv_dup S.1 S.2.1 dX0_init_27 rfl ?_
  refine y_callN (rest := [.ref q9, .int 2, .ref q1]) S hw hX hl.1 (c_X1_init l D cI cC cL q9) ⟨va_cnB 0 S.2.2.2.2 gX0_init_X1_init_n17 rfl rfl rfl hX.1.2.2.2.1 (S.2.2.2.2 _ w_X0_init_iiX1) (by decide +kernel) ⟨Nat.le_of_ble_eq_true rfl, Nat.le_of_ble_eq_true rfl⟩, rfl, S.2.2.2.2 _ w_X0_init_imX1⟩ (Nat.le_of_ble_eq_true rfl) dX0_init_28 ⟨Nat.le_of_ble_eq_true rfl, Nat.le_of_ble_eq_true rfl⟩ (fun H locs v10 ev10 hw => ?_)
  have hw : y_W D cI cC cL A s _ _ (((([(b, .inr (0, [.ref q1, .int 0, .int 0]))] ++ [(q1, .inl (cL, 4, .inr (.inr (.inr (.inr (va_up (va_up (fun _ => none) 0 (some (v4 7))) 1 (some (v7 7))))))))]) ++ (cLn cI v4 jLn0)) ++ (cLn cI v7 jLn0)) ++ (cLn cI v10 jLn0)) := hw
  refine W.widen (k := 40) (n := 568) (Nat.le_of_ble_eq_true rfl) (Nat.le_of_ble_eq_true rfl) ?_
  have ev10 : v10 7 = q9 := ev10
  rw [← ev10]
  refine y_astq S hw 1 28 1 (k := 2) rfl rfl rfl (by decide) (Nat.le_of_ble_eq_true rfl) dX0_init_31 (ws' := (((([(b, .inr (0, [.ref q1, .int 0, .int 0]))] ++ [(q1, .inl (cL, 4, .inr (.inr (.inr (.inr (va_up (va_up (va_up (fun _ => none) 0 (some (v4 7))) 1 (some (v7 7))) 2 (some (v10 7))))))))]) ++ (cLn cI v4 jLn0)) ++ (cLn cI v7 jLn0)) ++ (cLn cI v10 jLn0))) rfl (fun H locs hw => ?_)
  refine lv_iinc (v := 3) (lv' := [(1, .int 3), (0, .ref b)]) S.1 S.2.1 dX0_init_32 hl (k := 0) rfl (by decide) (by decide) rfl (fun ls hl => ?_)
  refine lv_goto (tgt := 14) S.1 S.2.1 dX0_init_35 (by decide) ?_
  refine lv_iload_n S.1 S.2.1 dX0_init_14 rfl (lv_at hl 0 rfl) ?_
  refine lv_iconst (v := 4) S.1 S.2.1 dX0_init_15 (by decide) ?_
  refine lv_icmp_ge (tgt := 38) S.1 S.2.1 dX0_init_16 (by decide) (fun c11 => absurd c11 (by decide)) (fun c11 => ?_)
  refine lv_aload_n S.1 S.2.1 dX0_init_19 rfl (lv_at hl 1 rfl) ?_
  refine y_get S hw (C := RX0) (T := TX0) (N := 3) i_X0_init_X0 0 rfl rfl 0 (by decide) f_X0_init_11 rfl dX0_init_20 ?_
  refine lv_iload_n S.1 S.2.1 dX0_init_23 rfl (lv_at hl 0 rfl) ?_
  refine y_new (ci := 1) (fs := [.null, .null, .null, .int 0, .int 0, .null, .null, .null, .null]) S hw (C := RX1) (T := TX1) (N := 9) i_X0_init_X1 tyX1_ok w_X0_init_cl9 w_X0_init_inX1 w_X0_init_iiX1 rfl (fun j hj => by rcases (show j = 0 ∨ j = 1 ∨ j = 2 ∨ j = 3 ∨ j = 4 ∨ j = 5 ∨ j = 6 ∨ j = 7 ∨ j = 8 by omega) with rfl | rfl | rfl | rfl | rfl | rfl | rfl | rfl | rfl <;> rfl) (Nat.le_of_ble_eq_true rfl) (Nat.le_of_ble_eq_true rfl) dX0_init_24 (fun q12 H hw => ?_)
  have hw : y_W D cI cC cL A s _ _ ((((([(b, .inr (0, [.ref q1, .int 0, .int 0]))] ++ [(q1, .inl (cL, 4, .inr (.inr (.inr (.inr (va_up (va_up (va_up (fun _ => none) 0 (some (v4 7))) 1 (some (v7 7))) 2 (some (v10 7))))))))]) ++ (cLn cI v4 jLn0)) ++ (cLn cI v7 jLn0)) ++ (cLn cI v10 jLn0)) ++ [(q12, .inr (1, [.null, .null, .null, .int 0, .int 0, .null, .null, .null, .null]))]) := hw
  refine W.widen (k := 41) (n := 577) (Nat.le_of_ble_eq_true rfl) (Nat.le_of_ble_eq_true rfl) ?_
  refine lv_dup S.1 S.2.1 dX0_init_27 rfl ?_
  refine y_callN (rest := [.ref q12, .int 3, .ref q1]) S hw hX hl.1 (c_X1_init l D cI cC cL q12) ⟨va_cnB 0 S.2.2.2.2 gX0_init_X1_init_n17 rfl rfl rfl hX.1.2.2.2.1 (S.2.2.2.2 _ w_X0_init_iiX1) (by decide +kernel) ⟨Nat.le_of_ble_eq_true rfl, Nat.le_of_ble_eq_true rfl⟩, rfl, S.2.2.2.2 _ w_X0_init_imX1⟩ (Nat.le_of_ble_eq_true rfl) dX0_init_28 ⟨Nat.le_of_ble_eq_true rfl, Nat.le_of_ble_eq_true rfl⟩ (fun H locs v13 ev13 hw => ?_)
  have hw : y_W D cI cC cL A s _ _ ((((([(b, .inr (0, [.ref q1, .int 0, .int 0]))] ++ [(q1, .inl (cL, 4, .inr (.inr (.inr (.inr (va_up (va_up (va_up (fun _ => none) 0 (some (v4 7))) 1 (some (v7 7))) 2 (some (v10 7))))))))]) ++ (cLn cI v4 jLn0)) ++ (cLn cI v7 jLn0)) ++ (cLn cI v10 jLn0)) ++ (cLn cI v13 jLn0)) := hw
  refine W.widen (k := 53) (n := 756) (Nat.le_of_ble_eq_true rfl) (Nat.le_of_ble_eq_true rfl) ?_
  have ev13 : v13 7 = q12 := ev13
  rw [← ev13]
  refine y_astq S hw 1 41 1 (k := 3) rfl rfl rfl (by decide) (Nat.le_of_ble_eq_true rfl) dX0_init_31 (ws' := ((((([(b, .inr (0, [.ref q1, .int 0, .int 0]))] ++ [(q1, .inl (cL, 4, .inr (.inr (.inr (.inr (va_up (va_up (va_up (va_up (fun _ => none) 0 (some (v4 7))) 1 (some (v7 7))) 2 (some (v10 7))) 3 (some (v13 7))))))))]) ++ (cLn cI v4 jLn0)) ++ (cLn cI v7 jLn0)) ++ (cLn cI v10 jLn0)) ++ (cLn cI v13 jLn0))) rfl (fun H locs hw => ?_)
  refine lv_iinc (v := 4) (lv' := [(1, .int 4), (0, .ref b)]) S.1 S.2.1 dX0_init_32 hl (k := 0) rfl (by decide) (by decide) rfl (fun ls hl => ?_)
  refine lv_goto (tgt := 14) S.1 S.2.1 dX0_init_35 (by decide) ?_
  refine lv_iload_n S.1 S.2.1 dX0_init_14 rfl (lv_at hl 0 rfl) ?_
  refine lv_iconst (v := 4) S.1 S.2.1 dX0_init_15 (by decide) ?_
  refine lv_icmp_ge (tgt := 38) S.1 S.2.1 dX0_init_16 (by decide) (fun c14 => ?_) (fun c14 => absurd (by decide) c14)
  have hw := y_congQ hw 1 (n := 4) (a := q1) (fun k => some ((fun k => match k with | 1 => v4 | 2 => v7 | 3 => v10 | 4 => v13 | _ => fun i => match i with | 0 => b | _ => q1 : Nat → Nat → Nat) (k + 1) 7)) rfl (fun k hk => by rcases (show k = 0 ∨ k = 1 ∨ k = 2 ∨ k = 3 by omega) with rfl | rfl | rfl | rfl <;> rfl) rfl
  exact ret _ _ _ _ (fun k => match k with | 1 => v4 | 2 => v7 | 3 => v10 | 4 => v13 | _ => fun i => match i with | 0 => b | _ => q1 : Nat → Nat → Nat) (y_W_eq hw rfl) rfl dX0_init_38

theorem w_X5_init_ol : Cond.methodLink RX5 3 objectInit ∈ wsX5_init := by decide +kernel
theorem w_X5_init_oi : Cond.instanceMethod objectInit ∈ wsX5_init := by decide +kernel
theorem w_X5_init_oc : Cond.code objectInit ⟨#[0xb1]⟩ 1 none ∈ wsX5_init := by decide +kernel
theorem w_X5_init_cl9 : Cond.classLink RX5 9 RX1 ∈ wsX5_init := by decide +kernel
theorem w_X5_init_inX1 : Cond.instantiable RX1 9 ∈ wsX5_init := by decide +kernel
theorem w_X5_init_iiX1 : Cond.initialized RX1 ∈ wsX5_init := by decide +kernel
theorem i_X5_init_X1 : ∀ w ∈ u_ws RX1 TX1 9, w ∈ wsX5_init := by decide +kernel
theorem w_X5_init_imX1 : Cond.instanceMethod yX1_init ∈ wsX5_init := by decide +kernel
theorem i_X5_init_X5 : ∀ w ∈ u_ws RX5 TX5 4, w ∈ wsX5_init := by decide +kernel
theorem f_X5_init_12 : Cond.fieldLink RX5 12 "ChargeLines" "line" "LChargeLines$Line;" ∈ wsX5_init := by decide +kernel
theorem w_X5_init_cl16 : Cond.classLink RX5 16 RX0 ∈ wsX5_init := by decide +kernel
theorem w_X5_init_inX0 : Cond.instantiable RX0 3 ∈ wsX5_init := by decide +kernel
theorem w_X5_init_iiX0 : Cond.initialized RX0 ∈ wsX5_init := by decide +kernel
theorem i_X5_init_X0 : ∀ w ∈ u_ws RX0 TX0 3, w ∈ wsX5_init := by decide +kernel
theorem w_X5_init_imX0 : Cond.instanceMethod yX0_init ∈ wsX5_init := by decide +kernel
theorem w_X5_init_ml18 : Cond.methodLink RX5 18 yX0_init ∈ wsX5_init := by decide +kernel
theorem f_X5_init_19 : Cond.fieldLink RX5 19 "ChargeLines" "history" "LChargeLines$History;" ∈ wsX5_init := by decide +kernel
theorem w_X5_init_cl23 : Cond.classLink RX5 23 RX4 ∈ wsX5_init := by decide +kernel
theorem w_X5_init_inX4 : Cond.instantiable RX4 9 ∈ wsX5_init := by decide +kernel
theorem w_X5_init_iiX4 : Cond.initialized RX4 ∈ wsX5_init := by decide +kernel
theorem i_X5_init_X4 : ∀ w ∈ u_ws RX4 TX4 9, w ∈ wsX5_init := by decide +kernel
theorem w_X5_init_imX4 : Cond.instanceMethod yX4_init ∈ wsX5_init := by decide +kernel
theorem f_X5_init_26 : Cond.fieldLink RX5 26 "ChargeLines" "text" "LChargeLines$Text;" ∈ wsX5_init := by decide +kernel
theorem w_X5_init_cl30 : Cond.classLink RX5 30 RX3 ∈ wsX5_init := by decide +kernel
theorem w_X5_init_inX3 : Cond.instantiable RX3 8 ∈ wsX5_init := by decide +kernel
theorem w_X5_init_iiX3 : Cond.initialized RX3 ∈ wsX5_init := by decide +kernel
theorem i_X5_init_X3 : ∀ w ∈ u_ws RX3 TX3 8, w ∈ wsX5_init := by decide +kernel
theorem w_X5_init_imX3 : Cond.instanceMethod yX3_init ∈ wsX5_init := by decide +kernel
theorem f_X5_init_33 : Cond.fieldLink RX5 33 "ChargeLines" "trial" "LChargeLines$Stages;" ∈ wsX5_init := by decide +kernel
set_option maxHeartbeats 4000000 in
set_option maxRecDepth 100000 in
/-- ChargeLines() -/
theorem c_X5_init (l : Launch) (D : va_G) (cI cC cL : ClassId) (b : Nat) : y_MN l yX5_init wsX5_init 4 73 74 1057 D cI cC cL [.ref b] [(b, .inr (5, [.null, .null, .null, .null]))] (fun Q : Nat → Nat → Nat => Q 8 0 = b) (fun Q : Nat → Nat → Nat => cWd cI cC cL Q jZ0) := by
  refine y_startN (cc := cX5_init) (maxL := 1) (by decide) rfl (Nat.le_of_ble_eq_true rfl) ?_
  intro p e s mm args below meth c A QQ ls S hnm hX hw ret hl
  have S : CallFix p mm c cX5_init 1 s args wsX5_init RX5 := S
  have h_c : 74 ≤ (y_RN 4 73 74 1057).cells := Nat.le_refl _
  have h_s : 1057 ≤ (y_RN 4 73 74 1057).slots := Nat.le_refl _
  have hl : lv_has ls 1 [(0, .ref b)] := hl
  have hw : y_W D cI cC cL A s s.heap [] [(b, .inr (5, [.null, .null, .null, .null]))] := hw
  refine lv_aload_n S.1 S.2.1 dX5_init_0 rfl (lv_at hl 0 rfl) ?_
  refine W.objInit S.1 S.2.1 S.2.2.2.1 (S.2.2.2.2 _ w_X5_init_ol) (S.2.2.2.2 _ w_X5_init_oi) (S.2.2.2.2 _ w_X5_init_oc) rfl (by rw [S.2.2.1]; exact hl.1) rfl dX5_init_1 (Nat.le_of_ble_eq_true rfl) (Nat.le_of_ble_eq_true rfl) ?_
  refine W.eq (g2 := F0 mm 4 ls []) rfl ?_
  refine lv_aload_n S.1 S.2.1 dX5_init_4 rfl (lv_at hl 0 rfl) ?_
  refine y_new (ci := 1) (fs := [.null, .null, .null, .int 0, .int 0, .null, .null, .null, .null]) S hw (C := RX1) (T := TX1) (N := 9) i_X5_init_X1 tyX1_ok w_X5_init_cl9 w_X5_init_inX1 w_X5_init_iiX1 rfl (fun j hj => by rcases (show j = 0 ∨ j = 1 ∨ j = 2 ∨ j = 3 ∨ j = 4 ∨ j = 5 ∨ j = 6 ∨ j = 7 ∨ j = 8 by omega) with rfl | rfl | rfl | rfl | rfl | rfl | rfl | rfl | rfl <;> rfl) (Nat.le_of_ble_eq_true rfl) (Nat.le_of_ble_eq_true rfl) dX5_init_5 (fun q1 H hw => ?_)
  have hw : y_W D cI cC cL A s _ _ ([(b, .inr (5, [.null, .null, .null, .null]))] ++ [(q1, .inr (1, [.null, .null, .null, .int 0, .int 0, .null, .null, .null, .null]))]) := hw
  refine W.widen (k := 1) (n := 9) (Nat.le_of_ble_eq_true rfl) (Nat.le_of_ble_eq_true rfl) ?_
  refine lv_dup S.1 S.2.1 dX5_init_8 rfl ?_
  refine y_callN (rest := [.ref q1, .ref b]) S hw hX hl.1 (c_X1_init l D cI cC cL q1) ⟨va_cnB 0 S.2.2.2.2 gX5_init_X1_init_n11 rfl rfl rfl hX.1.1 (S.2.2.2.2 _ w_X5_init_iiX1) (by decide +kernel) ⟨Nat.le_of_ble_eq_true rfl, Nat.le_of_ble_eq_true rfl⟩, rfl, S.2.2.2.2 _ w_X5_init_imX1⟩ (Nat.le_of_ble_eq_true rfl) dX5_init_9 ⟨Nat.le_of_ble_eq_true rfl, Nat.le_of_ble_eq_true rfl⟩ (fun H locs v2 ev2 hw => ?_)
  have hw : y_W D cI cC cL A s _ _ ([(b, .inr (5, [.null, .null, .null, .null]))] ++ (cLn cI v2 jLn0)) := hw
  refine W.widen (k := 13) (n := 188) (Nat.le_of_ble_eq_true rfl) (Nat.le_of_ble_eq_true rfl) ?_
  have ev2 : v2 7 = q1 := ev2
  refine y_putF S hw hnm (C := RX5) (T := TX5) (N := 4) i_X5_init_X5 tyX5_ok nmX5 0 rfl rfl 0 (by decide) f_X5_init_12 rfl rfl rfl rfl (Nat.le_of_ble_eq_true rfl) dX5_init_12 (ws' := ([(b, .inr (5, [.ref q1, .null, .null, .null]))] ++ (cLn cI v2 jLn0))) rfl (fun H locs hw => ?_)
  refine lv_aload_n S.1 S.2.1 dX5_init_15 rfl (lv_at hl 0 rfl) ?_
  refine y_new (ci := 0) (fs := [.null, .int 0, .int 0]) S hw (C := RX0) (T := TX0) (N := 3) i_X5_init_X0 tyX0_ok w_X5_init_cl16 w_X5_init_inX0 w_X5_init_iiX0 rfl (fun j hj => by rcases (show j = 0 ∨ j = 1 ∨ j = 2 by omega) with rfl | rfl | rfl <;> rfl) (Nat.le_of_ble_eq_true rfl) (Nat.le_of_ble_eq_true rfl) dX5_init_16 (fun q3 H hw => ?_)
  have hw : y_W D cI cC cL A s _ _ (([(b, .inr (5, [.ref q1, .null, .null, .null]))] ++ (cLn cI v2 jLn0)) ++ [(q3, .inr (0, [.null, .int 0, .int 0]))]) := hw
  refine W.widen (k := 14) (n := 191) (Nat.le_of_ble_eq_true rfl) (Nat.le_of_ble_eq_true rfl) ?_
  refine lv_dup S.1 S.2.1 dX5_init_19 rfl ?_
  refine y_callNI (rest := [.ref q3, .ref b]) S hw hX hl.1 (c_X0_init l D cI cC cL q3) (cwI 0 S.2.2.2.2 gX5_init_X0_init rfl rfl rfl (S.2.2.2.2 _ w_X5_init_iiX0) (S.2.2.2.2 _ w_X5_init_ml18) (S.2.2.2.2 _ w_X5_init_imX0) rfl (by decide +kernel) ⟨Nat.le_of_ble_eq_true rfl, Nat.le_of_ble_eq_true rfl⟩) (Nat.le_of_ble_eq_true rfl) dX5_init_20 ⟨Nat.le_of_ble_eq_true rfl, Nat.le_of_ble_eq_true rfl⟩ (fun H locs v4 ev4 hw => ?_)
  have hw : y_W D cI cC cL A s _ _ (([(b, .inr (5, [.ref q1, .null, .null, .null]))] ++ (cLn cI v2 jLn0)) ++ (cHN cI cL v4)) := hw
  refine W.widen (k := 67) (n := 947) (Nat.le_of_ble_eq_true rfl) (Nat.le_of_ble_eq_true rfl) ?_
  have ev4 : v4 7 0 = q3 := ev4
  refine y_putF S hw hnm (C := RX5) (T := TX5) (N := 4) i_X5_init_X5 tyX5_ok nmX5 0 rfl rfl 1 (by decide) f_X5_init_19 rfl rfl rfl rfl (Nat.le_of_ble_eq_true rfl) dX5_init_23 (ws' := (([(b, .inr (5, [.ref q1, .ref q3, .null, .null]))] ++ (cLn cI v2 jLn0)) ++ (cHN cI cL v4))) rfl (fun H locs hw => ?_)
  refine lv_aload_n S.1 S.2.1 dX5_init_26 rfl (lv_at hl 0 rfl) ?_
  refine y_new (ci := 4) (fs := [.null, .int 0, .int 0, .int 0, .int 0, .int 0, .null, .int 0, .int 0]) S hw (C := RX4) (T := TX4) (N := 9) i_X5_init_X4 tyX4_ok w_X5_init_cl23 w_X5_init_inX4 w_X5_init_iiX4 rfl (fun j hj => by rcases (show j = 0 ∨ j = 1 ∨ j = 2 ∨ j = 3 ∨ j = 4 ∨ j = 5 ∨ j = 6 ∨ j = 7 ∨ j = 8 by omega) with rfl | rfl | rfl | rfl | rfl | rfl | rfl | rfl | rfl <;> rfl) (Nat.le_of_ble_eq_true rfl) (Nat.le_of_ble_eq_true rfl) dX5_init_27 (fun q5 H hw => ?_)
  have hw : y_W D cI cC cL A s _ _ ((([(b, .inr (5, [.ref q1, .ref q3, .null, .null]))] ++ (cLn cI v2 jLn0)) ++ (cHN cI cL v4)) ++ [(q5, .inr (4, [.null, .int 0, .int 0, .int 0, .int 0, .int 0, .null, .int 0, .int 0]))]) := hw
  refine W.widen (k := 68) (n := 956) (Nat.le_of_ble_eq_true rfl) (Nat.le_of_ble_eq_true rfl) ?_
  refine lv_dup S.1 S.2.1 dX5_init_30 rfl ?_
  refine y_callN (rest := [.ref q5, .ref b]) S hw hX hl.1 (c_X4_init l D cI cC cL q5) ⟨va_cnB 0 S.2.2.2.2 gX5_init_X4_init_n25 rfl rfl rfl hX.1.2.1 (S.2.2.2.2 _ w_X5_init_iiX4) (by decide +kernel) ⟨Nat.le_of_ble_eq_true rfl, Nat.le_of_ble_eq_true rfl⟩, rfl, S.2.2.2.2 _ w_X5_init_imX4⟩ (Nat.le_of_ble_eq_true rfl) dX5_init_31 ⟨Nat.le_of_ble_eq_true rfl, Nat.le_of_ble_eq_true rfl⟩ (fun H locs v6 ev6 hw => ?_)
  have hw : y_W D cI cC cL A s _ _ ((([(b, .inr (5, [.ref q1, .ref q3, .null, .null]))] ++ (cLn cI v2 jLn0)) ++ (cHN cI cL v4)) ++ (cTx cI cC v6 jTx0)) := hw
  refine W.widen (k := 70) (n := 1019) (Nat.le_of_ble_eq_true rfl) (Nat.le_of_ble_eq_true rfl) ?_
  have ev6 : v6 0 = q5 := ev6
  refine y_putF S hw hnm (C := RX5) (T := TX5) (N := 4) i_X5_init_X5 tyX5_ok nmX5 0 rfl rfl 2 (by decide) f_X5_init_26 rfl rfl rfl rfl (Nat.le_of_ble_eq_true rfl) dX5_init_34 (ws' := ((([(b, .inr (5, [.ref q1, .ref q3, .ref q5, .null]))] ++ (cLn cI v2 jLn0)) ++ (cHN cI cL v4)) ++ (cTx cI cC v6 jTx0))) rfl (fun H locs hw => ?_)
  refine lv_aload_n S.1 S.2.1 dX5_init_37 rfl (lv_at hl 0 rfl) ?_
  refine y_new (ci := 3) (fs := [.int 0, .null, .null, .null, .int 0, .int 0, .int 0, .int 0]) S hw (C := RX3) (T := TX3) (N := 8) i_X5_init_X3 tyX3_ok w_X5_init_cl30 w_X5_init_inX3 w_X5_init_iiX3 rfl (fun j hj => by rcases (show j = 0 ∨ j = 1 ∨ j = 2 ∨ j = 3 ∨ j = 4 ∨ j = 5 ∨ j = 6 ∨ j = 7 by omega) with rfl | rfl | rfl | rfl | rfl | rfl | rfl | rfl <;> rfl) (Nat.le_of_ble_eq_true rfl) (Nat.le_of_ble_eq_true rfl) dX5_init_38 (fun q7 H hw => ?_)
  have hw : y_W D cI cC cL A s _ _ (((([(b, .inr (5, [.ref q1, .ref q3, .ref q5, .null]))] ++ (cLn cI v2 jLn0)) ++ (cHN cI cL v4)) ++ (cTx cI cC v6 jTx0)) ++ [(q7, .inr (3, [.int 0, .null, .null, .null, .int 0, .int 0, .int 0, .int 0]))]) := hw
  refine W.widen (k := 71) (n := 1027) (Nat.le_of_ble_eq_true rfl) (Nat.le_of_ble_eq_true rfl) ?_
  refine lv_dup S.1 S.2.1 dX5_init_41 rfl ?_
  refine y_callN (rest := [.ref q7, .ref b]) S hw hX hl.1 (c_X3_init l D cI cC cL q7) ⟨va_cnB 0 S.2.2.2.2 gX5_init_X3_init_n32 rfl rfl rfl hX.1.2.2.1 (S.2.2.2.2 _ w_X5_init_iiX3) (by decide +kernel) ⟨Nat.le_of_ble_eq_true rfl, Nat.le_of_ble_eq_true rfl⟩, rfl, S.2.2.2.2 _ w_X5_init_imX3⟩ (Nat.le_of_ble_eq_true rfl) dX5_init_42 ⟨Nat.le_of_ble_eq_true rfl, Nat.le_of_ble_eq_true rfl⟩ (fun H locs v8 ev8 hw => ?_)
  have hw : y_W D cI cC cL A s _ _ (((([(b, .inr (5, [.ref q1, .ref q3, .ref q5, .null]))] ++ (cLn cI v2 jLn0)) ++ (cHN cI cL v4)) ++ (cTx cI cC v6 jTx0)) ++ (cSt cI v8 jSt0)) := hw
  refine W.widen (k := 74) (n := 1057) (Nat.le_of_ble_eq_true rfl) (Nat.le_of_ble_eq_true rfl) ?_
  have ev8 : v8 0 = q7 := ev8
  refine y_putF S hw hnm (C := RX5) (T := TX5) (N := 4) i_X5_init_X5 tyX5_ok nmX5 0 rfl rfl 3 (by decide) f_X5_init_33 rfl rfl rfl rfl (Nat.le_of_ble_eq_true rfl) dX5_init_45 (ws' := (((([(b, .inr (5, [.ref q1, .ref q3, .ref q5, .ref q7]))] ++ (cLn cI v2 jLn0)) ++ (cHN cI cL v4)) ++ (cTx cI cC v6 jTx0)) ++ (cSt cI v8 jSt0))) rfl (fun H locs hw => ?_)
  rw [← ev2, ← ev4, ← ev6, ← ev8] at hw
  have hw : y_W D cI cC cL A s _ _ (((([(b, .inr (5, [.ref (v2 7), .ref (v4 7 0), .ref (v6 0), .ref (v8 0)]))] ++ (cLn cI v2 jLn0)) ++ (List.flatten [cHi cL (fun k => match k with | 0 => v2 | 5 => v8 | 6 => v6 | 8 => fun _ => b | k => v4 k) (fun _ _ => 0), cLn cI (v4 1) jLn0, cLn cI (v4 2) jLn0, cLn cI (v4 3) jLn0, cLn cI (v4 4) jLn0])) ++ (cTx cI cC v6 jTx0)) ++ (cSt cI v8 jSt0)) := y_congQ hw 15 (n := 4) (a := v4 7 1) (fun k => some ((fun k => match k with | 0 => v2 | 5 => v8 | 6 => v6 | 8 => fun _ => b | k => v4 k : Nat → Nat → Nat) (k + 1) 7)) rfl (fun k hk => by rcases (show k = 0 ∨ k = 1 ∨ k = 2 ∨ k = 3 by omega) with rfl | rfl | rfl | rfl <;> rfl) rfl
  exact ret _ _ _ _ (fun k => match k with | 0 => v2 | 5 => v8 | 6 => v6 | 8 => fun _ => b | k => v4 k) (y_W_eq (y_cWN hw) rfl) rfl dX5_init_48

