theorem i_X4_readPart_X4 : ∀ w ∈ u_ws RX4 TX4 9, w ∈ wsX4_readPart := by decide +kernel
theorem f_X4_readPart_40 : Cond.fieldLink RX4 40 "ChargeLines$Text" "at" "I" ∈ wsX4_readPart := by decide +kernel
theorem f_X4_readPart_33 : Cond.fieldLink RX4 33 "ChargeLines$Text" "reason" "I" ∈ wsX4_readPart := by decide +kernel
theorem k_X4_readPart_43 : Cond.constant RX4 43 (-2000004) ∈ wsX4_readPart := by decide +kernel
theorem f_X4_readPart_44 : Cond.fieldLink RX4 44 "ChargeLines$Text" "cause" "I" ∈ wsX4_readPart := by decide +kernel
theorem f_X4_readPart_36 : Cond.fieldLink RX4 36 "ChargeLines$Text" "kind" "C" ∈ wsX4_readPart := by decide +kernel
theorem f_X4_readPart_15 : Cond.fieldLink RX4 15 "ChargeLines$Text" "numbers" "[I" ∈ wsX4_readPart := by decide +kernel
set_option maxHeartbeats 4000000 in
set_option maxRecDepth 100000 in
/-- Text.readPart -/
theorem c_X4_readPart (l : Launch) (D : va_G) (cI cC cL : ClassId) (q : Nat → Nat) (u : U) (L a : Nat) (st : Int32) (hL : u 1 0 = nI L) (hL2 : L ≤ 60) (ha2 : a ≤ L) : y_MV l yX4_readPart wsX4_readPart 3 64 D cI cC cL [.ref (q 0), .int (nI a), .int st] (cTx cI cC q u) (fun v : U => cTx cI cC q v) (tPart u L a st) := by
  refine y_startV (cc := cX4_readPart) (maxL := 3) (by decide) rfl (Nat.le_of_ble_eq_true rfl) ?_
  intro p e s mm args below meth c A QQ ls S hw ret hl
  have S : CallFix p mm c cX4_readPart 3 s args wsX4_readPart RX4 := S
  have hw : y_W D cI cC cL A s s.heap [] [((q 0), .inr (4, [.ref (q 1), .int (u 1 0), .int (u 2 0), .int (u 3 0), .int (u 4 0), .int (u 5 0), .ref (q 2), .int (u 7 0), .int (u 8 0)])), ((q 1), .inl (cC, 60, .inl (u 0))), ((q 2), .inl (cI, 3, .inl (u 6)))] := hw
  have hl : lv_has ls 3 [(0, .ref (q 0)), (1, .int (nI a)), (2, .int st)] := hl
  refine lv_aload_n S.1 S.2.1 dX4_readPart_0 rfl (lv_at hl 0 rfl) ?_
  refine lv_iload_n S.1 S.2.1 dX4_readPart_1 rfl (lv_at hl 1 rfl) ?_
  refine y_put S hw (C := RX4) (T := TX4) (N := 9) i_X4_readPart_X4 tyX4_ok nmX4 0 rfl rfl 4 (by decide) f_X4_readPart_40 (by decide +kernel) rfl rfl (Nat.le_of_ble_eq_true rfl) dX4_readPart_2 (ws' := [((q 0), .inr (4, [.ref (q 1), .int (u 1 0), .int (u 2 0), .int (u 3 0), .int (nI a), .int (u 5 0), .ref (q 2), .int (u 7 0), .int (u 8 0)])), ((q 1), .inl (cC, 60, .inl (u 0))), ((q 2), .inl (cI, 3, .inl (u 6)))]) rfl (fun H locs hw => ?_)
  refine lv_aload_n S.1 S.2.1 dX4_readPart_5 rfl (lv_at hl 0 rfl) ?_
  refine lv_iconst (v := 0) S.1 S.2.1 dX4_readPart_6 (by decide) ?_
  refine y_put S hw (C := RX4) (T := TX4) (N := 9) i_X4_readPart_X4 tyX4_ok nmX4 0 rfl rfl 7 (by decide) f_X4_readPart_33 (by decide +kernel) rfl rfl (Nat.le_of_ble_eq_true rfl) dX4_readPart_7 (ws' := [((q 0), .inr (4, [.ref (q 1), .int (u 1 0), .int (u 2 0), .int (u 3 0), .int (nI a), .int (u 5 0), .ref (q 2), .int 0, .int (u 8 0)])), ((q 1), .inl (cC, 60, .inl (u 0))), ((q 2), .inl (cI, 3, .inl (u 6)))]) rfl (fun H locs hw => ?_)
  refine lv_aload_n S.1 S.2.1 dX4_readPart_10 rfl (lv_at hl 0 rfl) ?_
  refine lv_ldc (v := (-2000004)) S.1 S.2.1 S.2.2.2.1 (S.2.2.2.2 _ k_X4_readPart_43) dX4_readPart_11 ?_
  refine y_put S hw (C := RX4) (T := TX4) (N := 9) i_X4_readPart_X4 tyX4_ok nmX4 0 rfl rfl 8 (by decide) f_X4_readPart_44 (by decide +kernel) rfl rfl (Nat.le_of_ble_eq_true rfl) dX4_readPart_13 (ws' := [((q 0), .inr (4, [.ref (q 1), .int (u 1 0), .int (u 2 0), .int (u 3 0), .int (nI a), .int (u 5 0), .ref (q 2), .int 0, .int (-2000004)])), ((q 1), .inl (cC, 60, .inl (u 0))), ((q 2), .inl (cI, 3, .inl (u 6)))]) rfl (fun H locs hw => ?_)
  refine lv_aload_n S.1 S.2.1 dX4_readPart_16 rfl (lv_at hl 0 rfl) ?_
  refine y_callI (As := []) (rest := []) S hw hl.1 (c_X4_readForm l D cI cC cL q (va_up (va_up (va_up u 4 (fun _ => (nI a))) 7 (fun _ => 0)) 8 (fun _ => (-2000004))) L a hL (by omega) (rfl) (ha2)) (cwV 0 S.2.2.2.2 gX4_readPart_X4_readForm rfl rfl rfl (by decide +kernel) ⟨Nat.le_of_ble_eq_true rfl, Nat.le_of_ble_eq_true rfl⟩) 0 rfl rfl [0, 1, 2] [] rfl (by decide +kernel) (wr := []) rfl (by decide +kernel) (by decide +kernel) rfl (Nat.le_of_ble_eq_true rfl) dX4_readPart_17 rfl ⟨Nat.le_refl _, Nat.le_refl _⟩ (fun H locs v_1 x_2 ev_1 ex_2 hw => ?_)
  have hw : y_W D cI cC cL A s H locs [((q 0), .inr (4, [.ref (q 1), .int (v_1 1 0), .int (v_1 2 0), .int (v_1 3 0), .int (v_1 4 0), .int (v_1 5 0), .ref (q 2), .int (v_1 7 0), .int (v_1 8 0)])), ((q 1), .inl (cC, 60, .inl (v_1 0))), ((q 2), .inl (cI, 3, .inl (v_1 6)))] := hw
  subst ex_2
  refine y_top (y := (pForm (u 0) L a (u 6)).2.2) rfl ?_
  have e1 : v_1 = tP1 u L a := ev_1
  refine lv_if_ne (tgt := 41) S.1 S.2.1 dX4_readPart_20 (by decide) (fun c_3 => ?_) (fun c_3 => ?_)
  · skip
    refine lv_aload_n S.1 S.2.1 dX4_readPart_41 rfl (lv_at hl 0 rfl) ?_
    refine y_get S hw (C := RX4) (T := TX4) (N := 9) i_X4_readPart_X4 0 rfl rfl 5 (by decide) f_X4_readPart_36 rfl dX4_readPart_42 ?_
    refine y_top (y := (tKind u L a)) (by rw [e1]; exact tP1_5 u L a) ?_
    refine lv_bipush (v := 108) S.1 S.2.1 dX4_readPart_45 (by decide) ?_
    refine lv_icmp_ne (tgt := 68) S.1 S.2.1 dX4_readPart_47 (by decide) (fun c_4 => ?_) (fun c_4 => ?_)
    · skip
      refine lv_aload_n S.1 S.2.1 dX4_readPart_68 rfl (lv_at hl 0 rfl) ?_
      refine y_callV (As := []) (rest := []) S hw hl.1 (c_X4_findOutOfRange l D cI cC cL q v_1 (by rw [e1]; exact tP1_7 u L a)) (cwV 0 S.2.2.2.2 gX4_readPart_X4_findOutOfRange rfl rfl rfl (by decide +kernel) ⟨Nat.le_of_ble_eq_true rfl, Nat.le_of_ble_eq_true rfl⟩) 0 rfl rfl [0, 1, 2] [] rfl (by decide +kernel) (wr := []) rfl (by decide +kernel) (by decide +kernel) rfl (Nat.le_of_ble_eq_true rfl) dX4_readPart_69 rfl ⟨Nat.le_refl _, Nat.le_refl _⟩ (fun H locs v_5 ev_5 hw => ?_)
      have hw : y_W D cI cC cL A s H locs [((q 0), .inr (4, [.ref (q 1), .int (v_5 1 0), .int (v_5 2 0), .int (v_5 3 0), .int (v_5 4 0), .int (v_5 5 0), .ref (q 2), .int (v_5 7 0), .int (v_5 8 0)])), ((q 1), .inl (cC, 60, .inl (v_5 0))), ((q 2), .inl (cI, 3, .inl (v_5 6)))] := hw
      exact ret _ _ _ _ (by rw [show tPart u L a st = v_5 from by rw [ev_5, e1]; unfold tPart; rw [if_neg c_3, if_neg c_4]]; exact hw) dX4_readPart_72
    · skip
      refine lv_aload_n S.1 S.2.1 dX4_readPart_50 rfl (lv_at hl 0 rfl) ?_
      refine y_get S hw (C := RX4) (T := TX4) (N := 9) i_X4_readPart_X4 0 rfl rfl 6 (by decide) f_X4_readPart_15 rfl dX4_readPart_51 ?_
      refine lv_iconst (v := 0) S.1 S.2.1 dX4_readPart_54 (by decide) ?_
      refine y_iald S hw 2 (k := 0) rfl (by omega) (Nat.le_of_ble_eq_true rfl) dX4_readPart_55 ?_
      refine y_top (y := ((pForm (u 0) L a (u 6)).2.1 0)) (by rw [e1]; exact congrFun (tP1_6 u L a) 0) ?_
      refine lv_iload_n S.1 S.2.1 dX4_readPart_56 rfl (lv_at hl 2 rfl) ?_
      refine lv_icmp_lt (tgt := 68) S.1 S.2.1 dX4_readPart_57 (by decide) (fun c_7 => ?_) (fun c_7 => ?_)
      · skip
        refine lv_aload_n S.1 S.2.1 dX4_readPart_68 rfl (lv_at hl 0 rfl) ?_
        refine y_callV (As := []) (rest := []) S hw hl.1 (c_X4_findOutOfRange l D cI cC cL q v_1 (by rw [e1]; exact tP1_7 u L a)) (cwV 0 S.2.2.2.2 gX4_readPart_X4_findOutOfRange rfl rfl rfl (by decide +kernel) ⟨Nat.le_of_ble_eq_true rfl, Nat.le_of_ble_eq_true rfl⟩) 0 rfl rfl [0, 1, 2] [] rfl (by decide +kernel) (wr := []) rfl (by decide +kernel) (by decide +kernel) rfl (Nat.le_of_ble_eq_true rfl) dX4_readPart_69 rfl ⟨Nat.le_refl _, Nat.le_refl _⟩ (fun H locs v_8 ev_8 hw => ?_)
        have hw : y_W D cI cC cL A s H locs [((q 0), .inr (4, [.ref (q 1), .int (v_8 1 0), .int (v_8 2 0), .int (v_8 3 0), .int (v_8 4 0), .int (v_8 5 0), .ref (q 2), .int (v_8 7 0), .int (v_8 8 0)])), ((q 1), .inl (cC, 60, .inl (v_8 0))), ((q 2), .inl (cI, 3, .inl (v_8 6)))] := hw
        exact ret _ _ _ _ (by rw [show tPart u L a st = v_8 from by rw [ev_8, e1]; unfold tPart; rw [if_neg c_3, if_pos c_4, if_pos c_7]]; exact hw) dX4_readPart_72
      · skip
        refine lv_aload_n S.1 S.2.1 dX4_readPart_60 rfl (lv_at hl 0 rfl) ?_
        refine lv_iconst (v := 2) S.1 S.2.1 dX4_readPart_61 (by decide) ?_
        refine y_put S hw (C := RX4) (T := TX4) (N := 9) i_X4_readPart_X4 tyX4_ok nmX4 0 rfl rfl 7 (by decide) f_X4_readPart_33 (by decide +kernel) rfl rfl (Nat.le_of_ble_eq_true rfl) dX4_readPart_62 (ws' := [((q 0), .inr (4, [.ref (q 1), .int (v_1 1 0), .int (v_1 2 0), .int (v_1 3 0), .int (v_1 4 0), .int (v_1 5 0), .ref (q 2), .int 2, .int (v_1 8 0)])), ((q 1), .inl (cC, 60, .inl (v_1 0))), ((q 2), .inl (cI, 3, .inl (v_1 6)))]) rfl (fun H locs hw => ?_)
        refine lv_goto (tgt := 72) S.1 S.2.1 dX4_readPart_65 (by decide) ?_
        exact ret _ _ _ _ (by rw [show tPart u L a st = va_up v_1 7 (fun _ => 2) from by rw [e1]; unfold tPart; rw [if_neg c_3, if_pos c_4, if_neg c_7]]; exact hw) dX4_readPart_72
  · skip
    refine lv_aload_n S.1 S.2.1 dX4_readPart_23 rfl (lv_at hl 0 rfl) ?_
    refine lv_iconst (v := 1) S.1 S.2.1 dX4_readPart_24 (by decide) ?_
    refine y_put S hw (C := RX4) (T := TX4) (N := 9) i_X4_readPart_X4 tyX4_ok nmX4 0 rfl rfl 7 (by decide) f_X4_readPart_33 (by decide +kernel) rfl rfl (Nat.le_of_ble_eq_true rfl) dX4_readPart_25 (ws' := [((q 0), .inr (4, [.ref (q 1), .int (v_1 1 0), .int (v_1 2 0), .int (v_1 3 0), .int (v_1 4 0), .int (v_1 5 0), .ref (q 2), .int 1, .int (v_1 8 0)])), ((q 1), .inl (cC, 60, .inl (v_1 0))), ((q 2), .inl (cI, 3, .inl (v_1 6)))]) rfl (fun H locs hw => ?_)
    refine lv_aload_n S.1 S.2.1 dX4_readPart_28 rfl (lv_at hl 0 rfl) ?_
    refine lv_aload_n S.1 S.2.1 dX4_readPart_29 rfl (lv_at hl 0 rfl) ?_
    refine y_get S hw (C := RX4) (T := TX4) (N := 9) i_X4_readPart_X4 0 rfl rfl 4 (by decide) f_X4_readPart_40 rfl dX4_readPart_30 ?_
    refine y_top (y := (nI ((pForm (u 0) L a (u 6)).1))) (by rw [e1]; exact tP1_4 u L a) ?_
    refine lv_iload_n S.1 S.2.1 dX4_readPart_33 rfl (lv_at hl 1 rfl) ?_
    refine lv_isub S.1 S.2.1 dX4_readPart_34 ?_
    refine y_put S hw (C := RX4) (T := TX4) (N := 9) i_X4_readPart_X4 tyX4_ok nmX4 0 rfl rfl 8 (by decide) f_X4_readPart_44 (by decide +kernel) rfl rfl (Nat.le_of_ble_eq_true rfl) dX4_readPart_35 (ws' := [((q 0), .inr (4, [.ref (q 1), .int (v_1 1 0), .int (v_1 2 0), .int (v_1 3 0), .int (v_1 4 0), .int (v_1 5 0), .ref (q 2), .int 1, .int ((nI ((pForm (u 0) L a (u 6)).1)) - (nI a))])), ((q 1), .inl (cC, 60, .inl (v_1 0))), ((q 2), .inl (cI, 3, .inl (v_1 6)))]) rfl (fun H locs hw => ?_)
    refine lv_goto (tgt := 72) S.1 S.2.1 dX4_readPart_38 (by decide) ?_
    exact ret _ _ _ _ (by rw [show tPart u L a st = va_up (va_up v_1 7 (fun _ => 1)) 8 (fun _ => nI (pForm (u 0) L a (u 6)).1 - nI a) from by rw [e1]; unfold tPart; rw [if_pos c_3]]; exact hw) dX4_readPart_72

theorem i_X4_faultPosition_X4 : ∀ w ∈ u_ws RX4 TX4 9, w ∈ wsX4_faultPosition := by decide +kernel
theorem f_X4_faultPosition_23 : Cond.fieldLink RX4 23 "ChargeLines$Text" "parts" "I" ∈ wsX4_faultPosition := by decide +kernel
theorem f_X4_faultPosition_26 : Cond.fieldLink RX4 26 "ChargeLines$Text" "samples" "I" ∈ wsX4_faultPosition := by decide +kernel
theorem k_X4_faultPosition_43 : Cond.constant RX4 43 (-2000004) ∈ wsX4_faultPosition := by decide +kernel
theorem f_X4_faultPosition_19 : Cond.fieldLink RX4 19 "ChargeLines$Text" "length" "I" ∈ wsX4_faultPosition := by decide +kernel
theorem f_X4_faultPosition_33 : Cond.fieldLink RX4 33 "ChargeLines$Text" "reason" "I" ∈ wsX4_faultPosition := by decide +kernel
theorem f_X4_faultPosition_36 : Cond.fieldLink RX4 36 "ChargeLines$Text" "kind" "C" ∈ wsX4_faultPosition := by decide +kernel
theorem f_X4_faultPosition_40 : Cond.fieldLink RX4 40 "ChargeLines$Text" "at" "I" ∈ wsX4_faultPosition := by decide +kernel
set_option maxHeartbeats 4000000 in
set_option maxRecDepth 100000 in
/-- Text.faultPosition -/
theorem c_X4_faultPosition (l : Launch) (D : va_G) (cI cC cL : ClassId) (q : Nat → Nat) (u : U) (L : Nat) (hL : u 1 0 = nI L) (hL2 : L ≤ 60) (st : Int32) : y_MI l yX4_faultPosition wsX4_faultPosition 4 86 D cI cC cL [.ref (q 0), .int st] (cTx cI cC q u) ((tScan L st 60 (va_up (va_up u 2 (fun _ => 0)) 3 (fun _ => 0)) 0).2) (fun v : U => cTx cI cC q v) ((tScan L st 60 (va_up (va_up u 2 (fun _ => 0)) 3 (fun _ => 0)) 0).1) := by
  refine y_startI (cc := cX4_faultPosition) (maxL := 3) (ret := some .int) (by decide +kernel) rfl (Nat.le_of_ble_eq_true rfl) ⟨_, rfl, fun x _ => rfl⟩ (fun h => by cases h) ?_
  intro p e s mm args below meth c A QQ ls S hw ret hl
  have S : CallFix p mm c cX4_faultPosition 3 s args wsX4_faultPosition RX4 := S
  have hw : y_W D cI cC cL A s s.heap [] [((q 0), .inr (4, [.ref (q 1), .int (u 1 0), .int (u 2 0), .int (u 3 0), .int (u 4 0), .int (u 5 0), .ref (q 2), .int (u 7 0), .int (u 8 0)])), ((q 1), .inl (cC, 60, .inl (u 0))), ((q 2), .inl (cI, 3, .inl (u 6)))] := hw
  have hl : lv_has ls 3 [(0, .ref (q 0)), (1, .int st)] := hl
  refine lv_aload_n S.1 S.2.1 dX4_faultPosition_0 rfl (lv_at hl 0 rfl) ?_
  refine lv_iconst (v := 0) S.1 S.2.1 dX4_faultPosition_1 (by decide) ?_
  refine y_put S hw (C := RX4) (T := TX4) (N := 9) i_X4_faultPosition_X4 tyX4_ok nmX4 0 rfl rfl 2 (by decide) f_X4_faultPosition_23 (by decide +kernel) rfl rfl (Nat.le_of_ble_eq_true rfl) dX4_faultPosition_2 (ws' := [((q 0), .inr (4, [.ref (q 1), .int (u 1 0), .int 0, .int (u 3 0), .int (u 4 0), .int (u 5 0), .ref (q 2), .int (u 7 0), .int (u 8 0)])), ((q 1), .inl (cC, 60, .inl (u 0))), ((q 2), .inl (cI, 3, .inl (u 6)))]) rfl (fun H locs hw => ?_)
  refine lv_aload_n S.1 S.2.1 dX4_faultPosition_5 rfl (lv_at hl 0 rfl) ?_
  refine lv_iconst (v := 0) S.1 S.2.1 dX4_faultPosition_6 (by decide) ?_
  refine y_put S hw (C := RX4) (T := TX4) (N := 9) i_X4_faultPosition_X4 tyX4_ok nmX4 0 rfl rfl 3 (by decide) f_X4_faultPosition_26 (by decide +kernel) rfl rfl (Nat.le_of_ble_eq_true rfl) dX4_faultPosition_7 (ws' := [((q 0), .inr (4, [.ref (q 1), .int (u 1 0), .int 0, .int 0, .int (u 4 0), .int (u 5 0), .ref (q 2), .int (u 7 0), .int (u 8 0)])), ((q 1), .inl (cC, 60, .inl (u 0))), ((q 2), .inl (cI, 3, .inl (u 6)))]) rfl (fun H locs hw => ?_)
  refine lv_iconst (v := 0) S.1 S.2.1 dX4_faultPosition_10 (by decide) ?_
  refine lv_istore_n (lv' := [(2, .int 0), (0, .ref (q 0)), (1, .int st)]) S.1 S.2.1 dX4_faultPosition_11 rfl hl (by decide) rfl (fun ls hl => ?_)
  have lp12 : ∀ (fuel : Nat) (k : Nat) (a : Nat) (w : U), (k ≤ 60) → (a ≤ L) → (w 1 0 = nI L) → (w 2 0 = nI k) → (tScan L st (60 - k) w a = tScan L st 60 (va_up (va_up u 2 (fun _ => 0)) 3 (fun _ => 0)) 0) → (60 - k) < fuel → ∀ (H : Heap) (locs : List Loc) (ls : Array Slot), y_W D cI cC cL A s H locs [((q 0), .inr (4, [.ref (q 1), .int (w 1 0), .int (w 2 0), .int (w 3 0), .int (w 4 0), .int (w 5 0), .ref (q 2), .int (w 7 0), .int (w 8 0)])), ((q 1), .inl (cC, 60, .inl (w 0))), ((q 2), .inl (cI, 3, .inl (w 6)))] → lv_has ls 3 [(0, .ref (q 0)), (1, .int st), (2, .int (nI a))] → W p l e (y_R 4 86) s mm args below meth c H locs 0 0 QQ (F0 mm 12 ls []) := by
    intro fuel
    induction fuel with
    | zero =>
      intro k a w hk haL hwL hw2 he hfu
      exact absurd hfu (Nat.not_lt_zero _)
    | succ fuel ih12 =>
      intro k a w hk haL hwL hw2 he hfu H locs ls hw hl
      refine lv_aload_n S.1 S.2.1 dX4_faultPosition_12 rfl (lv_at hl 0 rfl) ?_
      refine y_get S hw (C := RX4) (T := TX4) (N := 9) i_X4_faultPosition_X4 0 rfl rfl 2 (by decide) f_X4_faultPosition_23 rfl dX4_faultPosition_13 ?_
      refine y_top (y := (nI k)) (hw2) ?_
      refine lv_bipush (v := 60) S.1 S.2.1 dX4_faultPosition_16 (by decide) ?_
      refine lv_icmp_ge (tgt := 85) S.1 S.2.1 dX4_faultPosition_18 (by decide) (fun c_1 => ?_) (fun c_1 => ?_)
      · skip
        have c_1N : 60 ≤ k := (nI_leI (a := 60) (b := k) (by omega) (by omega)).mp c_1
        have hJ : tScan L st 60 (va_up (va_up u 2 (fun _ => 0)) 3 (fun _ => 0)) 0 = (w, -2000004) := by
          rw [← he, show 60 - k = 0 from by omega, tScan]
        refine lv_ldc (v := (-2000004)) S.1 S.2.1 S.2.2.2.1 (S.2.2.2.2 _ k_X4_faultPosition_43) dX4_faultPosition_85 ?_
        exact ret _ _ _ _ _ (by rw [hJ]; exact hw) (by rw [hJ]) dX4_faultPosition_87
      · skip
        have c_1N : ¬ 60 ≤ k := fun z => c_1 ((nI_leI (a := 60) (b := k) (by omega) (by omega)).mpr z)
        refine lv_iload_n S.1 S.2.1 dX4_faultPosition_21 rfl (lv_at hl 2 rfl) ?_
        refine lv_aload_n S.1 S.2.1 dX4_faultPosition_22 rfl (lv_at hl 0 rfl) ?_
        refine y_get S hw (C := RX4) (T := TX4) (N := 9) i_X4_faultPosition_X4 0 rfl rfl 1 (by decide) f_X4_faultPosition_19 rfl dX4_faultPosition_23 ?_
        refine y_top (y := (nI L)) (hwL) ?_
        refine lv_icmp_ge (tgt := 85) S.1 S.2.1 dX4_faultPosition_26 (by decide) (fun c_2 => ?_) (fun c_2 => ?_)
        · skip
          have c_2N : L ≤ a := (nI_leI (a := L) (b := a) (by omega) (by omega)).mp c_2
          have hJ : tScan L st 60 (va_up (va_up u 2 (fun _ => 0)) 3 (fun _ => 0)) 0 = (w, -2000004) := by
            rw [← he, show 60 - k = (60 - (k + 1)) + 1 from by omega, tScan, if_pos c_2N]
          refine lv_ldc (v := (-2000004)) S.1 S.2.1 S.2.2.2.1 (S.2.2.2.2 _ k_X4_faultPosition_43) dX4_faultPosition_85 ?_
          exact ret _ _ _ _ _ (by rw [hJ]; exact hw) (by rw [hJ]) dX4_faultPosition_87
        · skip
          have c_2N : ¬ L ≤ a := fun z => c_2 ((nI_leI (a := L) (b := a) (by omega) (by omega)).mpr z)
          refine lv_aload_n S.1 S.2.1 dX4_faultPosition_29 rfl (lv_at hl 0 rfl) ?_
          refine lv_iload_n S.1 S.2.1 dX4_faultPosition_30 rfl (lv_at hl 2 rfl) ?_
          refine lv_iload_n S.1 S.2.1 dX4_faultPosition_31 rfl (lv_at hl 1 rfl) ?_
          refine y_callV (As := [.int (nI a), .int st]) (rest := []) S hw hl.1 (c_X4_readPart l D cI cC cL q w L a st (hwL) (by omega) (haL)) (cwV 2 S.2.2.2.2 gX4_faultPosition_X4_readPart rfl rfl rfl (by decide +kernel) ⟨Nat.le_of_ble_eq_true rfl, Nat.le_of_ble_eq_true rfl⟩) 0 rfl rfl [0, 1, 2] [] rfl (by decide +kernel) (wr := []) rfl (by decide +kernel) (by decide +kernel) rfl (Nat.le_of_ble_eq_true rfl) dX4_faultPosition_32 rfl ⟨Nat.le_refl _, Nat.le_refl _⟩ (fun H locs v_3 ev_3 hw => ?_)
          have hw : y_W D cI cC cL A s H locs [((q 0), .inr (4, [.ref (q 1), .int (v_3 1 0), .int (v_3 2 0), .int (v_3 3 0), .int (v_3 4 0), .int (v_3 5 0), .ref (q 2), .int (v_3 7 0), .int (v_3 8 0)])), ((q 1), .inl (cC, 60, .inl (v_3 0))), ((q 2), .inl (cI, 3, .inl (v_3 6)))] := hw
          refine lv_aload_n S.1 S.2.1 dX4_faultPosition_35 rfl (lv_at hl 0 rfl) ?_
          refine y_get S hw (C := RX4) (T := TX4) (N := 9) i_X4_faultPosition_X4 0 rfl rfl 7 (by decide) f_X4_faultPosition_33 rfl dX4_faultPosition_36 ?_
          refine lv_if_eq (tgt := 44) S.1 S.2.1 dX4_faultPosition_39 (by decide) (fun c_5 => ?_) (fun c_5 => ?_)
          · skip
            refine lv_aload_n S.1 S.2.1 dX4_faultPosition_44 rfl (lv_at hl 0 rfl) ?_
            refine lv_dup S.1 S.2.1 dX4_faultPosition_45 rfl ?_
            refine y_get S hw (C := RX4) (T := TX4) (N := 9) i_X4_faultPosition_X4 0 rfl rfl 2 (by decide) f_X4_faultPosition_23 rfl dX4_faultPosition_46 ?_
            refine lv_iconst (v := 1) S.1 S.2.1 dX4_faultPosition_49 (by decide) ?_
            refine lv_iadd S.1 S.2.1 dX4_faultPosition_50 ?_
            refine y_put S hw (C := RX4) (T := TX4) (N := 9) i_X4_faultPosition_X4 tyX4_ok nmX4 0 rfl rfl 2 (by decide) f_X4_faultPosition_23 (by decide +kernel) rfl rfl (Nat.le_of_ble_eq_true rfl) dX4_faultPosition_51 (ws' := [((q 0), .inr (4, [.ref (q 1), .int (v_3 1 0), .int ((v_3 2 0) + 1), .int (v_3 3 0), .int (v_3 4 0), .int (v_3 5 0), .ref (q 2), .int (v_3 7 0), .int (v_3 8 0)])), ((q 1), .inl (cC, 60, .inl (v_3 0))), ((q 2), .inl (cI, 3, .inl (v_3 6)))]) rfl (fun H locs hw => ?_)
            refine lv_aload_n S.1 S.2.1 dX4_faultPosition_54 rfl (lv_at hl 0 rfl) ?_
            refine lv_dup S.1 S.2.1 dX4_faultPosition_55 rfl ?_
            refine y_get S hw (C := RX4) (T := TX4) (N := 9) i_X4_faultPosition_X4 0 rfl rfl 3 (by decide) f_X4_faultPosition_26 rfl dX4_faultPosition_56 ?_
            refine lv_aload_n S.1 S.2.1 dX4_faultPosition_59 rfl (lv_at hl 0 rfl) ?_
            refine y_get S hw (C := RX4) (T := TX4) (N := 9) i_X4_faultPosition_X4 0 rfl rfl 5 (by decide) f_X4_faultPosition_36 rfl dX4_faultPosition_60 ?_
            refine lv_bipush (v := 115) S.1 S.2.1 dX4_faultPosition_63 (by decide) ?_
            refine lv_icmp_ne (tgt := 72) S.1 S.2.1 dX4_faultPosition_65 (by decide) (fun c_6 => ?_) (fun c_6 => ?_)
            · skip
              refine lv_iconst (v := 0) S.1 S.2.1 dX4_faultPosition_72 (by decide) ?_
              refine lv_iadd S.1 S.2.1 dX4_faultPosition_73 ?_
              refine y_put S hw (C := RX4) (T := TX4) (N := 9) i_X4_faultPosition_X4 tyX4_ok nmX4 0 rfl rfl 3 (by decide) f_X4_faultPosition_26 (by decide +kernel) rfl rfl (Nat.le_of_ble_eq_true rfl) dX4_faultPosition_74 (ws' := [((q 0), .inr (4, [.ref (q 1), .int (v_3 1 0), .int ((v_3 2 0) + 1), .int ((v_3 3 0) + 0), .int (v_3 4 0), .int (v_3 5 0), .ref (q 2), .int (v_3 7 0), .int (v_3 8 0)])), ((q 1), .inl (cC, 60, .inl (v_3 0))), ((q 2), .inl (cI, 3, .inl (v_3 6)))]) rfl (fun H locs hw => ?_)
              refine lv_aload_n S.1 S.2.1 dX4_faultPosition_77 rfl (lv_at hl 0 rfl) ?_
              refine y_get S hw (C := RX4) (T := TX4) (N := 9) i_X4_faultPosition_X4 0 rfl rfl 4 (by decide) f_X4_faultPosition_40 rfl dX4_faultPosition_78 ?_
              refine y_top (y := (nI ((pForm (w 0) L a (w 6)).1))) (by rw [ev_3]; exact tPart_4 w L a st) ?_
              refine lv_istore_n (lv' := [(2, .int (nI ((pForm (w 0) L a (w 6)).1))), (0, .ref (q 0)), (1, .int st)]) S.1 S.2.1 dX4_faultPosition_81 rfl hl (by decide) rfl (fun ls hl => ?_)
              refine lv_goto (tgt := 12) S.1 S.2.1 dX4_faultPosition_82 (by decide) ?_
              exact ih12 (k + 1) ((pForm (w 0) L a (w 6)).1) (va_up (va_up v_3 2 (fun _ => ((v_3 2 0) + 1))) 3 (fun _ => ((v_3 3 0) + 0))) (by omega) (pForm_L haL) (by show v_3 1 0 = _; rw [ev_3, tPart_o w L a st 1 (by decide) (by decide) (by decide) (by decide) (by decide)]; exact hwL) (by show v_3 2 0 + 1 = _; rw [ev_3, tPart_o w L a st 2 (by decide) (by decide) (by decide) (by decide) (by decide), hw2]; exact nI_1 k) (by rw [← he, show 60 - k = (60 - (k + 1)) + 1 from by omega]; (conv => rhs; rw [tScan, if_neg c_2N, ← ev_3, if_neg (not_not_intro c_5)]); unfold tBump; simp only [c_6, not_false_eq_true, not_true_eq_false, ↓reduceIte]) (by omega) _ _ ls hw (lv_sub hl [1, 2, 0] rfl)
            · skip
              refine lv_iconst (v := 1) S.1 S.2.1 dX4_faultPosition_68 (by decide) ?_
              refine lv_goto (tgt := 73) S.1 S.2.1 dX4_faultPosition_69 (by decide) ?_
              refine lv_iadd S.1 S.2.1 dX4_faultPosition_73 ?_
              refine y_put S hw (C := RX4) (T := TX4) (N := 9) i_X4_faultPosition_X4 tyX4_ok nmX4 0 rfl rfl 3 (by decide) f_X4_faultPosition_26 (by decide +kernel) rfl rfl (Nat.le_of_ble_eq_true rfl) dX4_faultPosition_74 (ws' := [((q 0), .inr (4, [.ref (q 1), .int (v_3 1 0), .int ((v_3 2 0) + 1), .int ((v_3 3 0) + 1), .int (v_3 4 0), .int (v_3 5 0), .ref (q 2), .int (v_3 7 0), .int (v_3 8 0)])), ((q 1), .inl (cC, 60, .inl (v_3 0))), ((q 2), .inl (cI, 3, .inl (v_3 6)))]) rfl (fun H locs hw => ?_)
              refine lv_aload_n S.1 S.2.1 dX4_faultPosition_77 rfl (lv_at hl 0 rfl) ?_
              refine y_get S hw (C := RX4) (T := TX4) (N := 9) i_X4_faultPosition_X4 0 rfl rfl 4 (by decide) f_X4_faultPosition_40 rfl dX4_faultPosition_78 ?_
              refine y_top (y := (nI ((pForm (w 0) L a (w 6)).1))) (by rw [ev_3]; exact tPart_4 w L a st) ?_
              refine lv_istore_n (lv' := [(2, .int (nI ((pForm (w 0) L a (w 6)).1))), (0, .ref (q 0)), (1, .int st)]) S.1 S.2.1 dX4_faultPosition_81 rfl hl (by decide) rfl (fun ls hl => ?_)
              refine lv_goto (tgt := 12) S.1 S.2.1 dX4_faultPosition_82 (by decide) ?_
              exact ih12 (k + 1) ((pForm (w 0) L a (w 6)).1) (va_up (va_up v_3 2 (fun _ => ((v_3 2 0) + 1))) 3 (fun _ => ((v_3 3 0) + 1))) (by omega) (pForm_L haL) (by show v_3 1 0 = _; rw [ev_3, tPart_o w L a st 1 (by decide) (by decide) (by decide) (by decide) (by decide)]; exact hwL) (by show v_3 2 0 + 1 = _; rw [ev_3, tPart_o w L a st 2 (by decide) (by decide) (by decide) (by decide) (by decide), hw2]; exact nI_1 k) (by rw [← he, show 60 - k = (60 - (k + 1)) + 1 from by omega]; (conv => rhs; rw [tScan, if_neg c_2N, ← ev_3, if_neg (not_not_intro c_5)]); unfold tBump; simp only [c_6, not_false_eq_true, not_true_eq_false, ↓reduceIte]) (by omega) _ _ ls hw (lv_sub hl [1, 2, 0] rfl)
          · skip
            have hJ : tScan L st 60 (va_up (va_up u 2 (fun _ => 0)) 3 (fun _ => 0)) 0 = (v_3, nI a) := by
              rw [← he, show 60 - k = (60 - (k + 1)) + 1 from by omega, tScan, if_neg c_2N, ← ev_3, if_pos c_5]
            refine lv_iload_n S.1 S.2.1 dX4_faultPosition_42 rfl (lv_at hl 2 rfl) ?_
            exact ret _ _ _ _ _ (by rw [hJ]; exact hw) (by rw [hJ]) dX4_faultPosition_43
  exact lp12 ((60 - 0) + 1) 0 0 (va_up (va_up u 2 (fun _ => 0)) 3 (fun _ => 0)) (Nat.zero_le _) (Nat.zero_le _) (hL) (rfl) (rfl) (Nat.lt_succ_self _) _ _ ls hw (lv_sub hl [1, 2, 0] rfl)
