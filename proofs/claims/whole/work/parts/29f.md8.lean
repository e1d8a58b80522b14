theorem i_X6_reads_X6 : ∀ w ∈ u_ws RX6 TX6 13, w ∈ wsX6_reads := by decide +kernel
theorem f_X6_reads_156 : Cond.fieldLink RX6 156 "ChargeLinesModel" "at" "I" ∈ wsX6_reads := by decide +kernel
theorem f_X6_reads_168 : Cond.fieldLink RX6 168 "ChargeLinesModel" "reason" "I" ∈ wsX6_reads := by decide +kernel
theorem f_X6_reads_159 : Cond.fieldLink RX6 159 "ChargeLinesModel" "sort" "I" ∈ wsX6_reads := by decide +kernel
theorem f_X6_reads_175 : Cond.fieldLink RX6 175 "ChargeLinesModel" "cause" "I" ∈ wsX6_reads := by decide +kernel
theorem f_X6_reads_25 : Cond.fieldLink RX6 25 "ChargeLinesModel" "told" "[I" ∈ wsX6_reads := by decide +kernel
set_option maxHeartbeats 4000000 in
set_option maxRecDepth 100000 in
/-- Model.reads -/
theorem c_X6_reads (l : Launch) (D : va_G) (cI cC cL : ClassId) (q : Nat → Nat) (u : U) (L a : Nat) (hL : u 5 0 = nI L) (hL2 : L ≤ 60) (ha : u 8 0 = nI a) (ha2 : a ≤ L) : y_MI l yX6_reads wsX6_reads 3 66 D cI cC cL [.ref (q 0)] (cMd cI q u) (mRdB u L a) (fun v : U => cMd cI q v) (mRd u L a) := by
  refine y_startI (cc := cX6_reads) (maxL := 2) (ret := some .boolean) (by decide +kernel) rfl (Nat.le_of_ble_eq_true rfl) ⟨_, rfl, fun x h => by rcases h rfl with rfl | rfl <;> rfl⟩ (fun _ => mRdB_01) ?_
  intro p e s mm args below meth c A QQ ls S hw ret hl
  have S : CallFix p mm c cX6_reads 2 s args wsX6_reads RX6 := S
  have hw : y_W D cI cC cL A s s.heap [] [((q 0), .inr (6, [.ref (q 1), .ref (q 2), .ref (q 3), .int (u 3 0), .ref (q 4), .int (u 5 0), .ref (q 5), .int (u 7 0), .int (u 8 0), .int (u 9 0), .int (u 10 0), .int (u 11 0), .ref (q 6)])), ((q 1), .inl (cI, 162, .inl (u 0))), ((q 2), .inl (cI, 162, .inl (u 1))), ((q 3), .inl (cI, 648, .inl (u 2))), ((q 4), .inl (cI, 60, .inl (u 4))), ((q 5), .inl (cI, 3, .inl (u 6))), ((q 6), .inl (cI, 3, .inl (u 12)))] := hw
  have hl : lv_has ls 2 [(0, .ref (q 0))] := hl
  refine lv_aload_n S.1 S.2.1 dX6_reads_0 rfl (lv_at hl 0 rfl) ?_
  refine y_get S hw (C := RX6) (T := TX6) (N := 13) i_X6_reads_X6 0 rfl rfl 8 (by decide) f_X6_reads_156 rfl dX6_reads_1 ?_
  refine y_top (y := (nI a)) (ha) ?_
  refine lv_istore_n (lv' := [(1, .int (nI a)), (0, .ref (q 0))]) S.1 S.2.1 dX6_reads_4 rfl hl (by decide) rfl (fun ls hl => ?_)
  refine lv_aload_n S.1 S.2.1 dX6_reads_5 rfl (lv_at hl 1 rfl) ?_
  refine lv_iconst (v := 1) S.1 S.2.1 dX6_reads_6 (by decide) ?_
  refine y_put S hw (C := RX6) (T := TX6) (N := 13) i_X6_reads_X6 tyX6_ok nmX6 0 rfl rfl 9 (by decide) f_X6_reads_168 (by decide +kernel) rfl rfl (Nat.le_of_ble_eq_true rfl) dX6_reads_7 (ws' := [((q 0), .inr (6, [.ref (q 1), .ref (q 2), .ref (q 3), .int (u 3 0), .ref (q 4), .int (u 5 0), .ref (q 5), .int (u 7 0), .int (u 8 0), .int 1, .int (u 10 0), .int (u 11 0), .ref (q 6)])), ((q 1), .inl (cI, 162, .inl (u 0))), ((q 2), .inl (cI, 162, .inl (u 1))), ((q 3), .inl (cI, 648, .inl (u 2))), ((q 4), .inl (cI, 60, .inl (u 4))), ((q 5), .inl (cI, 3, .inl (u 6))), ((q 6), .inl (cI, 3, .inl (u 12)))]) rfl (fun H locs hw => ?_)
  refine lv_aload_n S.1 S.2.1 dX6_reads_10 rfl (lv_at hl 1 rfl) ?_
  refine y_callI (As := []) (rest := []) S hw hl.1 (c_X6_hasForm l D cI cC cL q (va_up u 9 (fun _ => 1)) L a hL (by omega) (ha) (ha2)) (cwV 0 S.2.2.2.2 gX6_reads_X6_hasForm rfl rfl rfl (by decide +kernel) ⟨Nat.le_of_ble_eq_true rfl, Nat.le_of_ble_eq_true rfl⟩) 0 rfl rfl [0, 1, 2, 3, 4, 5, 6] [] rfl (by decide +kernel) (wr := []) rfl (by decide +kernel) (by decide +kernel) rfl (Nat.le_of_ble_eq_true rfl) dX6_reads_11 rfl ⟨Nat.le_refl _, Nat.le_refl _⟩ (fun H locs v_1 x_2 ev_1 ex_2 hw => ?_)
  have hw : y_W D cI cC cL A s H locs [((q 0), .inr (6, [.ref (q 1), .ref (q 2), .ref (q 3), .int (v_1 3 0), .ref (q 4), .int (v_1 5 0), .ref (q 5), .int (v_1 7 0), .int (v_1 8 0), .int (v_1 9 0), .int (v_1 10 0), .int (v_1 11 0), .ref (q 6)])), ((q 1), .inl (cI, 162, .inl (v_1 0))), ((q 2), .inl (cI, 162, .inl (v_1 1))), ((q 3), .inl (cI, 648, .inl (v_1 2))), ((q 4), .inl (cI, 60, .inl (v_1 4))), ((q 5), .inl (cI, 3, .inl (v_1 6))), ((q 6), .inl (cI, 3, .inl (v_1 12)))] := hw
  subst ex_2
  refine y_top (y := (pForm (u 4) L a (u 12)).2.2) rfl ?_
  have e1 : v_1 = va_up (mForm u L a) 9 (fun _ => 1) := ev_1.trans (mForm_9 u L a _)
  have h0 : v_1 0 0 = u 0 0 := by rw [e1]; exact congrFun (mForm_o u L a 0 (by decide) (by decide) (by decide)) 0
  refine lv_if_ne (tgt := 29) S.1 S.2.1 dX6_reads_14 (by decide) (fun c_3 => ?_) (fun c_3 => ?_)
  · skip
    refine lv_aload_n S.1 S.2.1 dX6_reads_29 rfl (lv_at hl 1 rfl) ?_
    refine lv_iconst (v := 2) S.1 S.2.1 dX6_reads_30 (by decide) ?_
    refine y_put S hw (C := RX6) (T := TX6) (N := 13) i_X6_reads_X6 tyX6_ok nmX6 0 rfl rfl 9 (by decide) f_X6_reads_168 (by decide +kernel) rfl rfl (Nat.le_of_ble_eq_true rfl) dX6_reads_31 (ws' := [((q 0), .inr (6, [.ref (q 1), .ref (q 2), .ref (q 3), .int (v_1 3 0), .ref (q 4), .int (v_1 5 0), .ref (q 5), .int (v_1 7 0), .int (v_1 8 0), .int 2, .int (v_1 10 0), .int (v_1 11 0), .ref (q 6)])), ((q 1), .inl (cI, 162, .inl (v_1 0))), ((q 2), .inl (cI, 162, .inl (v_1 1))), ((q 3), .inl (cI, 648, .inl (v_1 2))), ((q 4), .inl (cI, 60, .inl (v_1 4))), ((q 5), .inl (cI, 3, .inl (v_1 6))), ((q 6), .inl (cI, 3, .inl (v_1 12)))]) rfl (fun H locs hw => ?_)
    refine lv_aload_n S.1 S.2.1 dX6_reads_34 rfl (lv_at hl 1 rfl) ?_
    refine y_get S hw (C := RX6) (T := TX6) (N := 13) i_X6_reads_X6 0 rfl rfl 11 (by decide) f_X6_reads_159 rfl dX6_reads_35 ?_
    refine y_top (y := (mSort (u 4) L a)) (by rw [e1]; exact mForm_11 u L a) ?_
    refine lv_bipush (v := 108) S.1 S.2.1 dX6_reads_38 (by decide) ?_
    refine lv_icmp_ne (tgt := 58) S.1 S.2.1 dX6_reads_40 (by decide) (fun c_4 => ?_) (fun c_4 => ?_)
    · skip
      refine lv_aload_n S.1 S.2.1 dX6_reads_58 rfl (lv_at hl 1 rfl) ?_
      refine lv_iconst (v := 3) S.1 S.2.1 dX6_reads_59 (by decide) ?_
      refine y_put S hw (C := RX6) (T := TX6) (N := 13) i_X6_reads_X6 tyX6_ok nmX6 0 rfl rfl 9 (by decide) f_X6_reads_168 (by decide +kernel) rfl rfl (Nat.le_of_ble_eq_true rfl) dX6_reads_60 (ws' := [((q 0), .inr (6, [.ref (q 1), .ref (q 2), .ref (q 3), .int (v_1 3 0), .ref (q 4), .int (v_1 5 0), .ref (q 5), .int (v_1 7 0), .int (v_1 8 0), .int 3, .int (v_1 10 0), .int (v_1 11 0), .ref (q 6)])), ((q 1), .inl (cI, 162, .inl (v_1 0))), ((q 2), .inl (cI, 162, .inl (v_1 1))), ((q 3), .inl (cI, 648, .inl (v_1 2))), ((q 4), .inl (cI, 60, .inl (v_1 4))), ((q 5), .inl (cI, 3, .inl (v_1 6))), ((q 6), .inl (cI, 3, .inl (v_1 12)))]) rfl (fun H locs hw => ?_)
      refine lv_aload_n S.1 S.2.1 dX6_reads_63 rfl (lv_at hl 1 rfl) ?_
      refine lv_aload_n S.1 S.2.1 dX6_reads_64 rfl (lv_at hl 1 rfl) ?_
      refine y_callI (As := []) (rest := [.ref (q 0)]) S hw hl.1 (c_X6_wrongNumber l D cI cC cL q (va_up v_1 9 (fun _ => 3))) (cwV 0 S.2.2.2.2 gX6_reads_X6_wrongNumber rfl rfl rfl (by decide +kernel) ⟨Nat.le_of_ble_eq_true rfl, Nat.le_of_ble_eq_true rfl⟩) 0 rfl rfl [0, 1, 2, 3, 4, 5, 6] [] rfl (by decide +kernel) (wr := []) rfl (by decide +kernel) (by decide +kernel) rfl (Nat.le_of_ble_eq_true rfl) dX6_reads_65 rfl ⟨Nat.le_refl _, Nat.le_refl _⟩ (fun H locs v_5 x_6 ev_5 ex_6 hw => ?_)
      have hw : y_W D cI cC cL A s H locs [((q 0), .inr (6, [.ref (q 1), .ref (q 2), .ref (q 3), .int (v_1 3 0), .ref (q 4), .int (v_1 5 0), .ref (q 5), .int (v_1 7 0), .int (v_1 8 0), .int 3, .int (v_1 10 0), .int (v_1 11 0), .ref (q 6)])), ((q 1), .inl (cI, 162, .inl (v_1 0))), ((q 2), .inl (cI, 162, .inl (v_1 1))), ((q 3), .inl (cI, 648, .inl (v_1 2))), ((q 4), .inl (cI, 60, .inl (v_1 4))), ((q 5), .inl (cI, 3, .inl (v_1 6))), ((q 6), .inl (cI, 3, .inl (v_1 12)))] := hw
      subst ex_6
      refine y_top (y := (mRdC u L a)) (by rw [e1]; unfold mRdC; rw [← mForm_11, ← mForm_12]; exact rfl) ?_
      refine y_put S hw (C := RX6) (T := TX6) (N := 13) i_X6_reads_X6 tyX6_ok nmX6 0 rfl rfl 10 (by decide) f_X6_reads_175 (by decide +kernel) rfl rfl (Nat.le_of_ble_eq_true rfl) dX6_reads_68 (ws' := [((q 0), .inr (6, [.ref (q 1), .ref (q 2), .ref (q 3), .int (v_1 3 0), .ref (q 4), .int (v_1 5 0), .ref (q 5), .int (v_1 7 0), .int (v_1 8 0), .int 3, .int (mRdC u L a), .int (v_1 11 0), .ref (q 6)])), ((q 1), .inl (cI, 162, .inl (v_1 0))), ((q 2), .inl (cI, 162, .inl (v_1 1))), ((q 3), .inl (cI, 648, .inl (v_1 2))), ((q 4), .inl (cI, 60, .inl (v_1 4))), ((q 5), .inl (cI, 3, .inl (v_1 6))), ((q 6), .inl (cI, 3, .inl (v_1 12)))]) rfl (fun H locs hw => ?_)
      refine lv_aload_n S.1 S.2.1 dX6_reads_71 rfl (lv_at hl 1 rfl) ?_
      refine y_get S hw (C := RX6) (T := TX6) (N := 13) i_X6_reads_X6 0 rfl rfl 10 (by decide) f_X6_reads_175 rfl dX6_reads_72 ?_
      refine lv_iconst (v := (-1)) S.1 S.2.1 dX6_reads_75 (by decide) ?_
      refine lv_icmp_ne (tgt := 83) S.1 S.2.1 dX6_reads_76 (by decide) (fun c_7 => ?_) (fun c_7 => ?_)
      · skip
        refine lv_iconst (v := 0) S.1 S.2.1 dX6_reads_83 (by decide) ?_
        exact ret _ _ _ _ _ (by rw [show mRd u L a = (va_up (va_up v_1 9 (fun _ => 3)) 10 (fun _ => (mRdC u L a))) from by rw [e1]; unfold mRd; rw [if_neg c_3, if_pos c_4]; (try simp only [va_up_up])]; exact hw) (by unfold mRdB; rw [if_neg c_3, if_pos c_4]; first | exact (if_pos c_7).symm | exact (if_neg (not_not_intro c_7)).symm) dX6_reads_84
      · skip
        refine lv_iconst (v := 1) S.1 S.2.1 dX6_reads_79 (by decide) ?_
        refine lv_goto (tgt := 84) S.1 S.2.1 dX6_reads_80 (by decide) ?_
        exact ret _ _ _ _ _ (by rw [show mRd u L a = (va_up (va_up v_1 9 (fun _ => 3)) 10 (fun _ => (mRdC u L a))) from by rw [e1]; unfold mRd; rw [if_neg c_3, if_pos c_4]; (try simp only [va_up_up])]; exact hw) (by unfold mRdB; rw [if_neg c_3, if_pos c_4]; first | exact (if_pos c_7).symm | exact (if_neg (not_not_intro c_7)).symm) dX6_reads_84
    · skip
      refine lv_aload_n S.1 S.2.1 dX6_reads_43 rfl (lv_at hl 1 rfl) ?_
      refine lv_aload_n S.1 S.2.1 dX6_reads_44 rfl (lv_at hl 1 rfl) ?_
      refine y_get S hw (C := RX6) (T := TX6) (N := 13) i_X6_reads_X6 0 rfl rfl 12 (by decide) f_X6_reads_25 rfl dX6_reads_45 ?_
      refine lv_iconst (v := 0) S.1 S.2.1 dX6_reads_48 (by decide) ?_
      refine y_iald S hw 6 (k := 0) rfl (by omega) (Nat.le_of_ble_eq_true rfl) dX6_reads_49 ?_
      refine y_top (y := ((pForm (u 4) L a (u 12)).2.1 0)) (by rw [e1]; exact congrFun (mForm_12 u L a) 0) ?_
      refine y_callI (As := [.int ((pForm (u 4) L a (u 12)).2.1 0)]) (rest := []) S hw hl.1 (c_X6_isStage l D cI cC cL q (va_up v_1 9 (fun _ => 2)) ((pForm (u 4) L a (u 12)).2.1 0)) (cwV 1 S.2.2.2.2 gX6_reads_X6_isStage rfl rfl rfl (by decide +kernel) ⟨Nat.le_of_ble_eq_true rfl, Nat.le_of_ble_eq_true rfl⟩) 0 rfl rfl [0, 1, 2, 3, 4, 5, 6] [] rfl (by decide +kernel) (wr := []) rfl (by decide +kernel) (by decide +kernel) rfl (Nat.le_of_ble_eq_true rfl) dX6_reads_50 rfl ⟨Nat.le_refl _, Nat.le_refl _⟩ (fun H locs v_8 x_9 ev_8 ex_9 hw => ?_)
      have hw : y_W D cI cC cL A s H locs [((q 0), .inr (6, [.ref (q 1), .ref (q 2), .ref (q 3), .int (v_1 3 0), .ref (q 4), .int (v_1 5 0), .ref (q 5), .int (v_1 7 0), .int (v_1 8 0), .int 2, .int (v_1 10 0), .int (v_1 11 0), .ref (q 6)])), ((q 1), .inl (cI, 162, .inl (v_1 0))), ((q 2), .inl (cI, 162, .inl (v_1 1))), ((q 3), .inl (cI, 648, .inl (v_1 2))), ((q 4), .inl (cI, 60, .inl (v_1 4))), ((q 5), .inl (cI, 3, .inl (v_1 6))), ((q 6), .inl (cI, 3, .inl (v_1 12)))] := hw
      subst ex_9
      refine lv_if_ne (tgt := 58) S.1 S.2.1 dX6_reads_53 (by decide) (fun c_10 => ?_) (fun c_10 => ?_)
      · skip
        refine lv_aload_n S.1 S.2.1 dX6_reads_58 rfl (lv_at hl 1 rfl) ?_
        refine lv_iconst (v := 3) S.1 S.2.1 dX6_reads_59 (by decide) ?_
        refine y_put S hw (C := RX6) (T := TX6) (N := 13) i_X6_reads_X6 tyX6_ok nmX6 0 rfl rfl 9 (by decide) f_X6_reads_168 (by decide +kernel) rfl rfl (Nat.le_of_ble_eq_true rfl) dX6_reads_60 (ws' := [((q 0), .inr (6, [.ref (q 1), .ref (q 2), .ref (q 3), .int (v_1 3 0), .ref (q 4), .int (v_1 5 0), .ref (q 5), .int (v_1 7 0), .int (v_1 8 0), .int 3, .int (v_1 10 0), .int (v_1 11 0), .ref (q 6)])), ((q 1), .inl (cI, 162, .inl (v_1 0))), ((q 2), .inl (cI, 162, .inl (v_1 1))), ((q 3), .inl (cI, 648, .inl (v_1 2))), ((q 4), .inl (cI, 60, .inl (v_1 4))), ((q 5), .inl (cI, 3, .inl (v_1 6))), ((q 6), .inl (cI, 3, .inl (v_1 12)))]) rfl (fun H locs hw => ?_)
        refine lv_aload_n S.1 S.2.1 dX6_reads_63 rfl (lv_at hl 1 rfl) ?_
        refine lv_aload_n S.1 S.2.1 dX6_reads_64 rfl (lv_at hl 1 rfl) ?_
        refine y_callI (As := []) (rest := [.ref (q 0)]) S hw hl.1 (c_X6_wrongNumber l D cI cC cL q (va_up v_1 9 (fun _ => 3))) (cwV 0 S.2.2.2.2 gX6_reads_X6_wrongNumber rfl rfl rfl (by decide +kernel) ⟨Nat.le_of_ble_eq_true rfl, Nat.le_of_ble_eq_true rfl⟩) 0 rfl rfl [0, 1, 2, 3, 4, 5, 6] [] rfl (by decide +kernel) (wr := []) rfl (by decide +kernel) (by decide +kernel) rfl (Nat.le_of_ble_eq_true rfl) dX6_reads_65 rfl ⟨Nat.le_refl _, Nat.le_refl _⟩ (fun H locs v_11 x_12 ev_11 ex_12 hw => ?_)
        have hw : y_W D cI cC cL A s H locs [((q 0), .inr (6, [.ref (q 1), .ref (q 2), .ref (q 3), .int (v_1 3 0), .ref (q 4), .int (v_1 5 0), .ref (q 5), .int (v_1 7 0), .int (v_1 8 0), .int 3, .int (v_1 10 0), .int (v_1 11 0), .ref (q 6)])), ((q 1), .inl (cI, 162, .inl (v_1 0))), ((q 2), .inl (cI, 162, .inl (v_1 1))), ((q 3), .inl (cI, 648, .inl (v_1 2))), ((q 4), .inl (cI, 60, .inl (v_1 4))), ((q 5), .inl (cI, 3, .inl (v_1 6))), ((q 6), .inl (cI, 3, .inl (v_1 12)))] := hw
        subst ex_12
        refine y_top (y := (mRdC u L a)) (by rw [e1]; unfold mRdC; rw [← mForm_11, ← mForm_12]; exact rfl) ?_
        refine y_put S hw (C := RX6) (T := TX6) (N := 13) i_X6_reads_X6 tyX6_ok nmX6 0 rfl rfl 10 (by decide) f_X6_reads_175 (by decide +kernel) rfl rfl (Nat.le_of_ble_eq_true rfl) dX6_reads_68 (ws' := [((q 0), .inr (6, [.ref (q 1), .ref (q 2), .ref (q 3), .int (v_1 3 0), .ref (q 4), .int (v_1 5 0), .ref (q 5), .int (v_1 7 0), .int (v_1 8 0), .int 3, .int (mRdC u L a), .int (v_1 11 0), .ref (q 6)])), ((q 1), .inl (cI, 162, .inl (v_1 0))), ((q 2), .inl (cI, 162, .inl (v_1 1))), ((q 3), .inl (cI, 648, .inl (v_1 2))), ((q 4), .inl (cI, 60, .inl (v_1 4))), ((q 5), .inl (cI, 3, .inl (v_1 6))), ((q 6), .inl (cI, 3, .inl (v_1 12)))]) rfl (fun H locs hw => ?_)
        refine lv_aload_n S.1 S.2.1 dX6_reads_71 rfl (lv_at hl 1 rfl) ?_
        refine y_get S hw (C := RX6) (T := TX6) (N := 13) i_X6_reads_X6 0 rfl rfl 10 (by decide) f_X6_reads_175 rfl dX6_reads_72 ?_
        refine lv_iconst (v := (-1)) S.1 S.2.1 dX6_reads_75 (by decide) ?_
        refine lv_icmp_ne (tgt := 83) S.1 S.2.1 dX6_reads_76 (by decide) (fun c_13 => ?_) (fun c_13 => ?_)
        · skip
          refine lv_iconst (v := 0) S.1 S.2.1 dX6_reads_83 (by decide) ?_
          exact ret _ _ _ _ _ (by rw [show mRd u L a = (va_up (va_up v_1 9 (fun _ => 3)) 10 (fun _ => (mRdC u L a))) from by rw [e1]; unfold mRd; rw [if_neg c_3, if_neg (not_not_intro c_4), if_neg (h0 ▸ c_10)]; (try simp only [va_up_up])]; exact hw) (by unfold mRdB; rw [if_neg c_3, if_neg (not_not_intro c_4), if_neg (h0 ▸ c_10)]; first | exact (if_pos c_13).symm | exact (if_neg (not_not_intro c_13)).symm) dX6_reads_84
        · skip
          refine lv_iconst (v := 1) S.1 S.2.1 dX6_reads_79 (by decide) ?_
          refine lv_goto (tgt := 84) S.1 S.2.1 dX6_reads_80 (by decide) ?_
          exact ret _ _ _ _ _ (by rw [show mRd u L a = (va_up (va_up v_1 9 (fun _ => 3)) 10 (fun _ => (mRdC u L a))) from by rw [e1]; unfold mRd; rw [if_neg c_3, if_neg (not_not_intro c_4), if_neg (h0 ▸ c_10)]; (try simp only [va_up_up])]; exact hw) (by unfold mRdB; rw [if_neg c_3, if_neg (not_not_intro c_4), if_neg (h0 ▸ c_10)]; first | exact (if_pos c_13).symm | exact (if_neg (not_not_intro c_13)).symm) dX6_reads_84
      · skip
        refine lv_iconst (v := 0) S.1 S.2.1 dX6_reads_56 (by decide) ?_
        exact ret _ _ _ _ _ (by rw [show mRd u L a = (va_up v_1 9 (fun _ => 2)) from by rw [e1]; unfold mRd; rw [if_neg c_3, if_neg (not_not_intro c_4), if_pos (h0 ▸ c_10)]; (try simp only [va_up_up])]; exact hw) (by unfold mRdB; rw [if_neg c_3, if_neg (not_not_intro c_4), if_pos (h0 ▸ c_10)]) dX6_reads_57
  · skip
    refine lv_aload_n S.1 S.2.1 dX6_reads_17 rfl (lv_at hl 1 rfl) ?_
    refine lv_aload_n S.1 S.2.1 dX6_reads_18 rfl (lv_at hl 1 rfl) ?_
    refine y_get S hw (C := RX6) (T := TX6) (N := 13) i_X6_reads_X6 0 rfl rfl 8 (by decide) f_X6_reads_156 rfl dX6_reads_19 ?_
    refine y_top (y := (nI (pForm (u 4) L a (u 12)).1)) (by rw [e1]; exact mForm_8 u L a) ?_
    refine lv_iload_n S.1 S.2.1 dX6_reads_22 rfl (lv_at hl 0 rfl) ?_
    refine lv_isub S.1 S.2.1 dX6_reads_23 ?_
    refine y_put S hw (C := RX6) (T := TX6) (N := 13) i_X6_reads_X6 tyX6_ok nmX6 0 rfl rfl 10 (by decide) f_X6_reads_175 (by decide +kernel) rfl rfl (Nat.le_of_ble_eq_true rfl) dX6_reads_24 (ws' := [((q 0), .inr (6, [.ref (q 1), .ref (q 2), .ref (q 3), .int (v_1 3 0), .ref (q 4), .int (v_1 5 0), .ref (q 5), .int (v_1 7 0), .int (v_1 8 0), .int (v_1 9 0), .int ((nI (pForm (u 4) L a (u 12)).1) - (nI a)), .int (v_1 11 0), .ref (q 6)])), ((q 1), .inl (cI, 162, .inl (v_1 0))), ((q 2), .inl (cI, 162, .inl (v_1 1))), ((q 3), .inl (cI, 648, .inl (v_1 2))), ((q 4), .inl (cI, 60, .inl (v_1 4))), ((q 5), .inl (cI, 3, .inl (v_1 6))), ((q 6), .inl (cI, 3, .inl (v_1 12)))]) rfl (fun H locs hw => ?_)
    refine lv_iconst (v := 0) S.1 S.2.1 dX6_reads_27 (by decide) ?_
    exact ret _ _ _ _ _ (by rw [show mRd u L a = (va_up v_1 10 (fun _ => ((nI (pForm (u 4) L a (u 12)).1) - (nI a)))) from by rw [e1]; unfold mRd; rw [if_pos c_3]; (try simp only [va_up_up])]; exact hw) (by unfold mRdB; rw [if_pos c_3]) dX6_reads_28

theorem i_X6_position_X6 : ∀ w ∈ u_ws RX6 TX6 13, w ∈ wsX6_position := by decide +kernel
theorem f_X6_position_156 : Cond.fieldLink RX6 156 "ChargeLinesModel" "at" "I" ∈ wsX6_position := by decide +kernel
theorem f_X6_position_153 : Cond.fieldLink RX6 153 "ChargeLinesModel" "length" "I" ∈ wsX6_position := by decide +kernel
set_option maxHeartbeats 4000000 in
set_option maxRecDepth 100000 in
/-- Model.position -/
theorem c_X6_position (l : Launch) (D : va_G) (cI cC cL : ClassId) (q : Nat → Nat) (u : U) (L : Nat) (hL : u 5 0 = nI L) (hL2 : L ≤ 60) : y_MI l yX6_position wsX6_position 4 87 D cI cC cL [.ref (q 0)] (cMd cI q u) ((mScan L 61 (va_up u 8 (fun _ => 0)) 0).2) (fun v : U => cMd cI q v) ((mScan L 61 (va_up u 8 (fun _ => 0)) 0).1) := by
  refine y_startI (cc := cX6_position) (maxL := 2) (ret := some .int) (by decide +kernel) rfl (Nat.le_of_ble_eq_true rfl) ⟨_, rfl, fun x _ => rfl⟩ (fun h => by cases h) ?_
  intro p e s mm args below meth c A QQ ls S hw ret hl
  have S : CallFix p mm c cX6_position 2 s args wsX6_position RX6 := S
  have hw : y_W D cI cC cL A s s.heap [] [((q 0), .inr (6, [.ref (q 1), .ref (q 2), .ref (q 3), .int (u 3 0), .ref (q 4), .int (u 5 0), .ref (q 5), .int (u 7 0), .int (u 8 0), .int (u 9 0), .int (u 10 0), .int (u 11 0), .ref (q 6)])), ((q 1), .inl (cI, 162, .inl (u 0))), ((q 2), .inl (cI, 162, .inl (u 1))), ((q 3), .inl (cI, 648, .inl (u 2))), ((q 4), .inl (cI, 60, .inl (u 4))), ((q 5), .inl (cI, 3, .inl (u 6))), ((q 6), .inl (cI, 3, .inl (u 12)))] := hw
  have hl : lv_has ls 2 [(0, .ref (q 0))] := hl
  refine lv_aload_n S.1 S.2.1 dX6_position_0 rfl (lv_at hl 0 rfl) ?_
  refine lv_iconst (v := 0) S.1 S.2.1 dX6_position_1 (by decide) ?_
  refine y_put S hw (C := RX6) (T := TX6) (N := 13) i_X6_position_X6 tyX6_ok nmX6 0 rfl rfl 8 (by decide) f_X6_position_156 (by decide +kernel) rfl rfl (Nat.le_of_ble_eq_true rfl) dX6_position_2 (ws' := [((q 0), .inr (6, [.ref (q 1), .ref (q 2), .ref (q 3), .int (u 3 0), .ref (q 4), .int (u 5 0), .ref (q 5), .int (u 7 0), .int 0, .int (u 9 0), .int (u 10 0), .int (u 11 0), .ref (q 6)])), ((q 1), .inl (cI, 162, .inl (u 0))), ((q 2), .inl (cI, 162, .inl (u 1))), ((q 3), .inl (cI, 648, .inl (u 2))), ((q 4), .inl (cI, 60, .inl (u 4))), ((q 5), .inl (cI, 3, .inl (u 6))), ((q 6), .inl (cI, 3, .inl (u 12)))]) rfl (fun H locs hw => ?_)
  refine lv_iconst (v := 0) S.1 S.2.1 dX6_position_5 (by decide) ?_
  refine lv_istore_n (lv' := [(1, .int 0), (0, .ref (q 0))]) S.1 S.2.1 dX6_position_6 rfl hl (by decide) rfl (fun ls hl => ?_)
  have lp7 : ∀ (fuel : Nat) (k : Nat) (a : Nat) (z : Int32) (w : U), (L < a + k) → (a ≤ L) → (w 5 0 = nI L) → (w 8 0 = nI a) → (mScan L k w a = mScan L 61 (va_up u 8 (fun _ => 0)) 0) → (L - a) < fuel → ∀ (H : Heap) (locs : List Loc) (ls : Array Slot), y_W D cI cC cL A s H locs [((q 0), .inr (6, [.ref (q 1), .ref (q 2), .ref (q 3), .int (w 3 0), .ref (q 4), .int (w 5 0), .ref (q 5), .int (w 7 0), .int (w 8 0), .int (w 9 0), .int (w 10 0), .int (w 11 0), .ref (q 6)])), ((q 1), .inl (cI, 162, .inl (w 0))), ((q 2), .inl (cI, 162, .inl (w 1))), ((q 3), .inl (cI, 648, .inl (w 2))), ((q 4), .inl (cI, 60, .inl (w 4))), ((q 5), .inl (cI, 3, .inl (w 6))), ((q 6), .inl (cI, 3, .inl (w 12)))] → lv_has ls 2 [(0, .ref (q 0)), (1, .int z)] → W p l e (y_R 4 87) s mm args below meth c H locs 0 0 QQ (F0 mm 7 ls []) := by
    intro fuel
    induction fuel with
    | zero =>
      intro k a z w hk haL hwL hwa he hfu
      exact absurd hfu (Nat.not_lt_zero _)
    | succ fuel ih7 =>
      intro k a z w hk haL hwL hwa he hfu H locs ls hw hl
      refine lv_aload_n S.1 S.2.1 dX6_position_7 rfl (lv_at hl 0 rfl) ?_
      refine y_get S hw (C := RX6) (T := TX6) (N := 13) i_X6_position_X6 0 rfl rfl 8 (by decide) f_X6_position_156 rfl dX6_position_8 ?_
      refine y_top (y := (nI a)) (hwa) ?_
      refine lv_aload_n S.1 S.2.1 dX6_position_11 rfl (lv_at hl 0 rfl) ?_
      refine y_get S hw (C := RX6) (T := TX6) (N := 13) i_X6_position_X6 0 rfl rfl 5 (by decide) f_X6_position_153 rfl dX6_position_12 ?_
      refine y_top (y := (nI L)) (hwL) ?_
      refine lv_icmp_ge (tgt := 32) S.1 S.2.1 dX6_position_15 (by decide) (fun c_1 => ?_) (fun c_1 => ?_)
      · skip
        have c_1N : L ≤ a := (nI_leI (a := L) (b := a) (by omega) (by omega)).mp c_1
        have hJ : mScan L 61 (va_up u 8 (fun _ => 0)) 0 = (w, -1) := by
          rw [← he, show k = (k - 1) + 1 from by omega, mScan, if_pos c_1N]
        refine lv_iconst (v := (-1)) S.1 S.2.1 dX6_position_32 (by decide) ?_
        exact ret _ _ _ _ _ (by rw [hJ]; exact hw) (by rw [hJ]) dX6_position_33
      · skip
        have c_1N : ¬ L ≤ a := fun z => c_1 ((nI_leI (a := L) (b := a) (by omega) (by omega)).mpr z)
        refine lv_aload_n S.1 S.2.1 dX6_position_18 rfl (lv_at hl 0 rfl) ?_
        refine y_get S hw (C := RX6) (T := TX6) (N := 13) i_X6_position_X6 0 rfl rfl 8 (by decide) f_X6_position_156 rfl dX6_position_19 ?_
        refine y_top (y := (nI a)) (hwa) ?_
        refine lv_istore_n (lv' := [(1, .int (nI a)), (0, .ref (q 0))]) S.1 S.2.1 dX6_position_22 rfl hl (by decide) rfl (fun ls hl => ?_)
        refine lv_aload_n S.1 S.2.1 dX6_position_23 rfl (lv_at hl 1 rfl) ?_
        refine y_callI (As := []) (rest := []) S hw hl.1 (c_X6_reads l D cI cC cL q w L a hwL (by omega) (hwa) (haL)) (cwV 0 S.2.2.2.2 gX6_position_X6_reads rfl rfl rfl (by decide +kernel) ⟨Nat.le_of_ble_eq_true rfl, Nat.le_of_ble_eq_true rfl⟩) 0 rfl rfl [0, 1, 2, 3, 4, 5, 6] [] rfl (by decide +kernel) (wr := []) rfl (by decide +kernel) (by decide +kernel) rfl (Nat.le_of_ble_eq_true rfl) dX6_position_24 rfl ⟨Nat.le_refl _, Nat.le_refl _⟩ (fun H locs v_2 x_3 ev_2 ex_3 hw => ?_)
        have hw : y_W D cI cC cL A s H locs [((q 0), .inr (6, [.ref (q 1), .ref (q 2), .ref (q 3), .int (v_2 3 0), .ref (q 4), .int (v_2 5 0), .ref (q 5), .int (v_2 7 0), .int (v_2 8 0), .int (v_2 9 0), .int (v_2 10 0), .int (v_2 11 0), .ref (q 6)])), ((q 1), .inl (cI, 162, .inl (v_2 0))), ((q 2), .inl (cI, 162, .inl (v_2 1))), ((q 3), .inl (cI, 648, .inl (v_2 2))), ((q 4), .inl (cI, 60, .inl (v_2 4))), ((q 5), .inl (cI, 3, .inl (v_2 6))), ((q 6), .inl (cI, 3, .inl (v_2 12)))] := hw
        subst ex_3
        refine y_top (y := (mRdB w L a)) rfl ?_
        refine lv_if_ne (tgt := 7) S.1 S.2.1 dX6_position_27 (by decide) (fun c_4 => ?_) (fun c_4 => ?_)
        · skip
          have hgt := pForm_gt (mRdB_F c_4)
          exact ih7 (k - 1) ((pForm (w 4) L a (w 12)).1) (nI a) v_2 (by omega) (pForm_L haL) (by rw [ev_2, mRd_o w L a 5 (by decide) (by decide) (by decide) (by decide) (by decide)]; exact hwL) (by rw [ev_2]; exact mRd_8 w L a) (by rw [← he, show k = (k - 1) + 1 from by omega]; (conv => rhs; rw [mScan, if_neg c_1N, ← ev_2, if_pos c_4]); simp only [Nat.add_sub_cancel]) (by omega) _ _ ls hw (lv_sub hl [1, 0] rfl)
        · skip
          have hJ : mScan L 61 (va_up u 8 (fun _ => 0)) 0 = (v_2, nI a) := by
            rw [← he, show k = (k - 1) + 1 from by omega, mScan, if_neg c_1N, ← ev_2, if_neg (not_not_intro c_4)]
          refine lv_iload_n S.1 S.2.1 dX6_position_30 rfl (lv_at hl 0 rfl) ?_
          exact ret _ _ _ _ _ (by rw [hJ]; exact hw) (by rw [hJ]) dX6_position_31
  exact lp7 ((L - 0) + 1) 61 0 0 (va_up u 8 (fun _ => 0)) (by omega) (Nat.zero_le _) (hL) (rfl) (rfl) (Nat.lt_succ_self _) _ _ ls hw (lv_sub hl [1, 0] rfl)

theorem i_X6_fault_X6 : ∀ w ∈ u_ws RX6 TX6 13, w ∈ wsX6_fault := by decide +kernel
theorem f_X6_fault_168 : Cond.fieldLink RX6 168 "ChargeLinesModel" "reason" "I" ∈ wsX6_fault := by decide +kernel
theorem f_X6_fault_175 : Cond.fieldLink RX6 175 "ChargeLinesModel" "cause" "I" ∈ wsX6_fault := by decide +kernel
theorem k_X6_fault_117 : Cond.constant RX6 117 (-2000004) ∈ wsX6_fault := by decide +kernel
theorem k_X6_fault_69 : Cond.constant RX6 69 (-2000001) ∈ wsX6_fault := by decide +kernel
set_option maxHeartbeats 4000000 in
set_option maxRecDepth 100000 in
/-- Model.fault -/
theorem c_X6_fault (l : Launch) (D : va_G) (cI cC cL : ClassId) (q : Nat → Nat) (u : U) (x : Int32) (L : Nat) (hL : u 5 0 = nI L) (hL2 : L ≤ 60) : y_MI l yX6_fault wsX6_fault 5 108 D cI cC cL [.ref (q 0), .int x] (cMd cI q u) (mFaultR u x L) (fun v : U => cMd cI q v) (mFaultU u x L) := by
  refine y_startI (cc := cX6_fault) (maxL := 3) (ret := some .int) (by decide +kernel) rfl (Nat.le_of_ble_eq_true rfl) ⟨_, rfl, fun x _ => rfl⟩ (fun h => by cases h) ?_
  intro p e s mm args below meth c A QQ ls S hw ret hl
  have S : CallFix p mm c cX6_fault 3 s args wsX6_fault RX6 := S
  have hw : y_W D cI cC cL A s s.heap [] [((q 0), .inr (6, [.ref (q 1), .ref (q 2), .ref (q 3), .int (u 3 0), .ref (q 4), .int (u 5 0), .ref (q 5), .int (u 7 0), .int (u 8 0), .int (u 9 0), .int (u 10 0), .int (u 11 0), .ref (q 6)])), ((q 1), .inl (cI, 162, .inl (u 0))), ((q 2), .inl (cI, 162, .inl (u 1))), ((q 3), .inl (cI, 648, .inl (u 2))), ((q 4), .inl (cI, 60, .inl (u 4))), ((q 5), .inl (cI, 3, .inl (u 6))), ((q 6), .inl (cI, 3, .inl (u 12)))] := hw
  have hl : lv_has ls 3 [(0, .ref (q 0)), (1, .int x)] := hl
  refine lv_iload_n S.1 S.2.1 dX6_fault_0 rfl (lv_at hl 1 rfl) ?_
  refine lv_iconst (v := 0) S.1 S.2.1 dX6_fault_1 (by decide) ?_
  refine lv_iconst (v := 2) S.1 S.2.1 dX6_fault_2 (by decide) ?_
  refine y_callSI (As := [.int x, .int 0, .int 2]) (rest := []) S hw hl.1 (c_X6_in l D cI cC cL x 0 2) (va_cwS 3 S.2.2.2.2 gX6_fault_X6_in rfl rfl rfl (by decide +kernel) ⟨Nat.le_of_ble_eq_true rfl, Nat.le_of_ble_eq_true rfl⟩) [] [0, 1, 2, 3, 4, 5, 6] rfl (by decide +kernel) (wr := [((q 0), .inr (6, [.ref (q 1), .ref (q 2), .ref (q 3), .int (u 3 0), .ref (q 4), .int (u 5 0), .ref (q 5), .int (u 7 0), .int (u 8 0), .int (u 9 0), .int (u 10 0), .int (u 11 0), .ref (q 6)])), ((q 1), .inl (cI, 162, .inl (u 0))), ((q 2), .inl (cI, 162, .inl (u 1))), ((q 3), .inl (cI, 648, .inl (u 2))), ((q 4), .inl (cI, 60, .inl (u 4))), ((q 5), .inl (cI, 3, .inl (u 6))), ((q 6), .inl (cI, 3, .inl (u 12)))]) rfl (by decide +kernel) (by decide +kernel) rfl (Nat.le_of_ble_eq_true rfl) dX6_fault_3 rfl ⟨Nat.le_refl _, Nat.le_refl _⟩ (fun H locs v_1 x_2 ev_1 ex_2 hw => ?_)
  have hw : y_W D cI cC cL A s H locs [((q 0), .inr (6, [.ref (q 1), .ref (q 2), .ref (q 3), .int (u 3 0), .ref (q 4), .int (u 5 0), .ref (q 5), .int (u 7 0), .int (u 8 0), .int (u 9 0), .int (u 10 0), .int (u 11 0), .ref (q 6)])), ((q 1), .inl (cI, 162, .inl (u 0))), ((q 2), .inl (cI, 162, .inl (u 1))), ((q 3), .inl (cI, 648, .inl (u 2))), ((q 4), .inl (cI, 60, .inl (u 4))), ((q 5), .inl (cI, 3, .inl (u 6))), ((q 6), .inl (cI, 3, .inl (u 12)))] := hw
  subst ex_2
  refine lv_if_ne (tgt := 12) S.1 S.2.1 dX6_fault_6 (by decide) (fun c_3 => ?_) (fun c_3 => ?_)
  · skip
    refine lv_aload_n S.1 S.2.1 dX6_fault_12 rfl (lv_at hl 0 rfl) ?_
    refine y_callI (As := []) (rest := []) S hw hl.1 (c_X6_position l D cI cC cL q u L (hL) (by omega)) (cwV 0 S.2.2.2.2 gX6_fault_X6_position rfl rfl rfl (by decide +kernel) ⟨Nat.le_of_ble_eq_true rfl, Nat.le_of_ble_eq_true rfl⟩) 0 rfl rfl [0, 1, 2, 3, 4, 5, 6] [] rfl (by decide +kernel) (wr := []) rfl (by decide +kernel) (by decide +kernel) rfl (Nat.le_of_ble_eq_true rfl) dX6_fault_13 rfl ⟨Nat.le_refl _, Nat.le_refl _⟩ (fun H locs v_4 x_5 ev_4 ex_5 hw => ?_)
    have hw : y_W D cI cC cL A s H locs [((q 0), .inr (6, [.ref (q 1), .ref (q 2), .ref (q 3), .int (v_4 3 0), .ref (q 4), .int (v_4 5 0), .ref (q 5), .int (v_4 7 0), .int (v_4 8 0), .int (v_4 9 0), .int (v_4 10 0), .int (v_4 11 0), .ref (q 6)])), ((q 1), .inl (cI, 162, .inl (v_4 0))), ((q 2), .inl (cI, 162, .inl (v_4 1))), ((q 3), .inl (cI, 648, .inl (v_4 2))), ((q 4), .inl (cI, 60, .inl (v_4 4))), ((q 5), .inl (cI, 3, .inl (v_4 6))), ((q 6), .inl (cI, 3, .inl (v_4 12)))] := hw
    subst ex_5
    refine y_top (y := (mScan L 61 (va_up u 8 (fun _ => 0)) 0).2) rfl ?_
    refine lv_istore_n (lv' := [(2, .int ((mScan L 61 (va_up u 8 (fun _ => 0)) 0).2)), (0, .ref (q 0)), (1, .int x)]) S.1 S.2.1 dX6_fault_16 rfl hl (by decide) rfl (fun ls hl => ?_)
    refine lv_iload_n S.1 S.2.1 dX6_fault_17 rfl (lv_at hl 0 rfl) ?_
    refine lv_iconst (v := (-1)) S.1 S.2.1 dX6_fault_18 (by decide) ?_
    refine lv_icmp_ne (tgt := 25) S.1 S.2.1 dX6_fault_19 (by decide) (fun c_6 => ?_) (fun c_6 => ?_)
    · skip
      refine lv_iload_n S.1 S.2.1 dX6_fault_25 rfl (lv_at hl 2 rfl) ?_
      refine lv_if_ne (tgt := 33) S.1 S.2.1 dX6_fault_26 (by decide) (fun c_7 => ?_) (fun c_7 => ?_)
      · skip
        refine lv_iload_n S.1 S.2.1 dX6_fault_33 rfl (lv_at hl 2 rfl) ?_
        refine lv_iconst (v := 1) S.1 S.2.1 dX6_fault_34 (by decide) ?_
        refine lv_icmp_ne (tgt := 45) S.1 S.2.1 dX6_fault_35 (by decide) (fun c_8 => ?_) (fun c_8 => ?_)
        · skip
          refine lv_aload_n S.1 S.2.1 dX6_fault_45 rfl (lv_at hl 1 rfl) ?_
          refine y_get S hw (C := RX6) (T := TX6) (N := 13) i_X6_fault_X6 0 rfl rfl 9 (by decide) f_X6_fault_168 rfl dX6_fault_46 ?_
          refine lv_iconst (v := 2) S.1 S.2.1 dX6_fault_49 (by decide) ?_
          refine lv_icmp_ne (tgt := 58) S.1 S.2.1 dX6_fault_50 (by decide) (fun c_9 => ?_) (fun c_9 => ?_)
          · skip
            refine lv_aload_n S.1 S.2.1 dX6_fault_58 rfl (lv_at hl 1 rfl) ?_
            refine y_get S hw (C := RX6) (T := TX6) (N := 13) i_X6_fault_X6 0 rfl rfl 10 (by decide) f_X6_fault_175 rfl dX6_fault_59 ?_
            exact ret _ _ _ _ _ (by unfold mFaultU; rw [if_neg c_3, ← ev_4]; exact hw) (by unfold mFaultR; rw [if_neg c_3, if_pos c_6, if_pos c_7, if_pos c_8, if_pos (ev_4 ▸ c_9)]; rw [ev_4]) dX6_fault_62
          · skip
            refine lv_ldc (v := (-2000004)) S.1 S.2.1 S.2.2.2.1 (S.2.2.2.2 _ k_X6_fault_117) dX6_fault_53 ?_
            refine lv_goto (tgt := 62) S.1 S.2.1 dX6_fault_55 (by decide) ?_
            exact ret _ _ _ _ _ (by unfold mFaultU; rw [if_neg c_3, ← ev_4]; exact hw) (by unfold mFaultR; rw [if_neg c_3, if_pos c_6, if_pos c_7, if_pos c_8, if_neg (not_not_intro (ev_4 ▸ c_9))]) dX6_fault_62
        · skip
          refine lv_aload_n S.1 S.2.1 dX6_fault_38 rfl (lv_at hl 1 rfl) ?_
          refine y_get S hw (C := RX6) (T := TX6) (N := 13) i_X6_fault_X6 0 rfl rfl 9 (by decide) f_X6_fault_168 rfl dX6_fault_39 ?_
          refine lv_goto (tgt := 62) S.1 S.2.1 dX6_fault_42 (by decide) ?_
          exact ret _ _ _ _ _ (by unfold mFaultU; rw [if_neg c_3, ← ev_4]; exact hw) (by unfold mFaultR; rw [if_neg c_3, if_pos c_6, if_pos c_7, if_neg (not_not_intro c_8)]; rw [ev_4]) dX6_fault_62
      · skip
        refine lv_iload_n S.1 S.2.1 dX6_fault_29 rfl (lv_at hl 0 rfl) ?_
        refine lv_goto (tgt := 62) S.1 S.2.1 dX6_fault_30 (by decide) ?_
        exact ret _ _ _ _ _ (by unfold mFaultU; rw [if_neg c_3, ← ev_4]; exact hw) (by unfold mFaultR; rw [if_neg c_3, if_pos c_6, if_neg (not_not_intro c_7)]) dX6_fault_62
    · skip
      refine lv_ldc (v := (-2000004)) S.1 S.2.1 S.2.2.2.1 (S.2.2.2.2 _ k_X6_fault_117) dX6_fault_22 ?_
      exact ret _ _ _ _ _ (by unfold mFaultU; rw [if_neg c_3, ← ev_4]; exact hw) (by unfold mFaultR; rw [if_neg c_3, if_neg (not_not_intro c_6)]) dX6_fault_24
  · skip
    refine lv_ldc (v := (-2000001)) S.1 S.2.1 S.2.2.2.1 (S.2.2.2.2 _ k_X6_fault_69) dX6_fault_9 ?_
    exact ret _ _ _ _ _ (by unfold mFaultU; rw [if_pos c_3]; exact hw) (by unfold mFaultR; rw [if_pos c_3]) dX6_fault_11
