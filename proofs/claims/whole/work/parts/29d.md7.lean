theorem i_X6_takes_X6 : ∀ w ∈ u_ws RX6 TX6 13, w ∈ wsX6_takes := by decide +kernel
theorem f_X6_takes_156 : Cond.fieldLink RX6 156 "ChargeLinesModel" "at" "I" ∈ wsX6_takes := by decide +kernel
theorem f_X6_takes_153 : Cond.fieldLink RX6 153 "ChargeLinesModel" "length" "I" ∈ wsX6_takes := by decide +kernel
theorem f_X6_takes_19 : Cond.fieldLink RX6 19 "ChargeLinesModel" "text" "[I" ∈ wsX6_takes := by decide +kernel
set_option maxHeartbeats 4000000 in
set_option maxRecDepth 100000 in
/-- Model.takes -/
theorem c_X6_takes (l : Launch) (D : va_G) (cI cC cL : ClassId) (q : Nat → Nat) (u : U) (L a : Nat) (hL : u 5 0 = nI L) (hL2 : L ≤ 60) (ha : u 8 0 = nI a) (ha2 : a ≤ L) (x : Int32) : y_MI l yX6_takes wsX6_takes 0 0 D cI cC cL [.ref (q 0), .int x] (cMd cI q u) (pTf (u 4) L a x) (fun v : U => cMd cI q v) (va_up u 8 (fun _ => nI (pT (u 4) L a x))) := by
  refine y_startI (cc := cX6_takes) (maxL := 3) (ret := some .boolean) (by decide +kernel) rfl (Nat.le_of_ble_eq_true rfl) ⟨_, rfl, fun x h => by rcases h rfl with rfl | rfl <;> rfl⟩ (fun _ => pTf_01) ?_
  intro p e s mm args below meth c A QQ ls S hw ret hl
  have S : CallFix p mm c cX6_takes 3 s args wsX6_takes RX6 := S
  have hw : y_W D cI cC cL A s s.heap [] [((q 0), .inr (6, [.ref (q 1), .ref (q 2), .ref (q 3), .int (u 3 0), .ref (q 4), .int (u 5 0), .ref (q 5), .int (u 7 0), .int (u 8 0), .int (u 9 0), .int (u 10 0), .int (u 11 0), .ref (q 6)])), ((q 1), .inl (cI, 162, .inl (u 0))), ((q 2), .inl (cI, 162, .inl (u 1))), ((q 3), .inl (cI, 648, .inl (u 2))), ((q 4), .inl (cI, 60, .inl (u 4))), ((q 5), .inl (cI, 3, .inl (u 6))), ((q 6), .inl (cI, 3, .inl (u 12)))] := hw
  have hl : lv_has ls 3 [(0, .ref (q 0)), (1, .int x)] := hl
  refine lv_aload_n S.1 S.2.1 dX6_takes_0 rfl (lv_at hl 0 rfl) ?_
  refine y_get S hw (C := RX6) (T := TX6) (N := 13) i_X6_takes_X6 0 rfl rfl 8 (by decide) f_X6_takes_156 rfl dX6_takes_1 ?_
  refine y_top (y := (nI a)) (ha) ?_
  refine lv_aload_n S.1 S.2.1 dX6_takes_4 rfl (lv_at hl 0 rfl) ?_
  refine y_get S hw (C := RX6) (T := TX6) (N := 13) i_X6_takes_X6 0 rfl rfl 5 (by decide) f_X6_takes_153 rfl dX6_takes_5 ?_
  refine y_top (y := (nI L)) (hL) ?_
  refine lv_icmp_ge (tgt := 28) S.1 S.2.1 dX6_takes_8 (by decide) (fun c_1 => ?_) (fun c_1 => ?_)
  · skip
    have c_1N : L ≤ a := (nI_leI (a := L) (b := a) (by omega) (by omega)).mp c_1
    refine lv_iconst (v := 0) S.1 S.2.1 dX6_takes_28 (by decide) ?_
    refine lv_istore_n (lv' := [(2, .int 0), (0, .ref (q 0)), (1, .int x)]) S.1 S.2.1 dX6_takes_29 rfl hl (by decide) rfl (fun ls hl => ?_)
    refine lv_aload_n S.1 S.2.1 dX6_takes_30 rfl (lv_at hl 1 rfl) ?_
    refine lv_dup S.1 S.2.1 dX6_takes_31 rfl ?_
    refine y_get S hw (C := RX6) (T := TX6) (N := 13) i_X6_takes_X6 0 rfl rfl 8 (by decide) f_X6_takes_156 rfl dX6_takes_32 ?_
    refine y_top (y := (nI a)) (ha) ?_
    refine lv_iload_n S.1 S.2.1 dX6_takes_35 rfl (lv_at hl 0 rfl) ?_
    refine lv_if_eq (tgt := 43) S.1 S.2.1 dX6_takes_36 (by decide) (fun c_2 => ?_) (fun c_2 => ?_)
    · skip
      refine lv_iconst (v := 0) S.1 S.2.1 dX6_takes_43 (by decide) ?_
      refine y_iaddN S a 0 dX6_takes_44 ?_
      refine y_put S hw (C := RX6) (T := TX6) (N := 13) i_X6_takes_X6 tyX6_ok nmX6 0 rfl rfl 8 (by decide) f_X6_takes_156 (by decide +kernel) rfl rfl (Nat.le_of_ble_eq_true rfl) dX6_takes_45 (ws' := [((q 0), .inr (6, [.ref (q 1), .ref (q 2), .ref (q 3), .int (u 3 0), .ref (q 4), .int (u 5 0), .ref (q 5), .int (u 7 0), .int (nI (a + 0)), .int (u 9 0), .int (u 10 0), .int (u 11 0), .ref (q 6)])), ((q 1), .inl (cI, 162, .inl (u 0))), ((q 2), .inl (cI, 162, .inl (u 1))), ((q 3), .inl (cI, 648, .inl (u 2))), ((q 4), .inl (cI, 60, .inl (u 4))), ((q 5), .inl (cI, 3, .inl (u 6))), ((q 6), .inl (cI, 3, .inl (u 12)))]) rfl (fun H locs hw => ?_)
      refine lv_iload_n S.1 S.2.1 dX6_takes_48 rfl (lv_at hl 0 rfl) ?_
      exact ret _ _ _ _ _ (by rw [show pT (u 4) L a x = a + 0 from by unfold pT; rw [if_pos c_1N]; rfl]; exact hw) (by unfold pTf; rw [if_pos c_1N]) dX6_takes_49
    · skip
      exact absurd c_2 (by decide)
  · skip
    have c_1N : ¬ L ≤ a := fun z => c_1 ((nI_leI (a := L) (b := a) (by omega) (by omega)).mpr z)
    refine lv_aload_n S.1 S.2.1 dX6_takes_11 rfl (lv_at hl 0 rfl) ?_
    refine y_get S hw (C := RX6) (T := TX6) (N := 13) i_X6_takes_X6 0 rfl rfl 4 (by decide) f_X6_takes_19 rfl dX6_takes_12 ?_
    refine lv_aload_n S.1 S.2.1 dX6_takes_15 rfl (lv_at hl 0 rfl) ?_
    refine y_get S hw (C := RX6) (T := TX6) (N := 13) i_X6_takes_X6 0 rfl rfl 8 (by decide) f_X6_takes_156 rfl dX6_takes_16 ?_
    refine y_top (y := (nI a)) (ha) ?_
    refine y_iald S hw 4 (k := a) rfl (by omega) (Nat.le_of_ble_eq_true rfl) dX6_takes_19 ?_
    refine lv_iload_n S.1 S.2.1 dX6_takes_20 rfl (lv_at hl 1 rfl) ?_
    refine lv_icmp_ne (tgt := 28) S.1 S.2.1 dX6_takes_21 (by decide) (fun c_3 => ?_) (fun c_3 => ?_)
    · skip
      refine lv_iconst (v := 0) S.1 S.2.1 dX6_takes_28 (by decide) ?_
      refine lv_istore_n (lv' := [(2, .int 0), (0, .ref (q 0)), (1, .int x)]) S.1 S.2.1 dX6_takes_29 rfl hl (by decide) rfl (fun ls hl => ?_)
      refine lv_aload_n S.1 S.2.1 dX6_takes_30 rfl (lv_at hl 1 rfl) ?_
      refine lv_dup S.1 S.2.1 dX6_takes_31 rfl ?_
      refine y_get S hw (C := RX6) (T := TX6) (N := 13) i_X6_takes_X6 0 rfl rfl 8 (by decide) f_X6_takes_156 rfl dX6_takes_32 ?_
      refine y_top (y := (nI a)) (ha) ?_
      refine lv_iload_n S.1 S.2.1 dX6_takes_35 rfl (lv_at hl 0 rfl) ?_
      refine lv_if_eq (tgt := 43) S.1 S.2.1 dX6_takes_36 (by decide) (fun c_4 => ?_) (fun c_4 => ?_)
      · skip
        refine lv_iconst (v := 0) S.1 S.2.1 dX6_takes_43 (by decide) ?_
        refine y_iaddN S a 0 dX6_takes_44 ?_
        refine y_put S hw (C := RX6) (T := TX6) (N := 13) i_X6_takes_X6 tyX6_ok nmX6 0 rfl rfl 8 (by decide) f_X6_takes_156 (by decide +kernel) rfl rfl (Nat.le_of_ble_eq_true rfl) dX6_takes_45 (ws' := [((q 0), .inr (6, [.ref (q 1), .ref (q 2), .ref (q 3), .int (u 3 0), .ref (q 4), .int (u 5 0), .ref (q 5), .int (u 7 0), .int (nI (a + 0)), .int (u 9 0), .int (u 10 0), .int (u 11 0), .ref (q 6)])), ((q 1), .inl (cI, 162, .inl (u 0))), ((q 2), .inl (cI, 162, .inl (u 1))), ((q 3), .inl (cI, 648, .inl (u 2))), ((q 4), .inl (cI, 60, .inl (u 4))), ((q 5), .inl (cI, 3, .inl (u 6))), ((q 6), .inl (cI, 3, .inl (u 12)))]) rfl (fun H locs hw => ?_)
        refine lv_iload_n S.1 S.2.1 dX6_takes_48 rfl (lv_at hl 0 rfl) ?_
        exact ret _ _ _ _ _ (by rw [show pT (u 4) L a x = a + 0 from by unfold pT; rw [if_neg c_1N, if_neg c_3]; rfl]; exact hw) (by unfold pTf; rw [if_neg c_1N, if_neg c_3]) dX6_takes_49
      · skip
        exact absurd c_4 (by decide)
    · skip
      refine lv_iconst (v := 1) S.1 S.2.1 dX6_takes_24 (by decide) ?_
      refine lv_goto (tgt := 29) S.1 S.2.1 dX6_takes_25 (by decide) ?_
      refine lv_istore_n (lv' := [(2, .int 1), (0, .ref (q 0)), (1, .int x)]) S.1 S.2.1 dX6_takes_29 rfl hl (by decide) rfl (fun ls hl => ?_)
      refine lv_aload_n S.1 S.2.1 dX6_takes_30 rfl (lv_at hl 1 rfl) ?_
      refine lv_dup S.1 S.2.1 dX6_takes_31 rfl ?_
      refine y_get S hw (C := RX6) (T := TX6) (N := 13) i_X6_takes_X6 0 rfl rfl 8 (by decide) f_X6_takes_156 rfl dX6_takes_32 ?_
      refine y_top (y := (nI a)) (ha) ?_
      refine lv_iload_n S.1 S.2.1 dX6_takes_35 rfl (lv_at hl 0 rfl) ?_
      refine lv_if_eq (tgt := 43) S.1 S.2.1 dX6_takes_36 (by decide) (fun c_5 => ?_) (fun c_5 => ?_)
      · skip
        exact absurd c_5 (by decide)
      · skip
        refine lv_iconst (v := 1) S.1 S.2.1 dX6_takes_39 (by decide) ?_
        refine lv_goto (tgt := 44) S.1 S.2.1 dX6_takes_40 (by decide) ?_
        refine y_iaddN S a 1 dX6_takes_44 ?_
        refine y_put S hw (C := RX6) (T := TX6) (N := 13) i_X6_takes_X6 tyX6_ok nmX6 0 rfl rfl 8 (by decide) f_X6_takes_156 (by decide +kernel) rfl rfl (Nat.le_of_ble_eq_true rfl) dX6_takes_45 (ws' := [((q 0), .inr (6, [.ref (q 1), .ref (q 2), .ref (q 3), .int (u 3 0), .ref (q 4), .int (u 5 0), .ref (q 5), .int (u 7 0), .int (nI (a + 1)), .int (u 9 0), .int (u 10 0), .int (u 11 0), .ref (q 6)])), ((q 1), .inl (cI, 162, .inl (u 0))), ((q 2), .inl (cI, 162, .inl (u 1))), ((q 3), .inl (cI, 648, .inl (u 2))), ((q 4), .inl (cI, 60, .inl (u 4))), ((q 5), .inl (cI, 3, .inl (u 6))), ((q 6), .inl (cI, 3, .inl (u 12)))]) rfl (fun H locs hw => ?_)
        refine lv_iload_n S.1 S.2.1 dX6_takes_48 rfl (lv_at hl 0 rfl) ?_
        exact ret _ _ _ _ _ (by rw [show pT (u 4) L a x = a + 1 from by unfold pT; rw [if_neg c_1N, if_pos c_3]]; exact hw) (by unfold pTf; rw [if_neg c_1N, if_pos c_3]) dX6_takes_49

theorem i_X6_takesNumber_X6 : ∀ w ∈ u_ws RX6 TX6 13, w ∈ wsX6_takesNumber := by decide +kernel
theorem f_X6_takesNumber_25 : Cond.fieldLink RX6 25 "ChargeLinesModel" "told" "[I" ∈ wsX6_takesNumber := by decide +kernel
theorem f_X6_takesNumber_156 : Cond.fieldLink RX6 156 "ChargeLinesModel" "at" "I" ∈ wsX6_takesNumber := by decide +kernel
theorem f_X6_takesNumber_153 : Cond.fieldLink RX6 153 "ChargeLinesModel" "length" "I" ∈ wsX6_takesNumber := by decide +kernel
theorem f_X6_takesNumber_19 : Cond.fieldLink RX6 19 "ChargeLinesModel" "text" "[I" ∈ wsX6_takesNumber := by decide +kernel
set_option maxHeartbeats 4000000 in
set_option maxRecDepth 100000 in
/-- Model.takesNumber -/
theorem c_X6_takesNumber (l : Launch) (D : va_G) (cI cC cL : ClassId) (q : Nat → Nat) (u : U) (L a : Nat) (hL : u 5 0 = nI L) (hL2 : L ≤ 60) (ha : u 8 0 = nI a) (ha2 : a ≤ L) (k k5 : Nat) (hk : k < 3) (hk5 : k5 ≤ 5) : y_MI l yX6_takesNumber wsX6_takesNumber 1 22 D cI cC cL [.ref (q 0), .int (nI k), .int (nI k5)] (cMd cI q u) (pNf (u 4) L a k5) (fun v : U => cMd cI q v) (mTNum u L a k k5) := by
  refine y_startI (cc := cX6_takesNumber) (maxL := 5) (ret := some .boolean) (by decide +kernel) rfl (Nat.le_of_ble_eq_true rfl) ⟨_, rfl, fun x h => by rcases h rfl with rfl | rfl <;> rfl⟩ (fun _ => pNf_01) ?_
  intro p e s mm args below meth c A QQ ls S hw ret hl
  have S : CallFix p mm c cX6_takesNumber 5 s args wsX6_takesNumber RX6 := S
  have hw : y_W D cI cC cL A s s.heap [] [((q 0), .inr (6, [.ref (q 1), .ref (q 2), .ref (q 3), .int (u 3 0), .ref (q 4), .int (u 5 0), .ref (q 5), .int (u 7 0), .int (u 8 0), .int (u 9 0), .int (u 10 0), .int (u 11 0), .ref (q 6)])), ((q 1), .inl (cI, 162, .inl (u 0))), ((q 2), .inl (cI, 162, .inl (u 1))), ((q 3), .inl (cI, 648, .inl (u 2))), ((q 4), .inl (cI, 60, .inl (u 4))), ((q 5), .inl (cI, 3, .inl (u 6))), ((q 6), .inl (cI, 3, .inl (u 12)))] := hw
  have hl : lv_has ls 5 [(0, .ref (q 0)), (1, .int (nI k)), (2, .int (nI k5))] := hl
  refine lv_iconst (v := 0) S.1 S.2.1 dX6_takesNumber_0 (by decide) ?_
  refine lv_istore_n (lv' := [(3, .int 0), (0, .ref (q 0)), (1, .int (nI k)), (2, .int (nI k5))]) S.1 S.2.1 dX6_takesNumber_1 rfl hl (by decide) rfl (fun ls hl => ?_)
  refine lv_iconst (v := 0) S.1 S.2.1 dX6_takesNumber_2 (by decide) ?_
  refine lv_istore (lv' := [(4, .int 0), (3, .int 0), (0, .ref (q 0)), (1, .int (nI k)), (2, .int (nI k5))]) S.1 S.2.1 dX6_takesNumber_3 hl (by decide) rfl (fun ls hl => ?_)
  have lp5 : ∀ (fuel : Nat) (d : Nat) (z : Int32) (wat : Int32), (d ≤ k5) → (z = pNv (u 4) a d) → (wat = nI (a + d)) → (a + d ≤ L) → (d + pNd (u 4) L (a + d) (k5 - d) = pNd (u 4) L a k5) → (k5 - d) < fuel → ∀ (H : Heap) (locs : List Loc) (ls : Array Slot), y_W D cI cC cL A s H locs [((q 0), .inr (6, [.ref (q 1), .ref (q 2), .ref (q 3), .int (u 3 0), .ref (q 4), .int (u 5 0), .ref (q 5), .int (u 7 0), .int wat, .int (u 9 0), .int (u 10 0), .int (u 11 0), .ref (q 6)])), ((q 1), .inl (cI, 162, .inl (u 0))), ((q 2), .inl (cI, 162, .inl (u 1))), ((q 3), .inl (cI, 648, .inl (u 2))), ((q 4), .inl (cI, 60, .inl (u 4))), ((q 5), .inl (cI, 3, .inl (u 6))), ((q 6), .inl (cI, 3, .inl (u 12)))] → lv_has ls 5 [(0, .ref (q 0)), (1, .int (nI k)), (2, .int (nI k5)), (3, .int z), (4, .int (nI d))] → W p l e (y_R 1 22) s mm args below meth c H locs 0 0 QQ (F0 mm 5 ls []) := by
    intro fuel
    induction fuel with
    | zero =>
      intro d z wat hd hz hat hle hcnt hfu
      exact absurd hfu (Nat.not_lt_zero _)
    | succ fuel ih5 =>
      intro d z wat hd hz hat hle hcnt hfu H locs ls hw hl
      refine lv_iload S.1 S.2.1 dX6_takesNumber_5 (lv_at hl 4 rfl) ?_
      refine lv_iload_n S.1 S.2.1 dX6_takesNumber_7 rfl (lv_at hl 2 rfl) ?_
      refine lv_icmp_ge (tgt := 75) S.1 S.2.1 dX6_takesNumber_8 (by decide) (fun c_1 => ?_) (fun c_1 => ?_)
      · skip
        have c_1N : k5 ≤ d := (nI_leI (a := k5) (b := d) (by omega) (by omega)).mp c_1
        have hN : pNd (u 4) L a k5 = d := by rw [← hcnt, show k5 - d = 0 from by omega]; rfl
        refine lv_aload_n S.1 S.2.1 dX6_takesNumber_75 rfl (lv_at hl 0 rfl) ?_
        refine y_get S hw (C := RX6) (T := TX6) (N := 13) i_X6_takesNumber_X6 0 rfl rfl 12 (by decide) f_X6_takesNumber_25 rfl dX6_takesNumber_76 ?_
        refine lv_iload_n S.1 S.2.1 dX6_takesNumber_79 rfl (lv_at hl 1 rfl) ?_
        refine lv_iload_n S.1 S.2.1 dX6_takesNumber_80 rfl (lv_at hl 3 rfl) ?_
        refine y_iast S hw 6 (k := k) rfl (by omega) (Nat.le_of_ble_eq_true rfl) dX6_takesNumber_81 (ws' := [((q 0), .inr (6, [.ref (q 1), .ref (q 2), .ref (q 3), .int (u 3 0), .ref (q 4), .int (u 5 0), .ref (q 5), .int (u 7 0), .int wat, .int (u 9 0), .int (u 10 0), .int (u 11 0), .ref (q 6)])), ((q 1), .inl (cI, 162, .inl (u 0))), ((q 2), .inl (cI, 162, .inl (u 1))), ((q 3), .inl (cI, 648, .inl (u 2))), ((q 4), .inl (cI, 60, .inl (u 4))), ((q 5), .inl (cI, 3, .inl (u 6))), ((q 6), .inl (cI, 3, .inl (upd (u 12) k z)))]) rfl (fun H locs hw => ?_)
        refine lv_iload S.1 S.2.1 dX6_takesNumber_82 (lv_at hl 4 rfl) ?_
        refine lv_if_le (tgt := 91) S.1 S.2.1 dX6_takesNumber_84 (by decide) (fun c_2 => ?_) (fun c_2 => ?_)
        · skip
          have c_2N : d ≤ 0 := (nI_leI (a := d) (b := 0) (by omega) (by omega)).mp c_2
          refine lv_iconst (v := 0) S.1 S.2.1 dX6_takesNumber_91 (by decide) ?_
          exact ret _ _ _ _ _ (by unfold mTNum; rw [hN, ← hz, ← hat]; exact hw) (by unfold pNf; rw [hN]; first | exact (if_pos (by omega)).symm | exact (if_neg (by omega)).symm) dX6_takesNumber_92
        · skip
          have c_2N : ¬ d ≤ 0 := fun z => c_2 ((nI_leI (a := d) (b := 0) (by omega) (by omega)).mpr z)
          refine lv_iconst (v := 1) S.1 S.2.1 dX6_takesNumber_87 (by decide) ?_
          refine lv_goto (tgt := 92) S.1 S.2.1 dX6_takesNumber_88 (by decide) ?_
          exact ret _ _ _ _ _ (by unfold mTNum; rw [hN, ← hz, ← hat]; exact hw) (by unfold pNf; rw [hN]; first | exact (if_pos (by omega)).symm | exact (if_neg (by omega)).symm) dX6_takesNumber_92
      · skip
        have c_1N : ¬ k5 ≤ d := fun z => c_1 ((nI_leI (a := k5) (b := d) (by omega) (by omega)).mpr z)
        refine lv_aload_n S.1 S.2.1 dX6_takesNumber_11 rfl (lv_at hl 0 rfl) ?_
        refine y_get S hw (C := RX6) (T := TX6) (N := 13) i_X6_takesNumber_X6 0 rfl rfl 8 (by decide) f_X6_takesNumber_156 rfl dX6_takesNumber_12 ?_
        refine y_top (y := (nI (a + d))) (hat) ?_
        refine lv_aload_n S.1 S.2.1 dX6_takesNumber_15 rfl (lv_at hl 0 rfl) ?_
        refine y_get S hw (C := RX6) (T := TX6) (N := 13) i_X6_takesNumber_X6 0 rfl rfl 5 (by decide) f_X6_takesNumber_153 rfl dX6_takesNumber_16 ?_
        refine y_top (y := (nI L)) (hL) ?_
        refine lv_icmp_ge (tgt := 75) S.1 S.2.1 dX6_takesNumber_19 (by decide) (fun c_3 => ?_) (fun c_3 => ?_)
        · skip
          have c_3N : L ≤ (a + d) := (nI_leI (a := L) (b := (a + d)) (by omega) (by omega)).mp c_3
          have hN : pNd (u 4) L a k5 = d := by rw [← hcnt, pNd_0 (by rw [pDg_in, if_pos c_3N])]; rfl
          refine lv_aload_n S.1 S.2.1 dX6_takesNumber_75 rfl (lv_at hl 0 rfl) ?_
          refine y_get S hw (C := RX6) (T := TX6) (N := 13) i_X6_takesNumber_X6 0 rfl rfl 12 (by decide) f_X6_takesNumber_25 rfl dX6_takesNumber_76 ?_
          refine lv_iload_n S.1 S.2.1 dX6_takesNumber_79 rfl (lv_at hl 1 rfl) ?_
          refine lv_iload_n S.1 S.2.1 dX6_takesNumber_80 rfl (lv_at hl 3 rfl) ?_
          refine y_iast S hw 6 (k := k) rfl (by omega) (Nat.le_of_ble_eq_true rfl) dX6_takesNumber_81 (ws' := [((q 0), .inr (6, [.ref (q 1), .ref (q 2), .ref (q 3), .int (u 3 0), .ref (q 4), .int (u 5 0), .ref (q 5), .int (u 7 0), .int wat, .int (u 9 0), .int (u 10 0), .int (u 11 0), .ref (q 6)])), ((q 1), .inl (cI, 162, .inl (u 0))), ((q 2), .inl (cI, 162, .inl (u 1))), ((q 3), .inl (cI, 648, .inl (u 2))), ((q 4), .inl (cI, 60, .inl (u 4))), ((q 5), .inl (cI, 3, .inl (u 6))), ((q 6), .inl (cI, 3, .inl (upd (u 12) k z)))]) rfl (fun H locs hw => ?_)
          refine lv_iload S.1 S.2.1 dX6_takesNumber_82 (lv_at hl 4 rfl) ?_
          refine lv_if_le (tgt := 91) S.1 S.2.1 dX6_takesNumber_84 (by decide) (fun c_4 => ?_) (fun c_4 => ?_)
          · skip
            have c_4N : d ≤ 0 := (nI_leI (a := d) (b := 0) (by omega) (by omega)).mp c_4
            refine lv_iconst (v := 0) S.1 S.2.1 dX6_takesNumber_91 (by decide) ?_
            exact ret _ _ _ _ _ (by unfold mTNum; rw [hN, ← hz, ← hat]; exact hw) (by unfold pNf; rw [hN]; first | exact (if_pos (by omega)).symm | exact (if_neg (by omega)).symm) dX6_takesNumber_92
          · skip
            have c_4N : ¬ d ≤ 0 := fun z => c_4 ((nI_leI (a := d) (b := 0) (by omega) (by omega)).mpr z)
            refine lv_iconst (v := 1) S.1 S.2.1 dX6_takesNumber_87 (by decide) ?_
            refine lv_goto (tgt := 92) S.1 S.2.1 dX6_takesNumber_88 (by decide) ?_
            exact ret _ _ _ _ _ (by unfold mTNum; rw [hN, ← hz, ← hat]; exact hw) (by unfold pNf; rw [hN]; first | exact (if_pos (by omega)).symm | exact (if_neg (by omega)).symm) dX6_takesNumber_92
        · skip
          have c_3N : ¬ L ≤ (a + d) := fun z => c_3 ((nI_leI (a := L) (b := (a + d)) (by omega) (by omega)).mpr z)
          refine lv_aload_n S.1 S.2.1 dX6_takesNumber_22 rfl (lv_at hl 0 rfl) ?_
          refine y_get S hw (C := RX6) (T := TX6) (N := 13) i_X6_takesNumber_X6 0 rfl rfl 4 (by decide) f_X6_takesNumber_19 rfl dX6_takesNumber_23 ?_
          refine lv_aload_n S.1 S.2.1 dX6_takesNumber_26 rfl (lv_at hl 0 rfl) ?_
          refine y_get S hw (C := RX6) (T := TX6) (N := 13) i_X6_takesNumber_X6 0 rfl rfl 8 (by decide) f_X6_takesNumber_156 rfl dX6_takesNumber_27 ?_
          refine y_top (y := (nI (a + d))) (hat) ?_
          refine y_iald S hw 4 (k := (a + d)) rfl (by omega) (Nat.le_of_ble_eq_true rfl) dX6_takesNumber_30 ?_
          refine lv_bipush (v := 48) S.1 S.2.1 dX6_takesNumber_31 (by decide) ?_
          refine lv_bipush (v := 57) S.1 S.2.1 dX6_takesNumber_33 (by decide) ?_
          refine y_callSI (As := [.int ((u 4) (a + d)), .int 48, .int 57]) (rest := []) S hw hl.1 (c_X6_in l D cI cC cL ((u 4) (a + d)) 48 57) (va_cwS 3 S.2.2.2.2 gX6_takesNumber_X6_in rfl rfl rfl (by decide +kernel) ⟨Nat.le_of_ble_eq_true rfl, Nat.le_of_ble_eq_true rfl⟩) [] [0, 1, 2, 3, 4, 5, 6] rfl (by decide +kernel) (wr := [((q 0), .inr (6, [.ref (q 1), .ref (q 2), .ref (q 3), .int (u 3 0), .ref (q 4), .int (u 5 0), .ref (q 5), .int (u 7 0), .int wat, .int (u 9 0), .int (u 10 0), .int (u 11 0), .ref (q 6)])), ((q 1), .inl (cI, 162, .inl (u 0))), ((q 2), .inl (cI, 162, .inl (u 1))), ((q 3), .inl (cI, 648, .inl (u 2))), ((q 4), .inl (cI, 60, .inl (u 4))), ((q 5), .inl (cI, 3, .inl (u 6))), ((q 6), .inl (cI, 3, .inl (u 12)))]) rfl (by decide +kernel) (by decide +kernel) rfl (Nat.le_of_ble_eq_true rfl) dX6_takesNumber_35 rfl ⟨Nat.le_refl _, Nat.le_refl _⟩ (fun H locs v_5 x_6 ev_5 ex_6 hw => ?_)
          have hw : y_W D cI cC cL A s H locs [((q 0), .inr (6, [.ref (q 1), .ref (q 2), .ref (q 3), .int (u 3 0), .ref (q 4), .int (u 5 0), .ref (q 5), .int (u 7 0), .int wat, .int (u 9 0), .int (u 10 0), .int (u 11 0), .ref (q 6)])), ((q 1), .inl (cI, 162, .inl (u 0))), ((q 2), .inl (cI, 162, .inl (u 1))), ((q 3), .inl (cI, 648, .inl (u 2))), ((q 4), .inl (cI, 60, .inl (u 4))), ((q 5), .inl (cI, 3, .inl (u 6))), ((q 6), .inl (cI, 3, .inl (u 12)))] := hw
          subst ex_6
          refine lv_if_eq (tgt := 75) S.1 S.2.1 dX6_takesNumber_38 (by decide) (fun c_7 => ?_) (fun c_7 => ?_)
          · skip
            have hN : pNd (u 4) L a k5 = d := by rw [← hcnt, pNd_0 (by rw [pDg_in, if_neg c_3N]; exact c_7)]; rfl
            refine lv_aload_n S.1 S.2.1 dX6_takesNumber_75 rfl (lv_at hl 0 rfl) ?_
            refine y_get S hw (C := RX6) (T := TX6) (N := 13) i_X6_takesNumber_X6 0 rfl rfl 12 (by decide) f_X6_takesNumber_25 rfl dX6_takesNumber_76 ?_
            refine lv_iload_n S.1 S.2.1 dX6_takesNumber_79 rfl (lv_at hl 1 rfl) ?_
            refine lv_iload_n S.1 S.2.1 dX6_takesNumber_80 rfl (lv_at hl 3 rfl) ?_
            refine y_iast S hw 6 (k := k) rfl (by omega) (Nat.le_of_ble_eq_true rfl) dX6_takesNumber_81 (ws' := [((q 0), .inr (6, [.ref (q 1), .ref (q 2), .ref (q 3), .int (u 3 0), .ref (q 4), .int (u 5 0), .ref (q 5), .int (u 7 0), .int wat, .int (u 9 0), .int (u 10 0), .int (u 11 0), .ref (q 6)])), ((q 1), .inl (cI, 162, .inl (u 0))), ((q 2), .inl (cI, 162, .inl (u 1))), ((q 3), .inl (cI, 648, .inl (u 2))), ((q 4), .inl (cI, 60, .inl (u 4))), ((q 5), .inl (cI, 3, .inl (u 6))), ((q 6), .inl (cI, 3, .inl (upd (u 12) k z)))]) rfl (fun H locs hw => ?_)
            refine lv_iload S.1 S.2.1 dX6_takesNumber_82 (lv_at hl 4 rfl) ?_
            refine lv_if_le (tgt := 91) S.1 S.2.1 dX6_takesNumber_84 (by decide) (fun c_8 => ?_) (fun c_8 => ?_)
            · skip
              have c_8N : d ≤ 0 := (nI_leI (a := d) (b := 0) (by omega) (by omega)).mp c_8
              refine lv_iconst (v := 0) S.1 S.2.1 dX6_takesNumber_91 (by decide) ?_
              exact ret _ _ _ _ _ (by unfold mTNum; rw [hN, ← hz, ← hat]; exact hw) (by unfold pNf; rw [hN]; first | exact (if_pos (by omega)).symm | exact (if_neg (by omega)).symm) dX6_takesNumber_92
            · skip
              have c_8N : ¬ d ≤ 0 := fun z => c_8 ((nI_leI (a := d) (b := 0) (by omega) (by omega)).mpr z)
              refine lv_iconst (v := 1) S.1 S.2.1 dX6_takesNumber_87 (by decide) ?_
              refine lv_goto (tgt := 92) S.1 S.2.1 dX6_takesNumber_88 (by decide) ?_
              exact ret _ _ _ _ _ (by unfold mTNum; rw [hN, ← hz, ← hat]; exact hw) (by unfold pNf; rw [hN]; first | exact (if_pos (by omega)).symm | exact (if_neg (by omega)).symm) dX6_takesNumber_92
          · skip
            refine lv_bipush (v := 10) S.1 S.2.1 dX6_takesNumber_41 (by decide) ?_
            refine lv_iload_n S.1 S.2.1 dX6_takesNumber_43 rfl (lv_at hl 3 rfl) ?_
            refine lv_imul S.1 S.2.1 dX6_takesNumber_44 ?_
            refine lv_aload_n S.1 S.2.1 dX6_takesNumber_45 rfl (lv_at hl 0 rfl) ?_
            refine y_get S hw (C := RX6) (T := TX6) (N := 13) i_X6_takesNumber_X6 0 rfl rfl 4 (by decide) f_X6_takesNumber_19 rfl dX6_takesNumber_46 ?_
            refine lv_aload_n S.1 S.2.1 dX6_takesNumber_49 rfl (lv_at hl 0 rfl) ?_
            refine y_get S hw (C := RX6) (T := TX6) (N := 13) i_X6_takesNumber_X6 0 rfl rfl 8 (by decide) f_X6_takesNumber_156 rfl dX6_takesNumber_50 ?_
            refine y_top (y := (nI (a + d))) (hat) ?_
            refine y_iald S hw 4 (k := (a + d)) rfl (by omega) (Nat.le_of_ble_eq_true rfl) dX6_takesNumber_53 ?_
            refine lv_iadd S.1 S.2.1 dX6_takesNumber_54 ?_
            refine lv_bipush (v := 48) S.1 S.2.1 dX6_takesNumber_55 (by decide) ?_
            refine lv_isub S.1 S.2.1 dX6_takesNumber_57 ?_
            refine lv_istore_n (lv' := [(3, .int (((10 * z) + ((u 4) (a + d))) - 48)), (0, .ref (q 0)), (1, .int (nI k)), (2, .int (nI k5)), (4, .int (nI d))]) S.1 S.2.1 dX6_takesNumber_58 rfl hl (by decide) rfl (fun ls hl => ?_)
            refine lv_aload_n S.1 S.2.1 dX6_takesNumber_59 rfl (lv_at hl 1 rfl) ?_
            refine lv_dup S.1 S.2.1 dX6_takesNumber_60 rfl ?_
            refine y_get S hw (C := RX6) (T := TX6) (N := 13) i_X6_takesNumber_X6 0 rfl rfl 8 (by decide) f_X6_takesNumber_156 rfl dX6_takesNumber_61 ?_
            refine y_top (y := (nI (a + d))) (hat) ?_
            refine lv_iconst (v := 1) S.1 S.2.1 dX6_takesNumber_64 (by decide) ?_
            refine y_iaddN S (a + d) 1 dX6_takesNumber_65 ?_
            refine y_put S hw (C := RX6) (T := TX6) (N := 13) i_X6_takesNumber_X6 tyX6_ok nmX6 0 rfl rfl 8 (by decide) f_X6_takesNumber_156 (by decide +kernel) rfl rfl (Nat.le_of_ble_eq_true rfl) dX6_takesNumber_66 (ws' := [((q 0), .inr (6, [.ref (q 1), .ref (q 2), .ref (q 3), .int (u 3 0), .ref (q 4), .int (u 5 0), .ref (q 5), .int (u 7 0), .int (nI ((a + d) + 1)), .int (u 9 0), .int (u 10 0), .int (u 11 0), .ref (q 6)])), ((q 1), .inl (cI, 162, .inl (u 0))), ((q 2), .inl (cI, 162, .inl (u 1))), ((q 3), .inl (cI, 648, .inl (u 2))), ((q 4), .inl (cI, 60, .inl (u 4))), ((q 5), .inl (cI, 3, .inl (u 6))), ((q 6), .inl (cI, 3, .inl (u 12)))]) rfl (fun H locs hw => ?_)
            refine lv_iinc (v := (nI (d + 1))) (lv' := [(4, .int (nI (d + 1))), (3, .int (((10 * z) + ((u 4) (a + d))) - 48)), (0, .ref (q 0)), (1, .int (nI k)), (2, .int (nI k5))]) S.1 S.2.1 dX6_takesNumber_69 hl (k := 4) rfl (by first | exact nI_1 _ | exact nI_add _ _) (by decide) rfl (fun ls hl => ?_)
            refine lv_goto (tgt := 5) S.1 S.2.1 dX6_takesNumber_72 (by decide) ?_
            exact ih5 (d + 1) (((10 * z) + ((u 4) (a + d))) - 48) (nI ((a + d) + 1)) (by omega) (by rw [hz, y_addsub]; rfl) (rfl) (by omega) (by rw [← hcnt, pNd_s (a := a + d) (m := k5 - d) (by rw [pDg_in, if_neg c_3N]; exact c_7) (by omega), show k5 - d - 1 = k5 - (d + 1) from by omega, show a + d + 1 = a + (d + 1) from rfl]; omega) (by omega) _ _ ls hw (lv_sub hl [2, 3, 4, 1, 0] rfl)
  exact lp5 ((k5 - 0) + 1) 0 0 (u 8 0) (Nat.zero_le _) (rfl) (ha) (ha2) (by rw [Nat.zero_add]; rfl) (Nat.lt_succ_self _) _ _ ls hw (lv_sub hl [2, 3, 4, 1, 0] rfl)

theorem i_X6_hasForm_X6 : ∀ w ∈ u_ws RX6 TX6 13, w ∈ wsX6_hasForm := by decide +kernel
theorem f_X6_hasForm_156 : Cond.fieldLink RX6 156 "ChargeLinesModel" "at" "I" ∈ wsX6_hasForm := by decide +kernel
theorem f_X6_hasForm_153 : Cond.fieldLink RX6 153 "ChargeLinesModel" "length" "I" ∈ wsX6_hasForm := by decide +kernel
theorem f_X6_hasForm_159 : Cond.fieldLink RX6 159 "ChargeLinesModel" "sort" "I" ∈ wsX6_hasForm := by decide +kernel
theorem f_X6_hasForm_19 : Cond.fieldLink RX6 19 "ChargeLinesModel" "text" "[I" ∈ wsX6_hasForm := by decide +kernel
set_option maxHeartbeats 4000000 in
set_option maxRecDepth 100000 in
/-- Model.hasForm -/
theorem c_X6_hasForm (l : Launch) (D : va_G) (cI cC cL : ClassId) (q : Nat → Nat) (u : U) (L a : Nat) (hL : u 5 0 = nI L) (hL2 : L ≤ 60) (ha : u 8 0 = nI a) (ha2 : a ≤ L) : y_MI l yX6_hasForm wsX6_hasForm 2 46 D cI cC cL [.ref (q 0)] (cMd cI q u) ((pForm (u 4) L a (u 12)).2.2) (fun v : U => cMd cI q v) (mForm u L a) := by
  refine y_startI (cc := cX6_hasForm) (maxL := 1) (ret := some .boolean) (by decide +kernel) rfl (Nat.le_of_ble_eq_true rfl) ⟨_, rfl, fun x h => by rcases h rfl with rfl | rfl <;> rfl⟩ (fun _ => pForm_01) ?_
  intro p e s mm args below meth c A QQ ls S hw ret hl
  have S : CallFix p mm c cX6_hasForm 1 s args wsX6_hasForm RX6 := S
  have hw : y_W D cI cC cL A s s.heap [] [((q 0), .inr (6, [.ref (q 1), .ref (q 2), .ref (q 3), .int (u 3 0), .ref (q 4), .int (u 5 0), .ref (q 5), .int (u 7 0), .int (u 8 0), .int (u 9 0), .int (u 10 0), .int (u 11 0), .ref (q 6)])), ((q 1), .inl (cI, 162, .inl (u 0))), ((q 2), .inl (cI, 162, .inl (u 1))), ((q 3), .inl (cI, 648, .inl (u 2))), ((q 4), .inl (cI, 60, .inl (u 4))), ((q 5), .inl (cI, 3, .inl (u 6))), ((q 6), .inl (cI, 3, .inl (u 12)))] := hw
  have hl : lv_has ls 1 [(0, .ref (q 0))] := hl
  refine lv_aload_n S.1 S.2.1 dX6_hasForm_0 rfl (lv_at hl 0 rfl) ?_
  refine lv_aload_n S.1 S.2.1 dX6_hasForm_1 rfl (lv_at hl 0 rfl) ?_
  refine y_get S hw (C := RX6) (T := TX6) (N := 13) i_X6_hasForm_X6 0 rfl rfl 8 (by decide) f_X6_hasForm_156 rfl dX6_hasForm_2 ?_
  refine y_top (y := (nI a)) (ha) ?_
  refine lv_aload_n S.1 S.2.1 dX6_hasForm_5 rfl (lv_at hl 0 rfl) ?_
  refine y_get S hw (C := RX6) (T := TX6) (N := 13) i_X6_hasForm_X6 0 rfl rfl 5 (by decide) f_X6_hasForm_153 rfl dX6_hasForm_6 ?_
  refine y_top (y := (nI L)) (hL) ?_
  refine lv_icmp_ge (tgt := 24) S.1 S.2.1 dX6_hasForm_9 (by decide) (fun c_1 => ?_) (fun c_1 => ?_)
  · skip
    have c_1N : L ≤ a := (nI_leI (a := L) (b := a) (by omega) (by omega)).mp c_1
    refine lv_iconst (v := 0) S.1 S.2.1 dX6_hasForm_24 (by decide) ?_
    refine y_put S hw (C := RX6) (T := TX6) (N := 13) i_X6_hasForm_X6 tyX6_ok nmX6 0 rfl rfl 11 (by decide) f_X6_hasForm_159 (by decide +kernel) rfl rfl (Nat.le_of_ble_eq_true rfl) dX6_hasForm_25 (ws' := [((q 0), .inr (6, [.ref (q 1), .ref (q 2), .ref (q 3), .int (u 3 0), .ref (q 4), .int (u 5 0), .ref (q 5), .int (u 7 0), .int (u 8 0), .int (u 9 0), .int (u 10 0), .int 0, .ref (q 6)])), ((q 1), .inl (cI, 162, .inl (u 0))), ((q 2), .inl (cI, 162, .inl (u 1))), ((q 3), .inl (cI, 648, .inl (u 2))), ((q 4), .inl (cI, 60, .inl (u 4))), ((q 5), .inl (cI, 3, .inl (u 6))), ((q 6), .inl (cI, 3, .inl (u 12)))]) rfl (fun H locs hw => ?_)
    refine lv_aload_n S.1 S.2.1 dX6_hasForm_28 rfl (lv_at hl 0 rfl) ?_
    refine lv_bipush (v := 115) S.1 S.2.1 dX6_hasForm_29 (by decide) ?_
    refine y_callI (As := [.int 115]) (rest := []) S hw hl.1 (c_X6_takes l D cI cC cL q (va_up u 11 (fun _ => 0)) L a hL (by omega) (ha) (ha2) 115) (cwV 1 S.2.2.2.2 gX6_hasForm_X6_takes rfl rfl rfl (by decide +kernel) ⟨Nat.le_of_ble_eq_true rfl, Nat.le_of_ble_eq_true rfl⟩) 0 rfl rfl [0, 1, 2, 3, 4, 5, 6] [] rfl (by decide +kernel) (wr := []) rfl (by decide +kernel) (by decide +kernel) rfl (Nat.le_of_ble_eq_true rfl) dX6_hasForm_31 rfl ⟨Nat.le_refl _, Nat.le_refl _⟩ (fun H locs v_2 x_3 ev_2 ex_3 hw => ?_)
    subst ev_2
    have hw : y_W D cI cC cL A s H locs [((q 0), .inr (6, [.ref (q 1), .ref (q 2), .ref (q 3), .int (u 3 0), .ref (q 4), .int (u 5 0), .ref (q 5), .int (u 7 0), .int (nI (pT (u 4) L a 115)), .int (u 9 0), .int (u 10 0), .int 0, .ref (q 6)])), ((q 1), .inl (cI, 162, .inl (u 0))), ((q 2), .inl (cI, 162, .inl (u 1))), ((q 3), .inl (cI, 648, .inl (u 2))), ((q 4), .inl (cI, 60, .inl (u 4))), ((q 5), .inl (cI, 3, .inl (u 6))), ((q 6), .inl (cI, 3, .inl (u 12)))] := hw
    subst ex_3
    refine y_top (y := (pTf (u 4) L a 115)) rfl ?_
    refine lv_if_eq (tgt := 61) S.1 S.2.1 dX6_hasForm_34 (by decide) (fun c_4 => ?_) (fun c_4 => ?_)
    · skip
      refine lv_aload_n S.1 S.2.1 dX6_hasForm_61 rfl (lv_at hl 0 rfl) ?_
      refine lv_bipush (v := 108) S.1 S.2.1 dX6_hasForm_62 (by decide) ?_
      refine y_callI (As := [.int 108]) (rest := []) S hw hl.1 (c_X6_takes l D cI cC cL q (va_up (va_up u 8 (fun _ => (nI (pT (u 4) L a 115)))) 11 (fun _ => 0)) L (pT (u 4) L a 115) hL (by omega) (rfl) (pT_L (ha2)) 108) (cwV 1 S.2.2.2.2 gX6_hasForm_X6_takes rfl rfl rfl (by decide +kernel) ⟨Nat.le_of_ble_eq_true rfl, Nat.le_of_ble_eq_true rfl⟩) 0 rfl rfl [0, 1, 2, 3, 4, 5, 6] [] rfl (by decide +kernel) (wr := []) rfl (by decide +kernel) (by decide +kernel) rfl (Nat.le_of_ble_eq_true rfl) dX6_hasForm_64 rfl ⟨Nat.le_refl _, Nat.le_refl _⟩ (fun H locs v_5 x_6 ev_5 ex_6 hw => ?_)
      subst ev_5
      have hw : y_W D cI cC cL A s H locs [((q 0), .inr (6, [.ref (q 1), .ref (q 2), .ref (q 3), .int (u 3 0), .ref (q 4), .int (u 5 0), .ref (q 5), .int (u 7 0), .int (nI (pT (u 4) L (pT (u 4) L a 115) 108)), .int (u 9 0), .int (u 10 0), .int 0, .ref (q 6)])), ((q 1), .inl (cI, 162, .inl (u 0))), ((q 2), .inl (cI, 162, .inl (u 1))), ((q 3), .inl (cI, 648, .inl (u 2))), ((q 4), .inl (cI, 60, .inl (u 4))), ((q 5), .inl (cI, 3, .inl (u 6))), ((q 6), .inl (cI, 3, .inl (u 12)))] := hw
      subst ex_6
      refine y_top (y := (pTf (u 4) L (pT (u 4) L a 115) 108)) rfl ?_
      refine lv_if_eq (tgt := 128) S.1 S.2.1 dX6_hasForm_67 (by decide) (fun c_7 => ?_) (fun c_7 => ?_)
      · skip
        refine lv_iconst (v := 0) S.1 S.2.1 dX6_hasForm_128 (by decide) ?_
        have hJ : pForm (u 4) L a (u 12) = ((pT (u 4) L (pT (u 4) L a 115) 108), (u 12), 0) := by simp only [pForm, sS, lS, pRun, c_4, c_7, ↓reduceIte]
        have hK : mSort (u 4) L a = 0 := by unfold mSort; rw [if_pos c_1N]
        exact ret _ _ _ _ _ (by unfold mForm; rw [hJ, hK]; exact hw) (by rw [hJ]) dX6_hasForm_129
      · skip
        refine lv_aload_n S.1 S.2.1 dX6_hasForm_70 rfl (lv_at hl 0 rfl) ?_
        refine lv_iconst (v := 0) S.1 S.2.1 dX6_hasForm_71 (by decide) ?_
        refine lv_iconst (v := 1) S.1 S.2.1 dX6_hasForm_72 (by decide) ?_
        refine y_callI (As := [.int 0, .int 1]) (rest := []) S hw hl.1 (c_X6_takesNumber l D cI cC cL q (va_up (va_up u 8 (fun _ => (nI (pT (u 4) L (pT (u 4) L a 115) 108)))) 11 (fun _ => 0)) L (pT (u 4) L (pT (u 4) L a 115) 108) hL (by omega) (rfl) (pT_L (pT_L (ha2))) 0 1 (by decide) (by decide)) (cwV 2 S.2.2.2.2 gX6_hasForm_X6_takesNumber rfl rfl rfl (by decide +kernel) ⟨Nat.le_of_ble_eq_true rfl, Nat.le_of_ble_eq_true rfl⟩) 0 rfl rfl [0, 1, 2, 3, 4, 5, 6] [] rfl (by decide +kernel) (wr := []) rfl (by decide +kernel) (by decide +kernel) rfl (Nat.le_of_ble_eq_true rfl) dX6_hasForm_73 rfl ⟨Nat.le_refl _, Nat.le_refl _⟩ (fun H locs v_8 x_9 ev_8 ex_9 hw => ?_)
        subst ev_8
        have hw : y_W D cI cC cL A s H locs [((q 0), .inr (6, [.ref (q 1), .ref (q 2), .ref (q 3), .int (u 3 0), .ref (q 4), .int (u 5 0), .ref (q 5), .int (u 7 0), .int (nI ((pT (u 4) L (pT (u 4) L a 115) 108) + pNd (u 4) L (pT (u 4) L (pT (u 4) L a 115) 108) 1)), .int (u 9 0), .int (u 10 0), .int 0, .ref (q 6)])), ((q 1), .inl (cI, 162, .inl (u 0))), ((q 2), .inl (cI, 162, .inl (u 1))), ((q 3), .inl (cI, 648, .inl (u 2))), ((q 4), .inl (cI, 60, .inl (u 4))), ((q 5), .inl (cI, 3, .inl (u 6))), ((q 6), .inl (cI, 3, .inl (upd (u 12) 0 (pNv (u 4) (pT (u 4) L (pT (u 4) L a 115) 108) (pNd (u 4) L (pT (u 4) L (pT (u 4) L a 115) 108) 1)))))] := hw
        subst ex_9
        refine y_top (y := (pNf (u 4) L (pT (u 4) L (pT (u 4) L a 115) 108) 1)) rfl ?_
        refine lv_if_eq (tgt := 128) S.1 S.2.1 dX6_hasForm_76 (by decide) (fun c_10 => ?_) (fun c_10 => ?_)
        · skip
          refine lv_iconst (v := 0) S.1 S.2.1 dX6_hasForm_128 (by decide) ?_
          have hJ : pForm (u 4) L a (u 12) = (((pT (u 4) L (pT (u 4) L a 115) 108) + pNd (u 4) L (pT (u 4) L (pT (u 4) L a 115) 108) 1), (upd (u 12) 0 (pNv (u 4) (pT (u 4) L (pT (u 4) L a 115) 108) (pNd (u 4) L (pT (u 4) L (pT (u 4) L a 115) 108) 1))), 0) := by simp only [pForm, sS, lS, pRun, c_4, c_7, c_10, ↓reduceIte]
          have hK : mSort (u 4) L a = 0 := by unfold mSort; rw [if_pos c_1N]
          exact ret _ _ _ _ _ (by unfold mForm; rw [hJ, hK]; exact hw) (by rw [hJ]) dX6_hasForm_129
        · skip
          refine lv_aload_n S.1 S.2.1 dX6_hasForm_79 rfl (lv_at hl 0 rfl) ?_
          refine lv_bipush (v := 44) S.1 S.2.1 dX6_hasForm_80 (by decide) ?_
          refine y_callI (As := [.int 44]) (rest := []) S hw hl.1 (c_X6_takes l D cI cC cL q (va_up (va_up (va_up u 8 (fun _ => (nI ((pT (u 4) L (pT (u 4) L a 115) 108) + pNd (u 4) L (pT (u 4) L (pT (u 4) L a 115) 108) 1)))) 11 (fun _ => 0)) 12 (upd (u 12) 0 (pNv (u 4) (pT (u 4) L (pT (u 4) L a 115) 108) (pNd (u 4) L (pT (u 4) L (pT (u 4) L a 115) 108) 1)))) L ((pT (u 4) L (pT (u 4) L a 115) 108) + pNd (u 4) L (pT (u 4) L (pT (u 4) L a 115) 108) 1) hL (by omega) (rfl) (pNd_L (pT_L (pT_L (ha2)))) 44) (cwV 1 S.2.2.2.2 gX6_hasForm_X6_takes rfl rfl rfl (by decide +kernel) ⟨Nat.le_of_ble_eq_true rfl, Nat.le_of_ble_eq_true rfl⟩) 0 rfl rfl [0, 1, 2, 3, 4, 5, 6] [] rfl (by decide +kernel) (wr := []) rfl (by decide +kernel) (by decide +kernel) rfl (Nat.le_of_ble_eq_true rfl) dX6_hasForm_82 rfl ⟨Nat.le_refl _, Nat.le_refl _⟩ (fun H locs v_11 x_12 ev_11 ex_12 hw => ?_)
          subst ev_11
          have hw : y_W D cI cC cL A s H locs [((q 0), .inr (6, [.ref (q 1), .ref (q 2), .ref (q 3), .int (u 3 0), .ref (q 4), .int (u 5 0), .ref (q 5), .int (u 7 0), .int (nI (pT (u 4) L ((pT (u 4) L (pT (u 4) L a 115) 108) + pNd (u 4) L (pT (u 4) L (pT (u 4) L a 115) 108) 1) 44)), .int (u 9 0), .int (u 10 0), .int 0, .ref (q 6)])), ((q 1), .inl (cI, 162, .inl (u 0))), ((q 2), .inl (cI, 162, .inl (u 1))), ((q 3), .inl (cI, 648, .inl (u 2))), ((q 4), .inl (cI, 60, .inl (u 4))), ((q 5), .inl (cI, 3, .inl (u 6))), ((q 6), .inl (cI, 3, .inl (upd (u 12) 0 (pNv (u 4) (pT (u 4) L (pT (u 4) L a 115) 108) (pNd (u 4) L (pT (u 4) L (pT (u 4) L a 115) 108) 1)))))] := hw
          subst ex_12
          refine y_top (y := (pTf (u 4) L ((pT (u 4) L (pT (u 4) L a 115) 108) + pNd (u 4) L (pT (u 4) L (pT (u 4) L a 115) 108) 1) 44)) rfl ?_
          refine lv_if_eq (tgt := 128) S.1 S.2.1 dX6_hasForm_85 (by decide) (fun c_13 => ?_) (fun c_13 => ?_)
          · skip
            refine lv_iconst (v := 0) S.1 S.2.1 dX6_hasForm_128 (by decide) ?_
            have hJ : pForm (u 4) L a (u 12) = ((pT (u 4) L ((pT (u 4) L (pT (u 4) L a 115) 108) + pNd (u 4) L (pT (u 4) L (pT (u 4) L a 115) 108) 1) 44), (upd (u 12) 0 (pNv (u 4) (pT (u 4) L (pT (u 4) L a 115) 108) (pNd (u 4) L (pT (u 4) L (pT (u 4) L a 115) 108) 1))), 0) := by simp only [pForm, sS, lS, pRun, c_4, c_7, c_10, c_13, ↓reduceIte]
            have hK : mSort (u 4) L a = 0 := by unfold mSort; rw [if_pos c_1N]
            exact ret _ _ _ _ _ (by unfold mForm; rw [hJ, hK]; exact hw) (by rw [hJ]) dX6_hasForm_129
          · skip
            refine lv_aload_n S.1 S.2.1 dX6_hasForm_88 rfl (lv_at hl 0 rfl) ?_
            refine lv_iconst (v := 1) S.1 S.2.1 dX6_hasForm_89 (by decide) ?_
            refine lv_iconst (v := 5) S.1 S.2.1 dX6_hasForm_90 (by decide) ?_
            refine y_callI (As := [.int 1, .int 5]) (rest := []) S hw hl.1 (c_X6_takesNumber l D cI cC cL q (va_up (va_up (va_up u 8 (fun _ => (nI (pT (u 4) L ((pT (u 4) L (pT (u 4) L a 115) 108) + pNd (u 4) L (pT (u 4) L (pT (u 4) L a 115) 108) 1) 44)))) 11 (fun _ => 0)) 12 (upd (u 12) 0 (pNv (u 4) (pT (u 4) L (pT (u 4) L a 115) 108) (pNd (u 4) L (pT (u 4) L (pT (u 4) L a 115) 108) 1)))) L (pT (u 4) L ((pT (u 4) L (pT (u 4) L a 115) 108) + pNd (u 4) L (pT (u 4) L (pT (u 4) L a 115) 108) 1) 44) hL (by omega) (rfl) (pT_L (pNd_L (pT_L (pT_L (ha2))))) 1 5 (by decide) (by decide)) (cwV 2 S.2.2.2.2 gX6_hasForm_X6_takesNumber rfl rfl rfl (by decide +kernel) ⟨Nat.le_of_ble_eq_true rfl, Nat.le_of_ble_eq_true rfl⟩) 0 rfl rfl [0, 1, 2, 3, 4, 5, 6] [] rfl (by decide +kernel) (wr := []) rfl (by decide +kernel) (by decide +kernel) rfl (Nat.le_of_ble_eq_true rfl) dX6_hasForm_91 rfl ⟨Nat.le_refl _, Nat.le_refl _⟩ (fun H locs v_14 x_15 ev_14 ex_15 hw => ?_)
            subst ev_14
            have hw : y_W D cI cC cL A s H locs [((q 0), .inr (6, [.ref (q 1), .ref (q 2), .ref (q 3), .int (u 3 0), .ref (q 4), .int (u 5 0), .ref (q 5), .int (u 7 0), .int (nI ((pT (u 4) L ((pT (u 4) L (pT (u 4) L a 115) 108) + pNd (u 4) L (pT (u 4) L (pT (u 4) L a 115) 108) 1) 44) + pNd (u 4) L (pT (u 4) L ((pT (u 4) L (pT (u 4) L a 115) 108) + pNd (u 4) L (pT (u 4) L (pT (u 4) L a 115) 108) 1) 44) 5)), .int (u 9 0), .int (u 10 0), .int 0, .ref (q 6)])), ((q 1), .inl (cI, 162, .inl (u 0))), ((q 2), .inl (cI, 162, .inl (u 1))), ((q 3), .inl (cI, 648, .inl (u 2))), ((q 4), .inl (cI, 60, .inl (u 4))), ((q 5), .inl (cI, 3, .inl (u 6))), ((q 6), .inl (cI, 3, .inl (upd (upd (u 12) 0 (pNv (u 4) (pT (u 4) L (pT (u 4) L a 115) 108) (pNd (u 4) L (pT (u 4) L (pT (u 4) L a 115) 108) 1))) 1 (pNv (u 4) (pT (u 4) L ((pT (u 4) L (pT (u 4) L a 115) 108) + pNd (u 4) L (pT (u 4) L (pT (u 4) L a 115) 108) 1) 44) (pNd (u 4) L (pT (u 4) L ((pT (u 4) L (pT (u 4) L a 115) 108) + pNd (u 4) L (pT (u 4) L (pT (u 4) L a 115) 108) 1) 44) 5)))))] := hw
            subst ex_15
            refine y_top (y := (pNf (u 4) L (pT (u 4) L ((pT (u 4) L (pT (u 4) L a 115) 108) + pNd (u 4) L (pT (u 4) L (pT (u 4) L a 115) 108) 1) 44) 5)) rfl ?_
            refine lv_if_eq (tgt := 128) S.1 S.2.1 dX6_hasForm_94 (by decide) (fun c_16 => ?_) (fun c_16 => ?_)
            · skip
              refine lv_iconst (v := 0) S.1 S.2.1 dX6_hasForm_128 (by decide) ?_
              have hJ : pForm (u 4) L a (u 12) = (((pT (u 4) L ((pT (u 4) L (pT (u 4) L a 115) 108) + pNd (u 4) L (pT (u 4) L (pT (u 4) L a 115) 108) 1) 44) + pNd (u 4) L (pT (u 4) L ((pT (u 4) L (pT (u 4) L a 115) 108) + pNd (u 4) L (pT (u 4) L (pT (u 4) L a 115) 108) 1) 44) 5), (upd (upd (u 12) 0 (pNv (u 4) (pT (u 4) L (pT (u 4) L a 115) 108) (pNd (u 4) L (pT (u 4) L (pT (u 4) L a 115) 108) 1))) 1 (pNv (u 4) (pT (u 4) L ((pT (u 4) L (pT (u 4) L a 115) 108) + pNd (u 4) L (pT (u 4) L (pT (u 4) L a 115) 108) 1) 44) (pNd (u 4) L (pT (u 4) L ((pT (u 4) L (pT (u 4) L a 115) 108) + pNd (u 4) L (pT (u 4) L (pT (u 4) L a 115) 108) 1) 44) 5))), 0) := by simp only [pForm, sS, lS, pRun, c_4, c_7, c_10, c_13, c_16, ↓reduceIte]
              have hK : mSort (u 4) L a = 0 := by unfold mSort; rw [if_pos c_1N]
              exact ret _ _ _ _ _ (by unfold mForm; rw [hJ, hK]; exact hw) (by rw [hJ]) dX6_hasForm_129
            · skip
              refine lv_aload_n S.1 S.2.1 dX6_hasForm_97 rfl (lv_at hl 0 rfl) ?_
              refine lv_bipush (v := 44) S.1 S.2.1 dX6_hasForm_98 (by decide) ?_
              refine y_callI (As := [.int 44]) (rest := []) S hw hl.1 (c_X6_takes l D cI cC cL q (va_up (va_up (va_up u 8 (fun _ => (nI ((pT (u 4) L ((pT (u 4) L (pT (u 4) L a 115) 108) + pNd (u 4) L (pT (u 4) L (pT (u 4) L a 115) 108) 1) 44) + pNd (u 4) L (pT (u 4) L ((pT (u 4) L (pT (u 4) L a 115) 108) + pNd (u 4) L (pT (u 4) L (pT (u 4) L a 115) 108) 1) 44) 5)))) 11 (fun _ => 0)) 12 (upd (upd (u 12) 0 (pNv (u 4) (pT (u 4) L (pT (u 4) L a 115) 108) (pNd (u 4) L (pT (u 4) L (pT (u 4) L a 115) 108) 1))) 1 (pNv (u 4) (pT (u 4) L ((pT (u 4) L (pT (u 4) L a 115) 108) + pNd (u 4) L (pT (u 4) L (pT (u 4) L a 115) 108) 1) 44) (pNd (u 4) L (pT (u 4) L ((pT (u 4) L (pT (u 4) L a 115) 108) + pNd (u 4) L (pT (u 4) L (pT (u 4) L a 115) 108) 1) 44) 5)))) L ((pT (u 4) L ((pT (u 4) L (pT (u 4) L a 115) 108) + pNd (u 4) L (pT (u 4) L (pT (u 4) L a 115) 108) 1) 44) + pNd (u 4) L (pT (u 4) L ((pT (u 4) L (pT (u 4) L a 115) 108) + pNd (u 4) L (pT (u 4) L (pT (u 4) L a 115) 108) 1) 44) 5) hL (by omega) (rfl) (pNd_L (pT_L (pNd_L (pT_L (pT_L (ha2)))))) 44) (cwV 1 S.2.2.2.2 gX6_hasForm_X6_takes rfl rfl rfl (by decide +kernel) ⟨Nat.le_of_ble_eq_true rfl, Nat.le_of_ble_eq_true rfl⟩) 0 rfl rfl [0, 1, 2, 3, 4, 5, 6] [] rfl (by decide +kernel) (wr := []) rfl (by decide +kernel) (by decide +kernel) rfl (Nat.le_of_ble_eq_true rfl) dX6_hasForm_100 rfl ⟨Nat.le_refl _, Nat.le_refl _⟩ (fun H locs v_17 x_18 ev_17 ex_18 hw => ?_)
              subst ev_17
              have hw : y_W D cI cC cL A s H locs [((q 0), .inr (6, [.ref (q 1), .ref (q 2), .ref (q 3), .int (u 3 0), .ref (q 4), .int (u 5 0), .ref (q 5), .int (u 7 0), .int (nI (pT (u 4) L ((pT (u 4) L ((pT (u 4) L (pT (u 4) L a 115) 108) + pNd (u 4) L (pT (u 4) L (pT (u 4) L a 115) 108) 1) 44) + pNd (u 4) L (pT (u 4) L ((pT (u 4) L (pT (u 4) L a 115) 108) + pNd (u 4) L (pT (u 4) L (pT (u 4) L a 115) 108) 1) 44) 5) 44)), .int (u 9 0), .int (u 10 0), .int 0, .ref (q 6)])), ((q 1), .inl (cI, 162, .inl (u 0))), ((q 2), .inl (cI, 162, .inl (u 1))), ((q 3), .inl (cI, 648, .inl (u 2))), ((q 4), .inl (cI, 60, .inl (u 4))), ((q 5), .inl (cI, 3, .inl (u 6))), ((q 6), .inl (cI, 3, .inl (upd (upd (u 12) 0 (pNv (u 4) (pT (u 4) L (pT (u 4) L a 115) 108) (pNd (u 4) L (pT (u 4) L (pT (u 4) L a 115) 108) 1))) 1 (pNv (u 4) (pT (u 4) L ((pT (u 4) L (pT (u 4) L a 115) 108) + pNd (u 4) L (pT (u 4) L (pT (u 4) L a 115) 108) 1) 44) (pNd (u 4) L (pT (u 4) L ((pT (u 4) L (pT (u 4) L a 115) 108) + pNd (u 4) L (pT (u 4) L (pT (u 4) L a 115) 108) 1) 44) 5)))))] := hw
              subst ex_18
              refine y_top (y := (pTf (u 4) L ((pT (u 4) L ((pT (u 4) L (pT (u 4) L a 115) 108) + pNd (u 4) L (pT (u 4) L (pT (u 4) L a 115) 108) 1) 44) + pNd (u 4) L (pT (u 4) L ((pT (u 4) L (pT (u 4) L a 115) 108) + pNd (u 4) L (pT (u 4) L (pT (u 4) L a 115) 108) 1) 44) 5) 44)) rfl ?_
              refine lv_if_eq (tgt := 128) S.1 S.2.1 dX6_hasForm_103 (by decide) (fun c_19 => ?_) (fun c_19 => ?_)
              · skip
                refine lv_iconst (v := 0) S.1 S.2.1 dX6_hasForm_128 (by decide) ?_
                have hJ : pForm (u 4) L a (u 12) = ((pT (u 4) L ((pT (u 4) L ((pT (u 4) L (pT (u 4) L a 115) 108) + pNd (u 4) L (pT (u 4) L (pT (u 4) L a 115) 108) 1) 44) + pNd (u 4) L (pT (u 4) L ((pT (u 4) L (pT (u 4) L a 115) 108) + pNd (u 4) L (pT (u 4) L (pT (u 4) L a 115) 108) 1) 44) 5) 44), (upd (upd (u 12) 0 (pNv (u 4) (pT (u 4) L (pT (u 4) L a 115) 108) (pNd (u 4) L (pT (u 4) L (pT (u 4) L a 115) 108) 1))) 1 (pNv (u 4) (pT (u 4) L ((pT (u 4) L (pT (u 4) L a 115) 108) + pNd (u 4) L (pT (u 4) L (pT (u 4) L a 115) 108) 1) 44) (pNd (u 4) L (pT (u 4) L ((pT (u 4) L (pT (u 4) L a 115) 108) + pNd (u 4) L (pT (u 4) L (pT (u 4) L a 115) 108) 1) 44) 5))), 0) := by simp only [pForm, sS, lS, pRun, c_4, c_7, c_10, c_13, c_16, c_19, ↓reduceIte]
                have hK : mSort (u 4) L a = 0 := by unfold mSort; rw [if_pos c_1N]
                exact ret _ _ _ _ _ (by unfold mForm; rw [hJ, hK]; exact hw) (by rw [hJ]) dX6_hasForm_129
              · skip
                refine lv_aload_n S.1 S.2.1 dX6_hasForm_106 rfl (lv_at hl 0 rfl) ?_
                refine lv_iconst (v := 2) S.1 S.2.1 dX6_hasForm_107 (by decide) ?_
                refine lv_iconst (v := 5) S.1 S.2.1 dX6_hasForm_108 (by decide) ?_
                refine y_callI (As := [.int 2, .int 5]) (rest := []) S hw hl.1 (c_X6_takesNumber l D cI cC cL q (va_up (va_up (va_up u 8 (fun _ => (nI (pT (u 4) L ((pT (u 4) L ((pT (u 4) L (pT (u 4) L a 115) 108) + pNd (u 4) L (pT (u 4) L (pT (u 4) L a 115) 108) 1) 44) + pNd (u 4) L (pT (u 4) L ((pT (u 4) L (pT (u 4) L a 115) 108) + pNd (u 4) L (pT (u 4) L (pT (u 4) L a 115) 108) 1) 44) 5) 44)))) 11 (fun _ => 0)) 12 (upd (upd (u 12) 0 (pNv (u 4) (pT (u 4) L (pT (u 4) L a 115) 108) (pNd (u 4) L (pT (u 4) L (pT (u 4) L a 115) 108) 1))) 1 (pNv (u 4) (pT (u 4) L ((pT (u 4) L (pT (u 4) L a 115) 108) + pNd (u 4) L (pT (u 4) L (pT (u 4) L a 115) 108) 1) 44) (pNd (u 4) L (pT (u 4) L ((pT (u 4) L (pT (u 4) L a 115) 108) + pNd (u 4) L (pT (u 4) L (pT (u 4) L a 115) 108) 1) 44) 5)))) L (pT (u 4) L ((pT (u 4) L ((pT (u 4) L (pT (u 4) L a 115) 108) + pNd (u 4) L (pT (u 4) L (pT (u 4) L a 115) 108) 1) 44) + pNd (u 4) L (pT (u 4) L ((pT (u 4) L (pT (u 4) L a 115) 108) + pNd (u 4) L (pT (u 4) L (pT (u 4) L a 115) 108) 1) 44) 5) 44) hL (by omega) (rfl) (pT_L (pNd_L (pT_L (pNd_L (pT_L (pT_L (ha2))))))) 2 5 (by decide) (by decide)) (cwV 2 S.2.2.2.2 gX6_hasForm_X6_takesNumber rfl rfl rfl (by decide +kernel) ⟨Nat.le_of_ble_eq_true rfl, Nat.le_of_ble_eq_true rfl⟩) 0 rfl rfl [0, 1, 2, 3, 4, 5, 6] [] rfl (by decide +kernel) (wr := []) rfl (by decide +kernel) (by decide +kernel) rfl (Nat.le_of_ble_eq_true rfl) dX6_hasForm_109 rfl ⟨Nat.le_refl _, Nat.le_refl _⟩ (fun H locs v_20 x_21 ev_20 ex_21 hw => ?_)
                subst ev_20
                have hw : y_W D cI cC cL A s H locs [((q 0), .inr (6, [.ref (q 1), .ref (q 2), .ref (q 3), .int (u 3 0), .ref (q 4), .int (u 5 0), .ref (q 5), .int (u 7 0), .int (nI ((pT (u 4) L ((pT (u 4) L ((pT (u 4) L (pT (u 4) L a 115) 108) + pNd (u 4) L (pT (u 4) L (pT (u 4) L a 115) 108) 1) 44) + pNd (u 4) L (pT (u 4) L ((pT (u 4) L (pT (u 4) L a 115) 108) + pNd (u 4) L (pT (u 4) L (pT (u 4) L a 115) 108) 1) 44) 5) 44) + pNd (u 4) L (pT (u 4) L ((pT (u 4) L ((pT (u 4) L (pT (u 4) L a 115) 108) + pNd (u 4) L (pT (u 4) L (pT (u 4) L a 115) 108) 1) 44) + pNd (u 4) L (pT (u 4) L ((pT (u 4) L (pT (u 4) L a 115) 108) + pNd (u 4) L (pT (u 4) L (pT (u 4) L a 115) 108) 1) 44) 5) 44) 5)), .int (u 9 0), .int (u 10 0), .int 0, .ref (q 6)])), ((q 1), .inl (cI, 162, .inl (u 0))), ((q 2), .inl (cI, 162, .inl (u 1))), ((q 3), .inl (cI, 648, .inl (u 2))), ((q 4), .inl (cI, 60, .inl (u 4))), ((q 5), .inl (cI, 3, .inl (u 6))), ((q 6), .inl (cI, 3, .inl (upd (upd (upd (u 12) 0 (pNv (u 4) (pT (u 4) L (pT (u 4) L a 115) 108) (pNd (u 4) L (pT (u 4) L (pT (u 4) L a 115) 108) 1))) 1 (pNv (u 4) (pT (u 4) L ((pT (u 4) L (pT (u 4) L a 115) 108) + pNd (u 4) L (pT (u 4) L (pT (u 4) L a 115) 108) 1) 44) (pNd (u 4) L (pT (u 4) L ((pT (u 4) L (pT (u 4) L a 115) 108) + pNd (u 4) L (pT (u 4) L (pT (u 4) L a 115) 108) 1) 44) 5))) 2 (pNv (u 4) (pT (u 4) L ((pT (u 4) L ((pT (u 4) L (pT (u 4) L a 115) 108) + pNd (u 4) L (pT (u 4) L (pT (u 4) L a 115) 108) 1) 44) + pNd (u 4) L (pT (u 4) L ((pT (u 4) L (pT (u 4) L a 115) 108) + pNd (u 4) L (pT (u 4) L (pT (u 4) L a 115) 108) 1) 44) 5) 44) (pNd (u 4) L (pT (u 4) L ((pT (u 4) L ((pT (u 4) L (pT (u 4) L a 115) 108) + pNd (u 4) L (pT (u 4) L (pT (u 4) L a 115) 108) 1) 44) + pNd (u 4) L (pT (u 4) L ((pT (u 4) L (pT (u 4) L a 115) 108) + pNd (u 4) L (pT (u 4) L (pT (u 4) L a 115) 108) 1) 44) 5) 44) 5)))))] := hw
                subst ex_21
                refine y_top (y := (pNf (u 4) L (pT (u 4) L ((pT (u 4) L ((pT (u 4) L (pT (u 4) L a 115) 108) + pNd (u 4) L (pT (u 4) L (pT (u 4) L a 115) 108) 1) 44) + pNd (u 4) L (pT (u 4) L ((pT (u 4) L (pT (u 4) L a 115) 108) + pNd (u 4) L (pT (u 4) L (pT (u 4) L a 115) 108) 1) 44) 5) 44) 5)) rfl ?_
                refine lv_if_eq (tgt := 128) S.1 S.2.1 dX6_hasForm_112 (by decide) (fun c_22 => ?_) (fun c_22 => ?_)
                · skip
                  refine lv_iconst (v := 0) S.1 S.2.1 dX6_hasForm_128 (by decide) ?_
                  have hJ : pForm (u 4) L a (u 12) = (((pT (u 4) L ((pT (u 4) L ((pT (u 4) L (pT (u 4) L a 115) 108) + pNd (u 4) L (pT (u 4) L (pT (u 4) L a 115) 108) 1) 44) + pNd (u 4) L (pT (u 4) L ((pT (u 4) L (pT (u 4) L a 115) 108) + pNd (u 4) L (pT (u 4) L (pT (u 4) L a 115) 108) 1) 44) 5) 44) + pNd (u 4) L (pT (u 4) L ((pT (u 4) L ((pT (u 4) L (pT (u 4) L a 115) 108) + pNd (u 4) L (pT (u 4) L (pT (u 4) L a 115) 108) 1) 44) + pNd (u 4) L (pT (u 4) L ((pT (u 4) L (pT (u 4) L a 115) 108) + pNd (u 4) L (pT (u 4) L (pT (u 4) L a 115) 108) 1) 44) 5) 44) 5), (upd (upd (upd (u 12) 0 (pNv (u 4) (pT (u 4) L (pT (u 4) L a 115) 108) (pNd (u 4) L (pT (u 4) L (pT (u 4) L a 115) 108) 1))) 1 (pNv (u 4) (pT (u 4) L ((pT (u 4) L (pT (u 4) L a 115) 108) + pNd (u 4) L (pT (u 4) L (pT (u 4) L a 115) 108) 1) 44) (pNd (u 4) L (pT (u 4) L ((pT (u 4) L (pT (u 4) L a 115) 108) + pNd (u 4) L (pT (u 4) L (pT (u 4) L a 115) 108) 1) 44) 5))) 2 (pNv (u 4) (pT (u 4) L ((pT (u 4) L ((pT (u 4) L (pT (u 4) L a 115) 108) + pNd (u 4) L (pT (u 4) L (pT (u 4) L a 115) 108) 1) 44) + pNd (u 4) L (pT (u 4) L ((pT (u 4) L (pT (u 4) L a 115) 108) + pNd (u 4) L (pT (u 4) L (pT (u 4) L a 115) 108) 1) 44) 5) 44) (pNd (u 4) L (pT (u 4) L ((pT (u 4) L ((pT (u 4) L (pT (u 4) L a 115) 108) + pNd (u 4) L (pT (u 4) L (pT (u 4) L a 115) 108) 1) 44) + pNd (u 4) L (pT (u 4) L ((pT (u 4) L (pT (u 4) L a 115) 108) + pNd (u 4) L (pT (u 4) L (pT (u 4) L a 115) 108) 1) 44) 5) 44) 5))), 0) := by simp only [pForm, sS, lS, pRun, c_4, c_7, c_10, c_13, c_16, c_19, c_22, ↓reduceIte]
                  have hK : mSort (u 4) L a = 0 := by unfold mSort; rw [if_pos c_1N]
                  exact ret _ _ _ _ _ (by unfold mForm; rw [hJ, hK]; exact hw) (by rw [hJ]) dX6_hasForm_129
                · skip
                  refine lv_aload_n S.1 S.2.1 dX6_hasForm_115 rfl (lv_at hl 0 rfl) ?_
                  refine lv_bipush (v := 59) S.1 S.2.1 dX6_hasForm_116 (by decide) ?_
                  refine y_callI (As := [.int 59]) (rest := []) S hw hl.1 (c_X6_takes l D cI cC cL q (va_up (va_up (va_up u 8 (fun _ => (nI ((pT (u 4) L ((pT (u 4) L ((pT (u 4) L (pT (u 4) L a 115) 108) + pNd (u 4) L (pT (u 4) L (pT (u 4) L a 115) 108) 1) 44) + pNd (u 4) L (pT (u 4) L ((pT (u 4) L (pT (u 4) L a 115) 108) + pNd (u 4) L (pT (u 4) L (pT (u 4) L a 115) 108) 1) 44) 5) 44) + pNd (u 4) L (pT (u 4) L ((pT (u 4) L ((pT (u 4) L (pT (u 4) L a 115) 108) + pNd (u 4) L (pT (u 4) L (pT (u 4) L a 115) 108) 1) 44) + pNd (u 4) L (pT (u 4) L ((pT (u 4) L (pT (u 4) L a 115) 108) + pNd (u 4) L (pT (u 4) L (pT (u 4) L a 115) 108) 1) 44) 5) 44) 5)))) 11 (fun _ => 0)) 12 (upd (upd (upd (u 12) 0 (pNv (u 4) (pT (u 4) L (pT (u 4) L a 115) 108) (pNd (u 4) L (pT (u 4) L (pT (u 4) L a 115) 108) 1))) 1 (pNv (u 4) (pT (u 4) L ((pT (u 4) L (pT (u 4) L a 115) 108) + pNd (u 4) L (pT (u 4) L (pT (u 4) L a 115) 108) 1) 44) (pNd (u 4) L (pT (u 4) L ((pT (u 4) L (pT (u 4) L a 115) 108) + pNd (u 4) L (pT (u 4) L (pT (u 4) L a 115) 108) 1) 44) 5))) 2 (pNv (u 4) (pT (u 4) L ((pT (u 4) L ((pT (u 4) L (pT (u 4) L a 115) 108) + pNd (u 4) L (pT (u 4) L (pT (u 4) L a 115) 108) 1) 44) + pNd (u 4) L (pT (u 4) L ((pT (u 4) L (pT (u 4) L a 115) 108) + pNd (u 4) L (pT (u 4) L (pT (u 4) L a 115) 108) 1) 44) 5) 44) (pNd (u 4) L (pT (u 4) L ((pT (u 4) L ((pT (u 4) L (pT (u 4) L a 115) 108) + pNd (u 4) L (pT (u 4) L (pT (u 4) L a 115) 108) 1) 44) + pNd (u 4) L (pT (u 4) L ((pT (u 4) L (pT (u 4) L a 115) 108) + pNd (u 4) L (pT (u 4) L (pT (u 4) L a 115) 108) 1) 44) 5) 44) 5)))) L ((pT (u 4) L ((pT (u 4) L ((pT (u 4) L (pT (u 4) L a 115) 108) + pNd (u 4) L (pT (u 4) L (pT (u 4) L a 115) 108) 1) 44) + pNd (u 4) L (pT (u 4) L ((pT (u 4) L (pT (u 4) L a 115) 108) + pNd (u 4) L (pT (u 4) L (pT (u 4) L a 115) 108) 1) 44) 5) 44) + pNd (u 4) L (pT (u 4) L ((pT (u 4) L ((pT (u 4) L (pT (u 4) L a 115) 108) + pNd (u 4) L (pT (u 4) L (pT (u 4) L a 115) 108) 1) 44) + pNd (u 4) L (pT (u 4) L ((pT (u 4) L (pT (u 4) L a 115) 108) + pNd (u 4) L (pT (u 4) L (pT (u 4) L a 115) 108) 1) 44) 5) 44) 5) hL (by omega) (rfl) (pNd_L (pT_L (pNd_L (pT_L (pNd_L (pT_L (pT_L (ha2)))))))) 59) (cwV 1 S.2.2.2.2 gX6_hasForm_X6_takes rfl rfl rfl (by decide +kernel) ⟨Nat.le_of_ble_eq_true rfl, Nat.le_of_ble_eq_true rfl⟩) 0 rfl rfl [0, 1, 2, 3, 4, 5, 6] [] rfl (by decide +kernel) (wr := []) rfl (by decide +kernel) (by decide +kernel) rfl (Nat.le_of_ble_eq_true rfl) dX6_hasForm_118 rfl ⟨Nat.le_refl _, Nat.le_refl _⟩ (fun H locs v_23 x_24 ev_23 ex_24 hw => ?_)
                  subst ev_23
                  have hw : y_W D cI cC cL A s H locs [((q 0), .inr (6, [.ref (q 1), .ref (q 2), .ref (q 3), .int (u 3 0), .ref (q 4), .int (u 5 0), .ref (q 5), .int (u 7 0), .int (nI (pT (u 4) L ((pT (u 4) L ((pT (u 4) L ((pT (u 4) L (pT (u 4) L a 115) 108) + pNd (u 4) L (pT (u 4) L (pT (u 4) L a 115) 108) 1) 44) + pNd (u 4) L (pT (u 4) L ((pT (u 4) L (pT (u 4) L a 115) 108) + pNd (u 4) L (pT (u 4) L (pT (u 4) L a 115) 108) 1) 44) 5) 44) + pNd (u 4) L (pT (u 4) L ((pT (u 4) L ((pT (u 4) L (pT (u 4) L a 115) 108) + pNd (u 4) L (pT (u 4) L (pT (u 4) L a 115) 108) 1) 44) + pNd (u 4) L (pT (u 4) L ((pT (u 4) L (pT (u 4) L a 115) 108) + pNd (u 4) L (pT (u 4) L (pT (u 4) L a 115) 108) 1) 44) 5) 44) 5) 59)), .int (u 9 0), .int (u 10 0), .int 0, .ref (q 6)])), ((q 1), .inl (cI, 162, .inl (u 0))), ((q 2), .inl (cI, 162, .inl (u 1))), ((q 3), .inl (cI, 648, .inl (u 2))), ((q 4), .inl (cI, 60, .inl (u 4))), ((q 5), .inl (cI, 3, .inl (u 6))), ((q 6), .inl (cI, 3, .inl (upd (upd (upd (u 12) 0 (pNv (u 4) (pT (u 4) L (pT (u 4) L a 115) 108) (pNd (u 4) L (pT (u 4) L (pT (u 4) L a 115) 108) 1))) 1 (pNv (u 4) (pT (u 4) L ((pT (u 4) L (pT (u 4) L a 115) 108) + pNd (u 4) L (pT (u 4) L (pT (u 4) L a 115) 108) 1) 44) (pNd (u 4) L (pT (u 4) L ((pT (u 4) L (pT (u 4) L a 115) 108) + pNd (u 4) L (pT (u 4) L (pT (u 4) L a 115) 108) 1) 44) 5))) 2 (pNv (u 4) (pT (u 4) L ((pT (u 4) L ((pT (u 4) L (pT (u 4) L a 115) 108) + pNd (u 4) L (pT (u 4) L (pT (u 4) L a 115) 108) 1) 44) + pNd (u 4) L (pT (u 4) L ((pT (u 4) L (pT (u 4) L a 115) 108) + pNd (u 4) L (pT (u 4) L (pT (u 4) L a 115) 108) 1) 44) 5) 44) (pNd (u 4) L (pT (u 4) L ((pT (u 4) L ((pT (u 4) L (pT (u 4) L a 115) 108) + pNd (u 4) L (pT (u 4) L (pT (u 4) L a 115) 108) 1) 44) + pNd (u 4) L (pT (u 4) L ((pT (u 4) L (pT (u 4) L a 115) 108) + pNd (u 4) L (pT (u 4) L (pT (u 4) L a 115) 108) 1) 44) 5) 44) 5)))))] := hw
                  subst ex_24
                  refine y_top (y := (pTf (u 4) L ((pT (u 4) L ((pT (u 4) L ((pT (u 4) L (pT (u 4) L a 115) 108) + pNd (u 4) L (pT (u 4) L (pT (u 4) L a 115) 108) 1) 44) + pNd (u 4) L (pT (u 4) L ((pT (u 4) L (pT (u 4) L a 115) 108) + pNd (u 4) L (pT (u 4) L (pT (u 4) L a 115) 108) 1) 44) 5) 44) + pNd (u 4) L (pT (u 4) L ((pT (u 4) L ((pT (u 4) L (pT (u 4) L a 115) 108) + pNd (u 4) L (pT (u 4) L (pT (u 4) L a 115) 108) 1) 44) + pNd (u 4) L (pT (u 4) L ((pT (u 4) L (pT (u 4) L a 115) 108) + pNd (u 4) L (pT (u 4) L (pT (u 4) L a 115) 108) 1) 44) 5) 44) 5) 59)) rfl ?_
                  refine lv_if_eq (tgt := 128) S.1 S.2.1 dX6_hasForm_121 (by decide) (fun c_25 => ?_) (fun c_25 => ?_)
                  · skip
                    refine lv_iconst (v := 0) S.1 S.2.1 dX6_hasForm_128 (by decide) ?_
                    have hJ : pForm (u 4) L a (u 12) = ((pT (u 4) L ((pT (u 4) L ((pT (u 4) L ((pT (u 4) L (pT (u 4) L a 115) 108) + pNd (u 4) L (pT (u 4) L (pT (u 4) L a 115) 108) 1) 44) + pNd (u 4) L (pT (u 4) L ((pT (u 4) L (pT (u 4) L a 115) 108) + pNd (u 4) L (pT (u 4) L (pT (u 4) L a 115) 108) 1) 44) 5) 44) + pNd (u 4) L (pT (u 4) L ((pT (u 4) L ((pT (u 4) L (pT (u 4) L a 115) 108) + pNd (u 4) L (pT (u 4) L (pT (u 4) L a 115) 108) 1) 44) + pNd (u 4) L (pT (u 4) L ((pT (u 4) L (pT (u 4) L a 115) 108) + pNd (u 4) L (pT (u 4) L (pT (u 4) L a 115) 108) 1) 44) 5) 44) 5) 59), (upd (upd (upd (u 12) 0 (pNv (u 4) (pT (u 4) L (pT (u 4) L a 115) 108) (pNd (u 4) L (pT (u 4) L (pT (u 4) L a 115) 108) 1))) 1 (pNv (u 4) (pT (u 4) L ((pT (u 4) L (pT (u 4) L a 115) 108) + pNd (u 4) L (pT (u 4) L (pT (u 4) L a 115) 108) 1) 44) (pNd (u 4) L (pT (u 4) L ((pT (u 4) L (pT (u 4) L a 115) 108) + pNd (u 4) L (pT (u 4) L (pT (u 4) L a 115) 108) 1) 44) 5))) 2 (pNv (u 4) (pT (u 4) L ((pT (u 4) L ((pT (u 4) L (pT (u 4) L a 115) 108) + pNd (u 4) L (pT (u 4) L (pT (u 4) L a 115) 108) 1) 44) + pNd (u 4) L (pT (u 4) L ((pT (u 4) L (pT (u 4) L a 115) 108) + pNd (u 4) L (pT (u 4) L (pT (u 4) L a 115) 108) 1) 44) 5) 44) (pNd (u 4) L (pT (u 4) L ((pT (u 4) L ((pT (u 4) L (pT (u 4) L a 115) 108) + pNd (u 4) L (pT (u 4) L (pT (u 4) L a 115) 108) 1) 44) + pNd (u 4) L (pT (u 4) L ((pT (u 4) L (pT (u 4) L a 115) 108) + pNd (u 4) L (pT (u 4) L (pT (u 4) L a 115) 108) 1) 44) 5) 44) 5))), 0) := by simp only [pForm, sS, lS, pRun, c_4, c_7, c_10, c_13, c_16, c_19, c_22, c_25, ↓reduceIte]
                    have hK : mSort (u 4) L a = 0 := by unfold mSort; rw [if_pos c_1N]
                    exact ret _ _ _ _ _ (by unfold mForm; rw [hJ, hK]; exact hw) (by rw [hJ]) dX6_hasForm_129
                  · skip
                    refine lv_iconst (v := 1) S.1 S.2.1 dX6_hasForm_124 (by decide) ?_
                    refine lv_goto (tgt := 129) S.1 S.2.1 dX6_hasForm_125 (by decide) ?_
                    have hJ : pForm (u 4) L a (u 12) = ((pT (u 4) L ((pT (u 4) L ((pT (u 4) L ((pT (u 4) L (pT (u 4) L a 115) 108) + pNd (u 4) L (pT (u 4) L (pT (u 4) L a 115) 108) 1) 44) + pNd (u 4) L (pT (u 4) L ((pT (u 4) L (pT (u 4) L a 115) 108) + pNd (u 4) L (pT (u 4) L (pT (u 4) L a 115) 108) 1) 44) 5) 44) + pNd (u 4) L (pT (u 4) L ((pT (u 4) L ((pT (u 4) L (pT (u 4) L a 115) 108) + pNd (u 4) L (pT (u 4) L (pT (u 4) L a 115) 108) 1) 44) + pNd (u 4) L (pT (u 4) L ((pT (u 4) L (pT (u 4) L a 115) 108) + pNd (u 4) L (pT (u 4) L (pT (u 4) L a 115) 108) 1) 44) 5) 44) 5) 59), (upd (upd (upd (u 12) 0 (pNv (u 4) (pT (u 4) L (pT (u 4) L a 115) 108) (pNd (u 4) L (pT (u 4) L (pT (u 4) L a 115) 108) 1))) 1 (pNv (u 4) (pT (u 4) L ((pT (u 4) L (pT (u 4) L a 115) 108) + pNd (u 4) L (pT (u 4) L (pT (u 4) L a 115) 108) 1) 44) (pNd (u 4) L (pT (u 4) L ((pT (u 4) L (pT (u 4) L a 115) 108) + pNd (u 4) L (pT (u 4) L (pT (u 4) L a 115) 108) 1) 44) 5))) 2 (pNv (u 4) (pT (u 4) L ((pT (u 4) L ((pT (u 4) L (pT (u 4) L a 115) 108) + pNd (u 4) L (pT (u 4) L (pT (u 4) L a 115) 108) 1) 44) + pNd (u 4) L (pT (u 4) L ((pT (u 4) L (pT (u 4) L a 115) 108) + pNd (u 4) L (pT (u 4) L (pT (u 4) L a 115) 108) 1) 44) 5) 44) (pNd (u 4) L (pT (u 4) L ((pT (u 4) L ((pT (u 4) L (pT (u 4) L a 115) 108) + pNd (u 4) L (pT (u 4) L (pT (u 4) L a 115) 108) 1) 44) + pNd (u 4) L (pT (u 4) L ((pT (u 4) L (pT (u 4) L a 115) 108) + pNd (u 4) L (pT (u 4) L (pT (u 4) L a 115) 108) 1) 44) 5) 44) 5))), 1) := by simp only [pForm, sS, lS, pRun, c_4, c_7, c_10, c_13, c_16, c_19, c_22, c_25, ↓reduceIte]
                    have hK : mSort (u 4) L a = 0 := by unfold mSort; rw [if_pos c_1N]
                    exact ret _ _ _ _ _ (by unfold mForm; rw [hJ, hK]; exact hw) (by rw [hJ]) dX6_hasForm_129
    · skip
      refine lv_aload_n S.1 S.2.1 dX6_hasForm_37 rfl (lv_at hl 0 rfl) ?_
      refine lv_iconst (v := 0) S.1 S.2.1 dX6_hasForm_38 (by decide) ?_
      refine lv_iconst (v := 5) S.1 S.2.1 dX6_hasForm_39 (by decide) ?_
      refine y_callI (As := [.int 0, .int 5]) (rest := []) S hw hl.1 (c_X6_takesNumber l D cI cC cL q (va_up (va_up u 8 (fun _ => (nI (pT (u 4) L a 115)))) 11 (fun _ => 0)) L (pT (u 4) L a 115) hL (by omega) (rfl) (pT_L (ha2)) 0 5 (by decide) (by decide)) (cwV 2 S.2.2.2.2 gX6_hasForm_X6_takesNumber rfl rfl rfl (by decide +kernel) ⟨Nat.le_of_ble_eq_true rfl, Nat.le_of_ble_eq_true rfl⟩) 0 rfl rfl [0, 1, 2, 3, 4, 5, 6] [] rfl (by decide +kernel) (wr := []) rfl (by decide +kernel) (by decide +kernel) rfl (Nat.le_of_ble_eq_true rfl) dX6_hasForm_40 rfl ⟨Nat.le_refl _, Nat.le_refl _⟩ (fun H locs v_26 x_27 ev_26 ex_27 hw => ?_)
      subst ev_26
      have hw : y_W D cI cC cL A s H locs [((q 0), .inr (6, [.ref (q 1), .ref (q 2), .ref (q 3), .int (u 3 0), .ref (q 4), .int (u 5 0), .ref (q 5), .int (u 7 0), .int (nI ((pT (u 4) L a 115) + pNd (u 4) L (pT (u 4) L a 115) 5)), .int (u 9 0), .int (u 10 0), .int 0, .ref (q 6)])), ((q 1), .inl (cI, 162, .inl (u 0))), ((q 2), .inl (cI, 162, .inl (u 1))), ((q 3), .inl (cI, 648, .inl (u 2))), ((q 4), .inl (cI, 60, .inl (u 4))), ((q 5), .inl (cI, 3, .inl (u 6))), ((q 6), .inl (cI, 3, .inl (upd (u 12) 0 (pNv (u 4) (pT (u 4) L a 115) (pNd (u 4) L (pT (u 4) L a 115) 5)))))] := hw
      subst ex_27
      refine y_top (y := (pNf (u 4) L (pT (u 4) L a 115) 5)) rfl ?_
      refine lv_if_eq (tgt := 59) S.1 S.2.1 dX6_hasForm_43 (by decide) (fun c_28 => ?_) (fun c_28 => ?_)
      · skip
        refine lv_iconst (v := 0) S.1 S.2.1 dX6_hasForm_59 (by decide) ?_
        have hJ : pForm (u 4) L a (u 12) = (((pT (u 4) L a 115) + pNd (u 4) L (pT (u 4) L a 115) 5), (upd (u 12) 0 (pNv (u 4) (pT (u 4) L a 115) (pNd (u 4) L (pT (u 4) L a 115) 5))), 0) := by simp only [pForm, sS, lS, pRun, c_4, c_28, ↓reduceIte]
        have hK : mSort (u 4) L a = 0 := by unfold mSort; rw [if_pos c_1N]
        exact ret _ _ _ _ _ (by unfold mForm; rw [hJ, hK]; exact hw) (by rw [hJ]) dX6_hasForm_60
      · skip
        refine lv_aload_n S.1 S.2.1 dX6_hasForm_46 rfl (lv_at hl 0 rfl) ?_
        refine lv_bipush (v := 59) S.1 S.2.1 dX6_hasForm_47 (by decide) ?_
        refine y_callI (As := [.int 59]) (rest := []) S hw hl.1 (c_X6_takes l D cI cC cL q (va_up (va_up (va_up u 8 (fun _ => (nI ((pT (u 4) L a 115) + pNd (u 4) L (pT (u 4) L a 115) 5)))) 11 (fun _ => 0)) 12 (upd (u 12) 0 (pNv (u 4) (pT (u 4) L a 115) (pNd (u 4) L (pT (u 4) L a 115) 5)))) L ((pT (u 4) L a 115) + pNd (u 4) L (pT (u 4) L a 115) 5) hL (by omega) (rfl) (pNd_L (pT_L (ha2))) 59) (cwV 1 S.2.2.2.2 gX6_hasForm_X6_takes rfl rfl rfl (by decide +kernel) ⟨Nat.le_of_ble_eq_true rfl, Nat.le_of_ble_eq_true rfl⟩) 0 rfl rfl [0, 1, 2, 3, 4, 5, 6] [] rfl (by decide +kernel) (wr := []) rfl (by decide +kernel) (by decide +kernel) rfl (Nat.le_of_ble_eq_true rfl) dX6_hasForm_49 rfl ⟨Nat.le_refl _, Nat.le_refl _⟩ (fun H locs v_29 x_30 ev_29 ex_30 hw => ?_)
        subst ev_29
        have hw : y_W D cI cC cL A s H locs [((q 0), .inr (6, [.ref (q 1), .ref (q 2), .ref (q 3), .int (u 3 0), .ref (q 4), .int (u 5 0), .ref (q 5), .int (u 7 0), .int (nI (pT (u 4) L ((pT (u 4) L a 115) + pNd (u 4) L (pT (u 4) L a 115) 5) 59)), .int (u 9 0), .int (u 10 0), .int 0, .ref (q 6)])), ((q 1), .inl (cI, 162, .inl (u 0))), ((q 2), .inl (cI, 162, .inl (u 1))), ((q 3), .inl (cI, 648, .inl (u 2))), ((q 4), .inl (cI, 60, .inl (u 4))), ((q 5), .inl (cI, 3, .inl (u 6))), ((q 6), .inl (cI, 3, .inl (upd (u 12) 0 (pNv (u 4) (pT (u 4) L a 115) (pNd (u 4) L (pT (u 4) L a 115) 5)))))] := hw
        subst ex_30
        refine y_top (y := (pTf (u 4) L ((pT (u 4) L a 115) + pNd (u 4) L (pT (u 4) L a 115) 5) 59)) rfl ?_
        refine lv_if_eq (tgt := 59) S.1 S.2.1 dX6_hasForm_52 (by decide) (fun c_31 => ?_) (fun c_31 => ?_)
        · skip
          refine lv_iconst (v := 0) S.1 S.2.1 dX6_hasForm_59 (by decide) ?_
          have hJ : pForm (u 4) L a (u 12) = ((pT (u 4) L ((pT (u 4) L a 115) + pNd (u 4) L (pT (u 4) L a 115) 5) 59), (upd (u 12) 0 (pNv (u 4) (pT (u 4) L a 115) (pNd (u 4) L (pT (u 4) L a 115) 5))), 0) := by simp only [pForm, sS, lS, pRun, c_4, c_28, c_31, ↓reduceIte]
          have hK : mSort (u 4) L a = 0 := by unfold mSort; rw [if_pos c_1N]
          exact ret _ _ _ _ _ (by unfold mForm; rw [hJ, hK]; exact hw) (by rw [hJ]) dX6_hasForm_60
        · skip
          refine lv_iconst (v := 1) S.1 S.2.1 dX6_hasForm_55 (by decide) ?_
          refine lv_goto (tgt := 60) S.1 S.2.1 dX6_hasForm_56 (by decide) ?_
          have hJ : pForm (u 4) L a (u 12) = ((pT (u 4) L ((pT (u 4) L a 115) + pNd (u 4) L (pT (u 4) L a 115) 5) 59), (upd (u 12) 0 (pNv (u 4) (pT (u 4) L a 115) (pNd (u 4) L (pT (u 4) L a 115) 5))), 1) := by simp only [pForm, sS, lS, pRun, c_4, c_28, c_31, ↓reduceIte]
          have hK : mSort (u 4) L a = 0 := by unfold mSort; rw [if_pos c_1N]
          exact ret _ _ _ _ _ (by unfold mForm; rw [hJ, hK]; exact hw) (by rw [hJ]) dX6_hasForm_60
  · skip
    have c_1N : ¬ L ≤ a := fun z => c_1 ((nI_leI (a := L) (b := a) (by omega) (by omega)).mpr z)
    refine lv_aload_n S.1 S.2.1 dX6_hasForm_12 rfl (lv_at hl 0 rfl) ?_
    refine y_get S hw (C := RX6) (T := TX6) (N := 13) i_X6_hasForm_X6 0 rfl rfl 4 (by decide) f_X6_hasForm_19 rfl dX6_hasForm_13 ?_
    refine lv_aload_n S.1 S.2.1 dX6_hasForm_16 rfl (lv_at hl 0 rfl) ?_
    refine y_get S hw (C := RX6) (T := TX6) (N := 13) i_X6_hasForm_X6 0 rfl rfl 8 (by decide) f_X6_hasForm_156 rfl dX6_hasForm_17 ?_
    refine y_top (y := (nI a)) (ha) ?_
    refine y_iald S hw 4 (k := a) rfl (by omega) (Nat.le_of_ble_eq_true rfl) dX6_hasForm_20 ?_
    refine lv_goto (tgt := 25) S.1 S.2.1 dX6_hasForm_21 (by decide) ?_
    refine y_put S hw (C := RX6) (T := TX6) (N := 13) i_X6_hasForm_X6 tyX6_ok nmX6 0 rfl rfl 11 (by decide) f_X6_hasForm_159 (by decide +kernel) rfl rfl (Nat.le_of_ble_eq_true rfl) dX6_hasForm_25 (ws' := [((q 0), .inr (6, [.ref (q 1), .ref (q 2), .ref (q 3), .int (u 3 0), .ref (q 4), .int (u 5 0), .ref (q 5), .int (u 7 0), .int (u 8 0), .int (u 9 0), .int (u 10 0), .int ((u 4) a), .ref (q 6)])), ((q 1), .inl (cI, 162, .inl (u 0))), ((q 2), .inl (cI, 162, .inl (u 1))), ((q 3), .inl (cI, 648, .inl (u 2))), ((q 4), .inl (cI, 60, .inl (u 4))), ((q 5), .inl (cI, 3, .inl (u 6))), ((q 6), .inl (cI, 3, .inl (u 12)))]) rfl (fun H locs hw => ?_)
    refine lv_aload_n S.1 S.2.1 dX6_hasForm_28 rfl (lv_at hl 0 rfl) ?_
    refine lv_bipush (v := 115) S.1 S.2.1 dX6_hasForm_29 (by decide) ?_
    refine y_callI (As := [.int 115]) (rest := []) S hw hl.1 (c_X6_takes l D cI cC cL q (va_up u 11 (fun _ => ((u 4) a))) L a hL (by omega) (ha) (ha2) 115) (cwV 1 S.2.2.2.2 gX6_hasForm_X6_takes rfl rfl rfl (by decide +kernel) ⟨Nat.le_of_ble_eq_true rfl, Nat.le_of_ble_eq_true rfl⟩) 0 rfl rfl [0, 1, 2, 3, 4, 5, 6] [] rfl (by decide +kernel) (wr := []) rfl (by decide +kernel) (by decide +kernel) rfl (Nat.le_of_ble_eq_true rfl) dX6_hasForm_31 rfl ⟨Nat.le_refl _, Nat.le_refl _⟩ (fun H locs v_32 x_33 ev_32 ex_33 hw => ?_)
    subst ev_32
    have hw : y_W D cI cC cL A s H locs [((q 0), .inr (6, [.ref (q 1), .ref (q 2), .ref (q 3), .int (u 3 0), .ref (q 4), .int (u 5 0), .ref (q 5), .int (u 7 0), .int (nI (pT (u 4) L a 115)), .int (u 9 0), .int (u 10 0), .int ((u 4) a), .ref (q 6)])), ((q 1), .inl (cI, 162, .inl (u 0))), ((q 2), .inl (cI, 162, .inl (u 1))), ((q 3), .inl (cI, 648, .inl (u 2))), ((q 4), .inl (cI, 60, .inl (u 4))), ((q 5), .inl (cI, 3, .inl (u 6))), ((q 6), .inl (cI, 3, .inl (u 12)))] := hw
    subst ex_33
    refine y_top (y := (pTf (u 4) L a 115)) rfl ?_
    refine lv_if_eq (tgt := 61) S.1 S.2.1 dX6_hasForm_34 (by decide) (fun c_34 => ?_) (fun c_34 => ?_)
    · skip
      refine lv_aload_n S.1 S.2.1 dX6_hasForm_61 rfl (lv_at hl 0 rfl) ?_
      refine lv_bipush (v := 108) S.1 S.2.1 dX6_hasForm_62 (by decide) ?_
      refine y_callI (As := [.int 108]) (rest := []) S hw hl.1 (c_X6_takes l D cI cC cL q (va_up (va_up u 8 (fun _ => (nI (pT (u 4) L a 115)))) 11 (fun _ => ((u 4) a))) L (pT (u 4) L a 115) hL (by omega) (rfl) (pT_L (ha2)) 108) (cwV 1 S.2.2.2.2 gX6_hasForm_X6_takes rfl rfl rfl (by decide +kernel) ⟨Nat.le_of_ble_eq_true rfl, Nat.le_of_ble_eq_true rfl⟩) 0 rfl rfl [0, 1, 2, 3, 4, 5, 6] [] rfl (by decide +kernel) (wr := []) rfl (by decide +kernel) (by decide +kernel) rfl (Nat.le_of_ble_eq_true rfl) dX6_hasForm_64 rfl ⟨Nat.le_refl _, Nat.le_refl _⟩ (fun H locs v_35 x_36 ev_35 ex_36 hw => ?_)
      subst ev_35
      have hw : y_W D cI cC cL A s H locs [((q 0), .inr (6, [.ref (q 1), .ref (q 2), .ref (q 3), .int (u 3 0), .ref (q 4), .int (u 5 0), .ref (q 5), .int (u 7 0), .int (nI (pT (u 4) L (pT (u 4) L a 115) 108)), .int (u 9 0), .int (u 10 0), .int ((u 4) a), .ref (q 6)])), ((q 1), .inl (cI, 162, .inl (u 0))), ((q 2), .inl (cI, 162, .inl (u 1))), ((q 3), .inl (cI, 648, .inl (u 2))), ((q 4), .inl (cI, 60, .inl (u 4))), ((q 5), .inl (cI, 3, .inl (u 6))), ((q 6), .inl (cI, 3, .inl (u 12)))] := hw
      subst ex_36
      refine y_top (y := (pTf (u 4) L (pT (u 4) L a 115) 108)) rfl ?_
      refine lv_if_eq (tgt := 128) S.1 S.2.1 dX6_hasForm_67 (by decide) (fun c_37 => ?_) (fun c_37 => ?_)
      · skip
        refine lv_iconst (v := 0) S.1 S.2.1 dX6_hasForm_128 (by decide) ?_
        have hJ : pForm (u 4) L a (u 12) = ((pT (u 4) L (pT (u 4) L a 115) 108), (u 12), 0) := by simp only [pForm, sS, lS, pRun, c_34, c_37, ↓reduceIte]
        have hK : mSort (u 4) L a = ((u 4) a) := by unfold mSort; rw [if_neg c_1N]
        exact ret _ _ _ _ _ (by unfold mForm; rw [hJ, hK]; exact hw) (by rw [hJ]) dX6_hasForm_129
      · skip
        refine lv_aload_n S.1 S.2.1 dX6_hasForm_70 rfl (lv_at hl 0 rfl) ?_
        refine lv_iconst (v := 0) S.1 S.2.1 dX6_hasForm_71 (by decide) ?_
        refine lv_iconst (v := 1) S.1 S.2.1 dX6_hasForm_72 (by decide) ?_
        refine y_callI (As := [.int 0, .int 1]) (rest := []) S hw hl.1 (c_X6_takesNumber l D cI cC cL q (va_up (va_up u 8 (fun _ => (nI (pT (u 4) L (pT (u 4) L a 115) 108)))) 11 (fun _ => ((u 4) a))) L (pT (u 4) L (pT (u 4) L a 115) 108) hL (by omega) (rfl) (pT_L (pT_L (ha2))) 0 1 (by decide) (by decide)) (cwV 2 S.2.2.2.2 gX6_hasForm_X6_takesNumber rfl rfl rfl (by decide +kernel) ⟨Nat.le_of_ble_eq_true rfl, Nat.le_of_ble_eq_true rfl⟩) 0 rfl rfl [0, 1, 2, 3, 4, 5, 6] [] rfl (by decide +kernel) (wr := []) rfl (by decide +kernel) (by decide +kernel) rfl (Nat.le_of_ble_eq_true rfl) dX6_hasForm_73 rfl ⟨Nat.le_refl _, Nat.le_refl _⟩ (fun H locs v_38 x_39 ev_38 ex_39 hw => ?_)
        subst ev_38
        have hw : y_W D cI cC cL A s H locs [((q 0), .inr (6, [.ref (q 1), .ref (q 2), .ref (q 3), .int (u 3 0), .ref (q 4), .int (u 5 0), .ref (q 5), .int (u 7 0), .int (nI ((pT (u 4) L (pT (u 4) L a 115) 108) + pNd (u 4) L (pT (u 4) L (pT (u 4) L a 115) 108) 1)), .int (u 9 0), .int (u 10 0), .int ((u 4) a), .ref (q 6)])), ((q 1), .inl (cI, 162, .inl (u 0))), ((q 2), .inl (cI, 162, .inl (u 1))), ((q 3), .inl (cI, 648, .inl (u 2))), ((q 4), .inl (cI, 60, .inl (u 4))), ((q 5), .inl (cI, 3, .inl (u 6))), ((q 6), .inl (cI, 3, .inl (upd (u 12) 0 (pNv (u 4) (pT (u 4) L (pT (u 4) L a 115) 108) (pNd (u 4) L (pT (u 4) L (pT (u 4) L a 115) 108) 1)))))] := hw
        subst ex_39
        refine y_top (y := (pNf (u 4) L (pT (u 4) L (pT (u 4) L a 115) 108) 1)) rfl ?_
        refine lv_if_eq (tgt := 128) S.1 S.2.1 dX6_hasForm_76 (by decide) (fun c_40 => ?_) (fun c_40 => ?_)
        · skip
          refine lv_iconst (v := 0) S.1 S.2.1 dX6_hasForm_128 (by decide) ?_
          have hJ : pForm (u 4) L a (u 12) = (((pT (u 4) L (pT (u 4) L a 115) 108) + pNd (u 4) L (pT (u 4) L (pT (u 4) L a 115) 108) 1), (upd (u 12) 0 (pNv (u 4) (pT (u 4) L (pT (u 4) L a 115) 108) (pNd (u 4) L (pT (u 4) L (pT (u 4) L a 115) 108) 1))), 0) := by simp only [pForm, sS, lS, pRun, c_34, c_37, c_40, ↓reduceIte]
          have hK : mSort (u 4) L a = ((u 4) a) := by unfold mSort; rw [if_neg c_1N]
          exact ret _ _ _ _ _ (by unfold mForm; rw [hJ, hK]; exact hw) (by rw [hJ]) dX6_hasForm_129
        · skip
          refine lv_aload_n S.1 S.2.1 dX6_hasForm_79 rfl (lv_at hl 0 rfl) ?_
          refine lv_bipush (v := 44) S.1 S.2.1 dX6_hasForm_80 (by decide) ?_
          refine y_callI (As := [.int 44]) (rest := []) S hw hl.1 (c_X6_takes l D cI cC cL q (va_up (va_up (va_up u 8 (fun _ => (nI ((pT (u 4) L (pT (u 4) L a 115) 108) + pNd (u 4) L (pT (u 4) L (pT (u 4) L a 115) 108) 1)))) 11 (fun _ => ((u 4) a))) 12 (upd (u 12) 0 (pNv (u 4) (pT (u 4) L (pT (u 4) L a 115) 108) (pNd (u 4) L (pT (u 4) L (pT (u 4) L a 115) 108) 1)))) L ((pT (u 4) L (pT (u 4) L a 115) 108) + pNd (u 4) L (pT (u 4) L (pT (u 4) L a 115) 108) 1) hL (by omega) (rfl) (pNd_L (pT_L (pT_L (ha2)))) 44) (cwV 1 S.2.2.2.2 gX6_hasForm_X6_takes rfl rfl rfl (by decide +kernel) ⟨Nat.le_of_ble_eq_true rfl, Nat.le_of_ble_eq_true rfl⟩) 0 rfl rfl [0, 1, 2, 3, 4, 5, 6] [] rfl (by decide +kernel) (wr := []) rfl (by decide +kernel) (by decide +kernel) rfl (Nat.le_of_ble_eq_true rfl) dX6_hasForm_82 rfl ⟨Nat.le_refl _, Nat.le_refl _⟩ (fun H locs v_41 x_42 ev_41 ex_42 hw => ?_)
          subst ev_41
          have hw : y_W D cI cC cL A s H locs [((q 0), .inr (6, [.ref (q 1), .ref (q 2), .ref (q 3), .int (u 3 0), .ref (q 4), .int (u 5 0), .ref (q 5), .int (u 7 0), .int (nI (pT (u 4) L ((pT (u 4) L (pT (u 4) L a 115) 108) + pNd (u 4) L (pT (u 4) L (pT (u 4) L a 115) 108) 1) 44)), .int (u 9 0), .int (u 10 0), .int ((u 4) a), .ref (q 6)])), ((q 1), .inl (cI, 162, .inl (u 0))), ((q 2), .inl (cI, 162, .inl (u 1))), ((q 3), .inl (cI, 648, .inl (u 2))), ((q 4), .inl (cI, 60, .inl (u 4))), ((q 5), .inl (cI, 3, .inl (u 6))), ((q 6), .inl (cI, 3, .inl (upd (u 12) 0 (pNv (u 4) (pT (u 4) L (pT (u 4) L a 115) 108) (pNd (u 4) L (pT (u 4) L (pT (u 4) L a 115) 108) 1)))))] := hw
          subst ex_42
          refine y_top (y := (pTf (u 4) L ((pT (u 4) L (pT (u 4) L a 115) 108) + pNd (u 4) L (pT (u 4) L (pT (u 4) L a 115) 108) 1) 44)) rfl ?_
          refine lv_if_eq (tgt := 128) S.1 S.2.1 dX6_hasForm_85 (by decide) (fun c_43 => ?_) (fun c_43 => ?_)
          · skip
            refine lv_iconst (v := 0) S.1 S.2.1 dX6_hasForm_128 (by decide) ?_
            have hJ : pForm (u 4) L a (u 12) = ((pT (u 4) L ((pT (u 4) L (pT (u 4) L a 115) 108) + pNd (u 4) L (pT (u 4) L (pT (u 4) L a 115) 108) 1) 44), (upd (u 12) 0 (pNv (u 4) (pT (u 4) L (pT (u 4) L a 115) 108) (pNd (u 4) L (pT (u 4) L (pT (u 4) L a 115) 108) 1))), 0) := by simp only [pForm, sS, lS, pRun, c_34, c_37, c_40, c_43, ↓reduceIte]
            have hK : mSort (u 4) L a = ((u 4) a) := by unfold mSort; rw [if_neg c_1N]
            exact ret _ _ _ _ _ (by unfold mForm; rw [hJ, hK]; exact hw) (by rw [hJ]) dX6_hasForm_129
          · skip
            refine lv_aload_n S.1 S.2.1 dX6_hasForm_88 rfl (lv_at hl 0 rfl) ?_
            refine lv_iconst (v := 1) S.1 S.2.1 dX6_hasForm_89 (by decide) ?_
            refine lv_iconst (v := 5) S.1 S.2.1 dX6_hasForm_90 (by decide) ?_
            refine y_callI (As := [.int 1, .int 5]) (rest := []) S hw hl.1 (c_X6_takesNumber l D cI cC cL q (va_up (va_up (va_up u 8 (fun _ => (nI (pT (u 4) L ((pT (u 4) L (pT (u 4) L a 115) 108) + pNd (u 4) L (pT (u 4) L (pT (u 4) L a 115) 108) 1) 44)))) 11 (fun _ => ((u 4) a))) 12 (upd (u 12) 0 (pNv (u 4) (pT (u 4) L (pT (u 4) L a 115) 108) (pNd (u 4) L (pT (u 4) L (pT (u 4) L a 115) 108) 1)))) L (pT (u 4) L ((pT (u 4) L (pT (u 4) L a 115) 108) + pNd (u 4) L (pT (u 4) L (pT (u 4) L a 115) 108) 1) 44) hL (by omega) (rfl) (pT_L (pNd_L (pT_L (pT_L (ha2))))) 1 5 (by decide) (by decide)) (cwV 2 S.2.2.2.2 gX6_hasForm_X6_takesNumber rfl rfl rfl (by decide +kernel) ⟨Nat.le_of_ble_eq_true rfl, Nat.le_of_ble_eq_true rfl⟩) 0 rfl rfl [0, 1, 2, 3, 4, 5, 6] [] rfl (by decide +kernel) (wr := []) rfl (by decide +kernel) (by decide +kernel) rfl (Nat.le_of_ble_eq_true rfl) dX6_hasForm_91 rfl ⟨Nat.le_refl _, Nat.le_refl _⟩ (fun H locs v_44 x_45 ev_44 ex_45 hw => ?_)
            subst ev_44
            have hw : y_W D cI cC cL A s H locs [((q 0), .inr (6, [.ref (q 1), .ref (q 2), .ref (q 3), .int (u 3 0), .ref (q 4), .int (u 5 0), .ref (q 5), .int (u 7 0), .int (nI ((pT (u 4) L ((pT (u 4) L (pT (u 4) L a 115) 108) + pNd (u 4) L (pT (u 4) L (pT (u 4) L a 115) 108) 1) 44) + pNd (u 4) L (pT (u 4) L ((pT (u 4) L (pT (u 4) L a 115) 108) + pNd (u 4) L (pT (u 4) L (pT (u 4) L a 115) 108) 1) 44) 5)), .int (u 9 0), .int (u 10 0), .int ((u 4) a), .ref (q 6)])), ((q 1), .inl (cI, 162, .inl (u 0))), ((q 2), .inl (cI, 162, .inl (u 1))), ((q 3), .inl (cI, 648, .inl (u 2))), ((q 4), .inl (cI, 60, .inl (u 4))), ((q 5), .inl (cI, 3, .inl (u 6))), ((q 6), .inl (cI, 3, .inl (upd (upd (u 12) 0 (pNv (u 4) (pT (u 4) L (pT (u 4) L a 115) 108) (pNd (u 4) L (pT (u 4) L (pT (u 4) L a 115) 108) 1))) 1 (pNv (u 4) (pT (u 4) L ((pT (u 4) L (pT (u 4) L a 115) 108) + pNd (u 4) L (pT (u 4) L (pT (u 4) L a 115) 108) 1) 44) (pNd (u 4) L (pT (u 4) L ((pT (u 4) L (pT (u 4) L a 115) 108) + pNd (u 4) L (pT (u 4) L (pT (u 4) L a 115) 108) 1) 44) 5)))))] := hw
            subst ex_45
            refine y_top (y := (pNf (u 4) L (pT (u 4) L ((pT (u 4) L (pT (u 4) L a 115) 108) + pNd (u 4) L (pT (u 4) L (pT (u 4) L a 115) 108) 1) 44) 5)) rfl ?_
            refine lv_if_eq (tgt := 128) S.1 S.2.1 dX6_hasForm_94 (by decide) (fun c_46 => ?_) (fun c_46 => ?_)
            · skip
              refine lv_iconst (v := 0) S.1 S.2.1 dX6_hasForm_128 (by decide) ?_
              have hJ : pForm (u 4) L a (u 12) = (((pT (u 4) L ((pT (u 4) L (pT (u 4) L a 115) 108) + pNd (u 4) L (pT (u 4) L (pT (u 4) L a 115) 108) 1) 44) + pNd (u 4) L (pT (u 4) L ((pT (u 4) L (pT (u 4) L a 115) 108) + pNd (u 4) L (pT (u 4) L (pT (u 4) L a 115) 108) 1) 44) 5), (upd (upd (u 12) 0 (pNv (u 4) (pT (u 4) L (pT (u 4) L a 115) 108) (pNd (u 4) L (pT (u 4) L (pT (u 4) L a 115) 108) 1))) 1 (pNv (u 4) (pT (u 4) L ((pT (u 4) L (pT (u 4) L a 115) 108) + pNd (u 4) L (pT (u 4) L (pT (u 4) L a 115) 108) 1) 44) (pNd (u 4) L (pT (u 4) L ((pT (u 4) L (pT (u 4) L a 115) 108) + pNd (u 4) L (pT (u 4) L (pT (u 4) L a 115) 108) 1) 44) 5))), 0) := by simp only [pForm, sS, lS, pRun, c_34, c_37, c_40, c_43, c_46, ↓reduceIte]
              have hK : mSort (u 4) L a = ((u 4) a) := by unfold mSort; rw [if_neg c_1N]
              exact ret _ _ _ _ _ (by unfold mForm; rw [hJ, hK]; exact hw) (by rw [hJ]) dX6_hasForm_129
            · skip
              refine lv_aload_n S.1 S.2.1 dX6_hasForm_97 rfl (lv_at hl 0 rfl) ?_
              refine lv_bipush (v := 44) S.1 S.2.1 dX6_hasForm_98 (by decide) ?_
              refine y_callI (As := [.int 44]) (rest := []) S hw hl.1 (c_X6_takes l D cI cC cL q (va_up (va_up (va_up u 8 (fun _ => (nI ((pT (u 4) L ((pT (u 4) L (pT (u 4) L a 115) 108) + pNd (u 4) L (pT (u 4) L (pT (u 4) L a 115) 108) 1) 44) + pNd (u 4) L (pT (u 4) L ((pT (u 4) L (pT (u 4) L a 115) 108) + pNd (u 4) L (pT (u 4) L (pT (u 4) L a 115) 108) 1) 44) 5)))) 11 (fun _ => ((u 4) a))) 12 (upd (upd (u 12) 0 (pNv (u 4) (pT (u 4) L (pT (u 4) L a 115) 108) (pNd (u 4) L (pT (u 4) L (pT (u 4) L a 115) 108) 1))) 1 (pNv (u 4) (pT (u 4) L ((pT (u 4) L (pT (u 4) L a 115) 108) + pNd (u 4) L (pT (u 4) L (pT (u 4) L a 115) 108) 1) 44) (pNd (u 4) L (pT (u 4) L ((pT (u 4) L (pT (u 4) L a 115) 108) + pNd (u 4) L (pT (u 4) L (pT (u 4) L a 115) 108) 1) 44) 5)))) L ((pT (u 4) L ((pT (u 4) L (pT (u 4) L a 115) 108) + pNd (u 4) L (pT (u 4) L (pT (u 4) L a 115) 108) 1) 44) + pNd (u 4) L (pT (u 4) L ((pT (u 4) L (pT (u 4) L a 115) 108) + pNd (u 4) L (pT (u 4) L (pT (u 4) L a 115) 108) 1) 44) 5) hL (by omega) (rfl) (pNd_L (pT_L (pNd_L (pT_L (pT_L (ha2)))))) 44) (cwV 1 S.2.2.2.2 gX6_hasForm_X6_takes rfl rfl rfl (by decide +kernel) ⟨Nat.le_of_ble_eq_true rfl, Nat.le_of_ble_eq_true rfl⟩) 0 rfl rfl [0, 1, 2, 3, 4, 5, 6] [] rfl (by decide +kernel) (wr := []) rfl (by decide +kernel) (by decide +kernel) rfl (Nat.le_of_ble_eq_true rfl) dX6_hasForm_100 rfl ⟨Nat.le_refl _, Nat.le_refl _⟩ (fun H locs v_47 x_48 ev_47 ex_48 hw => ?_)
              subst ev_47
              have hw : y_W D cI cC cL A s H locs [((q 0), .inr (6, [.ref (q 1), .ref (q 2), .ref (q 3), .int (u 3 0), .ref (q 4), .int (u 5 0), .ref (q 5), .int (u 7 0), .int (nI (pT (u 4) L ((pT (u 4) L ((pT (u 4) L (pT (u 4) L a 115) 108) + pNd (u 4) L (pT (u 4) L (pT (u 4) L a 115) 108) 1) 44) + pNd (u 4) L (pT (u 4) L ((pT (u 4) L (pT (u 4) L a 115) 108) + pNd (u 4) L (pT (u 4) L (pT (u 4) L a 115) 108) 1) 44) 5) 44)), .int (u 9 0), .int (u 10 0), .int ((u 4) a), .ref (q 6)])), ((q 1), .inl (cI, 162, .inl (u 0))), ((q 2), .inl (cI, 162, .inl (u 1))), ((q 3), .inl (cI, 648, .inl (u 2))), ((q 4), .inl (cI, 60, .inl (u 4))), ((q 5), .inl (cI, 3, .inl (u 6))), ((q 6), .inl (cI, 3, .inl (upd (upd (u 12) 0 (pNv (u 4) (pT (u 4) L (pT (u 4) L a 115) 108) (pNd (u 4) L (pT (u 4) L (pT (u 4) L a 115) 108) 1))) 1 (pNv (u 4) (pT (u 4) L ((pT (u 4) L (pT (u 4) L a 115) 108) + pNd (u 4) L (pT (u 4) L (pT (u 4) L a 115) 108) 1) 44) (pNd (u 4) L (pT (u 4) L ((pT (u 4) L (pT (u 4) L a 115) 108) + pNd (u 4) L (pT (u 4) L (pT (u 4) L a 115) 108) 1) 44) 5)))))] := hw
              subst ex_48
              refine y_top (y := (pTf (u 4) L ((pT (u 4) L ((pT (u 4) L (pT (u 4) L a 115) 108) + pNd (u 4) L (pT (u 4) L (pT (u 4) L a 115) 108) 1) 44) + pNd (u 4) L (pT (u 4) L ((pT (u 4) L (pT (u 4) L a 115) 108) + pNd (u 4) L (pT (u 4) L (pT (u 4) L a 115) 108) 1) 44) 5) 44)) rfl ?_
              refine lv_if_eq (tgt := 128) S.1 S.2.1 dX6_hasForm_103 (by decide) (fun c_49 => ?_) (fun c_49 => ?_)
              · skip
                refine lv_iconst (v := 0) S.1 S.2.1 dX6_hasForm_128 (by decide) ?_
                have hJ : pForm (u 4) L a (u 12) = ((pT (u 4) L ((pT (u 4) L ((pT (u 4) L (pT (u 4) L a 115) 108) + pNd (u 4) L (pT (u 4) L (pT (u 4) L a 115) 108) 1) 44) + pNd (u 4) L (pT (u 4) L ((pT (u 4) L (pT (u 4) L a 115) 108) + pNd (u 4) L (pT (u 4) L (pT (u 4) L a 115) 108) 1) 44) 5) 44), (upd (upd (u 12) 0 (pNv (u 4) (pT (u 4) L (pT (u 4) L a 115) 108) (pNd (u 4) L (pT (u 4) L (pT (u 4) L a 115) 108) 1))) 1 (pNv (u 4) (pT (u 4) L ((pT (u 4) L (pT (u 4) L a 115) 108) + pNd (u 4) L (pT (u 4) L (pT (u 4) L a 115) 108) 1) 44) (pNd (u 4) L (pT (u 4) L ((pT (u 4) L (pT (u 4) L a 115) 108) + pNd (u 4) L (pT (u 4) L (pT (u 4) L a 115) 108) 1) 44) 5))), 0) := by simp only [pForm, sS, lS, pRun, c_34, c_37, c_40, c_43, c_46, c_49, ↓reduceIte]
                have hK : mSort (u 4) L a = ((u 4) a) := by unfold mSort; rw [if_neg c_1N]
                exact ret _ _ _ _ _ (by unfold mForm; rw [hJ, hK]; exact hw) (by rw [hJ]) dX6_hasForm_129
              · skip
                refine lv_aload_n S.1 S.2.1 dX6_hasForm_106 rfl (lv_at hl 0 rfl) ?_
                refine lv_iconst (v := 2) S.1 S.2.1 dX6_hasForm_107 (by decide) ?_
                refine lv_iconst (v := 5) S.1 S.2.1 dX6_hasForm_108 (by decide) ?_
                refine y_callI (As := [.int 2, .int 5]) (rest := []) S hw hl.1 (c_X6_takesNumber l D cI cC cL q (va_up (va_up (va_up u 8 (fun _ => (nI (pT (u 4) L ((pT (u 4) L ((pT (u 4) L (pT (u 4) L a 115) 108) + pNd (u 4) L (pT (u 4) L (pT (u 4) L a 115) 108) 1) 44) + pNd (u 4) L (pT (u 4) L ((pT (u 4) L (pT (u 4) L a 115) 108) + pNd (u 4) L (pT (u 4) L (pT (u 4) L a 115) 108) 1) 44) 5) 44)))) 11 (fun _ => ((u 4) a))) 12 (upd (upd (u 12) 0 (pNv (u 4) (pT (u 4) L (pT (u 4) L a 115) 108) (pNd (u 4) L (pT (u 4) L (pT (u 4) L a 115) 108) 1))) 1 (pNv (u 4) (pT (u 4) L ((pT (u 4) L (pT (u 4) L a 115) 108) + pNd (u 4) L (pT (u 4) L (pT (u 4) L a 115) 108) 1) 44) (pNd (u 4) L (pT (u 4) L ((pT (u 4) L (pT (u 4) L a 115) 108) + pNd (u 4) L (pT (u 4) L (pT (u 4) L a 115) 108) 1) 44) 5)))) L (pT (u 4) L ((pT (u 4) L ((pT (u 4) L (pT (u 4) L a 115) 108) + pNd (u 4) L (pT (u 4) L (pT (u 4) L a 115) 108) 1) 44) + pNd (u 4) L (pT (u 4) L ((pT (u 4) L (pT (u 4) L a 115) 108) + pNd (u 4) L (pT (u 4) L (pT (u 4) L a 115) 108) 1) 44) 5) 44) hL (by omega) (rfl) (pT_L (pNd_L (pT_L (pNd_L (pT_L (pT_L (ha2))))))) 2 5 (by decide) (by decide)) (cwV 2 S.2.2.2.2 gX6_hasForm_X6_takesNumber rfl rfl rfl (by decide +kernel) ⟨Nat.le_of_ble_eq_true rfl, Nat.le_of_ble_eq_true rfl⟩) 0 rfl rfl [0, 1, 2, 3, 4, 5, 6] [] rfl (by decide +kernel) (wr := []) rfl (by decide +kernel) (by decide +kernel) rfl (Nat.le_of_ble_eq_true rfl) dX6_hasForm_109 rfl ⟨Nat.le_refl _, Nat.le_refl _⟩ (fun H locs v_50 x_51 ev_50 ex_51 hw => ?_)
                subst ev_50
                have hw : y_W D cI cC cL A s H locs [((q 0), .inr (6, [.ref (q 1), .ref (q 2), .ref (q 3), .int (u 3 0), .ref (q 4), .int (u 5 0), .ref (q 5), .int (u 7 0), .int (nI ((pT (u 4) L ((pT (u 4) L ((pT (u 4) L (pT (u 4) L a 115) 108) + pNd (u 4) L (pT (u 4) L (pT (u 4) L a 115) 108) 1) 44) + pNd (u 4) L (pT (u 4) L ((pT (u 4) L (pT (u 4) L a 115) 108) + pNd (u 4) L (pT (u 4) L (pT (u 4) L a 115) 108) 1) 44) 5) 44) + pNd (u 4) L (pT (u 4) L ((pT (u 4) L ((pT (u 4) L (pT (u 4) L a 115) 108) + pNd (u 4) L (pT (u 4) L (pT (u 4) L a 115) 108) 1) 44) + pNd (u 4) L (pT (u 4) L ((pT (u 4) L (pT (u 4) L a 115) 108) + pNd (u 4) L (pT (u 4) L (pT (u 4) L a 115) 108) 1) 44) 5) 44) 5)), .int (u 9 0), .int (u 10 0), .int ((u 4) a), .ref (q 6)])), ((q 1), .inl (cI, 162, .inl (u 0))), ((q 2), .inl (cI, 162, .inl (u 1))), ((q 3), .inl (cI, 648, .inl (u 2))), ((q 4), .inl (cI, 60, .inl (u 4))), ((q 5), .inl (cI, 3, .inl (u 6))), ((q 6), .inl (cI, 3, .inl (upd (upd (upd (u 12) 0 (pNv (u 4) (pT (u 4) L (pT (u 4) L a 115) 108) (pNd (u 4) L (pT (u 4) L (pT (u 4) L a 115) 108) 1))) 1 (pNv (u 4) (pT (u 4) L ((pT (u 4) L (pT (u 4) L a 115) 108) + pNd (u 4) L (pT (u 4) L (pT (u 4) L a 115) 108) 1) 44) (pNd (u 4) L (pT (u 4) L ((pT (u 4) L (pT (u 4) L a 115) 108) + pNd (u 4) L (pT (u 4) L (pT (u 4) L a 115) 108) 1) 44) 5))) 2 (pNv (u 4) (pT (u 4) L ((pT (u 4) L ((pT (u 4) L (pT (u 4) L a 115) 108) + pNd (u 4) L (pT (u 4) L (pT (u 4) L a 115) 108) 1) 44) + pNd (u 4) L (pT (u 4) L ((pT (u 4) L (pT (u 4) L a 115) 108) + pNd (u 4) L (pT (u 4) L (pT (u 4) L a 115) 108) 1) 44) 5) 44) (pNd (u 4) L (pT (u 4) L ((pT (u 4) L ((pT (u 4) L (pT (u 4) L a 115) 108) + pNd (u 4) L (pT (u 4) L (pT (u 4) L a 115) 108) 1) 44) + pNd (u 4) L (pT (u 4) L ((pT (u 4) L (pT (u 4) L a 115) 108) + pNd (u 4) L (pT (u 4) L (pT (u 4) L a 115) 108) 1) 44) 5) 44) 5)))))] := hw
                subst ex_51
                refine y_top (y := (pNf (u 4) L (pT (u 4) L ((pT (u 4) L ((pT (u 4) L (pT (u 4) L a 115) 108) + pNd (u 4) L (pT (u 4) L (pT (u 4) L a 115) 108) 1) 44) + pNd (u 4) L (pT (u 4) L ((pT (u 4) L (pT (u 4) L a 115) 108) + pNd (u 4) L (pT (u 4) L (pT (u 4) L a 115) 108) 1) 44) 5) 44) 5)) rfl ?_
                refine lv_if_eq (tgt := 128) S.1 S.2.1 dX6_hasForm_112 (by decide) (fun c_52 => ?_) (fun c_52 => ?_)
                · skip
                  refine lv_iconst (v := 0) S.1 S.2.1 dX6_hasForm_128 (by decide) ?_
                  have hJ : pForm (u 4) L a (u 12) = (((pT (u 4) L ((pT (u 4) L ((pT (u 4) L (pT (u 4) L a 115) 108) + pNd (u 4) L (pT (u 4) L (pT (u 4) L a 115) 108) 1) 44) + pNd (u 4) L (pT (u 4) L ((pT (u 4) L (pT (u 4) L a 115) 108) + pNd (u 4) L (pT (u 4) L (pT (u 4) L a 115) 108) 1) 44) 5) 44) + pNd (u 4) L (pT (u 4) L ((pT (u 4) L ((pT (u 4) L (pT (u 4) L a 115) 108) + pNd (u 4) L (pT (u 4) L (pT (u 4) L a 115) 108) 1) 44) + pNd (u 4) L (pT (u 4) L ((pT (u 4) L (pT (u 4) L a 115) 108) + pNd (u 4) L (pT (u 4) L (pT (u 4) L a 115) 108) 1) 44) 5) 44) 5), (upd (upd (upd (u 12) 0 (pNv (u 4) (pT (u 4) L (pT (u 4) L a 115) 108) (pNd (u 4) L (pT (u 4) L (pT (u 4) L a 115) 108) 1))) 1 (pNv (u 4) (pT (u 4) L ((pT (u 4) L (pT (u 4) L a 115) 108) + pNd (u 4) L (pT (u 4) L (pT (u 4) L a 115) 108) 1) 44) (pNd (u 4) L (pT (u 4) L ((pT (u 4) L (pT (u 4) L a 115) 108) + pNd (u 4) L (pT (u 4) L (pT (u 4) L a 115) 108) 1) 44) 5))) 2 (pNv (u 4) (pT (u 4) L ((pT (u 4) L ((pT (u 4) L (pT (u 4) L a 115) 108) + pNd (u 4) L (pT (u 4) L (pT (u 4) L a 115) 108) 1) 44) + pNd (u 4) L (pT (u 4) L ((pT (u 4) L (pT (u 4) L a 115) 108) + pNd (u 4) L (pT (u 4) L (pT (u 4) L a 115) 108) 1) 44) 5) 44) (pNd (u 4) L (pT (u 4) L ((pT (u 4) L ((pT (u 4) L (pT (u 4) L a 115) 108) + pNd (u 4) L (pT (u 4) L (pT (u 4) L a 115) 108) 1) 44) + pNd (u 4) L (pT (u 4) L ((pT (u 4) L (pT (u 4) L a 115) 108) + pNd (u 4) L (pT (u 4) L (pT (u 4) L a 115) 108) 1) 44) 5) 44) 5))), 0) := by simp only [pForm, sS, lS, pRun, c_34, c_37, c_40, c_43, c_46, c_49, c_52, ↓reduceIte]
                  have hK : mSort (u 4) L a = ((u 4) a) := by unfold mSort; rw [if_neg c_1N]
                  exact ret _ _ _ _ _ (by unfold mForm; rw [hJ, hK]; exact hw) (by rw [hJ]) dX6_hasForm_129
                · skip
                  refine lv_aload_n S.1 S.2.1 dX6_hasForm_115 rfl (lv_at hl 0 rfl) ?_
                  refine lv_bipush (v := 59) S.1 S.2.1 dX6_hasForm_116 (by decide) ?_
                  refine y_callI (As := [.int 59]) (rest := []) S hw hl.1 (c_X6_takes l D cI cC cL q (va_up (va_up (va_up u 8 (fun _ => (nI ((pT (u 4) L ((pT (u 4) L ((pT (u 4) L (pT (u 4) L a 115) 108) + pNd (u 4) L (pT (u 4) L (pT (u 4) L a 115) 108) 1) 44) + pNd (u 4) L (pT (u 4) L ((pT (u 4) L (pT (u 4) L a 115) 108) + pNd (u 4) L (pT (u 4) L (pT (u 4) L a 115) 108) 1) 44) 5) 44) + pNd (u 4) L (pT (u 4) L ((pT (u 4) L ((pT (u 4) L (pT (u 4) L a 115) 108) + pNd (u 4) L (pT (u 4) L (pT (u 4) L a 115) 108) 1) 44) + pNd (u 4) L (pT (u 4) L ((pT (u 4) L (pT (u 4) L a 115) 108) + pNd (u 4) L (pT (u 4) L (pT (u 4) L a 115) 108) 1) 44) 5) 44) 5)))) 11 (fun _ => ((u 4) a))) 12 (upd (upd (upd (u 12) 0 (pNv (u 4) (pT (u 4) L (pT (u 4) L a 115) 108) (pNd (u 4) L (pT (u 4) L (pT (u 4) L a 115) 108) 1))) 1 (pNv (u 4) (pT (u 4) L ((pT (u 4) L (pT (u 4) L a 115) 108) + pNd (u 4) L (pT (u 4) L (pT (u 4) L a 115) 108) 1) 44) (pNd (u 4) L (pT (u 4) L ((pT (u 4) L (pT (u 4) L a 115) 108) + pNd (u 4) L (pT (u 4) L (pT (u 4) L a 115) 108) 1) 44) 5))) 2 (pNv (u 4) (pT (u 4) L ((pT (u 4) L ((pT (u 4) L (pT (u 4) L a 115) 108) + pNd (u 4) L (pT (u 4) L (pT (u 4) L a 115) 108) 1) 44) + pNd (u 4) L (pT (u 4) L ((pT (u 4) L (pT (u 4) L a 115) 108) + pNd (u 4) L (pT (u 4) L (pT (u 4) L a 115) 108) 1) 44) 5) 44) (pNd (u 4) L (pT (u 4) L ((pT (u 4) L ((pT (u 4) L (pT (u 4) L a 115) 108) + pNd (u 4) L (pT (u 4) L (pT (u 4) L a 115) 108) 1) 44) + pNd (u 4) L (pT (u 4) L ((pT (u 4) L (pT (u 4) L a 115) 108) + pNd (u 4) L (pT (u 4) L (pT (u 4) L a 115) 108) 1) 44) 5) 44) 5)))) L ((pT (u 4) L ((pT (u 4) L ((pT (u 4) L (pT (u 4) L a 115) 108) + pNd (u 4) L (pT (u 4) L (pT (u 4) L a 115) 108) 1) 44) + pNd (u 4) L (pT (u 4) L ((pT (u 4) L (pT (u 4) L a 115) 108) + pNd (u 4) L (pT (u 4) L (pT (u 4) L a 115) 108) 1) 44) 5) 44) + pNd (u 4) L (pT (u 4) L ((pT (u 4) L ((pT (u 4) L (pT (u 4) L a 115) 108) + pNd (u 4) L (pT (u 4) L (pT (u 4) L a 115) 108) 1) 44) + pNd (u 4) L (pT (u 4) L ((pT (u 4) L (pT (u 4) L a 115) 108) + pNd (u 4) L (pT (u 4) L (pT (u 4) L a 115) 108) 1) 44) 5) 44) 5) hL (by omega) (rfl) (pNd_L (pT_L (pNd_L (pT_L (pNd_L (pT_L (pT_L (ha2)))))))) 59) (cwV 1 S.2.2.2.2 gX6_hasForm_X6_takes rfl rfl rfl (by decide +kernel) ⟨Nat.le_of_ble_eq_true rfl, Nat.le_of_ble_eq_true rfl⟩) 0 rfl rfl [0, 1, 2, 3, 4, 5, 6] [] rfl (by decide +kernel) (wr := []) rfl (by decide +kernel) (by decide +kernel) rfl (Nat.le_of_ble_eq_true rfl) dX6_hasForm_118 rfl ⟨Nat.le_refl _, Nat.le_refl _⟩ (fun H locs v_53 x_54 ev_53 ex_54 hw => ?_)
                  subst ev_53
                  have hw : y_W D cI cC cL A s H locs [((q 0), .inr (6, [.ref (q 1), .ref (q 2), .ref (q 3), .int (u 3 0), .ref (q 4), .int (u 5 0), .ref (q 5), .int (u 7 0), .int (nI (pT (u 4) L ((pT (u 4) L ((pT (u 4) L ((pT (u 4) L (pT (u 4) L a 115) 108) + pNd (u 4) L (pT (u 4) L (pT (u 4) L a 115) 108) 1) 44) + pNd (u 4) L (pT (u 4) L ((pT (u 4) L (pT (u 4) L a 115) 108) + pNd (u 4) L (pT (u 4) L (pT (u 4) L a 115) 108) 1) 44) 5) 44) + pNd (u 4) L (pT (u 4) L ((pT (u 4) L ((pT (u 4) L (pT (u 4) L a 115) 108) + pNd (u 4) L (pT (u 4) L (pT (u 4) L a 115) 108) 1) 44) + pNd (u 4) L (pT (u 4) L ((pT (u 4) L (pT (u 4) L a 115) 108) + pNd (u 4) L (pT (u 4) L (pT (u 4) L a 115) 108) 1) 44) 5) 44) 5) 59)), .int (u 9 0), .int (u 10 0), .int ((u 4) a), .ref (q 6)])), ((q 1), .inl (cI, 162, .inl (u 0))), ((q 2), .inl (cI, 162, .inl (u 1))), ((q 3), .inl (cI, 648, .inl (u 2))), ((q 4), .inl (cI, 60, .inl (u 4))), ((q 5), .inl (cI, 3, .inl (u 6))), ((q 6), .inl (cI, 3, .inl (upd (upd (upd (u 12) 0 (pNv (u 4) (pT (u 4) L (pT (u 4) L a 115) 108) (pNd (u 4) L (pT (u 4) L (pT (u 4) L a 115) 108) 1))) 1 (pNv (u 4) (pT (u 4) L ((pT (u 4) L (pT (u 4) L a 115) 108) + pNd (u 4) L (pT (u 4) L (pT (u 4) L a 115) 108) 1) 44) (pNd (u 4) L (pT (u 4) L ((pT (u 4) L (pT (u 4) L a 115) 108) + pNd (u 4) L (pT (u 4) L (pT (u 4) L a 115) 108) 1) 44) 5))) 2 (pNv (u 4) (pT (u 4) L ((pT (u 4) L ((pT (u 4) L (pT (u 4) L a 115) 108) + pNd (u 4) L (pT (u 4) L (pT (u 4) L a 115) 108) 1) 44) + pNd (u 4) L (pT (u 4) L ((pT (u 4) L (pT (u 4) L a 115) 108) + pNd (u 4) L (pT (u 4) L (pT (u 4) L a 115) 108) 1) 44) 5) 44) (pNd (u 4) L (pT (u 4) L ((pT (u 4) L ((pT (u 4) L (pT (u 4) L a 115) 108) + pNd (u 4) L (pT (u 4) L (pT (u 4) L a 115) 108) 1) 44) + pNd (u 4) L (pT (u 4) L ((pT (u 4) L (pT (u 4) L a 115) 108) + pNd (u 4) L (pT (u 4) L (pT (u 4) L a 115) 108) 1) 44) 5) 44) 5)))))] := hw
                  subst ex_54
                  refine y_top (y := (pTf (u 4) L ((pT (u 4) L ((pT (u 4) L ((pT (u 4) L (pT (u 4) L a 115) 108) + pNd (u 4) L (pT (u 4) L (pT (u 4) L a 115) 108) 1) 44) + pNd (u 4) L (pT (u 4) L ((pT (u 4) L (pT (u 4) L a 115) 108) + pNd (u 4) L (pT (u 4) L (pT (u 4) L a 115) 108) 1) 44) 5) 44) + pNd (u 4) L (pT (u 4) L ((pT (u 4) L ((pT (u 4) L (pT (u 4) L a 115) 108) + pNd (u 4) L (pT (u 4) L (pT (u 4) L a 115) 108) 1) 44) + pNd (u 4) L (pT (u 4) L ((pT (u 4) L (pT (u 4) L a 115) 108) + pNd (u 4) L (pT (u 4) L (pT (u 4) L a 115) 108) 1) 44) 5) 44) 5) 59)) rfl ?_
                  refine lv_if_eq (tgt := 128) S.1 S.2.1 dX6_hasForm_121 (by decide) (fun c_55 => ?_) (fun c_55 => ?_)
                  · skip
                    refine lv_iconst (v := 0) S.1 S.2.1 dX6_hasForm_128 (by decide) ?_
                    have hJ : pForm (u 4) L a (u 12) = ((pT (u 4) L ((pT (u 4) L ((pT (u 4) L ((pT (u 4) L (pT (u 4) L a 115) 108) + pNd (u 4) L (pT (u 4) L (pT (u 4) L a 115) 108) 1) 44) + pNd (u 4) L (pT (u 4) L ((pT (u 4) L (pT (u 4) L a 115) 108) + pNd (u 4) L (pT (u 4) L (pT (u 4) L a 115) 108) 1) 44) 5) 44) + pNd (u 4) L (pT (u 4) L ((pT (u 4) L ((pT (u 4) L (pT (u 4) L a 115) 108) + pNd (u 4) L (pT (u 4) L (pT (u 4) L a 115) 108) 1) 44) + pNd (u 4) L (pT (u 4) L ((pT (u 4) L (pT (u 4) L a 115) 108) + pNd (u 4) L (pT (u 4) L (pT (u 4) L a 115) 108) 1) 44) 5) 44) 5) 59), (upd (upd (upd (u 12) 0 (pNv (u 4) (pT (u 4) L (pT (u 4) L a 115) 108) (pNd (u 4) L (pT (u 4) L (pT (u 4) L a 115) 108) 1))) 1 (pNv (u 4) (pT (u 4) L ((pT (u 4) L (pT (u 4) L a 115) 108) + pNd (u 4) L (pT (u 4) L (pT (u 4) L a 115) 108) 1) 44) (pNd (u 4) L (pT (u 4) L ((pT (u 4) L (pT (u 4) L a 115) 108) + pNd (u 4) L (pT (u 4) L (pT (u 4) L a 115) 108) 1) 44) 5))) 2 (pNv (u 4) (pT (u 4) L ((pT (u 4) L ((pT (u 4) L (pT (u 4) L a 115) 108) + pNd (u 4) L (pT (u 4) L (pT (u 4) L a 115) 108) 1) 44) + pNd (u 4) L (pT (u 4) L ((pT (u 4) L (pT (u 4) L a 115) 108) + pNd (u 4) L (pT (u 4) L (pT (u 4) L a 115) 108) 1) 44) 5) 44) (pNd (u 4) L (pT (u 4) L ((pT (u 4) L ((pT (u 4) L (pT (u 4) L a 115) 108) + pNd (u 4) L (pT (u 4) L (pT (u 4) L a 115) 108) 1) 44) + pNd (u 4) L (pT (u 4) L ((pT (u 4) L (pT (u 4) L a 115) 108) + pNd (u 4) L (pT (u 4) L (pT (u 4) L a 115) 108) 1) 44) 5) 44) 5))), 0) := by simp only [pForm, sS, lS, pRun, c_34, c_37, c_40, c_43, c_46, c_49, c_52, c_55, ↓reduceIte]
                    have hK : mSort (u 4) L a = ((u 4) a) := by unfold mSort; rw [if_neg c_1N]
                    exact ret _ _ _ _ _ (by unfold mForm; rw [hJ, hK]; exact hw) (by rw [hJ]) dX6_hasForm_129
                  · skip
                    refine lv_iconst (v := 1) S.1 S.2.1 dX6_hasForm_124 (by decide) ?_
                    refine lv_goto (tgt := 129) S.1 S.2.1 dX6_hasForm_125 (by decide) ?_
                    have hJ : pForm (u 4) L a (u 12) = ((pT (u 4) L ((pT (u 4) L ((pT (u 4) L ((pT (u 4) L (pT (u 4) L a 115) 108) + pNd (u 4) L (pT (u 4) L (pT (u 4) L a 115) 108) 1) 44) + pNd (u 4) L (pT (u 4) L ((pT (u 4) L (pT (u 4) L a 115) 108) + pNd (u 4) L (pT (u 4) L (pT (u 4) L a 115) 108) 1) 44) 5) 44) + pNd (u 4) L (pT (u 4) L ((pT (u 4) L ((pT (u 4) L (pT (u 4) L a 115) 108) + pNd (u 4) L (pT (u 4) L (pT (u 4) L a 115) 108) 1) 44) + pNd (u 4) L (pT (u 4) L ((pT (u 4) L (pT (u 4) L a 115) 108) + pNd (u 4) L (pT (u 4) L (pT (u 4) L a 115) 108) 1) 44) 5) 44) 5) 59), (upd (upd (upd (u 12) 0 (pNv (u 4) (pT (u 4) L (pT (u 4) L a 115) 108) (pNd (u 4) L (pT (u 4) L (pT (u 4) L a 115) 108) 1))) 1 (pNv (u 4) (pT (u 4) L ((pT (u 4) L (pT (u 4) L a 115) 108) + pNd (u 4) L (pT (u 4) L (pT (u 4) L a 115) 108) 1) 44) (pNd (u 4) L (pT (u 4) L ((pT (u 4) L (pT (u 4) L a 115) 108) + pNd (u 4) L (pT (u 4) L (pT (u 4) L a 115) 108) 1) 44) 5))) 2 (pNv (u 4) (pT (u 4) L ((pT (u 4) L ((pT (u 4) L (pT (u 4) L a 115) 108) + pNd (u 4) L (pT (u 4) L (pT (u 4) L a 115) 108) 1) 44) + pNd (u 4) L (pT (u 4) L ((pT (u 4) L (pT (u 4) L a 115) 108) + pNd (u 4) L (pT (u 4) L (pT (u 4) L a 115) 108) 1) 44) 5) 44) (pNd (u 4) L (pT (u 4) L ((pT (u 4) L ((pT (u 4) L (pT (u 4) L a 115) 108) + pNd (u 4) L (pT (u 4) L (pT (u 4) L a 115) 108) 1) 44) + pNd (u 4) L (pT (u 4) L ((pT (u 4) L (pT (u 4) L a 115) 108) + pNd (u 4) L (pT (u 4) L (pT (u 4) L a 115) 108) 1) 44) 5) 44) 5))), 1) := by simp only [pForm, sS, lS, pRun, c_34, c_37, c_40, c_43, c_46, c_49, c_52, c_55, ↓reduceIte]
                    have hK : mSort (u 4) L a = ((u 4) a) := by unfold mSort; rw [if_neg c_1N]
                    exact ret _ _ _ _ _ (by unfold mForm; rw [hJ, hK]; exact hw) (by rw [hJ]) dX6_hasForm_129
    · skip
      refine lv_aload_n S.1 S.2.1 dX6_hasForm_37 rfl (lv_at hl 0 rfl) ?_
      refine lv_iconst (v := 0) S.1 S.2.1 dX6_hasForm_38 (by decide) ?_
      refine lv_iconst (v := 5) S.1 S.2.1 dX6_hasForm_39 (by decide) ?_
      refine y_callI (As := [.int 0, .int 5]) (rest := []) S hw hl.1 (c_X6_takesNumber l D cI cC cL q (va_up (va_up u 8 (fun _ => (nI (pT (u 4) L a 115)))) 11 (fun _ => ((u 4) a))) L (pT (u 4) L a 115) hL (by omega) (rfl) (pT_L (ha2)) 0 5 (by decide) (by decide)) (cwV 2 S.2.2.2.2 gX6_hasForm_X6_takesNumber rfl rfl rfl (by decide +kernel) ⟨Nat.le_of_ble_eq_true rfl, Nat.le_of_ble_eq_true rfl⟩) 0 rfl rfl [0, 1, 2, 3, 4, 5, 6] [] rfl (by decide +kernel) (wr := []) rfl (by decide +kernel) (by decide +kernel) rfl (Nat.le_of_ble_eq_true rfl) dX6_hasForm_40 rfl ⟨Nat.le_refl _, Nat.le_refl _⟩ (fun H locs v_56 x_57 ev_56 ex_57 hw => ?_)
      subst ev_56
      have hw : y_W D cI cC cL A s H locs [((q 0), .inr (6, [.ref (q 1), .ref (q 2), .ref (q 3), .int (u 3 0), .ref (q 4), .int (u 5 0), .ref (q 5), .int (u 7 0), .int (nI ((pT (u 4) L a 115) + pNd (u 4) L (pT (u 4) L a 115) 5)), .int (u 9 0), .int (u 10 0), .int ((u 4) a), .ref (q 6)])), ((q 1), .inl (cI, 162, .inl (u 0))), ((q 2), .inl (cI, 162, .inl (u 1))), ((q 3), .inl (cI, 648, .inl (u 2))), ((q 4), .inl (cI, 60, .inl (u 4))), ((q 5), .inl (cI, 3, .inl (u 6))), ((q 6), .inl (cI, 3, .inl (upd (u 12) 0 (pNv (u 4) (pT (u 4) L a 115) (pNd (u 4) L (pT (u 4) L a 115) 5)))))] := hw
      subst ex_57
      refine y_top (y := (pNf (u 4) L (pT (u 4) L a 115) 5)) rfl ?_
      refine lv_if_eq (tgt := 59) S.1 S.2.1 dX6_hasForm_43 (by decide) (fun c_58 => ?_) (fun c_58 => ?_)
      · skip
        refine lv_iconst (v := 0) S.1 S.2.1 dX6_hasForm_59 (by decide) ?_
        have hJ : pForm (u 4) L a (u 12) = (((pT (u 4) L a 115) + pNd (u 4) L (pT (u 4) L a 115) 5), (upd (u 12) 0 (pNv (u 4) (pT (u 4) L a 115) (pNd (u 4) L (pT (u 4) L a 115) 5))), 0) := by simp only [pForm, sS, lS, pRun, c_34, c_58, ↓reduceIte]
        have hK : mSort (u 4) L a = ((u 4) a) := by unfold mSort; rw [if_neg c_1N]
        exact ret _ _ _ _ _ (by unfold mForm; rw [hJ, hK]; exact hw) (by rw [hJ]) dX6_hasForm_60
      · skip
        refine lv_aload_n S.1 S.2.1 dX6_hasForm_46 rfl (lv_at hl 0 rfl) ?_
        refine lv_bipush (v := 59) S.1 S.2.1 dX6_hasForm_47 (by decide) ?_
        refine y_callI (As := [.int 59]) (rest := []) S hw hl.1 (c_X6_takes l D cI cC cL q (va_up (va_up (va_up u 8 (fun _ => (nI ((pT (u 4) L a 115) + pNd (u 4) L (pT (u 4) L a 115) 5)))) 11 (fun _ => ((u 4) a))) 12 (upd (u 12) 0 (pNv (u 4) (pT (u 4) L a 115) (pNd (u 4) L (pT (u 4) L a 115) 5)))) L ((pT (u 4) L a 115) + pNd (u 4) L (pT (u 4) L a 115) 5) hL (by omega) (rfl) (pNd_L (pT_L (ha2))) 59) (cwV 1 S.2.2.2.2 gX6_hasForm_X6_takes rfl rfl rfl (by decide +kernel) ⟨Nat.le_of_ble_eq_true rfl, Nat.le_of_ble_eq_true rfl⟩) 0 rfl rfl [0, 1, 2, 3, 4, 5, 6] [] rfl (by decide +kernel) (wr := []) rfl (by decide +kernel) (by decide +kernel) rfl (Nat.le_of_ble_eq_true rfl) dX6_hasForm_49 rfl ⟨Nat.le_refl _, Nat.le_refl _⟩ (fun H locs v_59 x_60 ev_59 ex_60 hw => ?_)
        subst ev_59
        have hw : y_W D cI cC cL A s H locs [((q 0), .inr (6, [.ref (q 1), .ref (q 2), .ref (q 3), .int (u 3 0), .ref (q 4), .int (u 5 0), .ref (q 5), .int (u 7 0), .int (nI (pT (u 4) L ((pT (u 4) L a 115) + pNd (u 4) L (pT (u 4) L a 115) 5) 59)), .int (u 9 0), .int (u 10 0), .int ((u 4) a), .ref (q 6)])), ((q 1), .inl (cI, 162, .inl (u 0))), ((q 2), .inl (cI, 162, .inl (u 1))), ((q 3), .inl (cI, 648, .inl (u 2))), ((q 4), .inl (cI, 60, .inl (u 4))), ((q 5), .inl (cI, 3, .inl (u 6))), ((q 6), .inl (cI, 3, .inl (upd (u 12) 0 (pNv (u 4) (pT (u 4) L a 115) (pNd (u 4) L (pT (u 4) L a 115) 5)))))] := hw
        subst ex_60
        refine y_top (y := (pTf (u 4) L ((pT (u 4) L a 115) + pNd (u 4) L (pT (u 4) L a 115) 5) 59)) rfl ?_
        refine lv_if_eq (tgt := 59) S.1 S.2.1 dX6_hasForm_52 (by decide) (fun c_61 => ?_) (fun c_61 => ?_)
        · skip
          refine lv_iconst (v := 0) S.1 S.2.1 dX6_hasForm_59 (by decide) ?_
          have hJ : pForm (u 4) L a (u 12) = ((pT (u 4) L ((pT (u 4) L a 115) + pNd (u 4) L (pT (u 4) L a 115) 5) 59), (upd (u 12) 0 (pNv (u 4) (pT (u 4) L a 115) (pNd (u 4) L (pT (u 4) L a 115) 5))), 0) := by simp only [pForm, sS, lS, pRun, c_34, c_58, c_61, ↓reduceIte]
          have hK : mSort (u 4) L a = ((u 4) a) := by unfold mSort; rw [if_neg c_1N]
          exact ret _ _ _ _ _ (by unfold mForm; rw [hJ, hK]; exact hw) (by rw [hJ]) dX6_hasForm_60
        · skip
          refine lv_iconst (v := 1) S.1 S.2.1 dX6_hasForm_55 (by decide) ?_
          refine lv_goto (tgt := 60) S.1 S.2.1 dX6_hasForm_56 (by decide) ?_
          have hJ : pForm (u 4) L a (u 12) = ((pT (u 4) L ((pT (u 4) L a 115) + pNd (u 4) L (pT (u 4) L a 115) 5) 59), (upd (u 12) 0 (pNv (u 4) (pT (u 4) L a 115) (pNd (u 4) L (pT (u 4) L a 115) 5))), 1) := by simp only [pForm, sS, lS, pRun, c_34, c_58, c_61, ↓reduceIte]
          have hK : mSort (u 4) L a = ((u 4) a) := by unfold mSort; rw [if_neg c_1N]
          exact ret _ _ _ _ _ (by unfold mForm; rw [hJ, hK]; exact hw) (by rw [hJ]) dX6_hasForm_60

theorem i_X6_wrongNumber_X6 : ∀ w ∈ u_ws RX6 TX6 13, w ∈ wsX6_wrongNumber := by decide +kernel
theorem f_X6_wrongNumber_159 : Cond.fieldLink RX6 159 "ChargeLinesModel" "sort" "I" ∈ wsX6_wrongNumber := by decide +kernel
theorem f_X6_wrongNumber_25 : Cond.fieldLink RX6 25 "ChargeLinesModel" "told" "[I" ∈ wsX6_wrongNumber := by decide +kernel
set_option maxHeartbeats 4000000 in
set_option maxRecDepth 100000 in
/-- Model.wrongNumber -/
theorem c_X6_wrongNumber (l : Launch) (D : va_G) (cI cC cL : ClassId) (q : Nat → Nat) (u : U) : y_MI l yX6_wrongNumber wsX6_wrongNumber 0 0 D cI cC cL [.ref (q 0)] (cMd cI q u) (mWN (u 11 0) (u 12 0) (u 12 1) (u 12 2)) (fun _ : Unit => cMd cI q u) () := by
  refine y_startI (cc := cX6_wrongNumber) (maxL := 1) (ret := some .int) (by decide +kernel) rfl (Nat.le_of_ble_eq_true rfl) ⟨_, rfl, fun x _ => rfl⟩ (fun h => by cases h) ?_
  intro p e s mm args below meth c A QQ ls S hw ret hl
  have S : CallFix p mm c cX6_wrongNumber 1 s args wsX6_wrongNumber RX6 := S
  have hw : y_W D cI cC cL A s s.heap [] [((q 0), .inr (6, [.ref (q 1), .ref (q 2), .ref (q 3), .int (u 3 0), .ref (q 4), .int (u 5 0), .ref (q 5), .int (u 7 0), .int (u 8 0), .int (u 9 0), .int (u 10 0), .int (u 11 0), .ref (q 6)])), ((q 1), .inl (cI, 162, .inl (u 0))), ((q 2), .inl (cI, 162, .inl (u 1))), ((q 3), .inl (cI, 648, .inl (u 2))), ((q 4), .inl (cI, 60, .inl (u 4))), ((q 5), .inl (cI, 3, .inl (u 6))), ((q 6), .inl (cI, 3, .inl (u 12)))] := hw
  have hl : lv_has ls 1 [(0, .ref (q 0))] := hl
  refine lv_aload_n S.1 S.2.1 dX6_wrongNumber_0 rfl (lv_at hl 0 rfl) ?_
  refine y_get S hw (C := RX6) (T := TX6) (N := 13) i_X6_wrongNumber_X6 0 rfl rfl 11 (by decide) f_X6_wrongNumber_159 rfl dX6_wrongNumber_1 ?_
  refine lv_bipush (v := 115) S.1 S.2.1 dX6_wrongNumber_4 (by decide) ?_
  refine lv_icmp_ne (tgt := 27) S.1 S.2.1 dX6_wrongNumber_6 (by decide) (fun c_1 => ?_) (fun c_1 => ?_)
  · skip
    refine lv_aload_n S.1 S.2.1 dX6_wrongNumber_27 rfl (lv_at hl 0 rfl) ?_
    refine y_get S hw (C := RX6) (T := TX6) (N := 13) i_X6_wrongNumber_X6 0 rfl rfl 12 (by decide) f_X6_wrongNumber_25 rfl dX6_wrongNumber_28 ?_
    refine lv_iconst (v := 1) S.1 S.2.1 dX6_wrongNumber_31 (by decide) ?_
    refine y_iald S hw 6 (k := 1) rfl (by omega) (Nat.le_of_ble_eq_true rfl) dX6_wrongNumber_32 ?_
    refine lv_sipush (v := 300) S.1 S.2.1 dX6_wrongNumber_33 (by decide) ?_
    refine lv_icmp_le (tgt := 43) S.1 S.2.1 dX6_wrongNumber_36 (by decide) (fun c_2 => ?_) (fun c_2 => ?_)
    · skip
      refine lv_aload_n S.1 S.2.1 dX6_wrongNumber_43 rfl (lv_at hl 0 rfl) ?_
      refine y_get S hw (C := RX6) (T := TX6) (N := 13) i_X6_wrongNumber_X6 0 rfl rfl 12 (by decide) f_X6_wrongNumber_25 rfl dX6_wrongNumber_44 ?_
      refine lv_iconst (v := 2) S.1 S.2.1 dX6_wrongNumber_47 (by decide) ?_
      refine y_iald S hw 6 (k := 2) rfl (by omega) (Nat.le_of_ble_eq_true rfl) dX6_wrongNumber_48 ?_
      refine lv_sipush (v := 300) S.1 S.2.1 dX6_wrongNumber_49 (by decide) ?_
      refine lv_icmp_le (tgt := 59) S.1 S.2.1 dX6_wrongNumber_52 (by decide) (fun c_3 => ?_) (fun c_3 => ?_)
      · skip
        refine lv_iconst (v := (-1)) S.1 S.2.1 dX6_wrongNumber_59 (by decide) ?_
        exact ret _ _ _ _ _ (by exact hw) (by unfold mWN; simp only [c_1, c_2, c_3, not_true_eq_false, not_false_eq_true, ↓reduceIte]) dX6_wrongNumber_60
      · skip
        refine lv_iconst (v := 2) S.1 S.2.1 dX6_wrongNumber_55 (by decide) ?_
        refine lv_goto (tgt := 60) S.1 S.2.1 dX6_wrongNumber_56 (by decide) ?_
        exact ret _ _ _ _ _ (by exact hw) (by unfold mWN; simp only [c_1, c_2, c_3, not_true_eq_false, not_false_eq_true, ↓reduceIte]) dX6_wrongNumber_60
    · skip
      refine lv_iconst (v := 1) S.1 S.2.1 dX6_wrongNumber_39 (by decide) ?_
      refine lv_goto (tgt := 60) S.1 S.2.1 dX6_wrongNumber_40 (by decide) ?_
      exact ret _ _ _ _ _ (by exact hw) (by unfold mWN; simp only [c_1, c_2, not_true_eq_false, not_false_eq_true, ↓reduceIte]) dX6_wrongNumber_60
  · skip
    refine lv_aload_n S.1 S.2.1 dX6_wrongNumber_9 rfl (lv_at hl 0 rfl) ?_
    refine y_get S hw (C := RX6) (T := TX6) (N := 13) i_X6_wrongNumber_X6 0 rfl rfl 12 (by decide) f_X6_wrongNumber_25 rfl dX6_wrongNumber_10 ?_
    refine lv_iconst (v := 0) S.1 S.2.1 dX6_wrongNumber_13 (by decide) ?_
    refine y_iald S hw 6 (k := 0) rfl (by omega) (Nat.le_of_ble_eq_true rfl) dX6_wrongNumber_14 ?_
    refine lv_sipush (v := 10000) S.1 S.2.1 dX6_wrongNumber_15 (by decide) ?_
    refine lv_icmp_le (tgt := 25) S.1 S.2.1 dX6_wrongNumber_18 (by decide) (fun c_4 => ?_) (fun c_4 => ?_)
    · skip
      refine lv_iconst (v := (-1)) S.1 S.2.1 dX6_wrongNumber_25 (by decide) ?_
      exact ret _ _ _ _ _ (by exact hw) (by unfold mWN; simp only [c_1, c_4, not_true_eq_false, not_false_eq_true, ↓reduceIte]) dX6_wrongNumber_26
    · skip
      refine lv_iconst (v := 0) S.1 S.2.1 dX6_wrongNumber_21 (by decide) ?_
      refine lv_goto (tgt := 26) S.1 S.2.1 dX6_wrongNumber_22 (by decide) ?_
      exact ret _ _ _ _ _ (by exact hw) (by unfold mWN; simp only [c_1, c_4, not_true_eq_false, not_false_eq_true, ↓reduceIte]) dX6_wrongNumber_26
