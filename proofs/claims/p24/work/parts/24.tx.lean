theorem i_X4_append_X4 : ∀ w ∈ u_ws RX4 TX4 9, w ∈ wsX4_append := by decide +kernel
theorem f_X4_append_19 : Cond.fieldLink RX4 19 "ChargeLines$Text" "length" "I" ∈ wsX4_append := by decide +kernel
theorem f_X4_append_9 : Cond.fieldLink RX4 9 "ChargeLines$Text" "signs" "[C" ∈ wsX4_append := by decide +kernel
set_option maxHeartbeats 4000000 in
set_option maxRecDepth 100000 in
/-- Text.append -/
theorem c_X4_append (l : Launch) (D : va_G) (cI cC cL : ClassId) (q : Nat → Nat) (u : U) (L : Nat) (hL : u 1 0 = nI L) (hL2 : L ≤ 60) (x : Int32) (hL3 : L < 60) (hx : vp_nar .char x = x) : y_MV l yX4_append wsX4_append 0 0 D cI cC cL [.ref (q 0), .int x] (cTx cI cC q u) (fun v : U => cTx cI cC q v) (tApp u L x) := by
  refine y_startV (cc := cX4_append) (maxL := 2) (by decide) rfl (Nat.le_of_ble_eq_true rfl) ?_
  intro p e s mm args below meth c A QQ ls S hw ret hl
  have S : CallFix p mm c cX4_append 2 s args wsX4_append RX4 := S
  have hw : y_W D cI cC cL A s s.heap [] [((q 0), .inr (4, [.ref (q 1), .int (u 1 0), .int (u 2 0), .int (u 3 0), .int (u 4 0), .int (u 5 0), .ref (q 2), .int (u 7 0), .int (u 8 0)])), ((q 1), .inl (cC, 60, .inl (u 0))), ((q 2), .inl (cI, 3, .inl (u 6)))] := hw
  have hl : lv_has ls 2 [(0, .ref (q 0)), (1, .int x)] := hl
  refine lv_aload_n S.1 S.2.1 dX4_append_0 rfl (lv_at hl 0 rfl) ?_
  refine y_get S hw (C := RX4) (T := TX4) (N := 9) i_X4_append_X4 0 rfl rfl 1 (by decide) f_X4_append_19 rfl dX4_append_1 ?_
  refine y_top (y := (nI L)) (hL) ?_
  refine lv_bipush (v := 60) S.1 S.2.1 dX4_append_4 (by decide) ?_
  refine lv_icmp_ge (tgt := 29) S.1 S.2.1 dX4_append_6 (by decide) (fun c_1 => ?_) (fun c_1 => ?_)
  · skip
    have c_1N : 60 ≤ L := (nI_leI (a := 60) (b := L) (by omega) (by omega)).mp c_1
    exact absurd c_1N (by omega)
  · skip
    have c_1N : ¬ 60 ≤ L := fun z => c_1 ((nI_leI (a := 60) (b := L) (by omega) (by omega)).mpr z)
    refine lv_aload_n S.1 S.2.1 dX4_append_9 rfl (lv_at hl 0 rfl) ?_
    refine y_get S hw (C := RX4) (T := TX4) (N := 9) i_X4_append_X4 0 rfl rfl 0 (by decide) f_X4_append_9 rfl dX4_append_10 ?_
    refine lv_aload_n S.1 S.2.1 dX4_append_13 rfl (lv_at hl 0 rfl) ?_
    refine y_get S hw (C := RX4) (T := TX4) (N := 9) i_X4_append_X4 0 rfl rfl 1 (by decide) f_X4_append_19 rfl dX4_append_14 ?_
    refine y_top (y := (nI L)) (hL) ?_
    refine lv_iload_n S.1 S.2.1 dX4_append_17 rfl (lv_at hl 1 rfl) ?_
    refine y_cast S hw 1 (k := L) rfl (by omega) (Nat.le_of_ble_eq_true rfl) hx dX4_append_18 (ws' := [((q 0), .inr (4, [.ref (q 1), .int (u 1 0), .int (u 2 0), .int (u 3 0), .int (u 4 0), .int (u 5 0), .ref (q 2), .int (u 7 0), .int (u 8 0)])), ((q 1), .inl (cC, 60, .inl (upd (u 0) L x))), ((q 2), .inl (cI, 3, .inl (u 6)))]) rfl (fun H locs hw => ?_)
    refine lv_aload_n S.1 S.2.1 dX4_append_19 rfl (lv_at hl 0 rfl) ?_
    refine lv_dup S.1 S.2.1 dX4_append_20 rfl ?_
    refine y_get S hw (C := RX4) (T := TX4) (N := 9) i_X4_append_X4 0 rfl rfl 1 (by decide) f_X4_append_19 rfl dX4_append_21 ?_
    refine y_top (y := (nI L)) (hL) ?_
    refine lv_iconst (v := 1) S.1 S.2.1 dX4_append_24 (by decide) ?_
    refine y_iaddN S L 1 dX4_append_25 ?_
    refine y_put S hw (C := RX4) (T := TX4) (N := 9) i_X4_append_X4 tyX4_ok nmX4 0 rfl rfl 1 (by decide) f_X4_append_19 (by decide +kernel) rfl rfl (Nat.le_of_ble_eq_true rfl) dX4_append_26 (ws' := [((q 0), .inr (4, [.ref (q 1), .int (nI (L + 1)), .int (u 2 0), .int (u 3 0), .int (u 4 0), .int (u 5 0), .ref (q 2), .int (u 7 0), .int (u 8 0)])), ((q 1), .inl (cC, 60, .inl (upd (u 0) L x))), ((q 2), .inl (cI, 3, .inl (u 6)))]) rfl (fun H locs hw => ?_)
    exact ret _ _ _ _ (by exact hw) dX4_append_29

theorem i_X4_clear_X4 : ∀ w ∈ u_ws RX4 TX4 9, w ∈ wsX4_clear := by decide +kernel
theorem f_X4_clear_19 : Cond.fieldLink RX4 19 "ChargeLines$Text" "length" "I" ∈ wsX4_clear := by decide +kernel
set_option maxHeartbeats 4000000 in
set_option maxRecDepth 100000 in
/-- Text.clear -/
theorem c_X4_clear (l : Launch) (D : va_G) (cI cC cL : ClassId) (q : Nat → Nat) (u : U) : y_MV l yX4_clear wsX4_clear 0 0 D cI cC cL [.ref (q 0)] (cTx cI cC q u) (fun v : U => cTx cI cC q v) (va_up u 1 (fun _ => 0)) := by
  refine y_startV (cc := cX4_clear) (maxL := 1) (by decide) rfl (Nat.le_of_ble_eq_true rfl) ?_
  intro p e s mm args below meth c A QQ ls S hw ret hl
  have S : CallFix p mm c cX4_clear 1 s args wsX4_clear RX4 := S
  have hw : y_W D cI cC cL A s s.heap [] [((q 0), .inr (4, [.ref (q 1), .int (u 1 0), .int (u 2 0), .int (u 3 0), .int (u 4 0), .int (u 5 0), .ref (q 2), .int (u 7 0), .int (u 8 0)])), ((q 1), .inl (cC, 60, .inl (u 0))), ((q 2), .inl (cI, 3, .inl (u 6)))] := hw
  have hl : lv_has ls 1 [(0, .ref (q 0))] := hl
  refine lv_aload_n S.1 S.2.1 dX4_clear_0 rfl (lv_at hl 0 rfl) ?_
  refine lv_iconst (v := 0) S.1 S.2.1 dX4_clear_1 (by decide) ?_
  refine y_put S hw (C := RX4) (T := TX4) (N := 9) i_X4_clear_X4 tyX4_ok nmX4 0 rfl rfl 1 (by decide) f_X4_clear_19 (by decide +kernel) rfl rfl (Nat.le_of_ble_eq_true rfl) dX4_clear_2 (ws' := [((q 0), .inr (4, [.ref (q 1), .int 0, .int (u 2 0), .int (u 3 0), .int (u 4 0), .int (u 5 0), .ref (q 2), .int (u 7 0), .int (u 8 0)])), ((q 1), .inl (cC, 60, .inl (u 0))), ((q 2), .inl (cI, 3, .inl (u 6)))]) rfl (fun H locs hw => ?_)
  exact ret _ _ _ _ (by exact hw) dX4_clear_5

theorem i_X4_reads_X4 : ∀ w ∈ u_ws RX4 TX4 9, w ∈ wsX4_reads := by decide +kernel
theorem f_X4_reads_40 : Cond.fieldLink RX4 40 "ChargeLines$Text" "at" "I" ∈ wsX4_reads := by decide +kernel
theorem f_X4_reads_19 : Cond.fieldLink RX4 19 "ChargeLines$Text" "length" "I" ∈ wsX4_reads := by decide +kernel
theorem f_X4_reads_9 : Cond.fieldLink RX4 9 "ChargeLines$Text" "signs" "[C" ∈ wsX4_reads := by decide +kernel
set_option maxHeartbeats 4000000 in
set_option maxRecDepth 100000 in
/-- Text.reads -/
theorem c_X4_reads (l : Launch) (D : va_G) (cI cC cL : ClassId) (q : Nat → Nat) (u : U) (L a : Nat) (hL : u 1 0 = nI L) (hL2 : L ≤ 60) (ha : u 4 0 = nI a) (ha2 : a ≤ L) (x : Int32) : y_MI l yX4_reads wsX4_reads 0 0 D cI cC cL [.ref (q 0), .int x] (cTx cI cC q u) (pTf (u 0) L a x) (fun v : U => cTx cI cC q v) (va_up u 4 (fun _ => nI (pT (u 0) L a x))) := by
  refine y_startI (cc := cX4_reads) (maxL := 2) (ret := some .boolean) (by decide +kernel) rfl (Nat.le_of_ble_eq_true rfl) ⟨_, rfl, fun x h => by rcases h rfl with rfl | rfl <;> rfl⟩ (fun _ => pTf_01) ?_
  intro p e s mm args below meth c A QQ ls S hw ret hl
  have S : CallFix p mm c cX4_reads 2 s args wsX4_reads RX4 := S
  have hw : y_W D cI cC cL A s s.heap [] [((q 0), .inr (4, [.ref (q 1), .int (u 1 0), .int (u 2 0), .int (u 3 0), .int (u 4 0), .int (u 5 0), .ref (q 2), .int (u 7 0), .int (u 8 0)])), ((q 1), .inl (cC, 60, .inl (u 0))), ((q 2), .inl (cI, 3, .inl (u 6)))] := hw
  have hl : lv_has ls 2 [(0, .ref (q 0)), (1, .int x)] := hl
  refine lv_aload_n S.1 S.2.1 dX4_reads_0 rfl (lv_at hl 0 rfl) ?_
  refine y_get S hw (C := RX4) (T := TX4) (N := 9) i_X4_reads_X4 0 rfl rfl 4 (by decide) f_X4_reads_40 rfl dX4_reads_1 ?_
  refine y_top (y := (nI a)) (ha) ?_
  refine lv_aload_n S.1 S.2.1 dX4_reads_4 rfl (lv_at hl 0 rfl) ?_
  refine y_get S hw (C := RX4) (T := TX4) (N := 9) i_X4_reads_X4 0 rfl rfl 1 (by decide) f_X4_reads_19 rfl dX4_reads_5 ?_
  refine y_top (y := (nI L)) (hL) ?_
  refine lv_icmp_ge (tgt := 33) S.1 S.2.1 dX4_reads_8 (by decide) (fun c_1 => ?_) (fun c_1 => ?_)
  · skip
    have c_1N : L ≤ a := (nI_leI (a := L) (b := a) (by omega) (by omega)).mp c_1
    refine lv_iconst (v := 0) S.1 S.2.1 dX4_reads_33 (by decide) ?_
    exact ret _ _ _ _ _ (by rw [show pT (u 0) L a x = a from by unfold pT; rw [if_pos c_1N], ← ha]; exact hw) (by unfold pTf; rw [if_pos c_1N]) dX4_reads_34
  · skip
    have c_1N : ¬ L ≤ a := fun z => c_1 ((nI_leI (a := L) (b := a) (by omega) (by omega)).mpr z)
    refine lv_aload_n S.1 S.2.1 dX4_reads_11 rfl (lv_at hl 0 rfl) ?_
    refine y_get S hw (C := RX4) (T := TX4) (N := 9) i_X4_reads_X4 0 rfl rfl 4 (by decide) f_X4_reads_40 rfl dX4_reads_12 ?_
    refine y_top (y := (nI a)) (ha) ?_
    refine lv_bipush (v := 60) S.1 S.2.1 dX4_reads_15 (by decide) ?_
    refine lv_icmp_ge (tgt := 33) S.1 S.2.1 dX4_reads_17 (by decide) (fun c_2 => ?_) (fun c_2 => ?_)
    · skip
      have c_2N : 60 ≤ a := (nI_leI (a := 60) (b := a) (by omega) (by omega)).mp c_2
      exact absurd c_2N (by omega)
    · skip
      have c_2N : ¬ 60 ≤ a := fun z => c_2 ((nI_leI (a := 60) (b := a) (by omega) (by omega)).mpr z)
      refine lv_aload_n S.1 S.2.1 dX4_reads_20 rfl (lv_at hl 0 rfl) ?_
      refine y_get S hw (C := RX4) (T := TX4) (N := 9) i_X4_reads_X4 0 rfl rfl 0 (by decide) f_X4_reads_9 rfl dX4_reads_21 ?_
      refine lv_aload_n S.1 S.2.1 dX4_reads_24 rfl (lv_at hl 0 rfl) ?_
      refine y_get S hw (C := RX4) (T := TX4) (N := 9) i_X4_reads_X4 0 rfl rfl 4 (by decide) f_X4_reads_40 rfl dX4_reads_25 ?_
      refine y_top (y := (nI a)) (ha) ?_
      refine y_cald S hw 1 (k := a) rfl (by omega) (Nat.le_of_ble_eq_true rfl) dX4_reads_28 ?_
      refine lv_iload_n S.1 S.2.1 dX4_reads_29 rfl (lv_at hl 1 rfl) ?_
      refine lv_icmp_eq (tgt := 35) S.1 S.2.1 dX4_reads_30 (by decide) (fun c_3 => ?_) (fun c_3 => ?_)
      · skip
        refine lv_aload_n S.1 S.2.1 dX4_reads_35 rfl (lv_at hl 0 rfl) ?_
        refine lv_dup S.1 S.2.1 dX4_reads_36 rfl ?_
        refine y_get S hw (C := RX4) (T := TX4) (N := 9) i_X4_reads_X4 0 rfl rfl 4 (by decide) f_X4_reads_40 rfl dX4_reads_37 ?_
        refine y_top (y := (nI a)) (ha) ?_
        refine lv_iconst (v := 1) S.1 S.2.1 dX4_reads_40 (by decide) ?_
        refine y_iaddN S a 1 dX4_reads_41 ?_
        refine y_put S hw (C := RX4) (T := TX4) (N := 9) i_X4_reads_X4 tyX4_ok nmX4 0 rfl rfl 4 (by decide) f_X4_reads_40 (by decide +kernel) rfl rfl (Nat.le_of_ble_eq_true rfl) dX4_reads_42 (ws' := [((q 0), .inr (4, [.ref (q 1), .int (u 1 0), .int (u 2 0), .int (u 3 0), .int (nI (a + 1)), .int (u 5 0), .ref (q 2), .int (u 7 0), .int (u 8 0)])), ((q 1), .inl (cC, 60, .inl (u 0))), ((q 2), .inl (cI, 3, .inl (u 6)))]) rfl (fun H locs hw => ?_)
        refine lv_iconst (v := 1) S.1 S.2.1 dX4_reads_45 (by decide) ?_
        exact ret _ _ _ _ _ (by rw [show pT (u 0) L a x = a + 1 from by unfold pT; rw [if_neg c_1N, if_pos c_3]]; exact hw) (by unfold pTf; rw [if_neg c_1N, if_pos c_3]) dX4_reads_46
      · skip
        refine lv_iconst (v := 0) S.1 S.2.1 dX4_reads_33 (by decide) ?_
        exact ret _ _ _ _ _ (by rw [show pT (u 0) L a x = a from by unfold pT; rw [if_neg c_1N, if_neg c_3], ← ha]; exact hw) (by unfold pTf; rw [if_neg c_1N, if_neg c_3]) dX4_reads_34

theorem i_X4_atDigit_X4 : ∀ w ∈ u_ws RX4 TX4 9, w ∈ wsX4_atDigit := by decide +kernel
theorem f_X4_atDigit_40 : Cond.fieldLink RX4 40 "ChargeLines$Text" "at" "I" ∈ wsX4_atDigit := by decide +kernel
theorem f_X4_atDigit_19 : Cond.fieldLink RX4 19 "ChargeLines$Text" "length" "I" ∈ wsX4_atDigit := by decide +kernel
theorem f_X4_atDigit_9 : Cond.fieldLink RX4 9 "ChargeLines$Text" "signs" "[C" ∈ wsX4_atDigit := by decide +kernel
set_option maxHeartbeats 4000000 in
set_option maxRecDepth 100000 in
/-- Text.atDigit -/
theorem c_X4_atDigit (l : Launch) (D : va_G) (cI cC cL : ClassId) (q : Nat → Nat) (u : U) (L a : Nat) (hL : u 1 0 = nI L) (hL2 : L ≤ 60) (ha : u 4 0 = nI a) (ha2 : a ≤ L) : y_MI l yX4_atDigit wsX4_atDigit 0 0 D cI cC cL [.ref (q 0)] (cTx cI cC q u) (pDg (u 0) L a) (fun _ : Unit => cTx cI cC q u) () := by
  refine y_startI (cc := cX4_atDigit) (maxL := 1) (ret := some .boolean) (by decide +kernel) rfl (Nat.le_of_ble_eq_true rfl) ⟨_, rfl, fun x h => by rcases h rfl with rfl | rfl <;> rfl⟩ (fun _ => pDg_01) ?_
  intro p e s mm args below meth c A QQ ls S hw ret hl
  have S : CallFix p mm c cX4_atDigit 1 s args wsX4_atDigit RX4 := S
  have hw : y_W D cI cC cL A s s.heap [] [((q 0), .inr (4, [.ref (q 1), .int (u 1 0), .int (u 2 0), .int (u 3 0), .int (u 4 0), .int (u 5 0), .ref (q 2), .int (u 7 0), .int (u 8 0)])), ((q 1), .inl (cC, 60, .inl (u 0))), ((q 2), .inl (cI, 3, .inl (u 6)))] := hw
  have hl : lv_has ls 1 [(0, .ref (q 0))] := hl
  refine lv_aload_n S.1 S.2.1 dX4_atDigit_0 rfl (lv_at hl 0 rfl) ?_
  refine y_get S hw (C := RX4) (T := TX4) (N := 9) i_X4_atDigit_X4 0 rfl rfl 4 (by decide) f_X4_atDigit_40 rfl dX4_atDigit_1 ?_
  refine y_top (y := (nI a)) (ha) ?_
  refine lv_aload_n S.1 S.2.1 dX4_atDigit_4 rfl (lv_at hl 0 rfl) ?_
  refine y_get S hw (C := RX4) (T := TX4) (N := 9) i_X4_atDigit_X4 0 rfl rfl 1 (by decide) f_X4_atDigit_19 rfl dX4_atDigit_5 ?_
  refine y_top (y := (nI L)) (hL) ?_
  refine lv_icmp_ge (tgt := 52) S.1 S.2.1 dX4_atDigit_8 (by decide) (fun c_1 => ?_) (fun c_1 => ?_)
  · skip
    have c_1N : L ≤ a := (nI_leI (a := L) (b := a) (by omega) (by omega)).mp c_1
    refine lv_iconst (v := 0) S.1 S.2.1 dX4_atDigit_52 (by decide) ?_
    exact ret _ _ _ _ _ (by exact hw) (by unfold pDg; rw [if_pos c_1N]) dX4_atDigit_53
  · skip
    have c_1N : ¬ L ≤ a := fun z => c_1 ((nI_leI (a := L) (b := a) (by omega) (by omega)).mpr z)
    refine lv_aload_n S.1 S.2.1 dX4_atDigit_11 rfl (lv_at hl 0 rfl) ?_
    refine y_get S hw (C := RX4) (T := TX4) (N := 9) i_X4_atDigit_X4 0 rfl rfl 4 (by decide) f_X4_atDigit_40 rfl dX4_atDigit_12 ?_
    refine y_top (y := (nI a)) (ha) ?_
    refine lv_bipush (v := 60) S.1 S.2.1 dX4_atDigit_15 (by decide) ?_
    refine lv_icmp_ge (tgt := 52) S.1 S.2.1 dX4_atDigit_17 (by decide) (fun c_2 => ?_) (fun c_2 => ?_)
    · skip
      have c_2N : 60 ≤ a := (nI_leI (a := 60) (b := a) (by omega) (by omega)).mp c_2
      exact absurd c_2N (by omega)
    · skip
      have c_2N : ¬ 60 ≤ a := fun z => c_2 ((nI_leI (a := 60) (b := a) (by omega) (by omega)).mpr z)
      refine lv_aload_n S.1 S.2.1 dX4_atDigit_20 rfl (lv_at hl 0 rfl) ?_
      refine y_get S hw (C := RX4) (T := TX4) (N := 9) i_X4_atDigit_X4 0 rfl rfl 0 (by decide) f_X4_atDigit_9 rfl dX4_atDigit_21 ?_
      refine lv_aload_n S.1 S.2.1 dX4_atDigit_24 rfl (lv_at hl 0 rfl) ?_
      refine y_get S hw (C := RX4) (T := TX4) (N := 9) i_X4_atDigit_X4 0 rfl rfl 4 (by decide) f_X4_atDigit_40 rfl dX4_atDigit_25 ?_
      refine y_top (y := (nI a)) (ha) ?_
      refine y_cald S hw 1 (k := a) rfl (by omega) (Nat.le_of_ble_eq_true rfl) dX4_atDigit_28 ?_
      refine lv_bipush (v := 48) S.1 S.2.1 dX4_atDigit_29 (by decide) ?_
      refine lv_icmp_lt (tgt := 52) S.1 S.2.1 dX4_atDigit_31 (by decide) (fun c_3 => ?_) (fun c_3 => ?_)
      · skip
        refine lv_iconst (v := 0) S.1 S.2.1 dX4_atDigit_52 (by decide) ?_
        exact ret _ _ _ _ _ (by exact hw) (by unfold pDg; rw [if_neg c_1N, if_pos c_3]) dX4_atDigit_53
      · skip
        refine lv_aload_n S.1 S.2.1 dX4_atDigit_34 rfl (lv_at hl 0 rfl) ?_
        refine y_get S hw (C := RX4) (T := TX4) (N := 9) i_X4_atDigit_X4 0 rfl rfl 0 (by decide) f_X4_atDigit_9 rfl dX4_atDigit_35 ?_
        refine lv_aload_n S.1 S.2.1 dX4_atDigit_38 rfl (lv_at hl 0 rfl) ?_
        refine y_get S hw (C := RX4) (T := TX4) (N := 9) i_X4_atDigit_X4 0 rfl rfl 4 (by decide) f_X4_atDigit_40 rfl dX4_atDigit_39 ?_
        refine y_top (y := (nI a)) (ha) ?_
        refine y_cald S hw 1 (k := a) rfl (by omega) (Nat.le_of_ble_eq_true rfl) dX4_atDigit_42 ?_
        refine lv_bipush (v := 57) S.1 S.2.1 dX4_atDigit_43 (by decide) ?_
        refine lv_icmp_gt (tgt := 52) S.1 S.2.1 dX4_atDigit_45 (by decide) (fun c_4 => ?_) (fun c_4 => ?_)
        · skip
          refine lv_iconst (v := 0) S.1 S.2.1 dX4_atDigit_52 (by decide) ?_
          exact ret _ _ _ _ _ (by exact hw) (by unfold pDg; first | rw [if_neg c_1N, if_neg c_3, if_pos c_4] | rw [if_neg c_1N, if_neg c_3, if_neg c_4]) dX4_atDigit_53
        · skip
          refine lv_iconst (v := 1) S.1 S.2.1 dX4_atDigit_48 (by decide) ?_
          refine lv_goto (tgt := 53) S.1 S.2.1 dX4_atDigit_49 (by decide) ?_
          exact ret _ _ _ _ _ (by exact hw) (by unfold pDg; first | rw [if_neg c_1N, if_neg c_3, if_pos c_4] | rw [if_neg c_1N, if_neg c_3, if_neg c_4]) dX4_atDigit_53

theorem i_X4_readsNumber_X4 : ∀ w ∈ u_ws RX4 TX4 9, w ∈ wsX4_readsNumber := by decide +kernel
theorem f_X4_readsNumber_15 : Cond.fieldLink RX4 15 "ChargeLines$Text" "numbers" "[I" ∈ wsX4_readsNumber := by decide +kernel
theorem f_X4_readsNumber_9 : Cond.fieldLink RX4 9 "ChargeLines$Text" "signs" "[C" ∈ wsX4_readsNumber := by decide +kernel
theorem f_X4_readsNumber_40 : Cond.fieldLink RX4 40 "ChargeLines$Text" "at" "I" ∈ wsX4_readsNumber := by decide +kernel
set_option maxHeartbeats 4000000 in
set_option maxRecDepth 100000 in
/-- Text.readsNumber -/
theorem c_X4_readsNumber (l : Launch) (D : va_G) (cI cC cL : ClassId) (q : Nat → Nat) (u : U) (L a : Nat) (hL : u 1 0 = nI L) (hL2 : L ≤ 60) (ha : u 4 0 = nI a) (ha2 : a ≤ L) (k k5 : Nat) (hk : k < 3) (hk5 : k5 ≤ 5) : y_MI l yX4_readsNumber wsX4_readsNumber 1 20 D cI cC cL [.ref (q 0), .int (nI k), .int (nI k5)] (cTx cI cC q u) (pNf (u 0) L a k5) (fun v : U => cTx cI cC q v) (tNum u L a k k5) := by
  refine y_startI (cc := cX4_readsNumber) (maxL := 5) (ret := some .boolean) (by decide +kernel) rfl (Nat.le_of_ble_eq_true rfl) ⟨_, rfl, fun x h => by rcases h rfl with rfl | rfl <;> rfl⟩ (fun _ => pNf_01) ?_
  intro p e s mm args below meth c A QQ ls S hw ret hl
  have S : CallFix p mm c cX4_readsNumber 5 s args wsX4_readsNumber RX4 := S
  have hw : y_W D cI cC cL A s s.heap [] [((q 0), .inr (4, [.ref (q 1), .int (u 1 0), .int (u 2 0), .int (u 3 0), .int (u 4 0), .int (u 5 0), .ref (q 2), .int (u 7 0), .int (u 8 0)])), ((q 1), .inl (cC, 60, .inl (u 0))), ((q 2), .inl (cI, 3, .inl (u 6)))] := hw
  have hl : lv_has ls 5 [(0, .ref (q 0)), (1, .int (nI k)), (2, .int (nI k5))] := hl
  refine lv_iconst (v := 0) S.1 S.2.1 dX4_readsNumber_0 (by decide) ?_
  refine lv_istore_n (lv' := [(3, .int 0), (0, .ref (q 0)), (1, .int (nI k)), (2, .int (nI k5))]) S.1 S.2.1 dX4_readsNumber_1 rfl hl (by decide) rfl (fun ls hl => ?_)
  refine lv_iconst (v := 0) S.1 S.2.1 dX4_readsNumber_2 (by decide) ?_
  refine lv_istore (lv' := [(4, .int 0), (3, .int 0), (0, .ref (q 0)), (1, .int (nI k)), (2, .int (nI k5))]) S.1 S.2.1 dX4_readsNumber_3 hl (by decide) rfl (fun ls hl => ?_)
  have lp5 : ∀ (fuel : Nat) (d : Nat) (z : Int32) (wat : Int32), (d ≤ k5) → (z = pNv (u 0) a d) → (wat = nI (a + d)) → (a + d ≤ L) → (d + pNd (u 0) L (a + d) (k5 - d) = pNd (u 0) L a k5) → (k5 - d) < fuel → ∀ (H : Heap) (locs : List Loc) (ls : Array Slot), y_W D cI cC cL A s H locs [((q 0), .inr (4, [.ref (q 1), .int (u 1 0), .int (u 2 0), .int (u 3 0), .int wat, .int (u 5 0), .ref (q 2), .int (u 7 0), .int (u 8 0)])), ((q 1), .inl (cC, 60, .inl (u 0))), ((q 2), .inl (cI, 3, .inl (u 6)))] → lv_has ls 5 [(0, .ref (q 0)), (1, .int (nI k)), (2, .int (nI k5)), (3, .int z), (4, .int (nI d))] → W p l e (y_R 1 20) s mm args below meth c H locs 0 0 QQ (F0 mm 5 ls []) := by
    intro fuel
    induction fuel with
    | zero =>
      intro d z wat hd hz hat hle hcnt hfu
      exact absurd hfu (Nat.not_lt_zero _)
    | succ fuel ih5 =>
      intro d z wat hd hz hat hle hcnt hfu H locs ls hw hl
      refine lv_iload S.1 S.2.1 dX4_readsNumber_5 (lv_at hl 4 rfl) ?_
      refine lv_iload_n S.1 S.2.1 dX4_readsNumber_7 rfl (lv_at hl 2 rfl) ?_
      refine lv_icmp_ge (tgt := 52) S.1 S.2.1 dX4_readsNumber_8 (by decide) (fun c_1 => ?_) (fun c_1 => ?_)
      · skip
        have c_1N : k5 ≤ d := (nI_leI (a := k5) (b := d) (by omega) (by omega)).mp c_1
        have hN : pNd (u 0) L a k5 = d := by rw [← hcnt, show k5 - d = 0 from by omega]; rfl
        refine lv_aload_n S.1 S.2.1 dX4_readsNumber_52 rfl (lv_at hl 0 rfl) ?_
        refine y_get S hw (C := RX4) (T := TX4) (N := 9) i_X4_readsNumber_X4 0 rfl rfl 6 (by decide) f_X4_readsNumber_15 rfl dX4_readsNumber_53 ?_
        refine lv_iload_n S.1 S.2.1 dX4_readsNumber_56 rfl (lv_at hl 1 rfl) ?_
        refine lv_iload_n S.1 S.2.1 dX4_readsNumber_57 rfl (lv_at hl 3 rfl) ?_
        refine y_iast S hw 2 (k := k) rfl (by omega) (Nat.le_of_ble_eq_true rfl) dX4_readsNumber_58 (ws' := [((q 0), .inr (4, [.ref (q 1), .int (u 1 0), .int (u 2 0), .int (u 3 0), .int wat, .int (u 5 0), .ref (q 2), .int (u 7 0), .int (u 8 0)])), ((q 1), .inl (cC, 60, .inl (u 0))), ((q 2), .inl (cI, 3, .inl (upd (u 6) k z)))]) rfl (fun H locs hw => ?_)
        refine lv_iload S.1 S.2.1 dX4_readsNumber_59 (lv_at hl 4 rfl) ?_
        refine lv_if_le (tgt := 68) S.1 S.2.1 dX4_readsNumber_61 (by decide) (fun c_2 => ?_) (fun c_2 => ?_)
        · skip
          have c_2N : d ≤ 0 := (nI_leI (a := d) (b := 0) (by omega) (by omega)).mp c_2
          refine lv_iconst (v := 0) S.1 S.2.1 dX4_readsNumber_68 (by decide) ?_
          exact ret _ _ _ _ _ (by unfold tNum; rw [hN, ← hz, ← hat]; exact hw) (by unfold pNf; rw [hN]; first | exact (if_pos (by omega)).symm | exact (if_neg (by omega)).symm) dX4_readsNumber_69
        · skip
          have c_2N : ¬ d ≤ 0 := fun z => c_2 ((nI_leI (a := d) (b := 0) (by omega) (by omega)).mpr z)
          refine lv_iconst (v := 1) S.1 S.2.1 dX4_readsNumber_64 (by decide) ?_
          refine lv_goto (tgt := 69) S.1 S.2.1 dX4_readsNumber_65 (by decide) ?_
          exact ret _ _ _ _ _ (by unfold tNum; rw [hN, ← hz, ← hat]; exact hw) (by unfold pNf; rw [hN]; first | exact (if_pos (by omega)).symm | exact (if_neg (by omega)).symm) dX4_readsNumber_69
      · skip
        have c_1N : ¬ k5 ≤ d := fun z => c_1 ((nI_leI (a := k5) (b := d) (by omega) (by omega)).mpr z)
        refine lv_aload_n S.1 S.2.1 dX4_readsNumber_11 rfl (lv_at hl 0 rfl) ?_
        refine y_callI (As := []) (rest := []) S hw hl.1 (c_X4_atDigit l D cI cC cL q (va_up u 4 (fun _ => wat)) L (a + d) hL (by omega) (hat) (hle)) (cwV 0 S.2.2.2.2 gX4_readsNumber_X4_atDigit rfl rfl rfl (by decide +kernel) ⟨Nat.le_of_ble_eq_true rfl, Nat.le_of_ble_eq_true rfl⟩) 0 rfl rfl [0, 1, 2] [] rfl (by decide +kernel) (wr := []) rfl (by decide +kernel) (by decide +kernel) rfl (Nat.le_of_ble_eq_true rfl) dX4_readsNumber_12 rfl ⟨Nat.le_refl _, Nat.le_refl _⟩ (fun H locs v_3 x_4 ev_3 ex_4 hw => ?_)
        have hw : y_W D cI cC cL A s H locs [((q 0), .inr (4, [.ref (q 1), .int (u 1 0), .int (u 2 0), .int (u 3 0), .int wat, .int (u 5 0), .ref (q 2), .int (u 7 0), .int (u 8 0)])), ((q 1), .inl (cC, 60, .inl (u 0))), ((q 2), .inl (cI, 3, .inl (u 6)))] := hw
        subst ex_4
        refine y_top (y := (pDg (u 0) L (a + d))) rfl ?_
        refine lv_if_eq (tgt := 52) S.1 S.2.1 dX4_readsNumber_15 (by decide) (fun c_5 => ?_) (fun c_5 => ?_)
        · skip
          have hN : pNd (u 0) L a k5 = d := by rw [← hcnt, pNd_0 c_5]; rfl
          refine lv_aload_n S.1 S.2.1 dX4_readsNumber_52 rfl (lv_at hl 0 rfl) ?_
          refine y_get S hw (C := RX4) (T := TX4) (N := 9) i_X4_readsNumber_X4 0 rfl rfl 6 (by decide) f_X4_readsNumber_15 rfl dX4_readsNumber_53 ?_
          refine lv_iload_n S.1 S.2.1 dX4_readsNumber_56 rfl (lv_at hl 1 rfl) ?_
          refine lv_iload_n S.1 S.2.1 dX4_readsNumber_57 rfl (lv_at hl 3 rfl) ?_
          refine y_iast S hw 2 (k := k) rfl (by omega) (Nat.le_of_ble_eq_true rfl) dX4_readsNumber_58 (ws' := [((q 0), .inr (4, [.ref (q 1), .int (u 1 0), .int (u 2 0), .int (u 3 0), .int wat, .int (u 5 0), .ref (q 2), .int (u 7 0), .int (u 8 0)])), ((q 1), .inl (cC, 60, .inl (u 0))), ((q 2), .inl (cI, 3, .inl (upd (u 6) k z)))]) rfl (fun H locs hw => ?_)
          refine lv_iload S.1 S.2.1 dX4_readsNumber_59 (lv_at hl 4 rfl) ?_
          refine lv_if_le (tgt := 68) S.1 S.2.1 dX4_readsNumber_61 (by decide) (fun c_6 => ?_) (fun c_6 => ?_)
          · skip
            have c_6N : d ≤ 0 := (nI_leI (a := d) (b := 0) (by omega) (by omega)).mp c_6
            refine lv_iconst (v := 0) S.1 S.2.1 dX4_readsNumber_68 (by decide) ?_
            exact ret _ _ _ _ _ (by unfold tNum; rw [hN, ← hz, ← hat]; exact hw) (by unfold pNf; rw [hN]; first | exact (if_pos (by omega)).symm | exact (if_neg (by omega)).symm) dX4_readsNumber_69
          · skip
            have c_6N : ¬ d ≤ 0 := fun z => c_6 ((nI_leI (a := d) (b := 0) (by omega) (by omega)).mpr z)
            refine lv_iconst (v := 1) S.1 S.2.1 dX4_readsNumber_64 (by decide) ?_
            refine lv_goto (tgt := 69) S.1 S.2.1 dX4_readsNumber_65 (by decide) ?_
            exact ret _ _ _ _ _ (by unfold tNum; rw [hN, ← hz, ← hat]; exact hw) (by unfold pNf; rw [hN]; first | exact (if_pos (by omega)).symm | exact (if_neg (by omega)).symm) dX4_readsNumber_69
        · skip
          have hlt := pDg_lt c_5
          refine lv_bipush (v := 10) S.1 S.2.1 dX4_readsNumber_18 (by decide) ?_
          refine lv_iload_n S.1 S.2.1 dX4_readsNumber_20 rfl (lv_at hl 3 rfl) ?_
          refine lv_imul S.1 S.2.1 dX4_readsNumber_21 ?_
          refine lv_aload_n S.1 S.2.1 dX4_readsNumber_22 rfl (lv_at hl 0 rfl) ?_
          refine y_get S hw (C := RX4) (T := TX4) (N := 9) i_X4_readsNumber_X4 0 rfl rfl 0 (by decide) f_X4_readsNumber_9 rfl dX4_readsNumber_23 ?_
          refine lv_aload_n S.1 S.2.1 dX4_readsNumber_26 rfl (lv_at hl 0 rfl) ?_
          refine y_get S hw (C := RX4) (T := TX4) (N := 9) i_X4_readsNumber_X4 0 rfl rfl 4 (by decide) f_X4_readsNumber_40 rfl dX4_readsNumber_27 ?_
          refine y_top (y := (nI (a + d))) (hat) ?_
          refine y_cald S hw 1 (k := (a + d)) rfl (by omega) (Nat.le_of_ble_eq_true rfl) dX4_readsNumber_30 ?_
          refine lv_bipush (v := 48) S.1 S.2.1 dX4_readsNumber_31 (by decide) ?_
          refine lv_isub S.1 S.2.1 dX4_readsNumber_33 ?_
          refine lv_iadd S.1 S.2.1 dX4_readsNumber_34 ?_
          refine lv_istore_n (lv' := [(3, .int ((10 * z) + (((u 0) (a + d)) - 48))), (0, .ref (q 0)), (1, .int (nI k)), (2, .int (nI k5)), (4, .int (nI d))]) S.1 S.2.1 dX4_readsNumber_35 rfl hl (by decide) rfl (fun ls hl => ?_)
          refine lv_aload_n S.1 S.2.1 dX4_readsNumber_36 rfl (lv_at hl 1 rfl) ?_
          refine lv_dup S.1 S.2.1 dX4_readsNumber_37 rfl ?_
          refine y_get S hw (C := RX4) (T := TX4) (N := 9) i_X4_readsNumber_X4 0 rfl rfl 4 (by decide) f_X4_readsNumber_40 rfl dX4_readsNumber_38 ?_
          refine y_top (y := (nI (a + d))) (hat) ?_
          refine lv_iconst (v := 1) S.1 S.2.1 dX4_readsNumber_41 (by decide) ?_
          refine y_iaddN S (a + d) 1 dX4_readsNumber_42 ?_
          refine y_put S hw (C := RX4) (T := TX4) (N := 9) i_X4_readsNumber_X4 tyX4_ok nmX4 0 rfl rfl 4 (by decide) f_X4_readsNumber_40 (by decide +kernel) rfl rfl (Nat.le_of_ble_eq_true rfl) dX4_readsNumber_43 (ws' := [((q 0), .inr (4, [.ref (q 1), .int (u 1 0), .int (u 2 0), .int (u 3 0), .int (nI ((a + d) + 1)), .int (u 5 0), .ref (q 2), .int (u 7 0), .int (u 8 0)])), ((q 1), .inl (cC, 60, .inl (u 0))), ((q 2), .inl (cI, 3, .inl (u 6)))]) rfl (fun H locs hw => ?_)
          refine lv_iinc (v := (nI (d + 1))) (lv' := [(4, .int (nI (d + 1))), (3, .int ((10 * z) + (((u 0) (a + d)) - 48))), (0, .ref (q 0)), (1, .int (nI k)), (2, .int (nI k5))]) S.1 S.2.1 dX4_readsNumber_46 hl (k := 4) rfl (by first | exact nI_1 _ | exact nI_add _ _) (by decide) rfl (fun ls hl => ?_)
          refine lv_goto (tgt := 5) S.1 S.2.1 dX4_readsNumber_49 (by decide) ?_
          exact ih5 (d + 1) ((10 * z) + (((u 0) (a + d)) - 48)) (nI ((a + d) + 1)) (by omega) (by rw [hz]; rfl) (rfl) (by omega) (by rw [← hcnt, pNd_s (a := a + d) (m := k5 - d) c_5 (by omega), show k5 - d - 1 = k5 - (d + 1) from by omega, show a + d + 1 = a + (d + 1) from rfl]; omega) (by omega) _ _ ls hw (lv_sub hl [2, 3, 4, 1, 0] rfl)
  exact lp5 ((k5 - 0) + 1) 0 0 (u 4 0) (Nat.zero_le _) (rfl) (ha) (ha2) (by rw [Nat.zero_add]; rfl) (Nat.lt_succ_self _) _ _ ls hw (lv_sub hl [2, 3, 4, 1, 0] rfl)

theorem i_X4_readForm_X4 : ∀ w ∈ u_ws RX4 TX4 9, w ∈ wsX4_readForm := by decide +kernel
theorem f_X4_readForm_36 : Cond.fieldLink RX4 36 "ChargeLines$Text" "kind" "C" ∈ wsX4_readForm := by decide +kernel
set_option maxHeartbeats 4000000 in
set_option maxRecDepth 100000 in
/-- Text.readForm -/
theorem c_X4_readForm (l : Launch) (D : va_G) (cI cC cL : ClassId) (q : Nat → Nat) (u : U) (L a : Nat) (hL : u 1 0 = nI L) (hL2 : L ≤ 60) (ha : u 4 0 = nI a) (ha2 : a ≤ L) : y_MI l yX4_readForm wsX4_readForm 2 44 D cI cC cL [.ref (q 0)] (cTx cI cC q u) ((pForm (u 0) L a (u 6)).2.2) (fun v : U => cTx cI cC q v) (tForm u L a) := by
  refine y_startI (cc := cX4_readForm) (maxL := 1) (ret := some .boolean) (by decide +kernel) rfl (Nat.le_of_ble_eq_true rfl) ⟨_, rfl, fun x h => by rcases h rfl with rfl | rfl <;> rfl⟩ (fun _ => pForm_01) ?_
  intro p e s mm args below meth c A QQ ls S hw ret hl
  have S : CallFix p mm c cX4_readForm 1 s args wsX4_readForm RX4 := S
  have hw : y_W D cI cC cL A s s.heap [] [((q 0), .inr (4, [.ref (q 1), .int (u 1 0), .int (u 2 0), .int (u 3 0), .int (u 4 0), .int (u 5 0), .ref (q 2), .int (u 7 0), .int (u 8 0)])), ((q 1), .inl (cC, 60, .inl (u 0))), ((q 2), .inl (cI, 3, .inl (u 6)))] := hw
  have hl : lv_has ls 1 [(0, .ref (q 0))] := hl
  refine lv_aload_n S.1 S.2.1 dX4_readForm_0 rfl (lv_at hl 0 rfl) ?_
  refine lv_bipush (v := 115) S.1 S.2.1 dX4_readForm_1 (by decide) ?_
  refine y_callI (As := [.int 115]) (rest := []) S hw hl.1 (c_X4_reads l D cI cC cL q u L a hL (by omega) (ha) (ha2) 115) (cwV 1 S.2.2.2.2 gX4_readForm_X4_reads rfl rfl rfl (by decide +kernel) ⟨Nat.le_of_ble_eq_true rfl, Nat.le_of_ble_eq_true rfl⟩) 0 rfl rfl [0, 1, 2] [] rfl (by decide +kernel) (wr := []) rfl (by decide +kernel) (by decide +kernel) rfl (Nat.le_of_ble_eq_true rfl) dX4_readForm_3 rfl ⟨Nat.le_refl _, Nat.le_refl _⟩ (fun H locs v_1 x_2 ev_1 ex_2 hw => ?_)
  subst ev_1
  have hw : y_W D cI cC cL A s H locs [((q 0), .inr (4, [.ref (q 1), .int (u 1 0), .int (u 2 0), .int (u 3 0), .int (nI (pT (u 0) L a 115)), .int (u 5 0), .ref (q 2), .int (u 7 0), .int (u 8 0)])), ((q 1), .inl (cC, 60, .inl (u 0))), ((q 2), .inl (cI, 3, .inl (u 6)))] := hw
  subst ex_2
  refine y_top (y := (pTf (u 0) L a 115)) rfl ?_
  refine lv_if_eq (tgt := 39) S.1 S.2.1 dX4_readForm_6 (by decide) (fun c_3 => ?_) (fun c_3 => ?_)
  · skip
    refine lv_aload_n S.1 S.2.1 dX4_readForm_39 rfl (lv_at hl 0 rfl) ?_
    refine lv_bipush (v := 108) S.1 S.2.1 dX4_readForm_40 (by decide) ?_
    refine y_callI (As := [.int 108]) (rest := []) S hw hl.1 (c_X4_reads l D cI cC cL q (va_up u 4 (fun _ => (nI (pT (u 0) L a 115)))) L (pT (u 0) L a 115) hL (by omega) (rfl) (pT_L (ha2)) 108) (cwV 1 S.2.2.2.2 gX4_readForm_X4_reads rfl rfl rfl (by decide +kernel) ⟨Nat.le_of_ble_eq_true rfl, Nat.le_of_ble_eq_true rfl⟩) 0 rfl rfl [0, 1, 2] [] rfl (by decide +kernel) (wr := []) rfl (by decide +kernel) (by decide +kernel) rfl (Nat.le_of_ble_eq_true rfl) dX4_readForm_42 rfl ⟨Nat.le_refl _, Nat.le_refl _⟩ (fun H locs v_4 x_5 ev_4 ex_5 hw => ?_)
    subst ev_4
    have hw : y_W D cI cC cL A s H locs [((q 0), .inr (4, [.ref (q 1), .int (u 1 0), .int (u 2 0), .int (u 3 0), .int (nI (pT (u 0) L (pT (u 0) L a 115) 108)), .int (u 5 0), .ref (q 2), .int (u 7 0), .int (u 8 0)])), ((q 1), .inl (cC, 60, .inl (u 0))), ((q 2), .inl (cI, 3, .inl (u 6)))] := hw
    subst ex_5
    refine y_top (y := (pTf (u 0) L (pT (u 0) L a 115) 108)) rfl ?_
    refine lv_if_eq (tgt := 114) S.1 S.2.1 dX4_readForm_45 (by decide) (fun c_6 => ?_) (fun c_6 => ?_)
    · skip
      refine lv_iconst (v := 0) S.1 S.2.1 dX4_readForm_114 (by decide) ?_
      have hJ : pForm (u 0) L a (u 6) = ((pT (u 0) L (pT (u 0) L a 115) 108), (u 6), 0) := by simp only [pForm, sS, lS, pRun, c_3, c_6, ↓reduceIte]
      have hK : tKind u L a = (u 5 0) := by simp only [tKind, c_3, c_6, ↓reduceIte]
      exact ret _ _ _ _ _ (by unfold tForm; rw [hJ, hK]; exact hw) (by rw [hJ]) dX4_readForm_115
    · skip
      refine lv_aload_n S.1 S.2.1 dX4_readForm_48 rfl (lv_at hl 0 rfl) ?_
      refine lv_bipush (v := 108) S.1 S.2.1 dX4_readForm_49 (by decide) ?_
      refine y_put S hw (C := RX4) (T := TX4) (N := 9) i_X4_readForm_X4 tyX4_ok nmX4 0 rfl rfl 5 (by decide) f_X4_readForm_36 (by decide +kernel) rfl rfl (Nat.le_of_ble_eq_true rfl) dX4_readForm_51 (ws' := [((q 0), .inr (4, [.ref (q 1), .int (u 1 0), .int (u 2 0), .int (u 3 0), .int (nI (pT (u 0) L (pT (u 0) L a 115) 108)), .int 108, .ref (q 2), .int (u 7 0), .int (u 8 0)])), ((q 1), .inl (cC, 60, .inl (u 0))), ((q 2), .inl (cI, 3, .inl (u 6)))]) rfl (fun H locs hw => ?_)
      refine lv_aload_n S.1 S.2.1 dX4_readForm_54 rfl (lv_at hl 0 rfl) ?_
      refine lv_iconst (v := 0) S.1 S.2.1 dX4_readForm_55 (by decide) ?_
      refine lv_iconst (v := 1) S.1 S.2.1 dX4_readForm_56 (by decide) ?_
      refine y_callI (As := [.int 0, .int 1]) (rest := []) S hw hl.1 (c_X4_readsNumber l D cI cC cL q (va_up (va_up u 4 (fun _ => (nI (pT (u 0) L (pT (u 0) L a 115) 108)))) 5 (fun _ => 108)) L (pT (u 0) L (pT (u 0) L a 115) 108) hL (by omega) (rfl) (pT_L (pT_L (ha2))) 0 1 (by decide) (by decide)) (cwV 2 S.2.2.2.2 gX4_readForm_X4_readsNumber rfl rfl rfl (by decide +kernel) ⟨Nat.le_of_ble_eq_true rfl, Nat.le_of_ble_eq_true rfl⟩) 0 rfl rfl [0, 1, 2] [] rfl (by decide +kernel) (wr := []) rfl (by decide +kernel) (by decide +kernel) rfl (Nat.le_of_ble_eq_true rfl) dX4_readForm_57 rfl ⟨Nat.le_refl _, Nat.le_refl _⟩ (fun H locs v_7 x_8 ev_7 ex_8 hw => ?_)
      subst ev_7
      have hw : y_W D cI cC cL A s H locs [((q 0), .inr (4, [.ref (q 1), .int (u 1 0), .int (u 2 0), .int (u 3 0), .int (nI ((pT (u 0) L (pT (u 0) L a 115) 108) + pNd (u 0) L (pT (u 0) L (pT (u 0) L a 115) 108) 1)), .int 108, .ref (q 2), .int (u 7 0), .int (u 8 0)])), ((q 1), .inl (cC, 60, .inl (u 0))), ((q 2), .inl (cI, 3, .inl (upd (u 6) 0 (pNv (u 0) (pT (u 0) L (pT (u 0) L a 115) 108) (pNd (u 0) L (pT (u 0) L (pT (u 0) L a 115) 108) 1)))))] := hw
      subst ex_8
      refine y_top (y := (pNf (u 0) L (pT (u 0) L (pT (u 0) L a 115) 108) 1)) rfl ?_
      refine lv_if_eq (tgt := 112) S.1 S.2.1 dX4_readForm_60 (by decide) (fun c_9 => ?_) (fun c_9 => ?_)
      · skip
        refine lv_iconst (v := 0) S.1 S.2.1 dX4_readForm_112 (by decide) ?_
        have hJ : pForm (u 0) L a (u 6) = (((pT (u 0) L (pT (u 0) L a 115) 108) + pNd (u 0) L (pT (u 0) L (pT (u 0) L a 115) 108) 1), (upd (u 6) 0 (pNv (u 0) (pT (u 0) L (pT (u 0) L a 115) 108) (pNd (u 0) L (pT (u 0) L (pT (u 0) L a 115) 108) 1))), 0) := by simp only [pForm, sS, lS, pRun, c_3, c_6, c_9, ↓reduceIte]
        have hK : tKind u L a = 108 := by simp only [tKind, c_3, c_6, c_9, ↓reduceIte]
        exact ret _ _ _ _ _ (by unfold tForm; rw [hJ, hK]; exact hw) (by rw [hJ]) dX4_readForm_113
      · skip
        refine lv_aload_n S.1 S.2.1 dX4_readForm_63 rfl (lv_at hl 0 rfl) ?_
        refine lv_bipush (v := 44) S.1 S.2.1 dX4_readForm_64 (by decide) ?_
        refine y_callI (As := [.int 44]) (rest := []) S hw hl.1 (c_X4_reads l D cI cC cL q (va_up (va_up (va_up u 4 (fun _ => (nI ((pT (u 0) L (pT (u 0) L a 115) 108) + pNd (u 0) L (pT (u 0) L (pT (u 0) L a 115) 108) 1)))) 5 (fun _ => 108)) 6 (upd (u 6) 0 (pNv (u 0) (pT (u 0) L (pT (u 0) L a 115) 108) (pNd (u 0) L (pT (u 0) L (pT (u 0) L a 115) 108) 1)))) L ((pT (u 0) L (pT (u 0) L a 115) 108) + pNd (u 0) L (pT (u 0) L (pT (u 0) L a 115) 108) 1) hL (by omega) (rfl) (pNd_L (pT_L (pT_L (ha2)))) 44) (cwV 1 S.2.2.2.2 gX4_readForm_X4_reads rfl rfl rfl (by decide +kernel) ⟨Nat.le_of_ble_eq_true rfl, Nat.le_of_ble_eq_true rfl⟩) 0 rfl rfl [0, 1, 2] [] rfl (by decide +kernel) (wr := []) rfl (by decide +kernel) (by decide +kernel) rfl (Nat.le_of_ble_eq_true rfl) dX4_readForm_66 rfl ⟨Nat.le_refl _, Nat.le_refl _⟩ (fun H locs v_10 x_11 ev_10 ex_11 hw => ?_)
        subst ev_10
        have hw : y_W D cI cC cL A s H locs [((q 0), .inr (4, [.ref (q 1), .int (u 1 0), .int (u 2 0), .int (u 3 0), .int (nI (pT (u 0) L ((pT (u 0) L (pT (u 0) L a 115) 108) + pNd (u 0) L (pT (u 0) L (pT (u 0) L a 115) 108) 1) 44)), .int 108, .ref (q 2), .int (u 7 0), .int (u 8 0)])), ((q 1), .inl (cC, 60, .inl (u 0))), ((q 2), .inl (cI, 3, .inl (upd (u 6) 0 (pNv (u 0) (pT (u 0) L (pT (u 0) L a 115) 108) (pNd (u 0) L (pT (u 0) L (pT (u 0) L a 115) 108) 1)))))] := hw
        subst ex_11
        refine y_top (y := (pTf (u 0) L ((pT (u 0) L (pT (u 0) L a 115) 108) + pNd (u 0) L (pT (u 0) L (pT (u 0) L a 115) 108) 1) 44)) rfl ?_
        refine lv_if_eq (tgt := 112) S.1 S.2.1 dX4_readForm_69 (by decide) (fun c_12 => ?_) (fun c_12 => ?_)
        · skip
          refine lv_iconst (v := 0) S.1 S.2.1 dX4_readForm_112 (by decide) ?_
          have hJ : pForm (u 0) L a (u 6) = ((pT (u 0) L ((pT (u 0) L (pT (u 0) L a 115) 108) + pNd (u 0) L (pT (u 0) L (pT (u 0) L a 115) 108) 1) 44), (upd (u 6) 0 (pNv (u 0) (pT (u 0) L (pT (u 0) L a 115) 108) (pNd (u 0) L (pT (u 0) L (pT (u 0) L a 115) 108) 1))), 0) := by simp only [pForm, sS, lS, pRun, c_3, c_6, c_9, c_12, ↓reduceIte]
          have hK : tKind u L a = 108 := by simp only [tKind, c_3, c_6, c_9, c_12, ↓reduceIte]
          exact ret _ _ _ _ _ (by unfold tForm; rw [hJ, hK]; exact hw) (by rw [hJ]) dX4_readForm_113
        · skip
          refine lv_aload_n S.1 S.2.1 dX4_readForm_72 rfl (lv_at hl 0 rfl) ?_
          refine lv_iconst (v := 1) S.1 S.2.1 dX4_readForm_73 (by decide) ?_
          refine lv_iconst (v := 5) S.1 S.2.1 dX4_readForm_74 (by decide) ?_
          refine y_callI (As := [.int 1, .int 5]) (rest := []) S hw hl.1 (c_X4_readsNumber l D cI cC cL q (va_up (va_up (va_up u 4 (fun _ => (nI (pT (u 0) L ((pT (u 0) L (pT (u 0) L a 115) 108) + pNd (u 0) L (pT (u 0) L (pT (u 0) L a 115) 108) 1) 44)))) 5 (fun _ => 108)) 6 (upd (u 6) 0 (pNv (u 0) (pT (u 0) L (pT (u 0) L a 115) 108) (pNd (u 0) L (pT (u 0) L (pT (u 0) L a 115) 108) 1)))) L (pT (u 0) L ((pT (u 0) L (pT (u 0) L a 115) 108) + pNd (u 0) L (pT (u 0) L (pT (u 0) L a 115) 108) 1) 44) hL (by omega) (rfl) (pT_L (pNd_L (pT_L (pT_L (ha2))))) 1 5 (by decide) (by decide)) (cwV 2 S.2.2.2.2 gX4_readForm_X4_readsNumber rfl rfl rfl (by decide +kernel) ⟨Nat.le_of_ble_eq_true rfl, Nat.le_of_ble_eq_true rfl⟩) 0 rfl rfl [0, 1, 2] [] rfl (by decide +kernel) (wr := []) rfl (by decide +kernel) (by decide +kernel) rfl (Nat.le_of_ble_eq_true rfl) dX4_readForm_75 rfl ⟨Nat.le_refl _, Nat.le_refl _⟩ (fun H locs v_13 x_14 ev_13 ex_14 hw => ?_)
          subst ev_13
          have hw : y_W D cI cC cL A s H locs [((q 0), .inr (4, [.ref (q 1), .int (u 1 0), .int (u 2 0), .int (u 3 0), .int (nI ((pT (u 0) L ((pT (u 0) L (pT (u 0) L a 115) 108) + pNd (u 0) L (pT (u 0) L (pT (u 0) L a 115) 108) 1) 44) + pNd (u 0) L (pT (u 0) L ((pT (u 0) L (pT (u 0) L a 115) 108) + pNd (u 0) L (pT (u 0) L (pT (u 0) L a 115) 108) 1) 44) 5)), .int 108, .ref (q 2), .int (u 7 0), .int (u 8 0)])), ((q 1), .inl (cC, 60, .inl (u 0))), ((q 2), .inl (cI, 3, .inl (upd (upd (u 6) 0 (pNv (u 0) (pT (u 0) L (pT (u 0) L a 115) 108) (pNd (u 0) L (pT (u 0) L (pT (u 0) L a 115) 108) 1))) 1 (pNv (u 0) (pT (u 0) L ((pT (u 0) L (pT (u 0) L a 115) 108) + pNd (u 0) L (pT (u 0) L (pT (u 0) L a 115) 108) 1) 44) (pNd (u 0) L (pT (u 0) L ((pT (u 0) L (pT (u 0) L a 115) 108) + pNd (u 0) L (pT (u 0) L (pT (u 0) L a 115) 108) 1) 44) 5)))))] := hw
          subst ex_14
          refine y_top (y := (pNf (u 0) L (pT (u 0) L ((pT (u 0) L (pT (u 0) L a 115) 108) + pNd (u 0) L (pT (u 0) L (pT (u 0) L a 115) 108) 1) 44) 5)) rfl ?_
          refine lv_if_eq (tgt := 112) S.1 S.2.1 dX4_readForm_78 (by decide) (fun c_15 => ?_) (fun c_15 => ?_)
          · skip
            refine lv_iconst (v := 0) S.1 S.2.1 dX4_readForm_112 (by decide) ?_
            have hJ : pForm (u 0) L a (u 6) = (((pT (u 0) L ((pT (u 0) L (pT (u 0) L a 115) 108) + pNd (u 0) L (pT (u 0) L (pT (u 0) L a 115) 108) 1) 44) + pNd (u 0) L (pT (u 0) L ((pT (u 0) L (pT (u 0) L a 115) 108) + pNd (u 0) L (pT (u 0) L (pT (u 0) L a 115) 108) 1) 44) 5), (upd (upd (u 6) 0 (pNv (u 0) (pT (u 0) L (pT (u 0) L a 115) 108) (pNd (u 0) L (pT (u 0) L (pT (u 0) L a 115) 108) 1))) 1 (pNv (u 0) (pT (u 0) L ((pT (u 0) L (pT (u 0) L a 115) 108) + pNd (u 0) L (pT (u 0) L (pT (u 0) L a 115) 108) 1) 44) (pNd (u 0) L (pT (u 0) L ((pT (u 0) L (pT (u 0) L a 115) 108) + pNd (u 0) L (pT (u 0) L (pT (u 0) L a 115) 108) 1) 44) 5))), 0) := by simp only [pForm, sS, lS, pRun, c_3, c_6, c_9, c_12, c_15, ↓reduceIte]
            have hK : tKind u L a = 108 := by simp only [tKind, c_3, c_6, c_9, c_12, c_15, ↓reduceIte]
            exact ret _ _ _ _ _ (by unfold tForm; rw [hJ, hK]; exact hw) (by rw [hJ]) dX4_readForm_113
          · skip
            refine lv_aload_n S.1 S.2.1 dX4_readForm_81 rfl (lv_at hl 0 rfl) ?_
            refine lv_bipush (v := 44) S.1 S.2.1 dX4_readForm_82 (by decide) ?_
            refine y_callI (As := [.int 44]) (rest := []) S hw hl.1 (c_X4_reads l D cI cC cL q (va_up (va_up (va_up u 4 (fun _ => (nI ((pT (u 0) L ((pT (u 0) L (pT (u 0) L a 115) 108) + pNd (u 0) L (pT (u 0) L (pT (u 0) L a 115) 108) 1) 44) + pNd (u 0) L (pT (u 0) L ((pT (u 0) L (pT (u 0) L a 115) 108) + pNd (u 0) L (pT (u 0) L (pT (u 0) L a 115) 108) 1) 44) 5)))) 5 (fun _ => 108)) 6 (upd (upd (u 6) 0 (pNv (u 0) (pT (u 0) L (pT (u 0) L a 115) 108) (pNd (u 0) L (pT (u 0) L (pT (u 0) L a 115) 108) 1))) 1 (pNv (u 0) (pT (u 0) L ((pT (u 0) L (pT (u 0) L a 115) 108) + pNd (u 0) L (pT (u 0) L (pT (u 0) L a 115) 108) 1) 44) (pNd (u 0) L (pT (u 0) L ((pT (u 0) L (pT (u 0) L a 115) 108) + pNd (u 0) L (pT (u 0) L (pT (u 0) L a 115) 108) 1) 44) 5)))) L ((pT (u 0) L ((pT (u 0) L (pT (u 0) L a 115) 108) + pNd (u 0) L (pT (u 0) L (pT (u 0) L a 115) 108) 1) 44) + pNd (u 0) L (pT (u 0) L ((pT (u 0) L (pT (u 0) L a 115) 108) + pNd (u 0) L (pT (u 0) L (pT (u 0) L a 115) 108) 1) 44) 5) hL (by omega) (rfl) (pNd_L (pT_L (pNd_L (pT_L (pT_L (ha2)))))) 44) (cwV 1 S.2.2.2.2 gX4_readForm_X4_reads rfl rfl rfl (by decide +kernel) ⟨Nat.le_of_ble_eq_true rfl, Nat.le_of_ble_eq_true rfl⟩) 0 rfl rfl [0, 1, 2] [] rfl (by decide +kernel) (wr := []) rfl (by decide +kernel) (by decide +kernel) rfl (Nat.le_of_ble_eq_true rfl) dX4_readForm_84 rfl ⟨Nat.le_refl _, Nat.le_refl _⟩ (fun H locs v_16 x_17 ev_16 ex_17 hw => ?_)
            subst ev_16
            have hw : y_W D cI cC cL A s H locs [((q 0), .inr (4, [.ref (q 1), .int (u 1 0), .int (u 2 0), .int (u 3 0), .int (nI (pT (u 0) L ((pT (u 0) L ((pT (u 0) L (pT (u 0) L a 115) 108) + pNd (u 0) L (pT (u 0) L (pT (u 0) L a 115) 108) 1) 44) + pNd (u 0) L (pT (u 0) L ((pT (u 0) L (pT (u 0) L a 115) 108) + pNd (u 0) L (pT (u 0) L (pT (u 0) L a 115) 108) 1) 44) 5) 44)), .int 108, .ref (q 2), .int (u 7 0), .int (u 8 0)])), ((q 1), .inl (cC, 60, .inl (u 0))), ((q 2), .inl (cI, 3, .inl (upd (upd (u 6) 0 (pNv (u 0) (pT (u 0) L (pT (u 0) L a 115) 108) (pNd (u 0) L (pT (u 0) L (pT (u 0) L a 115) 108) 1))) 1 (pNv (u 0) (pT (u 0) L ((pT (u 0) L (pT (u 0) L a 115) 108) + pNd (u 0) L (pT (u 0) L (pT (u 0) L a 115) 108) 1) 44) (pNd (u 0) L (pT (u 0) L ((pT (u 0) L (pT (u 0) L a 115) 108) + pNd (u 0) L (pT (u 0) L (pT (u 0) L a 115) 108) 1) 44) 5)))))] := hw
            subst ex_17
            refine y_top (y := (pTf (u 0) L ((pT (u 0) L ((pT (u 0) L (pT (u 0) L a 115) 108) + pNd (u 0) L (pT (u 0) L (pT (u 0) L a 115) 108) 1) 44) + pNd (u 0) L (pT (u 0) L ((pT (u 0) L (pT (u 0) L a 115) 108) + pNd (u 0) L (pT (u 0) L (pT (u 0) L a 115) 108) 1) 44) 5) 44)) rfl ?_
            refine lv_if_eq (tgt := 112) S.1 S.2.1 dX4_readForm_87 (by decide) (fun c_18 => ?_) (fun c_18 => ?_)
            · skip
              refine lv_iconst (v := 0) S.1 S.2.1 dX4_readForm_112 (by decide) ?_
              have hJ : pForm (u 0) L a (u 6) = ((pT (u 0) L ((pT (u 0) L ((pT (u 0) L (pT (u 0) L a 115) 108) + pNd (u 0) L (pT (u 0) L (pT (u 0) L a 115) 108) 1) 44) + pNd (u 0) L (pT (u 0) L ((pT (u 0) L (pT (u 0) L a 115) 108) + pNd (u 0) L (pT (u 0) L (pT (u 0) L a 115) 108) 1) 44) 5) 44), (upd (upd (u 6) 0 (pNv (u 0) (pT (u 0) L (pT (u 0) L a 115) 108) (pNd (u 0) L (pT (u 0) L (pT (u 0) L a 115) 108) 1))) 1 (pNv (u 0) (pT (u 0) L ((pT (u 0) L (pT (u 0) L a 115) 108) + pNd (u 0) L (pT (u 0) L (pT (u 0) L a 115) 108) 1) 44) (pNd (u 0) L (pT (u 0) L ((pT (u 0) L (pT (u 0) L a 115) 108) + pNd (u 0) L (pT (u 0) L (pT (u 0) L a 115) 108) 1) 44) 5))), 0) := by simp only [pForm, sS, lS, pRun, c_3, c_6, c_9, c_12, c_15, c_18, ↓reduceIte]
              have hK : tKind u L a = 108 := by simp only [tKind, c_3, c_6, c_9, c_12, c_15, c_18, ↓reduceIte]
              exact ret _ _ _ _ _ (by unfold tForm; rw [hJ, hK]; exact hw) (by rw [hJ]) dX4_readForm_113
            · skip
              refine lv_aload_n S.1 S.2.1 dX4_readForm_90 rfl (lv_at hl 0 rfl) ?_
              refine lv_iconst (v := 2) S.1 S.2.1 dX4_readForm_91 (by decide) ?_
              refine lv_iconst (v := 5) S.1 S.2.1 dX4_readForm_92 (by decide) ?_
              refine y_callI (As := [.int 2, .int 5]) (rest := []) S hw hl.1 (c_X4_readsNumber l D cI cC cL q (va_up (va_up (va_up u 4 (fun _ => (nI (pT (u 0) L ((pT (u 0) L ((pT (u 0) L (pT (u 0) L a 115) 108) + pNd (u 0) L (pT (u 0) L (pT (u 0) L a 115) 108) 1) 44) + pNd (u 0) L (pT (u 0) L ((pT (u 0) L (pT (u 0) L a 115) 108) + pNd (u 0) L (pT (u 0) L (pT (u 0) L a 115) 108) 1) 44) 5) 44)))) 5 (fun _ => 108)) 6 (upd (upd (u 6) 0 (pNv (u 0) (pT (u 0) L (pT (u 0) L a 115) 108) (pNd (u 0) L (pT (u 0) L (pT (u 0) L a 115) 108) 1))) 1 (pNv (u 0) (pT (u 0) L ((pT (u 0) L (pT (u 0) L a 115) 108) + pNd (u 0) L (pT (u 0) L (pT (u 0) L a 115) 108) 1) 44) (pNd (u 0) L (pT (u 0) L ((pT (u 0) L (pT (u 0) L a 115) 108) + pNd (u 0) L (pT (u 0) L (pT (u 0) L a 115) 108) 1) 44) 5)))) L (pT (u 0) L ((pT (u 0) L ((pT (u 0) L (pT (u 0) L a 115) 108) + pNd (u 0) L (pT (u 0) L (pT (u 0) L a 115) 108) 1) 44) + pNd (u 0) L (pT (u 0) L ((pT (u 0) L (pT (u 0) L a 115) 108) + pNd (u 0) L (pT (u 0) L (pT (u 0) L a 115) 108) 1) 44) 5) 44) hL (by omega) (rfl) (pT_L (pNd_L (pT_L (pNd_L (pT_L (pT_L (ha2))))))) 2 5 (by decide) (by decide)) (cwV 2 S.2.2.2.2 gX4_readForm_X4_readsNumber rfl rfl rfl (by decide +kernel) ⟨Nat.le_of_ble_eq_true rfl, Nat.le_of_ble_eq_true rfl⟩) 0 rfl rfl [0, 1, 2] [] rfl (by decide +kernel) (wr := []) rfl (by decide +kernel) (by decide +kernel) rfl (Nat.le_of_ble_eq_true rfl) dX4_readForm_93 rfl ⟨Nat.le_refl _, Nat.le_refl _⟩ (fun H locs v_19 x_20 ev_19 ex_20 hw => ?_)
              subst ev_19
              have hw : y_W D cI cC cL A s H locs [((q 0), .inr (4, [.ref (q 1), .int (u 1 0), .int (u 2 0), .int (u 3 0), .int (nI ((pT (u 0) L ((pT (u 0) L ((pT (u 0) L (pT (u 0) L a 115) 108) + pNd (u 0) L (pT (u 0) L (pT (u 0) L a 115) 108) 1) 44) + pNd (u 0) L (pT (u 0) L ((pT (u 0) L (pT (u 0) L a 115) 108) + pNd (u 0) L (pT (u 0) L (pT (u 0) L a 115) 108) 1) 44) 5) 44) + pNd (u 0) L (pT (u 0) L ((pT (u 0) L ((pT (u 0) L (pT (u 0) L a 115) 108) + pNd (u 0) L (pT (u 0) L (pT (u 0) L a 115) 108) 1) 44) + pNd (u 0) L (pT (u 0) L ((pT (u 0) L (pT (u 0) L a 115) 108) + pNd (u 0) L (pT (u 0) L (pT (u 0) L a 115) 108) 1) 44) 5) 44) 5)), .int 108, .ref (q 2), .int (u 7 0), .int (u 8 0)])), ((q 1), .inl (cC, 60, .inl (u 0))), ((q 2), .inl (cI, 3, .inl (upd (upd (upd (u 6) 0 (pNv (u 0) (pT (u 0) L (pT (u 0) L a 115) 108) (pNd (u 0) L (pT (u 0) L (pT (u 0) L a 115) 108) 1))) 1 (pNv (u 0) (pT (u 0) L ((pT (u 0) L (pT (u 0) L a 115) 108) + pNd (u 0) L (pT (u 0) L (pT (u 0) L a 115) 108) 1) 44) (pNd (u 0) L (pT (u 0) L ((pT (u 0) L (pT (u 0) L a 115) 108) + pNd (u 0) L (pT (u 0) L (pT (u 0) L a 115) 108) 1) 44) 5))) 2 (pNv (u 0) (pT (u 0) L ((pT (u 0) L ((pT (u 0) L (pT (u 0) L a 115) 108) + pNd (u 0) L (pT (u 0) L (pT (u 0) L a 115) 108) 1) 44) + pNd (u 0) L (pT (u 0) L ((pT (u 0) L (pT (u 0) L a 115) 108) + pNd (u 0) L (pT (u 0) L (pT (u 0) L a 115) 108) 1) 44) 5) 44) (pNd (u 0) L (pT (u 0) L ((pT (u 0) L ((pT (u 0) L (pT (u 0) L a 115) 108) + pNd (u 0) L (pT (u 0) L (pT (u 0) L a 115) 108) 1) 44) + pNd (u 0) L (pT (u 0) L ((pT (u 0) L (pT (u 0) L a 115) 108) + pNd (u 0) L (pT (u 0) L (pT (u 0) L a 115) 108) 1) 44) 5) 44) 5)))))] := hw
              subst ex_20
              refine y_top (y := (pNf (u 0) L (pT (u 0) L ((pT (u 0) L ((pT (u 0) L (pT (u 0) L a 115) 108) + pNd (u 0) L (pT (u 0) L (pT (u 0) L a 115) 108) 1) 44) + pNd (u 0) L (pT (u 0) L ((pT (u 0) L (pT (u 0) L a 115) 108) + pNd (u 0) L (pT (u 0) L (pT (u 0) L a 115) 108) 1) 44) 5) 44) 5)) rfl ?_
              refine lv_if_eq (tgt := 112) S.1 S.2.1 dX4_readForm_96 (by decide) (fun c_21 => ?_) (fun c_21 => ?_)
              · skip
                refine lv_iconst (v := 0) S.1 S.2.1 dX4_readForm_112 (by decide) ?_
                have hJ : pForm (u 0) L a (u 6) = (((pT (u 0) L ((pT (u 0) L ((pT (u 0) L (pT (u 0) L a 115) 108) + pNd (u 0) L (pT (u 0) L (pT (u 0) L a 115) 108) 1) 44) + pNd (u 0) L (pT (u 0) L ((pT (u 0) L (pT (u 0) L a 115) 108) + pNd (u 0) L (pT (u 0) L (pT (u 0) L a 115) 108) 1) 44) 5) 44) + pNd (u 0) L (pT (u 0) L ((pT (u 0) L ((pT (u 0) L (pT (u 0) L a 115) 108) + pNd (u 0) L (pT (u 0) L (pT (u 0) L a 115) 108) 1) 44) + pNd (u 0) L (pT (u 0) L ((pT (u 0) L (pT (u 0) L a 115) 108) + pNd (u 0) L (pT (u 0) L (pT (u 0) L a 115) 108) 1) 44) 5) 44) 5), (upd (upd (upd (u 6) 0 (pNv (u 0) (pT (u 0) L (pT (u 0) L a 115) 108) (pNd (u 0) L (pT (u 0) L (pT (u 0) L a 115) 108) 1))) 1 (pNv (u 0) (pT (u 0) L ((pT (u 0) L (pT (u 0) L a 115) 108) + pNd (u 0) L (pT (u 0) L (pT (u 0) L a 115) 108) 1) 44) (pNd (u 0) L (pT (u 0) L ((pT (u 0) L (pT (u 0) L a 115) 108) + pNd (u 0) L (pT (u 0) L (pT (u 0) L a 115) 108) 1) 44) 5))) 2 (pNv (u 0) (pT (u 0) L ((pT (u 0) L ((pT (u 0) L (pT (u 0) L a 115) 108) + pNd (u 0) L (pT (u 0) L (pT (u 0) L a 115) 108) 1) 44) + pNd (u 0) L (pT (u 0) L ((pT (u 0) L (pT (u 0) L a 115) 108) + pNd (u 0) L (pT (u 0) L (pT (u 0) L a 115) 108) 1) 44) 5) 44) (pNd (u 0) L (pT (u 0) L ((pT (u 0) L ((pT (u 0) L (pT (u 0) L a 115) 108) + pNd (u 0) L (pT (u 0) L (pT (u 0) L a 115) 108) 1) 44) + pNd (u 0) L (pT (u 0) L ((pT (u 0) L (pT (u 0) L a 115) 108) + pNd (u 0) L (pT (u 0) L (pT (u 0) L a 115) 108) 1) 44) 5) 44) 5))), 0) := by simp only [pForm, sS, lS, pRun, c_3, c_6, c_9, c_12, c_15, c_18, c_21, ↓reduceIte]
                have hK : tKind u L a = 108 := by simp only [tKind, c_3, c_6, c_9, c_12, c_15, c_18, c_21, ↓reduceIte]
                exact ret _ _ _ _ _ (by unfold tForm; rw [hJ, hK]; exact hw) (by rw [hJ]) dX4_readForm_113
              · skip
                refine lv_aload_n S.1 S.2.1 dX4_readForm_99 rfl (lv_at hl 0 rfl) ?_
                refine lv_bipush (v := 59) S.1 S.2.1 dX4_readForm_100 (by decide) ?_
                refine y_callI (As := [.int 59]) (rest := []) S hw hl.1 (c_X4_reads l D cI cC cL q (va_up (va_up (va_up u 4 (fun _ => (nI ((pT (u 0) L ((pT (u 0) L ((pT (u 0) L (pT (u 0) L a 115) 108) + pNd (u 0) L (pT (u 0) L (pT (u 0) L a 115) 108) 1) 44) + pNd (u 0) L (pT (u 0) L ((pT (u 0) L (pT (u 0) L a 115) 108) + pNd (u 0) L (pT (u 0) L (pT (u 0) L a 115) 108) 1) 44) 5) 44) + pNd (u 0) L (pT (u 0) L ((pT (u 0) L ((pT (u 0) L (pT (u 0) L a 115) 108) + pNd (u 0) L (pT (u 0) L (pT (u 0) L a 115) 108) 1) 44) + pNd (u 0) L (pT (u 0) L ((pT (u 0) L (pT (u 0) L a 115) 108) + pNd (u 0) L (pT (u 0) L (pT (u 0) L a 115) 108) 1) 44) 5) 44) 5)))) 5 (fun _ => 108)) 6 (upd (upd (upd (u 6) 0 (pNv (u 0) (pT (u 0) L (pT (u 0) L a 115) 108) (pNd (u 0) L (pT (u 0) L (pT (u 0) L a 115) 108) 1))) 1 (pNv (u 0) (pT (u 0) L ((pT (u 0) L (pT (u 0) L a 115) 108) + pNd (u 0) L (pT (u 0) L (pT (u 0) L a 115) 108) 1) 44) (pNd (u 0) L (pT (u 0) L ((pT (u 0) L (pT (u 0) L a 115) 108) + pNd (u 0) L (pT (u 0) L (pT (u 0) L a 115) 108) 1) 44) 5))) 2 (pNv (u 0) (pT (u 0) L ((pT (u 0) L ((pT (u 0) L (pT (u 0) L a 115) 108) + pNd (u 0) L (pT (u 0) L (pT (u 0) L a 115) 108) 1) 44) + pNd (u 0) L (pT (u 0) L ((pT (u 0) L (pT (u 0) L a 115) 108) + pNd (u 0) L (pT (u 0) L (pT (u 0) L a 115) 108) 1) 44) 5) 44) (pNd (u 0) L (pT (u 0) L ((pT (u 0) L ((pT (u 0) L (pT (u 0) L a 115) 108) + pNd (u 0) L (pT (u 0) L (pT (u 0) L a 115) 108) 1) 44) + pNd (u 0) L (pT (u 0) L ((pT (u 0) L (pT (u 0) L a 115) 108) + pNd (u 0) L (pT (u 0) L (pT (u 0) L a 115) 108) 1) 44) 5) 44) 5)))) L ((pT (u 0) L ((pT (u 0) L ((pT (u 0) L (pT (u 0) L a 115) 108) + pNd (u 0) L (pT (u 0) L (pT (u 0) L a 115) 108) 1) 44) + pNd (u 0) L (pT (u 0) L ((pT (u 0) L (pT (u 0) L a 115) 108) + pNd (u 0) L (pT (u 0) L (pT (u 0) L a 115) 108) 1) 44) 5) 44) + pNd (u 0) L (pT (u 0) L ((pT (u 0) L ((pT (u 0) L (pT (u 0) L a 115) 108) + pNd (u 0) L (pT (u 0) L (pT (u 0) L a 115) 108) 1) 44) + pNd (u 0) L (pT (u 0) L ((pT (u 0) L (pT (u 0) L a 115) 108) + pNd (u 0) L (pT (u 0) L (pT (u 0) L a 115) 108) 1) 44) 5) 44) 5) hL (by omega) (rfl) (pNd_L (pT_L (pNd_L (pT_L (pNd_L (pT_L (pT_L (ha2)))))))) 59) (cwV 1 S.2.2.2.2 gX4_readForm_X4_reads rfl rfl rfl (by decide +kernel) ⟨Nat.le_of_ble_eq_true rfl, Nat.le_of_ble_eq_true rfl⟩) 0 rfl rfl [0, 1, 2] [] rfl (by decide +kernel) (wr := []) rfl (by decide +kernel) (by decide +kernel) rfl (Nat.le_of_ble_eq_true rfl) dX4_readForm_102 rfl ⟨Nat.le_refl _, Nat.le_refl _⟩ (fun H locs v_22 x_23 ev_22 ex_23 hw => ?_)
                subst ev_22
                have hw : y_W D cI cC cL A s H locs [((q 0), .inr (4, [.ref (q 1), .int (u 1 0), .int (u 2 0), .int (u 3 0), .int (nI (pT (u 0) L ((pT (u 0) L ((pT (u 0) L ((pT (u 0) L (pT (u 0) L a 115) 108) + pNd (u 0) L (pT (u 0) L (pT (u 0) L a 115) 108) 1) 44) + pNd (u 0) L (pT (u 0) L ((pT (u 0) L (pT (u 0) L a 115) 108) + pNd (u 0) L (pT (u 0) L (pT (u 0) L a 115) 108) 1) 44) 5) 44) + pNd (u 0) L (pT (u 0) L ((pT (u 0) L ((pT (u 0) L (pT (u 0) L a 115) 108) + pNd (u 0) L (pT (u 0) L (pT (u 0) L a 115) 108) 1) 44) + pNd (u 0) L (pT (u 0) L ((pT (u 0) L (pT (u 0) L a 115) 108) + pNd (u 0) L (pT (u 0) L (pT (u 0) L a 115) 108) 1) 44) 5) 44) 5) 59)), .int 108, .ref (q 2), .int (u 7 0), .int (u 8 0)])), ((q 1), .inl (cC, 60, .inl (u 0))), ((q 2), .inl (cI, 3, .inl (upd (upd (upd (u 6) 0 (pNv (u 0) (pT (u 0) L (pT (u 0) L a 115) 108) (pNd (u 0) L (pT (u 0) L (pT (u 0) L a 115) 108) 1))) 1 (pNv (u 0) (pT (u 0) L ((pT (u 0) L (pT (u 0) L a 115) 108) + pNd (u 0) L (pT (u 0) L (pT (u 0) L a 115) 108) 1) 44) (pNd (u 0) L (pT (u 0) L ((pT (u 0) L (pT (u 0) L a 115) 108) + pNd (u 0) L (pT (u 0) L (pT (u 0) L a 115) 108) 1) 44) 5))) 2 (pNv (u 0) (pT (u 0) L ((pT (u 0) L ((pT (u 0) L (pT (u 0) L a 115) 108) + pNd (u 0) L (pT (u 0) L (pT (u 0) L a 115) 108) 1) 44) + pNd (u 0) L (pT (u 0) L ((pT (u 0) L (pT (u 0) L a 115) 108) + pNd (u 0) L (pT (u 0) L (pT (u 0) L a 115) 108) 1) 44) 5) 44) (pNd (u 0) L (pT (u 0) L ((pT (u 0) L ((pT (u 0) L (pT (u 0) L a 115) 108) + pNd (u 0) L (pT (u 0) L (pT (u 0) L a 115) 108) 1) 44) + pNd (u 0) L (pT (u 0) L ((pT (u 0) L (pT (u 0) L a 115) 108) + pNd (u 0) L (pT (u 0) L (pT (u 0) L a 115) 108) 1) 44) 5) 44) 5)))))] := hw
                subst ex_23
                refine y_top (y := (pTf (u 0) L ((pT (u 0) L ((pT (u 0) L ((pT (u 0) L (pT (u 0) L a 115) 108) + pNd (u 0) L (pT (u 0) L (pT (u 0) L a 115) 108) 1) 44) + pNd (u 0) L (pT (u 0) L ((pT (u 0) L (pT (u 0) L a 115) 108) + pNd (u 0) L (pT (u 0) L (pT (u 0) L a 115) 108) 1) 44) 5) 44) + pNd (u 0) L (pT (u 0) L ((pT (u 0) L ((pT (u 0) L (pT (u 0) L a 115) 108) + pNd (u 0) L (pT (u 0) L (pT (u 0) L a 115) 108) 1) 44) + pNd (u 0) L (pT (u 0) L ((pT (u 0) L (pT (u 0) L a 115) 108) + pNd (u 0) L (pT (u 0) L (pT (u 0) L a 115) 108) 1) 44) 5) 44) 5) 59)) rfl ?_
                refine lv_if_eq (tgt := 112) S.1 S.2.1 dX4_readForm_105 (by decide) (fun c_24 => ?_) (fun c_24 => ?_)
                · skip
                  refine lv_iconst (v := 0) S.1 S.2.1 dX4_readForm_112 (by decide) ?_
                  have hJ : pForm (u 0) L a (u 6) = ((pT (u 0) L ((pT (u 0) L ((pT (u 0) L ((pT (u 0) L (pT (u 0) L a 115) 108) + pNd (u 0) L (pT (u 0) L (pT (u 0) L a 115) 108) 1) 44) + pNd (u 0) L (pT (u 0) L ((pT (u 0) L (pT (u 0) L a 115) 108) + pNd (u 0) L (pT (u 0) L (pT (u 0) L a 115) 108) 1) 44) 5) 44) + pNd (u 0) L (pT (u 0) L ((pT (u 0) L ((pT (u 0) L (pT (u 0) L a 115) 108) + pNd (u 0) L (pT (u 0) L (pT (u 0) L a 115) 108) 1) 44) + pNd (u 0) L (pT (u 0) L ((pT (u 0) L (pT (u 0) L a 115) 108) + pNd (u 0) L (pT (u 0) L (pT (u 0) L a 115) 108) 1) 44) 5) 44) 5) 59), (upd (upd (upd (u 6) 0 (pNv (u 0) (pT (u 0) L (pT (u 0) L a 115) 108) (pNd (u 0) L (pT (u 0) L (pT (u 0) L a 115) 108) 1))) 1 (pNv (u 0) (pT (u 0) L ((pT (u 0) L (pT (u 0) L a 115) 108) + pNd (u 0) L (pT (u 0) L (pT (u 0) L a 115) 108) 1) 44) (pNd (u 0) L (pT (u 0) L ((pT (u 0) L (pT (u 0) L a 115) 108) + pNd (u 0) L (pT (u 0) L (pT (u 0) L a 115) 108) 1) 44) 5))) 2 (pNv (u 0) (pT (u 0) L ((pT (u 0) L ((pT (u 0) L (pT (u 0) L a 115) 108) + pNd (u 0) L (pT (u 0) L (pT (u 0) L a 115) 108) 1) 44) + pNd (u 0) L (pT (u 0) L ((pT (u 0) L (pT (u 0) L a 115) 108) + pNd (u 0) L (pT (u 0) L (pT (u 0) L a 115) 108) 1) 44) 5) 44) (pNd (u 0) L (pT (u 0) L ((pT (u 0) L ((pT (u 0) L (pT (u 0) L a 115) 108) + pNd (u 0) L (pT (u 0) L (pT (u 0) L a 115) 108) 1) 44) + pNd (u 0) L (pT (u 0) L ((pT (u 0) L (pT (u 0) L a 115) 108) + pNd (u 0) L (pT (u 0) L (pT (u 0) L a 115) 108) 1) 44) 5) 44) 5))), 0) := by simp only [pForm, sS, lS, pRun, c_3, c_6, c_9, c_12, c_15, c_18, c_21, c_24, ↓reduceIte]
                  have hK : tKind u L a = 108 := by simp only [tKind, c_3, c_6, c_9, c_12, c_15, c_18, c_21, c_24, ↓reduceIte]
                  exact ret _ _ _ _ _ (by unfold tForm; rw [hJ, hK]; exact hw) (by rw [hJ]) dX4_readForm_113
                · skip
                  refine lv_iconst (v := 1) S.1 S.2.1 dX4_readForm_108 (by decide) ?_
                  refine lv_goto (tgt := 113) S.1 S.2.1 dX4_readForm_109 (by decide) ?_
                  have hJ : pForm (u 0) L a (u 6) = ((pT (u 0) L ((pT (u 0) L ((pT (u 0) L ((pT (u 0) L (pT (u 0) L a 115) 108) + pNd (u 0) L (pT (u 0) L (pT (u 0) L a 115) 108) 1) 44) + pNd (u 0) L (pT (u 0) L ((pT (u 0) L (pT (u 0) L a 115) 108) + pNd (u 0) L (pT (u 0) L (pT (u 0) L a 115) 108) 1) 44) 5) 44) + pNd (u 0) L (pT (u 0) L ((pT (u 0) L ((pT (u 0) L (pT (u 0) L a 115) 108) + pNd (u 0) L (pT (u 0) L (pT (u 0) L a 115) 108) 1) 44) + pNd (u 0) L (pT (u 0) L ((pT (u 0) L (pT (u 0) L a 115) 108) + pNd (u 0) L (pT (u 0) L (pT (u 0) L a 115) 108) 1) 44) 5) 44) 5) 59), (upd (upd (upd (u 6) 0 (pNv (u 0) (pT (u 0) L (pT (u 0) L a 115) 108) (pNd (u 0) L (pT (u 0) L (pT (u 0) L a 115) 108) 1))) 1 (pNv (u 0) (pT (u 0) L ((pT (u 0) L (pT (u 0) L a 115) 108) + pNd (u 0) L (pT (u 0) L (pT (u 0) L a 115) 108) 1) 44) (pNd (u 0) L (pT (u 0) L ((pT (u 0) L (pT (u 0) L a 115) 108) + pNd (u 0) L (pT (u 0) L (pT (u 0) L a 115) 108) 1) 44) 5))) 2 (pNv (u 0) (pT (u 0) L ((pT (u 0) L ((pT (u 0) L (pT (u 0) L a 115) 108) + pNd (u 0) L (pT (u 0) L (pT (u 0) L a 115) 108) 1) 44) + pNd (u 0) L (pT (u 0) L ((pT (u 0) L (pT (u 0) L a 115) 108) + pNd (u 0) L (pT (u 0) L (pT (u 0) L a 115) 108) 1) 44) 5) 44) (pNd (u 0) L (pT (u 0) L ((pT (u 0) L ((pT (u 0) L (pT (u 0) L a 115) 108) + pNd (u 0) L (pT (u 0) L (pT (u 0) L a 115) 108) 1) 44) + pNd (u 0) L (pT (u 0) L ((pT (u 0) L (pT (u 0) L a 115) 108) + pNd (u 0) L (pT (u 0) L (pT (u 0) L a 115) 108) 1) 44) 5) 44) 5))), 1) := by simp only [pForm, sS, lS, pRun, c_3, c_6, c_9, c_12, c_15, c_18, c_21, c_24, ↓reduceIte]
                  have hK : tKind u L a = 108 := by simp only [tKind, c_3, c_6, c_9, c_12, c_15, c_18, c_21, c_24, ↓reduceIte]
                  exact ret _ _ _ _ _ (by unfold tForm; rw [hJ, hK]; exact hw) (by rw [hJ]) dX4_readForm_113
  · skip
    refine lv_aload_n S.1 S.2.1 dX4_readForm_9 rfl (lv_at hl 0 rfl) ?_
    refine lv_bipush (v := 115) S.1 S.2.1 dX4_readForm_10 (by decide) ?_
    refine y_put S hw (C := RX4) (T := TX4) (N := 9) i_X4_readForm_X4 tyX4_ok nmX4 0 rfl rfl 5 (by decide) f_X4_readForm_36 (by decide +kernel) rfl rfl (Nat.le_of_ble_eq_true rfl) dX4_readForm_12 (ws' := [((q 0), .inr (4, [.ref (q 1), .int (u 1 0), .int (u 2 0), .int (u 3 0), .int (nI (pT (u 0) L a 115)), .int 115, .ref (q 2), .int (u 7 0), .int (u 8 0)])), ((q 1), .inl (cC, 60, .inl (u 0))), ((q 2), .inl (cI, 3, .inl (u 6)))]) rfl (fun H locs hw => ?_)
    refine lv_aload_n S.1 S.2.1 dX4_readForm_15 rfl (lv_at hl 0 rfl) ?_
    refine lv_iconst (v := 0) S.1 S.2.1 dX4_readForm_16 (by decide) ?_
    refine lv_iconst (v := 5) S.1 S.2.1 dX4_readForm_17 (by decide) ?_
    refine y_callI (As := [.int 0, .int 5]) (rest := []) S hw hl.1 (c_X4_readsNumber l D cI cC cL q (va_up (va_up u 4 (fun _ => (nI (pT (u 0) L a 115)))) 5 (fun _ => 115)) L (pT (u 0) L a 115) hL (by omega) (rfl) (pT_L (ha2)) 0 5 (by decide) (by decide)) (cwV 2 S.2.2.2.2 gX4_readForm_X4_readsNumber rfl rfl rfl (by decide +kernel) ⟨Nat.le_of_ble_eq_true rfl, Nat.le_of_ble_eq_true rfl⟩) 0 rfl rfl [0, 1, 2] [] rfl (by decide +kernel) (wr := []) rfl (by decide +kernel) (by decide +kernel) rfl (Nat.le_of_ble_eq_true rfl) dX4_readForm_18 rfl ⟨Nat.le_refl _, Nat.le_refl _⟩ (fun H locs v_25 x_26 ev_25 ex_26 hw => ?_)
    subst ev_25
    have hw : y_W D cI cC cL A s H locs [((q 0), .inr (4, [.ref (q 1), .int (u 1 0), .int (u 2 0), .int (u 3 0), .int (nI ((pT (u 0) L a 115) + pNd (u 0) L (pT (u 0) L a 115) 5)), .int 115, .ref (q 2), .int (u 7 0), .int (u 8 0)])), ((q 1), .inl (cC, 60, .inl (u 0))), ((q 2), .inl (cI, 3, .inl (upd (u 6) 0 (pNv (u 0) (pT (u 0) L a 115) (pNd (u 0) L (pT (u 0) L a 115) 5)))))] := hw
    subst ex_26
    refine y_top (y := (pNf (u 0) L (pT (u 0) L a 115) 5)) rfl ?_
    refine lv_if_eq (tgt := 37) S.1 S.2.1 dX4_readForm_21 (by decide) (fun c_27 => ?_) (fun c_27 => ?_)
    · skip
      refine lv_iconst (v := 0) S.1 S.2.1 dX4_readForm_37 (by decide) ?_
      have hJ : pForm (u 0) L a (u 6) = (((pT (u 0) L a 115) + pNd (u 0) L (pT (u 0) L a 115) 5), (upd (u 6) 0 (pNv (u 0) (pT (u 0) L a 115) (pNd (u 0) L (pT (u 0) L a 115) 5))), 0) := by simp only [pForm, sS, lS, pRun, c_3, c_27, ↓reduceIte]
      have hK : tKind u L a = 115 := by simp only [tKind, c_3, c_27, ↓reduceIte]
      exact ret _ _ _ _ _ (by unfold tForm; rw [hJ, hK]; exact hw) (by rw [hJ]) dX4_readForm_38
    · skip
      refine lv_aload_n S.1 S.2.1 dX4_readForm_24 rfl (lv_at hl 0 rfl) ?_
      refine lv_bipush (v := 59) S.1 S.2.1 dX4_readForm_25 (by decide) ?_
      refine y_callI (As := [.int 59]) (rest := []) S hw hl.1 (c_X4_reads l D cI cC cL q (va_up (va_up (va_up u 4 (fun _ => (nI ((pT (u 0) L a 115) + pNd (u 0) L (pT (u 0) L a 115) 5)))) 5 (fun _ => 115)) 6 (upd (u 6) 0 (pNv (u 0) (pT (u 0) L a 115) (pNd (u 0) L (pT (u 0) L a 115) 5)))) L ((pT (u 0) L a 115) + pNd (u 0) L (pT (u 0) L a 115) 5) hL (by omega) (rfl) (pNd_L (pT_L (ha2))) 59) (cwV 1 S.2.2.2.2 gX4_readForm_X4_reads rfl rfl rfl (by decide +kernel) ⟨Nat.le_of_ble_eq_true rfl, Nat.le_of_ble_eq_true rfl⟩) 0 rfl rfl [0, 1, 2] [] rfl (by decide +kernel) (wr := []) rfl (by decide +kernel) (by decide +kernel) rfl (Nat.le_of_ble_eq_true rfl) dX4_readForm_27 rfl ⟨Nat.le_refl _, Nat.le_refl _⟩ (fun H locs v_28 x_29 ev_28 ex_29 hw => ?_)
      subst ev_28
      have hw : y_W D cI cC cL A s H locs [((q 0), .inr (4, [.ref (q 1), .int (u 1 0), .int (u 2 0), .int (u 3 0), .int (nI (pT (u 0) L ((pT (u 0) L a 115) + pNd (u 0) L (pT (u 0) L a 115) 5) 59)), .int 115, .ref (q 2), .int (u 7 0), .int (u 8 0)])), ((q 1), .inl (cC, 60, .inl (u 0))), ((q 2), .inl (cI, 3, .inl (upd (u 6) 0 (pNv (u 0) (pT (u 0) L a 115) (pNd (u 0) L (pT (u 0) L a 115) 5)))))] := hw
      subst ex_29
      refine y_top (y := (pTf (u 0) L ((pT (u 0) L a 115) + pNd (u 0) L (pT (u 0) L a 115) 5) 59)) rfl ?_
      refine lv_if_eq (tgt := 37) S.1 S.2.1 dX4_readForm_30 (by decide) (fun c_30 => ?_) (fun c_30 => ?_)
      · skip
        refine lv_iconst (v := 0) S.1 S.2.1 dX4_readForm_37 (by decide) ?_
        have hJ : pForm (u 0) L a (u 6) = ((pT (u 0) L ((pT (u 0) L a 115) + pNd (u 0) L (pT (u 0) L a 115) 5) 59), (upd (u 6) 0 (pNv (u 0) (pT (u 0) L a 115) (pNd (u 0) L (pT (u 0) L a 115) 5))), 0) := by simp only [pForm, sS, lS, pRun, c_3, c_27, c_30, ↓reduceIte]
        have hK : tKind u L a = 115 := by simp only [tKind, c_3, c_27, c_30, ↓reduceIte]
        exact ret _ _ _ _ _ (by unfold tForm; rw [hJ, hK]; exact hw) (by rw [hJ]) dX4_readForm_38
      · skip
        refine lv_iconst (v := 1) S.1 S.2.1 dX4_readForm_33 (by decide) ?_
        refine lv_goto (tgt := 38) S.1 S.2.1 dX4_readForm_34 (by decide) ?_
        have hJ : pForm (u 0) L a (u 6) = ((pT (u 0) L ((pT (u 0) L a 115) + pNd (u 0) L (pT (u 0) L a 115) 5) 59), (upd (u 6) 0 (pNv (u 0) (pT (u 0) L a 115) (pNd (u 0) L (pT (u 0) L a 115) 5))), 1) := by simp only [pForm, sS, lS, pRun, c_3, c_27, c_30, ↓reduceIte]
        have hK : tKind u L a = 115 := by simp only [tKind, c_3, c_27, c_30, ↓reduceIte]
        exact ret _ _ _ _ _ (by unfold tForm; rw [hJ, hK]; exact hw) (by rw [hJ]) dX4_readForm_38

theorem i_X4_findOutOfRange_X4 : ∀ w ∈ u_ws RX4 TX4 9, w ∈ wsX4_findOutOfRange := by decide +kernel
theorem f_X4_findOutOfRange_36 : Cond.fieldLink RX4 36 "ChargeLines$Text" "kind" "C" ∈ wsX4_findOutOfRange := by decide +kernel
theorem f_X4_findOutOfRange_33 : Cond.fieldLink RX4 33 "ChargeLines$Text" "reason" "I" ∈ wsX4_findOutOfRange := by decide +kernel
theorem f_X4_findOutOfRange_15 : Cond.fieldLink RX4 15 "ChargeLines$Text" "numbers" "[I" ∈ wsX4_findOutOfRange := by decide +kernel
theorem f_X4_findOutOfRange_44 : Cond.fieldLink RX4 44 "ChargeLines$Text" "cause" "I" ∈ wsX4_findOutOfRange := by decide +kernel
set_option maxHeartbeats 4000000 in
set_option maxRecDepth 100000 in
/-- Text.findOutOfRange -/
theorem c_X4_findOutOfRange (l : Launch) (D : va_G) (cI cC cL : ClassId) (q : Nat → Nat) (u : U) (hr : u 7 0 = nI 0) : y_MV l yX4_findOutOfRange wsX4_findOutOfRange 0 0 D cI cC cL [.ref (q 0)] (cTx cI cC q u) (fun v : U => cTx cI cC q v) (tOut u) := by
  refine y_startV (cc := cX4_findOutOfRange) (maxL := 4) (by decide) rfl (Nat.le_of_ble_eq_true rfl) ?_
  intro p e s mm args below meth c A QQ ls S hw ret hl
  have S : CallFix p mm c cX4_findOutOfRange 4 s args wsX4_findOutOfRange RX4 := S
  have hw : y_W D cI cC cL A s s.heap [] [((q 0), .inr (4, [.ref (q 1), .int (u 1 0), .int (u 2 0), .int (u 3 0), .int (u 4 0), .int (u 5 0), .ref (q 2), .int (u 7 0), .int (u 8 0)])), ((q 1), .inl (cC, 60, .inl (u 0))), ((q 2), .inl (cI, 3, .inl (u 6)))] := hw
  have hl : lv_has ls 4 [(0, .ref (q 0))] := hl
  refine lv_aload_n S.1 S.2.1 dX4_findOutOfRange_0 rfl (lv_at hl 0 rfl) ?_
  refine y_get S hw (C := RX4) (T := TX4) (N := 9) i_X4_findOutOfRange_X4 0 rfl rfl 5 (by decide) f_X4_findOutOfRange_36 rfl dX4_findOutOfRange_1 ?_
  refine lv_bipush (v := 115) S.1 S.2.1 dX4_findOutOfRange_4 (by decide) ?_
  refine lv_icmp_ne (tgt := 15) S.1 S.2.1 dX4_findOutOfRange_6 (by decide) (fun c_1 => ?_) (fun c_1 => ?_)
  · skip
    refine lv_sipush (v := 300) S.1 S.2.1 dX4_findOutOfRange_15 (by decide) ?_
    refine lv_istore_n (lv' := [(1, .int 300), (0, .ref (q 0))]) S.1 S.2.1 dX4_findOutOfRange_18 rfl hl (by decide) rfl (fun ls hl => ?_)
    refine lv_aload_n S.1 S.2.1 dX4_findOutOfRange_19 rfl (lv_at hl 1 rfl) ?_
    refine y_get S hw (C := RX4) (T := TX4) (N := 9) i_X4_findOutOfRange_X4 0 rfl rfl 5 (by decide) f_X4_findOutOfRange_36 rfl dX4_findOutOfRange_20 ?_
    refine lv_bipush (v := 115) S.1 S.2.1 dX4_findOutOfRange_23 (by decide) ?_
    refine lv_icmp_ne (tgt := 32) S.1 S.2.1 dX4_findOutOfRange_25 (by decide) (fun c_2 => ?_) (fun c_2 => ?_)
    · skip
      refine lv_iconst (v := 3) S.1 S.2.1 dX4_findOutOfRange_32 (by decide) ?_
      refine lv_istore_n (lv' := [(2, .int 3), (1, .int 300), (0, .ref (q 0))]) S.1 S.2.1 dX4_findOutOfRange_33 rfl hl (by decide) rfl (fun ls hl => ?_)
      refine lv_iconst (v := 0) S.1 S.2.1 dX4_findOutOfRange_34 (by decide) ?_
      refine lv_istore_n (lv' := [(3, .int 0), (2, .int 3), (1, .int 300), (0, .ref (q 0))]) S.1 S.2.1 dX4_findOutOfRange_35 rfl hl (by decide) rfl (fun ls hl => ?_)
      refine lv_iload_n S.1 S.2.1 dX4_findOutOfRange_36 rfl (lv_at hl 0 rfl) ?_
      refine lv_iload_n S.1 S.2.1 dX4_findOutOfRange_37 rfl (lv_at hl 1 rfl) ?_
      refine lv_icmp_ge (tgt := 74) S.1 S.2.1 dX4_findOutOfRange_38 (by decide) (fun c_3 => ?_) (fun c_3 => ?_)
      · skip
        exact absurd c_3 (by decide)
      · skip
        refine lv_aload_n S.1 S.2.1 dX4_findOutOfRange_41 rfl (lv_at hl 3 rfl) ?_
        refine y_get S hw (C := RX4) (T := TX4) (N := 9) i_X4_findOutOfRange_X4 0 rfl rfl 7 (by decide) f_X4_findOutOfRange_33 rfl dX4_findOutOfRange_42 ?_
        refine y_top (y := (nI 0)) (hr) ?_
        refine lv_if_ne (tgt := 74) S.1 S.2.1 dX4_findOutOfRange_45 (by decide) (fun c_4 => ?_) (fun c_4 => ?_)
        · skip
          exact absurd c_4 (by decide)
        · skip
          refine lv_aload_n S.1 S.2.1 dX4_findOutOfRange_48 rfl (lv_at hl 3 rfl) ?_
          refine y_get S hw (C := RX4) (T := TX4) (N := 9) i_X4_findOutOfRange_X4 0 rfl rfl 6 (by decide) f_X4_findOutOfRange_15 rfl dX4_findOutOfRange_49 ?_
          refine lv_iload_n S.1 S.2.1 dX4_findOutOfRange_52 rfl (lv_at hl 0 rfl) ?_
          refine y_iald S hw 2 (k := 0) rfl (by omega) (Nat.le_of_ble_eq_true rfl) dX4_findOutOfRange_53 ?_
          refine lv_iload_n S.1 S.2.1 dX4_findOutOfRange_54 rfl (lv_at hl 2 rfl) ?_
          refine lv_icmp_le (tgt := 68) S.1 S.2.1 dX4_findOutOfRange_55 (by decide) (fun c_5 => ?_) (fun c_5 => ?_)
          · skip
            refine lv_iinc (v := 1) (lv' := [(3, .int 1), (2, .int 3), (1, .int 300), (0, .ref (q 0))]) S.1 S.2.1 dX4_findOutOfRange_68 hl (k := 0) rfl (by decide) (by decide) rfl (fun ls hl => ?_)
            refine lv_goto (tgt := 36) S.1 S.2.1 dX4_findOutOfRange_71 (by decide) ?_
            refine lv_iload_n S.1 S.2.1 dX4_findOutOfRange_36 rfl (lv_at hl 0 rfl) ?_
            refine lv_iload_n S.1 S.2.1 dX4_findOutOfRange_37 rfl (lv_at hl 1 rfl) ?_
            refine lv_icmp_ge (tgt := 74) S.1 S.2.1 dX4_findOutOfRange_38 (by decide) (fun c_6 => ?_) (fun c_6 => ?_)
            · skip
              exact absurd c_6 (by decide)
            · skip
              refine lv_aload_n S.1 S.2.1 dX4_findOutOfRange_41 rfl (lv_at hl 3 rfl) ?_
              refine y_get S hw (C := RX4) (T := TX4) (N := 9) i_X4_findOutOfRange_X4 0 rfl rfl 7 (by decide) f_X4_findOutOfRange_33 rfl dX4_findOutOfRange_42 ?_
              refine y_top (y := (nI 0)) (hr) ?_
              refine lv_if_ne (tgt := 74) S.1 S.2.1 dX4_findOutOfRange_45 (by decide) (fun c_7 => ?_) (fun c_7 => ?_)
              · skip
                exact absurd c_7 (by decide)
              · skip
                refine lv_aload_n S.1 S.2.1 dX4_findOutOfRange_48 rfl (lv_at hl 3 rfl) ?_
                refine y_get S hw (C := RX4) (T := TX4) (N := 9) i_X4_findOutOfRange_X4 0 rfl rfl 6 (by decide) f_X4_findOutOfRange_15 rfl dX4_findOutOfRange_49 ?_
                refine lv_iload_n S.1 S.2.1 dX4_findOutOfRange_52 rfl (lv_at hl 0 rfl) ?_
                refine y_iald S hw 2 (k := 1) rfl (by omega) (Nat.le_of_ble_eq_true rfl) dX4_findOutOfRange_53 ?_
                refine lv_iload_n S.1 S.2.1 dX4_findOutOfRange_54 rfl (lv_at hl 2 rfl) ?_
                refine lv_icmp_le (tgt := 68) S.1 S.2.1 dX4_findOutOfRange_55 (by decide) (fun c_8 => ?_) (fun c_8 => ?_)
                · skip
                  refine lv_iinc (v := 2) (lv' := [(3, .int 2), (2, .int 3), (1, .int 300), (0, .ref (q 0))]) S.1 S.2.1 dX4_findOutOfRange_68 hl (k := 0) rfl (by decide) (by decide) rfl (fun ls hl => ?_)
                  refine lv_goto (tgt := 36) S.1 S.2.1 dX4_findOutOfRange_71 (by decide) ?_
                  refine lv_iload_n S.1 S.2.1 dX4_findOutOfRange_36 rfl (lv_at hl 0 rfl) ?_
                  refine lv_iload_n S.1 S.2.1 dX4_findOutOfRange_37 rfl (lv_at hl 1 rfl) ?_
                  refine lv_icmp_ge (tgt := 74) S.1 S.2.1 dX4_findOutOfRange_38 (by decide) (fun c_9 => ?_) (fun c_9 => ?_)
                  · skip
                    exact absurd c_9 (by decide)
                  · skip
                    refine lv_aload_n S.1 S.2.1 dX4_findOutOfRange_41 rfl (lv_at hl 3 rfl) ?_
                    refine y_get S hw (C := RX4) (T := TX4) (N := 9) i_X4_findOutOfRange_X4 0 rfl rfl 7 (by decide) f_X4_findOutOfRange_33 rfl dX4_findOutOfRange_42 ?_
                    refine y_top (y := (nI 0)) (hr) ?_
                    refine lv_if_ne (tgt := 74) S.1 S.2.1 dX4_findOutOfRange_45 (by decide) (fun c_10 => ?_) (fun c_10 => ?_)
                    · skip
                      exact absurd c_10 (by decide)
                    · skip
                      refine lv_aload_n S.1 S.2.1 dX4_findOutOfRange_48 rfl (lv_at hl 3 rfl) ?_
                      refine y_get S hw (C := RX4) (T := TX4) (N := 9) i_X4_findOutOfRange_X4 0 rfl rfl 6 (by decide) f_X4_findOutOfRange_15 rfl dX4_findOutOfRange_49 ?_
                      refine lv_iload_n S.1 S.2.1 dX4_findOutOfRange_52 rfl (lv_at hl 0 rfl) ?_
                      refine y_iald S hw 2 (k := 2) rfl (by omega) (Nat.le_of_ble_eq_true rfl) dX4_findOutOfRange_53 ?_
                      refine lv_iload_n S.1 S.2.1 dX4_findOutOfRange_54 rfl (lv_at hl 2 rfl) ?_
                      refine lv_icmp_le (tgt := 68) S.1 S.2.1 dX4_findOutOfRange_55 (by decide) (fun c_11 => ?_) (fun c_11 => ?_)
                      · skip
                        refine lv_iinc (v := 3) (lv' := [(3, .int 3), (2, .int 3), (1, .int 300), (0, .ref (q 0))]) S.1 S.2.1 dX4_findOutOfRange_68 hl (k := 0) rfl (by decide) (by decide) rfl (fun ls hl => ?_)
                        refine lv_goto (tgt := 36) S.1 S.2.1 dX4_findOutOfRange_71 (by decide) ?_
                        refine lv_iload_n S.1 S.2.1 dX4_findOutOfRange_36 rfl (lv_at hl 0 rfl) ?_
                        refine lv_iload_n S.1 S.2.1 dX4_findOutOfRange_37 rfl (lv_at hl 1 rfl) ?_
                        refine lv_icmp_ge (tgt := 74) S.1 S.2.1 dX4_findOutOfRange_38 (by decide) (fun c_12 => ?_) (fun c_12 => ?_)
                        · skip
                          exact ret _ _ _ _ (by rw [show tOut u = va_up (va_up u 7 (fun _ => (u 7 0))) 8 (fun _ => (u 8 0)) from by unfold tOut; rw [show tOutR (u 5 0) (u 6 0) (u 6 1) (u 6 2) (u 7 0) = (u 7 0) from by simp only [tOutR, c_1, c_2, c_3, c_4, c_5, c_6, c_7, c_8, c_9, c_10, c_11, c_12, ↓reduceIte], show tOutC (u 5 0) (u 6 0) (u 6 1) (u 6 2) (u 8 0) = (u 8 0) from by simp only [tOutC, c_1, c_2, c_3, c_4, c_5, c_6, c_7, c_8, c_9, c_10, c_11, c_12, ↓reduceIte]]]; exact hw) dX4_findOutOfRange_74
                        · skip
                          exact absurd c_12 (by decide)
                      · skip
                        refine lv_aload_n S.1 S.2.1 dX4_findOutOfRange_58 rfl (lv_at hl 3 rfl) ?_
                        refine lv_iconst (v := 3) S.1 S.2.1 dX4_findOutOfRange_59 (by decide) ?_
                        refine y_put S hw (C := RX4) (T := TX4) (N := 9) i_X4_findOutOfRange_X4 tyX4_ok nmX4 0 rfl rfl 7 (by decide) f_X4_findOutOfRange_33 (by decide +kernel) rfl rfl (Nat.le_of_ble_eq_true rfl) dX4_findOutOfRange_60 (ws' := [((q 0), .inr (4, [.ref (q 1), .int (u 1 0), .int (u 2 0), .int (u 3 0), .int (u 4 0), .int (u 5 0), .ref (q 2), .int 3, .int (u 8 0)])), ((q 1), .inl (cC, 60, .inl (u 0))), ((q 2), .inl (cI, 3, .inl (u 6)))]) rfl (fun H locs hw => ?_)
                        refine lv_aload_n S.1 S.2.1 dX4_findOutOfRange_63 rfl (lv_at hl 3 rfl) ?_
                        refine lv_iload_n S.1 S.2.1 dX4_findOutOfRange_64 rfl (lv_at hl 0 rfl) ?_
                        refine y_put S hw (C := RX4) (T := TX4) (N := 9) i_X4_findOutOfRange_X4 tyX4_ok nmX4 0 rfl rfl 8 (by decide) f_X4_findOutOfRange_44 (by decide +kernel) rfl rfl (Nat.le_of_ble_eq_true rfl) dX4_findOutOfRange_65 (ws' := [((q 0), .inr (4, [.ref (q 1), .int (u 1 0), .int (u 2 0), .int (u 3 0), .int (u 4 0), .int (u 5 0), .ref (q 2), .int 3, .int 2])), ((q 1), .inl (cC, 60, .inl (u 0))), ((q 2), .inl (cI, 3, .inl (u 6)))]) rfl (fun H locs hw => ?_)
                        refine lv_iinc (v := 3) (lv' := [(3, .int 3), (2, .int 3), (1, .int 300), (0, .ref (q 0))]) S.1 S.2.1 dX4_findOutOfRange_68 hl (k := 0) rfl (by decide) (by decide) rfl (fun ls hl => ?_)
                        refine lv_goto (tgt := 36) S.1 S.2.1 dX4_findOutOfRange_71 (by decide) ?_
                        refine lv_iload_n S.1 S.2.1 dX4_findOutOfRange_36 rfl (lv_at hl 0 rfl) ?_
                        refine lv_iload_n S.1 S.2.1 dX4_findOutOfRange_37 rfl (lv_at hl 1 rfl) ?_
                        refine lv_icmp_ge (tgt := 74) S.1 S.2.1 dX4_findOutOfRange_38 (by decide) (fun c_13 => ?_) (fun c_13 => ?_)
                        · skip
                          exact ret _ _ _ _ (by rw [show tOut u = va_up (va_up u 7 (fun _ => 3)) 8 (fun _ => 2) from by unfold tOut; rw [show tOutR (u 5 0) (u 6 0) (u 6 1) (u 6 2) (u 7 0) = 3 from by simp only [tOutR, c_1, c_2, c_3, c_4, c_5, c_6, c_7, c_8, c_9, c_10, c_11, c_13, ↓reduceIte], show tOutC (u 5 0) (u 6 0) (u 6 1) (u 6 2) (u 8 0) = 2 from by simp only [tOutC, c_1, c_2, c_3, c_4, c_5, c_6, c_7, c_8, c_9, c_10, c_11, c_13, ↓reduceIte]]]; exact hw) dX4_findOutOfRange_74
                        · skip
                          exact absurd c_13 (by decide)
                · skip
                  refine lv_aload_n S.1 S.2.1 dX4_findOutOfRange_58 rfl (lv_at hl 3 rfl) ?_
                  refine lv_iconst (v := 3) S.1 S.2.1 dX4_findOutOfRange_59 (by decide) ?_
                  refine y_put S hw (C := RX4) (T := TX4) (N := 9) i_X4_findOutOfRange_X4 tyX4_ok nmX4 0 rfl rfl 7 (by decide) f_X4_findOutOfRange_33 (by decide +kernel) rfl rfl (Nat.le_of_ble_eq_true rfl) dX4_findOutOfRange_60 (ws' := [((q 0), .inr (4, [.ref (q 1), .int (u 1 0), .int (u 2 0), .int (u 3 0), .int (u 4 0), .int (u 5 0), .ref (q 2), .int 3, .int (u 8 0)])), ((q 1), .inl (cC, 60, .inl (u 0))), ((q 2), .inl (cI, 3, .inl (u 6)))]) rfl (fun H locs hw => ?_)
                  refine lv_aload_n S.1 S.2.1 dX4_findOutOfRange_63 rfl (lv_at hl 3 rfl) ?_
                  refine lv_iload_n S.1 S.2.1 dX4_findOutOfRange_64 rfl (lv_at hl 0 rfl) ?_
                  refine y_put S hw (C := RX4) (T := TX4) (N := 9) i_X4_findOutOfRange_X4 tyX4_ok nmX4 0 rfl rfl 8 (by decide) f_X4_findOutOfRange_44 (by decide +kernel) rfl rfl (Nat.le_of_ble_eq_true rfl) dX4_findOutOfRange_65 (ws' := [((q 0), .inr (4, [.ref (q 1), .int (u 1 0), .int (u 2 0), .int (u 3 0), .int (u 4 0), .int (u 5 0), .ref (q 2), .int 3, .int 1])), ((q 1), .inl (cC, 60, .inl (u 0))), ((q 2), .inl (cI, 3, .inl (u 6)))]) rfl (fun H locs hw => ?_)
                  refine lv_iinc (v := 2) (lv' := [(3, .int 2), (2, .int 3), (1, .int 300), (0, .ref (q 0))]) S.1 S.2.1 dX4_findOutOfRange_68 hl (k := 0) rfl (by decide) (by decide) rfl (fun ls hl => ?_)
                  refine lv_goto (tgt := 36) S.1 S.2.1 dX4_findOutOfRange_71 (by decide) ?_
                  refine lv_iload_n S.1 S.2.1 dX4_findOutOfRange_36 rfl (lv_at hl 0 rfl) ?_
                  refine lv_iload_n S.1 S.2.1 dX4_findOutOfRange_37 rfl (lv_at hl 1 rfl) ?_
                  refine lv_icmp_ge (tgt := 74) S.1 S.2.1 dX4_findOutOfRange_38 (by decide) (fun c_14 => ?_) (fun c_14 => ?_)
                  · skip
                    exact absurd c_14 (by decide)
                  · skip
                    refine lv_aload_n S.1 S.2.1 dX4_findOutOfRange_41 rfl (lv_at hl 3 rfl) ?_
                    refine y_get S hw (C := RX4) (T := TX4) (N := 9) i_X4_findOutOfRange_X4 0 rfl rfl 7 (by decide) f_X4_findOutOfRange_33 rfl dX4_findOutOfRange_42 ?_
                    refine lv_if_ne (tgt := 74) S.1 S.2.1 dX4_findOutOfRange_45 (by decide) (fun c_15 => ?_) (fun c_15 => ?_)
                    · skip
                      exact ret _ _ _ _ (by rw [show tOut u = va_up (va_up u 7 (fun _ => 3)) 8 (fun _ => 1) from by unfold tOut; rw [show tOutR (u 5 0) (u 6 0) (u 6 1) (u 6 2) (u 7 0) = 3 from by simp only [tOutR, c_1, c_2, c_3, c_4, c_5, c_6, c_7, c_8, c_14, c_15, ↓reduceIte], show tOutC (u 5 0) (u 6 0) (u 6 1) (u 6 2) (u 8 0) = 1 from by simp only [tOutC, c_1, c_2, c_3, c_4, c_5, c_6, c_7, c_8, c_14, c_15, ↓reduceIte]]]; exact hw) dX4_findOutOfRange_74
                    · skip
                      exact absurd c_15 (by decide)
          · skip
            refine lv_aload_n S.1 S.2.1 dX4_findOutOfRange_58 rfl (lv_at hl 3 rfl) ?_
            refine lv_iconst (v := 3) S.1 S.2.1 dX4_findOutOfRange_59 (by decide) ?_
            refine y_put S hw (C := RX4) (T := TX4) (N := 9) i_X4_findOutOfRange_X4 tyX4_ok nmX4 0 rfl rfl 7 (by decide) f_X4_findOutOfRange_33 (by decide +kernel) rfl rfl (Nat.le_of_ble_eq_true rfl) dX4_findOutOfRange_60 (ws' := [((q 0), .inr (4, [.ref (q 1), .int (u 1 0), .int (u 2 0), .int (u 3 0), .int (u 4 0), .int (u 5 0), .ref (q 2), .int 3, .int (u 8 0)])), ((q 1), .inl (cC, 60, .inl (u 0))), ((q 2), .inl (cI, 3, .inl (u 6)))]) rfl (fun H locs hw => ?_)
            refine lv_aload_n S.1 S.2.1 dX4_findOutOfRange_63 rfl (lv_at hl 3 rfl) ?_
            refine lv_iload_n S.1 S.2.1 dX4_findOutOfRange_64 rfl (lv_at hl 0 rfl) ?_
            refine y_put S hw (C := RX4) (T := TX4) (N := 9) i_X4_findOutOfRange_X4 tyX4_ok nmX4 0 rfl rfl 8 (by decide) f_X4_findOutOfRange_44 (by decide +kernel) rfl rfl (Nat.le_of_ble_eq_true rfl) dX4_findOutOfRange_65 (ws' := [((q 0), .inr (4, [.ref (q 1), .int (u 1 0), .int (u 2 0), .int (u 3 0), .int (u 4 0), .int (u 5 0), .ref (q 2), .int 3, .int 0])), ((q 1), .inl (cC, 60, .inl (u 0))), ((q 2), .inl (cI, 3, .inl (u 6)))]) rfl (fun H locs hw => ?_)
            refine lv_iinc (v := 1) (lv' := [(3, .int 1), (2, .int 3), (1, .int 300), (0, .ref (q 0))]) S.1 S.2.1 dX4_findOutOfRange_68 hl (k := 0) rfl (by decide) (by decide) rfl (fun ls hl => ?_)
            refine lv_goto (tgt := 36) S.1 S.2.1 dX4_findOutOfRange_71 (by decide) ?_
            refine lv_iload_n S.1 S.2.1 dX4_findOutOfRange_36 rfl (lv_at hl 0 rfl) ?_
            refine lv_iload_n S.1 S.2.1 dX4_findOutOfRange_37 rfl (lv_at hl 1 rfl) ?_
            refine lv_icmp_ge (tgt := 74) S.1 S.2.1 dX4_findOutOfRange_38 (by decide) (fun c_16 => ?_) (fun c_16 => ?_)
            · skip
              exact absurd c_16 (by decide)
            · skip
              refine lv_aload_n S.1 S.2.1 dX4_findOutOfRange_41 rfl (lv_at hl 3 rfl) ?_
              refine y_get S hw (C := RX4) (T := TX4) (N := 9) i_X4_findOutOfRange_X4 0 rfl rfl 7 (by decide) f_X4_findOutOfRange_33 rfl dX4_findOutOfRange_42 ?_
              refine lv_if_ne (tgt := 74) S.1 S.2.1 dX4_findOutOfRange_45 (by decide) (fun c_17 => ?_) (fun c_17 => ?_)
              · skip
                exact ret _ _ _ _ (by rw [show tOut u = va_up (va_up u 7 (fun _ => 3)) 8 (fun _ => 0) from by unfold tOut; rw [show tOutR (u 5 0) (u 6 0) (u 6 1) (u 6 2) (u 7 0) = 3 from by simp only [tOutR, c_1, c_2, c_3, c_4, c_5, c_16, c_17, ↓reduceIte], show tOutC (u 5 0) (u 6 0) (u 6 1) (u 6 2) (u 8 0) = 0 from by simp only [tOutC, c_1, c_2, c_3, c_4, c_5, c_16, c_17, ↓reduceIte]]]; exact hw) dX4_findOutOfRange_74
              · skip
                exact absurd c_17 (by decide)
    · skip
      exact absurd c_2 c_1
  · skip
    refine lv_sipush (v := 10000) S.1 S.2.1 dX4_findOutOfRange_9 (by decide) ?_
    refine lv_goto (tgt := 18) S.1 S.2.1 dX4_findOutOfRange_12 (by decide) ?_
    refine lv_istore_n (lv' := [(1, .int 10000), (0, .ref (q 0))]) S.1 S.2.1 dX4_findOutOfRange_18 rfl hl (by decide) rfl (fun ls hl => ?_)
    refine lv_aload_n S.1 S.2.1 dX4_findOutOfRange_19 rfl (lv_at hl 1 rfl) ?_
    refine y_get S hw (C := RX4) (T := TX4) (N := 9) i_X4_findOutOfRange_X4 0 rfl rfl 5 (by decide) f_X4_findOutOfRange_36 rfl dX4_findOutOfRange_20 ?_
    refine lv_bipush (v := 115) S.1 S.2.1 dX4_findOutOfRange_23 (by decide) ?_
    refine lv_icmp_ne (tgt := 32) S.1 S.2.1 dX4_findOutOfRange_25 (by decide) (fun c_18 => ?_) (fun c_18 => ?_)
    · skip
      exact absurd c_1 c_18
    · skip
      refine lv_iconst (v := 1) S.1 S.2.1 dX4_findOutOfRange_28 (by decide) ?_
      refine lv_goto (tgt := 33) S.1 S.2.1 dX4_findOutOfRange_29 (by decide) ?_
      refine lv_istore_n (lv' := [(2, .int 1), (1, .int 10000), (0, .ref (q 0))]) S.1 S.2.1 dX4_findOutOfRange_33 rfl hl (by decide) rfl (fun ls hl => ?_)
      refine lv_iconst (v := 0) S.1 S.2.1 dX4_findOutOfRange_34 (by decide) ?_
      refine lv_istore_n (lv' := [(3, .int 0), (2, .int 1), (1, .int 10000), (0, .ref (q 0))]) S.1 S.2.1 dX4_findOutOfRange_35 rfl hl (by decide) rfl (fun ls hl => ?_)
      refine lv_iload_n S.1 S.2.1 dX4_findOutOfRange_36 rfl (lv_at hl 0 rfl) ?_
      refine lv_iload_n S.1 S.2.1 dX4_findOutOfRange_37 rfl (lv_at hl 1 rfl) ?_
      refine lv_icmp_ge (tgt := 74) S.1 S.2.1 dX4_findOutOfRange_38 (by decide) (fun c_19 => ?_) (fun c_19 => ?_)
      · skip
        exact absurd c_19 (by decide)
      · skip
        refine lv_aload_n S.1 S.2.1 dX4_findOutOfRange_41 rfl (lv_at hl 3 rfl) ?_
        refine y_get S hw (C := RX4) (T := TX4) (N := 9) i_X4_findOutOfRange_X4 0 rfl rfl 7 (by decide) f_X4_findOutOfRange_33 rfl dX4_findOutOfRange_42 ?_
        refine y_top (y := (nI 0)) (hr) ?_
        refine lv_if_ne (tgt := 74) S.1 S.2.1 dX4_findOutOfRange_45 (by decide) (fun c_20 => ?_) (fun c_20 => ?_)
        · skip
          exact absurd c_20 (by decide)
        · skip
          refine lv_aload_n S.1 S.2.1 dX4_findOutOfRange_48 rfl (lv_at hl 3 rfl) ?_
          refine y_get S hw (C := RX4) (T := TX4) (N := 9) i_X4_findOutOfRange_X4 0 rfl rfl 6 (by decide) f_X4_findOutOfRange_15 rfl dX4_findOutOfRange_49 ?_
          refine lv_iload_n S.1 S.2.1 dX4_findOutOfRange_52 rfl (lv_at hl 0 rfl) ?_
          refine y_iald S hw 2 (k := 0) rfl (by omega) (Nat.le_of_ble_eq_true rfl) dX4_findOutOfRange_53 ?_
          refine lv_iload_n S.1 S.2.1 dX4_findOutOfRange_54 rfl (lv_at hl 2 rfl) ?_
          refine lv_icmp_le (tgt := 68) S.1 S.2.1 dX4_findOutOfRange_55 (by decide) (fun c_21 => ?_) (fun c_21 => ?_)
          · skip
            refine lv_iinc (v := 1) (lv' := [(3, .int 1), (2, .int 1), (1, .int 10000), (0, .ref (q 0))]) S.1 S.2.1 dX4_findOutOfRange_68 hl (k := 0) rfl (by decide) (by decide) rfl (fun ls hl => ?_)
            refine lv_goto (tgt := 36) S.1 S.2.1 dX4_findOutOfRange_71 (by decide) ?_
            refine lv_iload_n S.1 S.2.1 dX4_findOutOfRange_36 rfl (lv_at hl 0 rfl) ?_
            refine lv_iload_n S.1 S.2.1 dX4_findOutOfRange_37 rfl (lv_at hl 1 rfl) ?_
            refine lv_icmp_ge (tgt := 74) S.1 S.2.1 dX4_findOutOfRange_38 (by decide) (fun c_22 => ?_) (fun c_22 => ?_)
            · skip
              exact ret _ _ _ _ (by rw [show tOut u = va_up (va_up u 7 (fun _ => (u 7 0))) 8 (fun _ => (u 8 0)) from by unfold tOut; rw [show tOutR (u 5 0) (u 6 0) (u 6 1) (u 6 2) (u 7 0) = (u 7 0) from by simp only [tOutR, c_1, c_18, c_19, c_20, c_21, c_22, ↓reduceIte], show tOutC (u 5 0) (u 6 0) (u 6 1) (u 6 2) (u 8 0) = (u 8 0) from by simp only [tOutC, c_1, c_18, c_19, c_20, c_21, c_22, ↓reduceIte]]]; exact hw) dX4_findOutOfRange_74
            · skip
              exact absurd c_22 (by decide)
          · skip
            refine lv_aload_n S.1 S.2.1 dX4_findOutOfRange_58 rfl (lv_at hl 3 rfl) ?_
            refine lv_iconst (v := 3) S.1 S.2.1 dX4_findOutOfRange_59 (by decide) ?_
            refine y_put S hw (C := RX4) (T := TX4) (N := 9) i_X4_findOutOfRange_X4 tyX4_ok nmX4 0 rfl rfl 7 (by decide) f_X4_findOutOfRange_33 (by decide +kernel) rfl rfl (Nat.le_of_ble_eq_true rfl) dX4_findOutOfRange_60 (ws' := [((q 0), .inr (4, [.ref (q 1), .int (u 1 0), .int (u 2 0), .int (u 3 0), .int (u 4 0), .int (u 5 0), .ref (q 2), .int 3, .int (u 8 0)])), ((q 1), .inl (cC, 60, .inl (u 0))), ((q 2), .inl (cI, 3, .inl (u 6)))]) rfl (fun H locs hw => ?_)
            refine lv_aload_n S.1 S.2.1 dX4_findOutOfRange_63 rfl (lv_at hl 3 rfl) ?_
            refine lv_iload_n S.1 S.2.1 dX4_findOutOfRange_64 rfl (lv_at hl 0 rfl) ?_
            refine y_put S hw (C := RX4) (T := TX4) (N := 9) i_X4_findOutOfRange_X4 tyX4_ok nmX4 0 rfl rfl 8 (by decide) f_X4_findOutOfRange_44 (by decide +kernel) rfl rfl (Nat.le_of_ble_eq_true rfl) dX4_findOutOfRange_65 (ws' := [((q 0), .inr (4, [.ref (q 1), .int (u 1 0), .int (u 2 0), .int (u 3 0), .int (u 4 0), .int (u 5 0), .ref (q 2), .int 3, .int 0])), ((q 1), .inl (cC, 60, .inl (u 0))), ((q 2), .inl (cI, 3, .inl (u 6)))]) rfl (fun H locs hw => ?_)
            refine lv_iinc (v := 1) (lv' := [(3, .int 1), (2, .int 1), (1, .int 10000), (0, .ref (q 0))]) S.1 S.2.1 dX4_findOutOfRange_68 hl (k := 0) rfl (by decide) (by decide) rfl (fun ls hl => ?_)
            refine lv_goto (tgt := 36) S.1 S.2.1 dX4_findOutOfRange_71 (by decide) ?_
            refine lv_iload_n S.1 S.2.1 dX4_findOutOfRange_36 rfl (lv_at hl 0 rfl) ?_
            refine lv_iload_n S.1 S.2.1 dX4_findOutOfRange_37 rfl (lv_at hl 1 rfl) ?_
            refine lv_icmp_ge (tgt := 74) S.1 S.2.1 dX4_findOutOfRange_38 (by decide) (fun c_23 => ?_) (fun c_23 => ?_)
            · skip
              exact ret _ _ _ _ (by rw [show tOut u = va_up (va_up u 7 (fun _ => 3)) 8 (fun _ => 0) from by unfold tOut; rw [show tOutR (u 5 0) (u 6 0) (u 6 1) (u 6 2) (u 7 0) = 3 from by simp only [tOutR, c_1, c_18, c_19, c_20, c_21, c_23, ↓reduceIte], show tOutC (u 5 0) (u 6 0) (u 6 1) (u 6 2) (u 8 0) = 0 from by simp only [tOutC, c_1, c_18, c_19, c_20, c_21, c_23, ↓reduceIte]]]; exact hw) dX4_findOutOfRange_74
            · skip
              exact absurd c_23 (by decide)
