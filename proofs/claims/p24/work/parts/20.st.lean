set_option maxHeartbeats 4000000 in
set_option maxRecDepth 100000 in
/-- Arrays.fill: every place is x -/
theorem c_J7_fill_53178 (l : Launch) (D : va_G) (cI cC cL : ClassId) (a n : Nat) (f : Nat → Int32) (x : Int32) (hn : n < 2147483648) : y_MV l yJ7_fill_53178 wsJ7_fill_53178 0 0 D cI cC cL [.ref a, .int x] [(a, .inl (cI, n, .inl f))] (fun _ : Unit => [(a, .inl (cI, n, .inl (fun _ => x)))]) () := by
  refine y_startV (cc := cJ7_fill_53178) (maxL := 4) (by decide) rfl (Nat.le_of_ble_eq_true rfl) ?_
  intro p e s mm args below meth c A QQ ls S hw ret hl
  have S : CallFix p mm c cJ7_fill_53178 4 s args wsJ7_fill_53178 RJ7 := S
  have hw : y_W D cI cC cL A s s.heap [] [(a, .inl (cI, n, .inl f))] := hw
  have hl : lv_has ls 4 [(0, .ref a), (1, .int x)] := hl
  refine lv_iconst (v := 0) S.1 S.2.1 dJ7_fill_53178_0 (by decide) ?_
  refine lv_istore_n (lv' := [(2, .int 0), (0, .ref a), (1, .int x)]) S.1 S.2.1 dJ7_fill_53178_1 rfl hl (by decide) rfl (fun ls hl => ?_)
  refine lv_aload_n S.1 S.2.1 dJ7_fill_53178_2 rfl (lv_at hl 1 rfl) ?_
  refine y_alen (v := nI n) S hw 0 rfl rfl dJ7_fill_53178_3 ?_
  refine lv_istore_n (lv' := [(3, .int (nI n)), (2, .int 0), (0, .ref a), (1, .int x)]) S.1 S.2.1 dJ7_fill_53178_4 rfl hl (by decide) rfl (fun ls hl => ?_)
  have lp5 : ∀ (fuel : Nat) (i : Nat), (i ≤ n) → (n - i) < fuel → ∀ (H : Heap) (locs : List Loc) (ls : Array Slot), y_W D cI cC cL A s H locs [(a, .inl (cI, n, .inl (jFill f x i)))] → lv_has ls 4 [(0, .ref a), (1, .int x), (2, .int (nI i)), (3, .int (nI n))] → W p l e (y_R 0 0) s mm args below meth c H locs 0 0 QQ (F0 mm 5 ls []) := by
    intro fuel
    induction fuel with
    | zero =>
      intro i hi hfu
      exact absurd hfu (Nat.not_lt_zero _)
    | succ fuel ih5 =>
      intro i hi hfu H locs ls hw hl
      refine lv_iload_n S.1 S.2.1 dJ7_fill_53178_5 rfl (lv_at hl 2 rfl) ?_
      refine lv_iload_n S.1 S.2.1 dJ7_fill_53178_6 rfl (lv_at hl 3 rfl) ?_
      refine lv_icmp_ge (tgt := 20) S.1 S.2.1 dJ7_fill_53178_7 (by decide) (fun c_1 => ?_) (fun c_1 => ?_)
      · skip
        have c_1N : n ≤ i := (nI_leI (a := n) (b := i) (by omega) (by omega)).mp c_1
        exact ret _ _ _ _ (by exact hw.cong 0 (fun _ => x) rfl (fun k hk => jFill_at f x i k (by omega)) rfl) dJ7_fill_53178_20
      · skip
        have c_1N : ¬ n ≤ i := fun z => c_1 ((nI_leI (a := n) (b := i) (by omega) (by omega)).mpr z)
        refine lv_aload_n S.1 S.2.1 dJ7_fill_53178_10 rfl (lv_at hl 0 rfl) ?_
        refine lv_iload_n S.1 S.2.1 dJ7_fill_53178_11 rfl (lv_at hl 2 rfl) ?_
        refine lv_iload_n S.1 S.2.1 dJ7_fill_53178_12 rfl (lv_at hl 1 rfl) ?_
        refine y_iast S hw 0 (k := i) rfl (by omega) (by omega) dJ7_fill_53178_13 (ws' := [(a, .inl (cI, n, .inl (upd (jFill f x i) i x)))]) rfl (fun H locs hw => ?_)
        refine lv_iinc (v := (nI (i + 1))) (lv' := [(2, .int (nI (i + 1))), (0, .ref a), (1, .int x), (3, .int (nI n))]) S.1 S.2.1 dJ7_fill_53178_14 hl (k := 2) rfl (by first | exact nI_1 _ | exact nI_add _ _) (by decide) rfl (fun ls hl => ?_)
        refine lv_goto (tgt := 5) S.1 S.2.1 dJ7_fill_53178_17 (by decide) ?_
        exact ih5 (i + 1) (by omega) (by omega) _ _ ls hw (lv_sub hl [1, 2, 0, 3] rfl)
  exact lp5 ((n - 0) + 1) 0 (Nat.zero_le _) (Nat.lt_succ_self _) _ _ ls hw (lv_sub hl [2, 3, 1, 0] rfl)

theorem i_X3_staying_X3 : ∀ w ∈ u_ws RX3 TX3 8, w ∈ wsX3_staying := by decide +kernel
theorem f_X3_staying_15 : Cond.fieldLink RX3 15 "ChargeLines$Stages" "charge" "[I" ∈ wsX3_staying := by decide +kernel
theorem f_X3_staying_19 : Cond.fieldLink RX3 19 "ChargeLines$Stages" "stays" "[I" ∈ wsX3_staying := by decide +kernel
set_option maxHeartbeats 4000000 in
set_option maxRecDepth 100000 in
/-- Stages.staying -/
theorem c_X3_staying (l : Launch) (D : va_G) (cI cC cL : ClassId) (q : Nat → Nat) (u : U) (k : Nat) (hk : k < 10) : y_MI l yX3_staying wsX3_staying 0 0 D cI cC cL [.ref (q 0), .int (nI k)] (cSt cI q u) (jStay u k) (fun _ : Unit => cSt cI q u) () := by
  refine y_startI (cc := cX3_staying) (maxL := 2) (ret := some .int) (by decide +kernel) rfl (Nat.le_of_ble_eq_true rfl) ⟨_, rfl, fun x _ => rfl⟩ (fun h => by cases h) ?_
  intro p e s mm args below meth c A QQ ls S hw ret hl
  have S : CallFix p mm c cX3_staying 2 s args wsX3_staying RX3 := S
  have hw : y_W D cI cC cL A s s.heap [] [((q 0), .inr (3, [.int (u 0 0), .ref (q 1), .ref (q 2), .ref (q 3), .int (u 4 0), .int (u 5 0), .int (u 6 0), .int (u 7 0)])), ((q 1), .inl (cI, 10, .inl (u 1))), ((q 2), .inl (cI, 10, .inl (u 2))), ((q 3), .inl (cI, 10, .inl (u 3)))] := hw
  have hl : lv_has ls 2 [(0, .ref (q 0)), (1, .int (nI k))] := hl
  refine lv_aload_n S.1 S.2.1 dX3_staying_0 rfl (lv_at hl 0 rfl) ?_
  refine y_get S hw (C := RX3) (T := TX3) (N := 8) i_X3_staying_X3 0 rfl rfl 1 (by decide) f_X3_staying_15 rfl dX3_staying_1 ?_
  refine lv_iload_n S.1 S.2.1 dX3_staying_4 rfl (lv_at hl 1 rfl) ?_
  refine y_iald S hw 1 (k := k) rfl (by omega) (Nat.le_of_ble_eq_true rfl) dX3_staying_5 ?_
  refine lv_aload_n S.1 S.2.1 dX3_staying_6 rfl (lv_at hl 0 rfl) ?_
  refine y_get S hw (C := RX3) (T := TX3) (N := 8) i_X3_staying_X3 0 rfl rfl 2 (by decide) f_X3_staying_19 rfl dX3_staying_7 ?_
  refine lv_iload_n S.1 S.2.1 dX3_staying_10 rfl (lv_at hl 1 rfl) ?_
  refine y_iald S hw 2 (k := k) rfl (by omega) (Nat.le_of_ble_eq_true rfl) dX3_staying_11 ?_
  refine lv_imul S.1 S.2.1 dX3_staying_12 ?_
  refine lv_sipush (v := 1000) S.1 S.2.1 dX3_staying_13 (by decide) ?_
  refine lv_idiv S.1 S.2.1 dX3_staying_16 (by decide) ?_
  exact ret _ _ _ _ _ (by exact hw) (by rfl) dX3_staying_17

theorem i_X3_leaking_X3 : ∀ w ∈ u_ws RX3 TX3 8, w ∈ wsX3_leaking := by decide +kernel
theorem f_X3_leaking_15 : Cond.fieldLink RX3 15 "ChargeLines$Stages" "charge" "[I" ∈ wsX3_leaking := by decide +kernel
theorem f_X3_leaking_22 : Cond.fieldLink RX3 22 "ChargeLines$Stages" "leaks" "[I" ∈ wsX3_leaking := by decide +kernel
set_option maxHeartbeats 4000000 in
set_option maxRecDepth 100000 in
/-- Stages.leaking -/
theorem c_X3_leaking (l : Launch) (D : va_G) (cI cC cL : ClassId) (q : Nat → Nat) (u : U) (k : Nat) (hk : k < 10) : y_MI l yX3_leaking wsX3_leaking 1 21 D cI cC cL [.ref (q 0), .int (nI k)] (cSt cI q u) (jLeak u k) (fun _ : Unit => cSt cI q u) () := by
  refine y_startI (cc := cX3_leaking) (maxL := 2) (ret := some .int) (by decide +kernel) rfl (Nat.le_of_ble_eq_true rfl) ⟨_, rfl, fun x _ => rfl⟩ (fun h => by cases h) ?_
  intro p e s mm args below meth c A QQ ls S hw ret hl
  have S : CallFix p mm c cX3_leaking 2 s args wsX3_leaking RX3 := S
  have hw : y_W D cI cC cL A s s.heap [] [((q 0), .inr (3, [.int (u 0 0), .ref (q 1), .ref (q 2), .ref (q 3), .int (u 4 0), .int (u 5 0), .int (u 6 0), .int (u 7 0)])), ((q 1), .inl (cI, 10, .inl (u 1))), ((q 2), .inl (cI, 10, .inl (u 2))), ((q 3), .inl (cI, 10, .inl (u 3)))] := hw
  have hl : lv_has ls 2 [(0, .ref (q 0)), (1, .int (nI k))] := hl
  refine lv_aload_n S.1 S.2.1 dX3_leaking_0 rfl (lv_at hl 0 rfl) ?_
  refine y_get S hw (C := RX3) (T := TX3) (N := 8) i_X3_leaking_X3 0 rfl rfl 1 (by decide) f_X3_leaking_15 rfl dX3_leaking_1 ?_
  refine lv_iload_n S.1 S.2.1 dX3_leaking_4 rfl (lv_at hl 1 rfl) ?_
  refine y_iald S hw 1 (k := k) rfl (by omega) (Nat.le_of_ble_eq_true rfl) dX3_leaking_5 ?_
  refine lv_aload_n S.1 S.2.1 dX3_leaking_6 rfl (lv_at hl 0 rfl) ?_
  refine lv_iload_n S.1 S.2.1 dX3_leaking_7 rfl (lv_at hl 1 rfl) ?_
  refine y_callI (As := [.int (nI k)]) (rest := [.int ((u 1) k)]) S hw hl.1 (c_X3_staying l D cI cC cL q u k (by omega)) (cwV 1 S.2.2.2.2 gX3_leaking_X3_staying rfl rfl rfl (by decide +kernel) ⟨Nat.le_of_ble_eq_true rfl, Nat.le_of_ble_eq_true rfl⟩) 0 rfl rfl [0, 1, 2, 3] [] rfl (by decide +kernel) (wr := []) rfl (by decide +kernel) (by decide +kernel) rfl (Nat.le_of_ble_eq_true rfl) dX3_leaking_8 rfl ⟨Nat.le_refl _, Nat.le_refl _⟩ (fun H locs v_1 x_2 ev_1 ex_2 hw => ?_)
  have hw : y_W D cI cC cL A s H locs [((q 0), .inr (3, [.int (u 0 0), .ref (q 1), .ref (q 2), .ref (q 3), .int (u 4 0), .int (u 5 0), .int (u 6 0), .int (u 7 0)])), ((q 1), .inl (cI, 10, .inl (u 1))), ((q 2), .inl (cI, 10, .inl (u 2))), ((q 3), .inl (cI, 10, .inl (u 3)))] := hw
  subst ex_2
  refine lv_isub S.1 S.2.1 dX3_leaking_11 ?_
  refine lv_aload_n S.1 S.2.1 dX3_leaking_12 rfl (lv_at hl 0 rfl) ?_
  refine y_get S hw (C := RX3) (T := TX3) (N := 8) i_X3_leaking_X3 0 rfl rfl 3 (by decide) f_X3_leaking_22 rfl dX3_leaking_13 ?_
  refine lv_iload_n S.1 S.2.1 dX3_leaking_16 rfl (lv_at hl 1 rfl) ?_
  refine y_iald S hw 3 (k := k) rfl (by omega) (Nat.le_of_ble_eq_true rfl) dX3_leaking_17 ?_
  refine lv_imul S.1 S.2.1 dX3_leaking_18 ?_
  refine lv_sipush (v := 1000) S.1 S.2.1 dX3_leaking_19 (by decide) ?_
  refine lv_idiv S.1 S.2.1 dX3_leaking_22 (by decide) ?_
  exact ret _ _ _ _ _ (by exact hw) (by rfl) dX3_leaking_23

theorem i_X3_leaving_X3 : ∀ w ∈ u_ws RX3 TX3 8, w ∈ wsX3_leaving := by decide +kernel
theorem f_X3_leaving_15 : Cond.fieldLink RX3 15 "ChargeLines$Stages" "charge" "[I" ∈ wsX3_leaving := by decide +kernel
set_option maxHeartbeats 4000000 in
set_option maxRecDepth 100000 in
/-- Stages.leaving -/
theorem c_X3_leaving (l : Launch) (D : va_G) (cI cC cL : ClassId) (q : Nat → Nat) (u : U) (k : Nat) (hk : k < 10) : y_MI l yX3_leaving wsX3_leaving 2 42 D cI cC cL [.ref (q 0), .int (nI k)] (cSt cI q u) (jLeav u k) (fun _ : Unit => cSt cI q u) () := by
  refine y_startI (cc := cX3_leaving) (maxL := 2) (ret := some .int) (by decide +kernel) rfl (Nat.le_of_ble_eq_true rfl) ⟨_, rfl, fun x _ => rfl⟩ (fun h => by cases h) ?_
  intro p e s mm args below meth c A QQ ls S hw ret hl
  have S : CallFix p mm c cX3_leaving 2 s args wsX3_leaving RX3 := S
  have hw : y_W D cI cC cL A s s.heap [] [((q 0), .inr (3, [.int (u 0 0), .ref (q 1), .ref (q 2), .ref (q 3), .int (u 4 0), .int (u 5 0), .int (u 6 0), .int (u 7 0)])), ((q 1), .inl (cI, 10, .inl (u 1))), ((q 2), .inl (cI, 10, .inl (u 2))), ((q 3), .inl (cI, 10, .inl (u 3)))] := hw
  have hl : lv_has ls 2 [(0, .ref (q 0)), (1, .int (nI k))] := hl
  refine lv_aload_n S.1 S.2.1 dX3_leaving_0 rfl (lv_at hl 0 rfl) ?_
  refine y_get S hw (C := RX3) (T := TX3) (N := 8) i_X3_leaving_X3 0 rfl rfl 1 (by decide) f_X3_leaving_15 rfl dX3_leaving_1 ?_
  refine lv_iload_n S.1 S.2.1 dX3_leaving_4 rfl (lv_at hl 1 rfl) ?_
  refine y_iald S hw 1 (k := k) rfl (by omega) (Nat.le_of_ble_eq_true rfl) dX3_leaving_5 ?_
  refine lv_aload_n S.1 S.2.1 dX3_leaving_6 rfl (lv_at hl 0 rfl) ?_
  refine lv_iload_n S.1 S.2.1 dX3_leaving_7 rfl (lv_at hl 1 rfl) ?_
  refine y_callI (As := [.int (nI k)]) (rest := [.int ((u 1) k)]) S hw hl.1 (c_X3_staying l D cI cC cL q u k (by omega)) (cwV 1 S.2.2.2.2 gX3_leaving_X3_staying rfl rfl rfl (by decide +kernel) ⟨Nat.le_of_ble_eq_true rfl, Nat.le_of_ble_eq_true rfl⟩) 0 rfl rfl [0, 1, 2, 3] [] rfl (by decide +kernel) (wr := []) rfl (by decide +kernel) (by decide +kernel) rfl (Nat.le_of_ble_eq_true rfl) dX3_leaving_8 rfl ⟨Nat.le_refl _, Nat.le_refl _⟩ (fun H locs v_1 x_2 ev_1 ex_2 hw => ?_)
  have hw : y_W D cI cC cL A s H locs [((q 0), .inr (3, [.int (u 0 0), .ref (q 1), .ref (q 2), .ref (q 3), .int (u 4 0), .int (u 5 0), .int (u 6 0), .int (u 7 0)])), ((q 1), .inl (cI, 10, .inl (u 1))), ((q 2), .inl (cI, 10, .inl (u 2))), ((q 3), .inl (cI, 10, .inl (u 3)))] := hw
  subst ex_2
  refine lv_isub S.1 S.2.1 dX3_leaving_11 ?_
  refine lv_aload_n S.1 S.2.1 dX3_leaving_12 rfl (lv_at hl 0 rfl) ?_
  refine lv_iload_n S.1 S.2.1 dX3_leaving_13 rfl (lv_at hl 1 rfl) ?_
  refine y_callI (As := [.int (nI k)]) (rest := [.int (((u 1) k) - (jStay u k))]) S hw hl.1 (c_X3_leaking l D cI cC cL q u k (by omega)) (cwV 1 S.2.2.2.2 gX3_leaving_X3_leaking rfl rfl rfl (by decide +kernel) ⟨Nat.le_of_ble_eq_true rfl, Nat.le_of_ble_eq_true rfl⟩) 0 rfl rfl [0, 1, 2, 3] [] rfl (by decide +kernel) (wr := []) rfl (by decide +kernel) (by decide +kernel) rfl (Nat.le_of_ble_eq_true rfl) dX3_leaving_14 rfl ⟨Nat.le_refl _, Nat.le_refl _⟩ (fun H locs v_3 x_4 ev_3 ex_4 hw => ?_)
  have hw : y_W D cI cC cL A s H locs [((q 0), .inr (3, [.int (u 0 0), .ref (q 1), .ref (q 2), .ref (q 3), .int (u 4 0), .int (u 5 0), .int (u 6 0), .int (u 7 0)])), ((q 1), .inl (cI, 10, .inl (u 1))), ((q 2), .inl (cI, 10, .inl (u 2))), ((q 3), .inl (cI, 10, .inl (u 3)))] := hw
  subst ex_4
  refine lv_isub S.1 S.2.1 dX3_leaving_17 ?_
  exact ret _ _ _ _ _ (by exact hw) (by rfl) dX3_leaving_18

theorem i_X3_has_X3 : ∀ w ∈ u_ws RX3 TX3 8, w ∈ wsX3_has := by decide +kernel
theorem f_X3_has_9 : Cond.fieldLink RX3 9 "ChargeLines$Stages" "many" "I" ∈ wsX3_has := by decide +kernel
set_option maxHeartbeats 4000000 in
set_option maxRecDepth 100000 in
/-- Stages.has -/
theorem c_X3_has (l : Launch) (D : va_G) (cI cC cL : ClassId) (q : Nat → Nat) (u : U) (x : Int32) : y_MI l yX3_has wsX3_has 0 0 D cI cC cL [.ref (q 0), .int x] (cSt cI q u) (jHas x (u 0 0)) (fun _ : Unit => cSt cI q u) () := by
  refine y_startI (cc := cX3_has) (maxL := 2) (ret := some .boolean) (by decide +kernel) rfl (Nat.le_of_ble_eq_true rfl) ⟨_, rfl, fun x h => by rcases h rfl with rfl | rfl <;> rfl⟩ (fun _ => jHas_01) ?_
  intro p e s mm args below meth c A QQ ls S hw ret hl
  have S : CallFix p mm c cX3_has 2 s args wsX3_has RX3 := S
  have hw : y_W D cI cC cL A s s.heap [] [((q 0), .inr (3, [.int (u 0 0), .ref (q 1), .ref (q 2), .ref (q 3), .int (u 4 0), .int (u 5 0), .int (u 6 0), .int (u 7 0)])), ((q 1), .inl (cI, 10, .inl (u 1))), ((q 2), .inl (cI, 10, .inl (u 2))), ((q 3), .inl (cI, 10, .inl (u 3)))] := hw
  have hl : lv_has ls 2 [(0, .ref (q 0)), (1, .int x)] := hl
  refine lv_iload_n S.1 S.2.1 dX3_has_0 rfl (lv_at hl 1 rfl) ?_
  refine lv_if_lt (tgt := 16) S.1 S.2.1 dX3_has_1 (by decide) (fun c_1 => ?_) (fun c_1 => ?_)
  · skip
    refine lv_iconst (v := 0) S.1 S.2.1 dX3_has_16 (by decide) ?_
    exact ret _ _ _ _ _ (by exact hw) (by simp only [jHas, c_1, ↓reduceIte]) dX3_has_17
  · skip
    refine lv_iload_n S.1 S.2.1 dX3_has_4 rfl (lv_at hl 1 rfl) ?_
    refine lv_aload_n S.1 S.2.1 dX3_has_5 rfl (lv_at hl 0 rfl) ?_
    refine y_get S hw (C := RX3) (T := TX3) (N := 8) i_X3_has_X3 0 rfl rfl 0 (by decide) f_X3_has_9 rfl dX3_has_6 ?_
    refine lv_icmp_ge (tgt := 16) S.1 S.2.1 dX3_has_9 (by decide) (fun c_2 => ?_) (fun c_2 => ?_)
    · skip
      refine lv_iconst (v := 0) S.1 S.2.1 dX3_has_16 (by decide) ?_
      exact ret _ _ _ _ _ (by exact hw) (by simp only [jHas, c_1, c_2, ↓reduceIte]) dX3_has_17
    · skip
      refine lv_iconst (v := 1) S.1 S.2.1 dX3_has_12 (by decide) ?_
      refine lv_goto (tgt := 17) S.1 S.2.1 dX3_has_13 (by decide) ?_
      exact ret _ _ _ _ _ (by exact hw) (by simp only [jHas, c_1, c_2, ↓reduceIte]) dX3_has_17

theorem i_X3_changeShares_X3 : ∀ w ∈ u_ws RX3 TX3 8, w ∈ wsX3_changeShares := by decide +kernel
theorem f_X3_changeShares_19 : Cond.fieldLink RX3 19 "ChargeLines$Stages" "stays" "[I" ∈ wsX3_changeShares := by decide +kernel
theorem f_X3_changeShares_22 : Cond.fieldLink RX3 22 "ChargeLines$Stages" "leaks" "[I" ∈ wsX3_changeShares := by decide +kernel
set_option maxHeartbeats 4000000 in
set_option maxRecDepth 100000 in
/-- Stages.changeShares -/
theorem c_X3_changeShares (l : Launch) (D : va_G) (cI cC cL : ClassId) (q : Nat → Nat) (u : U) (k : Nat) (x y : Int32) (hk : k < 10) : y_MV l yX3_changeShares wsX3_changeShares 0 0 D cI cC cL [.ref (q 0), .int (nI k), .int x, .int y] (cSt cI q u) (fun v : U => cSt cI q v) (jCS u k x y) := by
  refine y_startV (cc := cX3_changeShares) (maxL := 4) (by decide) rfl (Nat.le_of_ble_eq_true rfl) ?_
  intro p e s mm args below meth c A QQ ls S hw ret hl
  have S : CallFix p mm c cX3_changeShares 4 s args wsX3_changeShares RX3 := S
  have hw : y_W D cI cC cL A s s.heap [] [((q 0), .inr (3, [.int (u 0 0), .ref (q 1), .ref (q 2), .ref (q 3), .int (u 4 0), .int (u 5 0), .int (u 6 0), .int (u 7 0)])), ((q 1), .inl (cI, 10, .inl (u 1))), ((q 2), .inl (cI, 10, .inl (u 2))), ((q 3), .inl (cI, 10, .inl (u 3)))] := hw
  have hl : lv_has ls 4 [(0, .ref (q 0)), (1, .int (nI k)), (2, .int x), (3, .int y)] := hl
  refine lv_aload_n S.1 S.2.1 dX3_changeShares_0 rfl (lv_at hl 0 rfl) ?_
  refine y_get S hw (C := RX3) (T := TX3) (N := 8) i_X3_changeShares_X3 0 rfl rfl 2 (by decide) f_X3_changeShares_19 rfl dX3_changeShares_1 ?_
  refine lv_iload_n S.1 S.2.1 dX3_changeShares_4 rfl (lv_at hl 1 rfl) ?_
  refine lv_iload_n S.1 S.2.1 dX3_changeShares_5 rfl (lv_at hl 2 rfl) ?_
  refine y_iast S hw 2 (k := k) rfl (by omega) (Nat.le_of_ble_eq_true rfl) dX3_changeShares_6 (ws' := [((q 0), .inr (3, [.int (u 0 0), .ref (q 1), .ref (q 2), .ref (q 3), .int (u 4 0), .int (u 5 0), .int (u 6 0), .int (u 7 0)])), ((q 1), .inl (cI, 10, .inl (u 1))), ((q 2), .inl (cI, 10, .inl (upd (u 2) k x))), ((q 3), .inl (cI, 10, .inl (u 3)))]) rfl (fun H locs hw => ?_)
  refine lv_aload_n S.1 S.2.1 dX3_changeShares_7 rfl (lv_at hl 0 rfl) ?_
  refine y_get S hw (C := RX3) (T := TX3) (N := 8) i_X3_changeShares_X3 0 rfl rfl 3 (by decide) f_X3_changeShares_22 rfl dX3_changeShares_8 ?_
  refine lv_iload_n S.1 S.2.1 dX3_changeShares_11 rfl (lv_at hl 1 rfl) ?_
  refine lv_iload_n S.1 S.2.1 dX3_changeShares_12 rfl (lv_at hl 3 rfl) ?_
  refine y_iast S hw 3 (k := k) rfl (by omega) (Nat.le_of_ble_eq_true rfl) dX3_changeShares_13 (ws' := [((q 0), .inr (3, [.int (u 0 0), .ref (q 1), .ref (q 2), .ref (q 3), .int (u 4 0), .int (u 5 0), .int (u 6 0), .int (u 7 0)])), ((q 1), .inl (cI, 10, .inl (u 1))), ((q 2), .inl (cI, 10, .inl (upd (u 2) k x))), ((q 3), .inl (cI, 10, .inl (upd (u 3) k y)))]) rfl (fun H locs hw => ?_)
  exact ret _ _ _ _ (by exact hw) dX3_changeShares_14

theorem i_X3_changeMany_X3 : ∀ w ∈ u_ws RX3 TX3 8, w ∈ wsX3_changeMany := by decide +kernel
theorem f_X3_changeMany_9 : Cond.fieldLink RX3 9 "ChargeLines$Stages" "many" "I" ∈ wsX3_changeMany := by decide +kernel
set_option maxHeartbeats 4000000 in
set_option maxRecDepth 100000 in
/-- Stages.changeMany -/
theorem c_X3_changeMany (l : Launch) (D : va_G) (cI cC cL : ClassId) (q : Nat → Nat) (u : U) (a : Nat) (ha : a ≤ 10) : y_MV l yX3_changeMany wsX3_changeMany 1 23 D cI cC cL [.ref (q 0), .int (nI a)] (cSt cI q u) (fun v : U => cSt cI q v) (va_up (jCM u a (10 - a)) 0 (fun _ => nI a)) := by
  refine y_startV (cc := cX3_changeMany) (maxL := 3) (by decide) rfl (Nat.le_of_ble_eq_true rfl) ?_
  intro p e s mm args below meth c A QQ ls S hw ret hl
  have S : CallFix p mm c cX3_changeMany 3 s args wsX3_changeMany RX3 := S
  have hw : y_W D cI cC cL A s s.heap [] [((q 0), .inr (3, [.int (u 0 0), .ref (q 1), .ref (q 2), .ref (q 3), .int (u 4 0), .int (u 5 0), .int (u 6 0), .int (u 7 0)])), ((q 1), .inl (cI, 10, .inl (u 1))), ((q 2), .inl (cI, 10, .inl (u 2))), ((q 3), .inl (cI, 10, .inl (u 3)))] := hw
  have hl : lv_has ls 3 [(0, .ref (q 0)), (1, .int (nI a))] := hl
  refine lv_iload_n S.1 S.2.1 dX3_changeMany_0 rfl (lv_at hl 1 rfl) ?_
  refine lv_istore_n (lv' := [(2, .int (nI a)), (0, .ref (q 0)), (1, .int (nI a))]) S.1 S.2.1 dX3_changeMany_1 rfl hl (by decide) rfl (fun ls hl => ?_)
  have lp2 : ∀ (fuel : Nat) (i : Nat) (w : U), (a + i ≤ 10) → (w = jCM u a i) → (10 - i) < fuel → ∀ (H : Heap) (locs : List Loc) (ls : Array Slot), y_W D cI cC cL A s H locs [((q 0), .inr (3, [.int (w 0 0), .ref (q 1), .ref (q 2), .ref (q 3), .int (w 4 0), .int (w 5 0), .int (w 6 0), .int (w 7 0)])), ((q 1), .inl (cI, 10, .inl (w 1))), ((q 2), .inl (cI, 10, .inl (w 2))), ((q 3), .inl (cI, 10, .inl (w 3)))] → lv_has ls 3 [(0, .ref (q 0)), (1, .int (nI a)), (2, .int (nI (a + i)))] → W p l e (y_R 1 23) s mm args below meth c H locs 0 0 QQ (F0 mm 2 ls []) := by
    intro fuel
    induction fuel with
    | zero =>
      intro i w hi hv hfu
      exact absurd hfu (Nat.not_lt_zero _)
    | succ fuel ih2 =>
      intro i w hi hv hfu H locs ls hw hl
      refine lv_iload_n S.1 S.2.1 dX3_changeMany_2 rfl (lv_at hl 2 rfl) ?_
      refine lv_bipush (v := 10) S.1 S.2.1 dX3_changeMany_3 (by decide) ?_
      refine lv_icmp_ge (tgt := 21) S.1 S.2.1 dX3_changeMany_5 (by decide) (fun c_1 => ?_) (fun c_1 => ?_)
      · skip
        have c_1N : 10 ≤ (a + i) := (nI_leI (a := 10) (b := (a + i)) (by omega) (by omega)).mp c_1
        refine lv_aload_n S.1 S.2.1 dX3_changeMany_21 rfl (lv_at hl 0 rfl) ?_
        refine lv_iload_n S.1 S.2.1 dX3_changeMany_22 rfl (lv_at hl 1 rfl) ?_
        refine y_put S hw (C := RX3) (T := TX3) (N := 8) i_X3_changeMany_X3 tyX3_ok nmX3 0 rfl rfl 0 (by decide) f_X3_changeMany_9 (by decide +kernel) rfl rfl (Nat.le_of_ble_eq_true rfl) dX3_changeMany_23 (ws' := [((q 0), .inr (3, [.int (nI a), .ref (q 1), .ref (q 2), .ref (q 3), .int (w 4 0), .int (w 5 0), .int (w 6 0), .int (w 7 0)])), ((q 1), .inl (cI, 10, .inl (w 1))), ((q 2), .inl (cI, 10, .inl (w 2))), ((q 3), .inl (cI, 10, .inl (w 3)))]) rfl (fun H locs hw => ?_)
        exact ret _ _ _ _ (by rw [show 10 - a = i from by omega, ← hv]; exact hw) dX3_changeMany_26
      · skip
        have c_1N : ¬ 10 ≤ (a + i) := fun z => c_1 ((nI_leI (a := 10) (b := (a + i)) (by omega) (by omega)).mpr z)
        refine lv_aload_n S.1 S.2.1 dX3_changeMany_8 rfl (lv_at hl 0 rfl) ?_
        refine lv_iload_n S.1 S.2.1 dX3_changeMany_9 rfl (lv_at hl 2 rfl) ?_
        refine lv_iconst (v := 0) S.1 S.2.1 dX3_changeMany_10 (by decide) ?_
        refine lv_iconst (v := 0) S.1 S.2.1 dX3_changeMany_11 (by decide) ?_
        refine y_callV (As := [.int (nI (a + i)), .int 0, .int 0]) (rest := []) S hw hl.1 (c_X3_changeShares l D cI cC cL q w (a + i) 0 0 (by omega)) (cwV 3 S.2.2.2.2 gX3_changeMany_X3_changeShares rfl rfl rfl (by decide +kernel) ⟨Nat.le_of_ble_eq_true rfl, Nat.le_of_ble_eq_true rfl⟩) 0 rfl rfl [0, 1, 2, 3] [] rfl (by decide +kernel) (wr := []) rfl (by decide +kernel) (by decide +kernel) rfl (Nat.le_of_ble_eq_true rfl) dX3_changeMany_12 rfl ⟨Nat.le_refl _, Nat.le_refl _⟩ (fun H locs v_2 ev_2 hw => ?_)
        have hw : y_W D cI cC cL A s H locs [((q 0), .inr (3, [.int (v_2 0 0), .ref (q 1), .ref (q 2), .ref (q 3), .int (v_2 4 0), .int (v_2 5 0), .int (v_2 6 0), .int (v_2 7 0)])), ((q 1), .inl (cI, 10, .inl (v_2 1))), ((q 2), .inl (cI, 10, .inl (v_2 2))), ((q 3), .inl (cI, 10, .inl (v_2 3)))] := hw
        refine lv_iinc (v := (nI ((a + i) + 1))) (lv' := [(2, .int (nI ((a + i) + 1))), (0, .ref (q 0)), (1, .int (nI a))]) S.1 S.2.1 dX3_changeMany_15 hl (k := 2) rfl (by first | exact nI_1 _ | exact nI_add _ _) (by decide) rfl (fun ls hl => ?_)
        refine lv_goto (tgt := 2) S.1 S.2.1 dX3_changeMany_18 (by decide) ?_
        exact ih2 (i + 1) v_2 (by omega) (by rw [ev_2, hv]; rfl) (by omega) _ _ ls hw (lv_sub hl [1, 2, 0] rfl)
  exact lp2 ((10 - 0) + 1) 0 u (by omega) (rfl) (Nat.lt_succ_self _) _ _ ls hw (lv_sub hl [1, 2, 0] rfl)

theorem i_X3_empty_X3 : ∀ w ∈ u_ws RX3 TX3 8, w ∈ wsX3_empty := by decide +kernel
theorem f_X3_empty_15 : Cond.fieldLink RX3 15 "ChargeLines$Stages" "charge" "[I" ∈ wsX3_empty := by decide +kernel
theorem f_X3_empty_31 : Cond.fieldLink RX3 31 "ChargeLines$Stages" "given" "I" ∈ wsX3_empty := by decide +kernel
theorem f_X3_empty_34 : Cond.fieldLink RX3 34 "ChargeLines$Stages" "cameOut" "I" ∈ wsX3_empty := by decide +kernel
theorem f_X3_empty_37 : Cond.fieldLink RX3 37 "ChargeLines$Stages" "leaked" "I" ∈ wsX3_empty := by decide +kernel
theorem f_X3_empty_40 : Cond.fieldLink RX3 40 "ChargeLines$Stages" "spilled" "I" ∈ wsX3_empty := by decide +kernel
set_option maxHeartbeats 4000000 in
set_option maxRecDepth 100000 in
/-- Stages.empty -/
theorem c_X3_empty (l : Launch) (D : va_G) (cI cC cL : ClassId) (q : Nat → Nat) (u : U) : y_MV l yX3_empty wsX3_empty 1 23 D cI cC cL [.ref (q 0)] (cSt cI q u) (fun v : U => cSt cI q v) (jEm u) := by
  refine y_startV (cc := cX3_empty) (maxL := 1) (by decide) rfl (Nat.le_of_ble_eq_true rfl) ?_
  intro p e s mm args below meth c A QQ ls S hw ret hl
  have S : CallFix p mm c cX3_empty 1 s args wsX3_empty RX3 := S
  have hw : y_W D cI cC cL A s s.heap [] [((q 0), .inr (3, [.int (u 0 0), .ref (q 1), .ref (q 2), .ref (q 3), .int (u 4 0), .int (u 5 0), .int (u 6 0), .int (u 7 0)])), ((q 1), .inl (cI, 10, .inl (u 1))), ((q 2), .inl (cI, 10, .inl (u 2))), ((q 3), .inl (cI, 10, .inl (u 3)))] := hw
  have hl : lv_has ls 1 [(0, .ref (q 0))] := hl
  refine lv_aload_n S.1 S.2.1 dX3_empty_0 rfl (lv_at hl 0 rfl) ?_
  refine y_get S hw (C := RX3) (T := TX3) (N := 8) i_X3_empty_X3 0 rfl rfl 1 (by decide) f_X3_empty_15 rfl dX3_empty_1 ?_
  refine lv_iconst (v := 0) S.1 S.2.1 dX3_empty_4 (by decide) ?_
  refine y_callSV (As := [.ref (q 1), .int 0]) (rest := []) S hw hl.1 (c_J7_fill_53178 l D cI cC cL (q 1) 10 (u 1) 0 (by decide)) (va_cwS 2 S.2.2.2.2 gX3_empty_J7_fill_53178 rfl rfl rfl (by decide +kernel) ⟨Nat.le_of_ble_eq_true rfl, Nat.le_of_ble_eq_true rfl⟩) [1] [0, 2, 3] rfl (by decide +kernel) (wr := [((q 0), .inr (3, [.int (u 0 0), .ref (q 1), .ref (q 2), .ref (q 3), .int (u 4 0), .int (u 5 0), .int (u 6 0), .int (u 7 0)])), ((q 2), .inl (cI, 10, .inl (u 2))), ((q 3), .inl (cI, 10, .inl (u 3)))]) rfl (by decide +kernel) (by decide +kernel) rfl (Nat.le_of_ble_eq_true rfl) dX3_empty_5 rfl ⟨Nat.le_refl _, Nat.le_refl _⟩ (fun H locs v_1 ev_1 hw => ?_)
  have hw : y_W D cI cC cL A s H locs [((q 0), .inr (3, [.int (u 0 0), .ref (q 1), .ref (q 2), .ref (q 3), .int (u 4 0), .int (u 5 0), .int (u 6 0), .int (u 7 0)])), ((q 2), .inl (cI, 10, .inl (u 2))), ((q 3), .inl (cI, 10, .inl (u 3))), ((q 1), .inl (cI, 10, .inl (fun _ => 0)))] := hw
  refine lv_aload_n S.1 S.2.1 dX3_empty_8 rfl (lv_at hl 0 rfl) ?_
  refine lv_iconst (v := 0) S.1 S.2.1 dX3_empty_9 (by decide) ?_
  refine y_put S hw (C := RX3) (T := TX3) (N := 8) i_X3_empty_X3 tyX3_ok nmX3 0 rfl rfl 4 (by decide) f_X3_empty_31 (by decide +kernel) rfl rfl (Nat.le_of_ble_eq_true rfl) dX3_empty_10 (ws' := [((q 0), .inr (3, [.int (u 0 0), .ref (q 1), .ref (q 2), .ref (q 3), .int 0, .int (u 5 0), .int (u 6 0), .int (u 7 0)])), ((q 2), .inl (cI, 10, .inl (u 2))), ((q 3), .inl (cI, 10, .inl (u 3))), ((q 1), .inl (cI, 10, .inl (fun _ => 0)))]) rfl (fun H locs hw => ?_)
  refine lv_aload_n S.1 S.2.1 dX3_empty_13 rfl (lv_at hl 0 rfl) ?_
  refine lv_iconst (v := 0) S.1 S.2.1 dX3_empty_14 (by decide) ?_
  refine y_put S hw (C := RX3) (T := TX3) (N := 8) i_X3_empty_X3 tyX3_ok nmX3 0 rfl rfl 5 (by decide) f_X3_empty_34 (by decide +kernel) rfl rfl (Nat.le_of_ble_eq_true rfl) dX3_empty_15 (ws' := [((q 0), .inr (3, [.int (u 0 0), .ref (q 1), .ref (q 2), .ref (q 3), .int 0, .int 0, .int (u 6 0), .int (u 7 0)])), ((q 2), .inl (cI, 10, .inl (u 2))), ((q 3), .inl (cI, 10, .inl (u 3))), ((q 1), .inl (cI, 10, .inl (fun _ => 0)))]) rfl (fun H locs hw => ?_)
  refine lv_aload_n S.1 S.2.1 dX3_empty_18 rfl (lv_at hl 0 rfl) ?_
  refine lv_iconst (v := 0) S.1 S.2.1 dX3_empty_19 (by decide) ?_
  refine y_put S hw (C := RX3) (T := TX3) (N := 8) i_X3_empty_X3 tyX3_ok nmX3 0 rfl rfl 6 (by decide) f_X3_empty_37 (by decide +kernel) rfl rfl (Nat.le_of_ble_eq_true rfl) dX3_empty_20 (ws' := [((q 0), .inr (3, [.int (u 0 0), .ref (q 1), .ref (q 2), .ref (q 3), .int 0, .int 0, .int 0, .int (u 7 0)])), ((q 2), .inl (cI, 10, .inl (u 2))), ((q 3), .inl (cI, 10, .inl (u 3))), ((q 1), .inl (cI, 10, .inl (fun _ => 0)))]) rfl (fun H locs hw => ?_)
  refine lv_aload_n S.1 S.2.1 dX3_empty_23 rfl (lv_at hl 0 rfl) ?_
  refine lv_iconst (v := 0) S.1 S.2.1 dX3_empty_24 (by decide) ?_
  refine y_put S hw (C := RX3) (T := TX3) (N := 8) i_X3_empty_X3 tyX3_ok nmX3 0 rfl rfl 7 (by decide) f_X3_empty_40 (by decide +kernel) rfl rfl (Nat.le_of_ble_eq_true rfl) dX3_empty_25 (ws' := [((q 0), .inr (3, [.int (u 0 0), .ref (q 1), .ref (q 2), .ref (q 3), .int 0, .int 0, .int 0, .int 0])), ((q 2), .inl (cI, 10, .inl (u 2))), ((q 3), .inl (cI, 10, .inl (u 3))), ((q 1), .inl (cI, 10, .inl (fun _ => 0)))]) rfl (fun H locs hw => ?_)
  exact ret _ _ _ _ (by exact (hw.sub [0, 3, 1, 2] (by decide +kernel) rfl)) dX3_empty_28

theorem i_X3_inStages_X3 : ∀ w ∈ u_ws RX3 TX3 8, w ∈ wsX3_inStages := by decide +kernel
theorem f_X3_inStages_9 : Cond.fieldLink RX3 9 "ChargeLines$Stages" "many" "I" ∈ wsX3_inStages := by decide +kernel
theorem f_X3_inStages_15 : Cond.fieldLink RX3 15 "ChargeLines$Stages" "charge" "[I" ∈ wsX3_inStages := by decide +kernel
set_option maxHeartbeats 4000000 in
set_option maxRecDepth 100000 in
/-- Stages.inStages -/
theorem c_X3_inStages (l : Launch) (D : va_G) (cI cC cL : ClassId) (q : Nat → Nat) (u : U) (n : Nat) (hn : u 0 0 = nI n) (h10 : n ≤ 10) : y_MI l yX3_inStages wsX3_inStages 0 0 D cI cC cL [.ref (q 0)] (cSt cI q u) (jSum (u 1) n) (fun _ : Unit => cSt cI q u) () := by
  refine y_startI (cc := cX3_inStages) (maxL := 3) (ret := some .int) (by decide +kernel) rfl (Nat.le_of_ble_eq_true rfl) ⟨_, rfl, fun x _ => rfl⟩ (fun h => by cases h) ?_
  intro p e s mm args below meth c A QQ ls S hw ret hl
  have S : CallFix p mm c cX3_inStages 3 s args wsX3_inStages RX3 := S
  have hw : y_W D cI cC cL A s s.heap [] [((q 0), .inr (3, [.int (u 0 0), .ref (q 1), .ref (q 2), .ref (q 3), .int (u 4 0), .int (u 5 0), .int (u 6 0), .int (u 7 0)])), ((q 1), .inl (cI, 10, .inl (u 1))), ((q 2), .inl (cI, 10, .inl (u 2))), ((q 3), .inl (cI, 10, .inl (u 3)))] := hw
  have hl : lv_has ls 3 [(0, .ref (q 0))] := hl
  refine lv_iconst (v := 0) S.1 S.2.1 dX3_inStages_0 (by decide) ?_
  refine lv_istore_n (lv' := [(1, .int 0), (0, .ref (q 0))]) S.1 S.2.1 dX3_inStages_1 rfl hl (by decide) rfl (fun ls hl => ?_)
  refine lv_iconst (v := 0) S.1 S.2.1 dX3_inStages_2 (by decide) ?_
  refine lv_istore_n (lv' := [(2, .int 0), (1, .int 0), (0, .ref (q 0))]) S.1 S.2.1 dX3_inStages_3 rfl hl (by decide) rfl (fun ls hl => ?_)
  have lp4 : ∀ (fuel : Nat) (i : Nat), (i ≤ n) → (n - i) < fuel → ∀ (H : Heap) (locs : List Loc) (ls : Array Slot), y_W D cI cC cL A s H locs [((q 0), .inr (3, [.int (u 0 0), .ref (q 1), .ref (q 2), .ref (q 3), .int (u 4 0), .int (u 5 0), .int (u 6 0), .int (u 7 0)])), ((q 1), .inl (cI, 10, .inl (u 1))), ((q 2), .inl (cI, 10, .inl (u 2))), ((q 3), .inl (cI, 10, .inl (u 3)))] → lv_has ls 3 [(0, .ref (q 0)), (1, .int (jSum (u 1) i)), (2, .int (nI i))] → W p l e (y_R 0 0) s mm args below meth c H locs 0 0 QQ (F0 mm 4 ls []) := by
    intro fuel
    induction fuel with
    | zero =>
      intro i hi hfu
      exact absurd hfu (Nat.not_lt_zero _)
    | succ fuel ih4 =>
      intro i hi hfu H locs ls hw hl
      refine lv_iload_n S.1 S.2.1 dX3_inStages_4 rfl (lv_at hl 2 rfl) ?_
      refine lv_aload_n S.1 S.2.1 dX3_inStages_5 rfl (lv_at hl 0 rfl) ?_
      refine y_get S hw (C := RX3) (T := TX3) (N := 8) i_X3_inStages_X3 0 rfl rfl 0 (by decide) f_X3_inStages_9 rfl dX3_inStages_6 ?_
      refine y_top (y := (nI n)) (hn) ?_
      refine lv_icmp_ge (tgt := 27) S.1 S.2.1 dX3_inStages_9 (by decide) (fun c_1 => ?_) (fun c_1 => ?_)
      · skip
        have c_1N : n ≤ i := (nI_leI (a := n) (b := i) (by omega) (by omega)).mp c_1
        refine lv_iload_n S.1 S.2.1 dX3_inStages_27 rfl (lv_at hl 1 rfl) ?_
        exact ret _ _ _ _ _ (by exact hw) (by rw [show n = i from by omega]) dX3_inStages_28
      · skip
        have c_1N : ¬ n ≤ i := fun z => c_1 ((nI_leI (a := n) (b := i) (by omega) (by omega)).mpr z)
        refine lv_iload_n S.1 S.2.1 dX3_inStages_12 rfl (lv_at hl 1 rfl) ?_
        refine lv_aload_n S.1 S.2.1 dX3_inStages_13 rfl (lv_at hl 0 rfl) ?_
        refine y_get S hw (C := RX3) (T := TX3) (N := 8) i_X3_inStages_X3 0 rfl rfl 1 (by decide) f_X3_inStages_15 rfl dX3_inStages_14 ?_
        refine lv_iload_n S.1 S.2.1 dX3_inStages_17 rfl (lv_at hl 2 rfl) ?_
        refine y_iald S hw 1 (k := i) rfl (by omega) (Nat.le_of_ble_eq_true rfl) dX3_inStages_18 ?_
        refine lv_iadd S.1 S.2.1 dX3_inStages_19 ?_
        refine lv_istore_n (lv' := [(1, .int ((jSum (u 1) i) + ((u 1) i))), (0, .ref (q 0)), (2, .int (nI i))]) S.1 S.2.1 dX3_inStages_20 rfl hl (by decide) rfl (fun ls hl => ?_)
        refine lv_iinc (v := (nI (i + 1))) (lv' := [(2, .int (nI (i + 1))), (1, .int ((jSum (u 1) i) + ((u 1) i))), (0, .ref (q 0))]) S.1 S.2.1 dX3_inStages_21 hl (k := 2) rfl (by first | exact nI_1 _ | exact nI_add _ _) (by decide) rfl (fun ls hl => ?_)
        refine lv_goto (tgt := 4) S.1 S.2.1 dX3_inStages_24 (by decide) ?_
        exact ih4 (i + 1) (by omega) (by omega) _ _ ls hw (lv_sub hl [2, 1, 0] rfl)
  exact lp4 ((n - 0) + 1) 0 (Nat.zero_le _) (Nat.lt_succ_self _) _ _ ls hw (lv_sub hl [2, 1, 0] rfl)

theorem i_X3_handOver_X3 : ∀ w ∈ u_ws RX3 TX3 8, w ∈ wsX3_handOver := by decide +kernel
theorem f_X3_handOver_9 : Cond.fieldLink RX3 9 "ChargeLines$Stages" "many" "I" ∈ wsX3_handOver := by decide +kernel
theorem f_X3_handOver_31 : Cond.fieldLink RX3 31 "ChargeLines$Stages" "given" "I" ∈ wsX3_handOver := by decide +kernel
theorem f_X3_handOver_34 : Cond.fieldLink RX3 34 "ChargeLines$Stages" "cameOut" "I" ∈ wsX3_handOver := by decide +kernel
theorem f_X3_handOver_15 : Cond.fieldLink RX3 15 "ChargeLines$Stages" "charge" "[I" ∈ wsX3_handOver := by decide +kernel
theorem w_X3_handOver_ml60 : Cond.methodLink RX3 60 Lib.Math.min.name ∈ wsX3_handOver := by decide +kernel
theorem w_X3_handOver_ms60 : Cond.static Lib.Math.min.name ∈ wsX3_handOver := by decide +kernel
theorem w_X3_handOver_mi60 : Cond.initialized "java/lang/Math" ∈ wsX3_handOver := by decide +kernel
theorem w_X3_handOver_mc60 : Cond.code Lib.Math.min.name Lib.Math.min.code 2 (some .int) ∈ wsX3_handOver := by decide +kernel
theorem f_X3_handOver_40 : Cond.fieldLink RX3 40 "ChargeLines$Stages" "spilled" "I" ∈ wsX3_handOver := by decide +kernel
theorem f_X3_handOver_37 : Cond.fieldLink RX3 37 "ChargeLines$Stages" "leaked" "I" ∈ wsX3_handOver := by decide +kernel
set_option maxHeartbeats 4000000 in
set_option maxRecDepth 100000 in
/-- Stages.handOver -/
theorem c_X3_handOver (l : Launch) (D : va_G) (cI cC cL : ClassId) (q : Nat → Nat) (u : U) (x cap : Int32) (n : Nat) (hn : u 0 0 = nI n) (h10 : n ≤ 10) : y_MI l yX3_handOver wsX3_handOver 2 42 D cI cC cL [.ref (q 0), .int x, .int cap] (cSt cI q u) ((jHO x cap u n).2) (fun v : U => cSt cI q v) ((jHO x cap u n).1) := by
  refine y_startI (cc := cX3_handOver) (maxL := 9) (ret := some .int) (by decide +kernel) rfl (Nat.le_of_ble_eq_true rfl) ⟨_, rfl, fun x _ => rfl⟩ (fun h => by cases h) ?_
  intro p e s mm args below meth c A QQ ls S hw ret hl
  have S : CallFix p mm c cX3_handOver 9 s args wsX3_handOver RX3 := S
  have hw : y_W D cI cC cL A s s.heap [] [((q 0), .inr (3, [.int (u 0 0), .ref (q 1), .ref (q 2), .ref (q 3), .int (u 4 0), .int (u 5 0), .int (u 6 0), .int (u 7 0)])), ((q 1), .inl (cI, 10, .inl (u 1))), ((q 2), .inl (cI, 10, .inl (u 2))), ((q 3), .inl (cI, 10, .inl (u 3)))] := hw
  have hl : lv_has ls 9 [(0, .ref (q 0)), (1, .int x), (2, .int cap)] := hl
  refine lv_iload_n S.1 S.2.1 dX3_handOver_0 rfl (lv_at hl 1 rfl) ?_
  refine lv_istore_n (lv' := [(3, .int x), (0, .ref (q 0)), (1, .int x), (2, .int cap)]) S.1 S.2.1 dX3_handOver_1 rfl hl (by decide) rfl (fun ls hl => ?_)
  refine lv_iconst (v := 0) S.1 S.2.1 dX3_handOver_2 (by decide) ?_
  refine lv_istore (lv' := [(4, .int 0), (3, .int x), (0, .ref (q 0)), (1, .int x), (2, .int cap)]) S.1 S.2.1 dX3_handOver_3 hl (by decide) rfl (fun ls hl => ?_)
  have lp5 : ∀ (fuel : Nat) (i : Nat) (w : U × Int32), (i ≤ n) → (w = jHL x cap u i) → (w.1 0 0 = nI n) → (n - i) < fuel → ∀ (H : Heap) (locs : List Loc) (ls : Array Slot), y_W D cI cC cL A s H locs [((q 0), .inr (3, [.int (w.1 0 0), .ref (q 1), .ref (q 2), .ref (q 3), .int (w.1 4 0), .int (w.1 5 0), .int (w.1 6 0), .int (w.1 7 0)])), ((q 1), .inl (cI, 10, .inl (w.1 1))), ((q 2), .inl (cI, 10, .inl (w.1 2))), ((q 3), .inl (cI, 10, .inl (w.1 3)))] → lv_has ls 9 [(0, .ref (q 0)), (1, .int x), (2, .int cap), (3, .int w.2), (4, .int (nI i))] → W p l e (y_R 2 42) s mm args below meth c H locs 0 0 QQ (F0 mm 5 ls []) := by
    intro fuel
    induction fuel with
    | zero =>
      intro i w hi hv h0 hfu
      exact absurd hfu (Nat.not_lt_zero _)
    | succ fuel ih5 =>
      intro i w hi hv h0 hfu H locs ls hw hl
      refine lv_iload S.1 S.2.1 dX3_handOver_5 (lv_at hl 4 rfl) ?_
      refine lv_aload_n S.1 S.2.1 dX3_handOver_7 rfl (lv_at hl 0 rfl) ?_
      refine y_get S hw (C := RX3) (T := TX3) (N := 8) i_X3_handOver_X3 0 rfl rfl 0 (by decide) f_X3_handOver_9 rfl dX3_handOver_8 ?_
      refine y_top (y := (nI n)) (h0) ?_
      refine lv_icmp_ge (tgt := 103) S.1 S.2.1 dX3_handOver_11 (by decide) (fun c_1 => ?_) (fun c_1 => ?_)
      · skip
        have c_1N : n ≤ i := (nI_leI (a := n) (b := i) (by omega) (by omega)).mp c_1
        refine lv_aload_n S.1 S.2.1 dX3_handOver_103 rfl (lv_at hl 0 rfl) ?_
        refine lv_dup S.1 S.2.1 dX3_handOver_104 rfl ?_
        refine y_get S hw (C := RX3) (T := TX3) (N := 8) i_X3_handOver_X3 0 rfl rfl 4 (by decide) f_X3_handOver_31 rfl dX3_handOver_105 ?_
        refine lv_iload_n S.1 S.2.1 dX3_handOver_108 rfl (lv_at hl 1 rfl) ?_
        refine lv_iadd S.1 S.2.1 dX3_handOver_109 ?_
        refine y_put S hw (C := RX3) (T := TX3) (N := 8) i_X3_handOver_X3 tyX3_ok nmX3 0 rfl rfl 4 (by decide) f_X3_handOver_31 (by decide +kernel) rfl rfl (Nat.le_of_ble_eq_true rfl) dX3_handOver_110 (ws' := [((q 0), .inr (3, [.int (w.1 0 0), .ref (q 1), .ref (q 2), .ref (q 3), .int ((w.1 4 0) + x), .int (w.1 5 0), .int (w.1 6 0), .int (w.1 7 0)])), ((q 1), .inl (cI, 10, .inl (w.1 1))), ((q 2), .inl (cI, 10, .inl (w.1 2))), ((q 3), .inl (cI, 10, .inl (w.1 3)))]) rfl (fun H locs hw => ?_)
        refine lv_aload_n S.1 S.2.1 dX3_handOver_113 rfl (lv_at hl 0 rfl) ?_
        refine lv_dup S.1 S.2.1 dX3_handOver_114 rfl ?_
        refine y_get S hw (C := RX3) (T := TX3) (N := 8) i_X3_handOver_X3 0 rfl rfl 5 (by decide) f_X3_handOver_34 rfl dX3_handOver_115 ?_
        refine lv_iload_n S.1 S.2.1 dX3_handOver_118 rfl (lv_at hl 3 rfl) ?_
        refine lv_iadd S.1 S.2.1 dX3_handOver_119 ?_
        refine y_put S hw (C := RX3) (T := TX3) (N := 8) i_X3_handOver_X3 tyX3_ok nmX3 0 rfl rfl 5 (by decide) f_X3_handOver_34 (by decide +kernel) rfl rfl (Nat.le_of_ble_eq_true rfl) dX3_handOver_120 (ws' := [((q 0), .inr (3, [.int (w.1 0 0), .ref (q 1), .ref (q 2), .ref (q 3), .int ((w.1 4 0) + x), .int ((w.1 5 0) + w.2), .int (w.1 6 0), .int (w.1 7 0)])), ((q 1), .inl (cI, 10, .inl (w.1 1))), ((q 2), .inl (cI, 10, .inl (w.1 2))), ((q 3), .inl (cI, 10, .inl (w.1 3)))]) rfl (fun H locs hw => ?_)
        have hJ : jHO x cap u n = ((va_up (va_up w.1 4 (fun _ => ((w.1 4 0) + x))) 5 (fun _ => ((w.1 5 0) + w.2))), w.2) := by
          rw [show n = i from by omega, hv]
          rfl
        refine lv_iload_n S.1 S.2.1 dX3_handOver_123 rfl (lv_at hl 3 rfl) ?_
        exact ret _ _ _ _ _ (by rw [hJ]; exact hw) (by rw [hJ]) dX3_handOver_124
      · skip
        have c_1N : ¬ n ≤ i := fun z => c_1 ((nI_leI (a := n) (b := i) (by omega) (by omega)).mpr z)
        refine lv_aload_n S.1 S.2.1 dX3_handOver_14 rfl (lv_at hl 0 rfl) ?_
        refine lv_iload S.1 S.2.1 dX3_handOver_15 (lv_at hl 4 rfl) ?_
        refine y_callI (As := [.int (nI i)]) (rest := []) S hw hl.1 (c_X3_staying l D cI cC cL q w.1 i (by omega)) (cwV 1 S.2.2.2.2 gX3_handOver_X3_staying rfl rfl rfl (by decide +kernel) ⟨Nat.le_of_ble_eq_true rfl, Nat.le_of_ble_eq_true rfl⟩) 0 rfl rfl [0, 1, 2, 3] [] rfl (by decide +kernel) (wr := []) rfl (by decide +kernel) (by decide +kernel) rfl (Nat.le_of_ble_eq_true rfl) dX3_handOver_17 rfl ⟨Nat.le_refl _, Nat.le_refl _⟩ (fun H locs v_2 x_3 ev_2 ex_3 hw => ?_)
        have hw : y_W D cI cC cL A s H locs [((q 0), .inr (3, [.int (w.1 0 0), .ref (q 1), .ref (q 2), .ref (q 3), .int (w.1 4 0), .int (w.1 5 0), .int (w.1 6 0), .int (w.1 7 0)])), ((q 1), .inl (cI, 10, .inl (w.1 1))), ((q 2), .inl (cI, 10, .inl (w.1 2))), ((q 3), .inl (cI, 10, .inl (w.1 3)))] := hw
        subst ex_3
        refine lv_istore (lv' := [(5, .int (jStay w.1 i)), (0, .ref (q 0)), (1, .int x), (2, .int cap), (3, .int w.2), (4, .int (nI i))]) S.1 S.2.1 dX3_handOver_20 hl (by decide) rfl (fun ls hl => ?_)
        refine lv_aload_n S.1 S.2.1 dX3_handOver_22 rfl (lv_at hl 1 rfl) ?_
        refine lv_iload S.1 S.2.1 dX3_handOver_23 (lv_at hl 5 rfl) ?_
        refine y_callI (As := [.int (nI i)]) (rest := []) S hw hl.1 (c_X3_leaking l D cI cC cL q w.1 i (by omega)) (cwV 1 S.2.2.2.2 gX3_handOver_X3_leaking rfl rfl rfl (by decide +kernel) ⟨Nat.le_of_ble_eq_true rfl, Nat.le_of_ble_eq_true rfl⟩) 0 rfl rfl [0, 1, 2, 3] [] rfl (by decide +kernel) (wr := []) rfl (by decide +kernel) (by decide +kernel) rfl (Nat.le_of_ble_eq_true rfl) dX3_handOver_25 rfl ⟨Nat.le_refl _, Nat.le_refl _⟩ (fun H locs v_4 x_5 ev_4 ex_5 hw => ?_)
        have hw : y_W D cI cC cL A s H locs [((q 0), .inr (3, [.int (w.1 0 0), .ref (q 1), .ref (q 2), .ref (q 3), .int (w.1 4 0), .int (w.1 5 0), .int (w.1 6 0), .int (w.1 7 0)])), ((q 1), .inl (cI, 10, .inl (w.1 1))), ((q 2), .inl (cI, 10, .inl (w.1 2))), ((q 3), .inl (cI, 10, .inl (w.1 3)))] := hw
        subst ex_5
        refine lv_istore (lv' := [(6, .int (jLeak w.1 i)), (5, .int (jStay w.1 i)), (0, .ref (q 0)), (1, .int x), (2, .int cap), (3, .int w.2), (4, .int (nI i))]) S.1 S.2.1 dX3_handOver_28 hl (by decide) rfl (fun ls hl => ?_)
        refine lv_aload_n S.1 S.2.1 dX3_handOver_30 rfl (lv_at hl 2 rfl) ?_
        refine y_get S hw (C := RX3) (T := TX3) (N := 8) i_X3_handOver_X3 0 rfl rfl 1 (by decide) f_X3_handOver_15 rfl dX3_handOver_31 ?_
        refine lv_iload S.1 S.2.1 dX3_handOver_34 (lv_at hl 6 rfl) ?_
        refine y_iald S hw 1 (k := i) rfl (by omega) (Nat.le_of_ble_eq_true rfl) dX3_handOver_36 ?_
        refine lv_iload S.1 S.2.1 dX3_handOver_37 (lv_at hl 1 rfl) ?_
        refine lv_isub S.1 S.2.1 dX3_handOver_39 ?_
        refine lv_iload S.1 S.2.1 dX3_handOver_40 (lv_at hl 0 rfl) ?_
        refine lv_isub S.1 S.2.1 dX3_handOver_42 ?_
        refine lv_istore (lv' := [(7, .int ((((w.1 1) i) - (jStay w.1 i)) - (jLeak w.1 i))), (6, .int (jLeak w.1 i)), (5, .int (jStay w.1 i)), (0, .ref (q 0)), (1, .int x), (2, .int cap), (3, .int w.2), (4, .int (nI i))]) S.1 S.2.1 dX3_handOver_43 hl (by decide) rfl (fun ls hl => ?_)
        refine lv_iload S.1 S.2.1 dX3_handOver_45 (lv_at hl 2 rfl) ?_
        refine lv_iload_n S.1 S.2.1 dX3_handOver_47 rfl (lv_at hl 6 rfl) ?_
        refine lv_iadd S.1 S.2.1 dX3_handOver_48 ?_
        refine lv_istore (lv' := [(8, .int ((jStay w.1 i) + w.2)), (7, .int ((((w.1 1) i) - (jStay w.1 i)) - (jLeak w.1 i))), (6, .int (jLeak w.1 i)), (5, .int (jStay w.1 i)), (0, .ref (q 0)), (1, .int x), (2, .int cap), (3, .int w.2), (4, .int (nI i))]) S.1 S.2.1 dX3_handOver_49 hl (by decide) rfl (fun ls hl => ?_)
        refine lv_aload_n S.1 S.2.1 dX3_handOver_51 rfl (lv_at hl 4 rfl) ?_
        refine y_get S hw (C := RX3) (T := TX3) (N := 8) i_X3_handOver_X3 0 rfl rfl 1 (by decide) f_X3_handOver_15 rfl dX3_handOver_52 ?_
        refine lv_iload S.1 S.2.1 dX3_handOver_55 (lv_at hl 8 rfl) ?_
        refine lv_iload S.1 S.2.1 dX3_handOver_57 (lv_at hl 0 rfl) ?_
        refine lv_iload_n S.1 S.2.1 dX3_handOver_59 rfl (lv_at hl 6 rfl) ?_
        refine va_mmin S.1 S.2.1 (by rw [S.2.2.1, hl.1]) S.2.2.2.1 (S.2.2.2.2 _ w_X3_handOver_ml60) (S.2.2.2.2 _ w_X3_handOver_ms60) (S.2.2.2.2 _ w_X3_handOver_mi60) (S.2.2.2.2 _ w_X3_handOver_mc60) (Nat.le_of_ble_eq_true rfl) (rest := [.int (nI i), .ref (q 1)]) (Nat.le_of_ble_eq_true rfl) (Nat.le_of_ble_eq_true rfl) (Nat.le_of_ble_eq_true rfl) (x := ((jStay w.1 i) + w.2)) (y := cap) dX3_handOver_60 ?_
        refine y_iast S hw 1 (k := i) rfl (by omega) (Nat.le_of_ble_eq_true rfl) dX3_handOver_63 (ws' := [((q 0), .inr (3, [.int (w.1 0 0), .ref (q 1), .ref (q 2), .ref (q 3), .int (w.1 4 0), .int (w.1 5 0), .int (w.1 6 0), .int (w.1 7 0)])), ((q 1), .inl (cI, 10, .inl (upd (w.1 1) i (if cap < ((jStay w.1 i) + w.2) then cap else ((jStay w.1 i) + w.2))))), ((q 2), .inl (cI, 10, .inl (w.1 2))), ((q 3), .inl (cI, 10, .inl (w.1 3)))]) rfl (fun H locs hw => ?_)
        refine lv_aload_n S.1 S.2.1 dX3_handOver_64 rfl (lv_at hl 4 rfl) ?_
        refine lv_dup S.1 S.2.1 dX3_handOver_65 rfl ?_
        refine y_get S hw (C := RX3) (T := TX3) (N := 8) i_X3_handOver_X3 0 rfl rfl 7 (by decide) f_X3_handOver_40 rfl dX3_handOver_66 ?_
        refine lv_iload S.1 S.2.1 dX3_handOver_69 (lv_at hl 0 rfl) ?_
        refine lv_aload_n S.1 S.2.1 dX3_handOver_71 rfl (lv_at hl 4 rfl) ?_
        refine y_get S hw (C := RX3) (T := TX3) (N := 8) i_X3_handOver_X3 0 rfl rfl 1 (by decide) f_X3_handOver_15 rfl dX3_handOver_72 ?_
        refine lv_iload S.1 S.2.1 dX3_handOver_75 (lv_at hl 8 rfl) ?_
        refine y_iald S hw 1 (k := i) rfl (by omega) (Nat.le_of_ble_eq_true rfl) dX3_handOver_77 ?_
        refine y_top (y := (if cap < ((jStay w.1 i) + w.2) then cap else ((jStay w.1 i) + w.2))) pk_us ?_
        refine lv_isub S.1 S.2.1 dX3_handOver_78 ?_
        refine lv_iadd S.1 S.2.1 dX3_handOver_79 ?_
        refine y_put S hw (C := RX3) (T := TX3) (N := 8) i_X3_handOver_X3 tyX3_ok nmX3 0 rfl rfl 7 (by decide) f_X3_handOver_40 (by decide +kernel) rfl rfl (Nat.le_of_ble_eq_true rfl) dX3_handOver_80 (ws' := [((q 0), .inr (3, [.int (w.1 0 0), .ref (q 1), .ref (q 2), .ref (q 3), .int (w.1 4 0), .int (w.1 5 0), .int (w.1 6 0), .int ((w.1 7 0) + (((jStay w.1 i) + w.2) - (if cap < ((jStay w.1 i) + w.2) then cap else ((jStay w.1 i) + w.2))))])), ((q 1), .inl (cI, 10, .inl (upd (w.1 1) i (if cap < ((jStay w.1 i) + w.2) then cap else ((jStay w.1 i) + w.2))))), ((q 2), .inl (cI, 10, .inl (w.1 2))), ((q 3), .inl (cI, 10, .inl (w.1 3)))]) rfl (fun H locs hw => ?_)
        refine lv_aload_n S.1 S.2.1 dX3_handOver_83 rfl (lv_at hl 4 rfl) ?_
        refine lv_dup S.1 S.2.1 dX3_handOver_84 rfl ?_
        refine y_get S hw (C := RX3) (T := TX3) (N := 8) i_X3_handOver_X3 0 rfl rfl 6 (by decide) f_X3_handOver_37 rfl dX3_handOver_85 ?_
        refine lv_iload S.1 S.2.1 dX3_handOver_88 (lv_at hl 2 rfl) ?_
        refine lv_iadd S.1 S.2.1 dX3_handOver_90 ?_
        refine y_put S hw (C := RX3) (T := TX3) (N := 8) i_X3_handOver_X3 tyX3_ok nmX3 0 rfl rfl 6 (by decide) f_X3_handOver_37 (by decide +kernel) rfl rfl (Nat.le_of_ble_eq_true rfl) dX3_handOver_91 (ws' := [((q 0), .inr (3, [.int (w.1 0 0), .ref (q 1), .ref (q 2), .ref (q 3), .int (w.1 4 0), .int (w.1 5 0), .int ((w.1 6 0) + (jLeak w.1 i)), .int ((w.1 7 0) + (((jStay w.1 i) + w.2) - (if cap < ((jStay w.1 i) + w.2) then cap else ((jStay w.1 i) + w.2))))])), ((q 1), .inl (cI, 10, .inl (upd (w.1 1) i (if cap < ((jStay w.1 i) + w.2) then cap else ((jStay w.1 i) + w.2))))), ((q 2), .inl (cI, 10, .inl (w.1 2))), ((q 3), .inl (cI, 10, .inl (w.1 3)))]) rfl (fun H locs hw => ?_)
        refine lv_iload S.1 S.2.1 dX3_handOver_94 (lv_at hl 1 rfl) ?_
        refine lv_istore_n (lv' := [(3, .int ((((w.1 1) i) - (jStay w.1 i)) - (jLeak w.1 i))), (8, .int ((jStay w.1 i) + w.2)), (7, .int ((((w.1 1) i) - (jStay w.1 i)) - (jLeak w.1 i))), (6, .int (jLeak w.1 i)), (5, .int (jStay w.1 i)), (0, .ref (q 0)), (1, .int x), (2, .int cap), (4, .int (nI i))]) S.1 S.2.1 dX3_handOver_96 rfl hl (by decide) rfl (fun ls hl => ?_)
        refine lv_iinc (v := (nI (i + 1))) (lv' := [(4, .int (nI (i + 1))), (3, .int ((((w.1 1) i) - (jStay w.1 i)) - (jLeak w.1 i))), (8, .int ((jStay w.1 i) + w.2)), (7, .int ((((w.1 1) i) - (jStay w.1 i)) - (jLeak w.1 i))), (6, .int (jLeak w.1 i)), (5, .int (jStay w.1 i)), (0, .ref (q 0)), (1, .int x), (2, .int cap)]) S.1 S.2.1 dX3_handOver_97 hl (k := 8) rfl (by first | exact nI_1 _ | exact nI_add _ _) (by decide) rfl (fun ls hl => ?_)
        refine lv_goto (tgt := 5) S.1 S.2.1 dX3_handOver_100 (by decide) ?_
        exact ih5 (i + 1) ((va_up (va_up (va_up w.1 1 (upd (w.1 1) i (if cap < ((jStay w.1 i) + w.2) then cap else ((jStay w.1 i) + w.2)))) 6 (fun _ => ((w.1 6 0) + (jLeak w.1 i)))) 7 (fun _ => ((w.1 7 0) + (((jStay w.1 i) + w.2) - (if cap < ((jStay w.1 i) + w.2) then cap else ((jStay w.1 i) + w.2)))))), ((((w.1 1) i) - (jStay w.1 i)) - (jLeak w.1 i))) (by omega) (by rw [hv]; rfl) (h0) (by omega) _ _ ls hw (lv_sub hl [6, 7, 8, 1, 0] rfl)
  exact lp5 ((n - 0) + 1) 0 (u, x) (Nat.zero_le _) (rfl) (hn) (Nat.lt_succ_self _) _ _ ls hw (lv_sub hl [2, 3, 4, 1, 0] rfl)
