theorem i_X1_isForReference_X1 : ∀ w ∈ u_ws RX1 TX1 9, w ∈ wsX1_isForReference := by decide +kernel
theorem f_X1_isForReference_34 : Cond.fieldLink RX1 34 "ChargeLines$Line" "settings" "[I" ∈ wsX1_isForReference := by decide +kernel
set_option maxHeartbeats 4000000 in
set_option maxRecDepth 100000 in
/-- Line.isForReference -/
theorem c_X1_isForReference (l : Launch) (D : va_G) (cI cC cL : ClassId) (q : Nat → Nat) (u : U) (x : Int32) : y_MI l yX1_isForReference wsX1_isForReference 0 0 D cI cC cL [.ref (q 7), .int x] (cLn cI q u) (jDue x (u 10 1)) (fun _ : Unit => cLn cI q u) () := by
  refine y_startI (cc := cX1_isForReference) (maxL := 3) (ret := some .boolean) (by decide +kernel) rfl (Nat.le_of_ble_eq_true rfl) ⟨_, rfl, fun x h => by rcases h rfl with rfl | rfl <;> rfl⟩ (fun _ => jDue_01) ?_
  intro p e s mm args below meth c A QQ ls S hw ret hl
  have S : CallFix p mm c cX1_isForReference 3 s args wsX1_isForReference RX1 := S
  have hw : y_W D cI cC cL A s s.heap [] [((q 7), .inr (1, [.ref (q 0), .ref (q 4), .ref (q 8), .int (u 11 0), .int (u 12 0), .ref (q 9), .ref (q 10), .ref (q 11), .ref (q 12)])), ((q 8), .inl (cI, 5, .inl (u 10))), ((q 9), .inl (cI, 32, .inl (u 13))), ((q 10), .inl (cI, 32, .inl (u 14))), ((q 11), .inl (cI, 32, .inl (u 15))), ((q 12), .inl (cI, 32, .inl (u 16))), ((q 0), .inr (3, [.int (u 0 0), .ref (q 1), .ref (q 2), .ref (q 3), .int (u 4 0), .int (u 5 0), .int (u 6 0), .int (u 7 0)])), ((q 1), .inl (cI, 10, .inl (u 1))), ((q 2), .inl (cI, 10, .inl (u 2))), ((q 3), .inl (cI, 10, .inl (u 3))), ((q 4), .inr (2, [.ref (q 5), .ref (q 6)])), ((q 5), .inl (cI, 3, .inl (u 8))), ((q 6), .inl (cI, 3, .inl (u 9)))] := hw
  have hl : lv_has ls 3 [(0, .ref (q 7)), (1, .int x)] := hl
  refine lv_aload_n S.1 S.2.1 dX1_isForReference_0 rfl (lv_at hl 0 rfl) ?_
  refine y_get S hw (C := RX1) (T := TX1) (N := 9) i_X1_isForReference_X1 0 rfl rfl 2 (by decide) f_X1_isForReference_34 rfl dX1_isForReference_1 ?_
  refine lv_iconst (v := 1) S.1 S.2.1 dX1_isForReference_4 (by decide) ?_
  refine y_iald S hw 1 (k := 1) rfl (by omega) (Nat.le_of_ble_eq_true rfl) dX1_isForReference_5 ?_
  refine lv_istore_n (lv' := [(2, .int ((u 10) 1)), (0, .ref (q 7)), (1, .int x)]) S.1 S.2.1 dX1_isForReference_6 rfl hl (by decide) rfl (fun ls hl => ?_)
  refine lv_iload_n S.1 S.2.1 dX1_isForReference_7 rfl (lv_at hl 0 rfl) ?_
  refine lv_if_eq (tgt := 21) S.1 S.2.1 dX1_isForReference_8 (by decide) (fun c_1 => ?_) (fun c_1 => ?_)
  · skip
    refine lv_iconst (v := 0) S.1 S.2.1 dX1_isForReference_21 (by decide) ?_
    exact ret _ _ _ _ _ (by exact hw) (by unfold jDue; first | exact (if_pos c_1).symm | exact ((if_neg c_1).trans (if_pos c_1)).symm | exact ((if_neg c_1).trans (if_neg (not_not_intro c_1))).symm) dX1_isForReference_22
  · skip
    refine lv_iload_n S.1 S.2.1 dX1_isForReference_11 rfl (lv_at hl 2 rfl) ?_
    refine lv_iload_n S.1 S.2.1 dX1_isForReference_12 rfl (lv_at hl 0 rfl) ?_
    refine lv_irem S.1 S.2.1 dX1_isForReference_13 c_1 ?_
    refine lv_if_ne (tgt := 21) S.1 S.2.1 dX1_isForReference_14 (by decide) (fun c_2 => ?_) (fun c_2 => ?_)
    · skip
      refine lv_iconst (v := 0) S.1 S.2.1 dX1_isForReference_21 (by decide) ?_
      exact ret _ _ _ _ _ (by exact hw) (by unfold jDue; first | exact (if_pos c_1).symm | exact ((if_neg c_1).trans (if_pos c_2)).symm | exact ((if_neg c_1).trans (if_neg (not_not_intro c_2))).symm) dX1_isForReference_22
    · skip
      refine lv_iconst (v := 1) S.1 S.2.1 dX1_isForReference_17 (by decide) ?_
      refine lv_goto (tgt := 22) S.1 S.2.1 dX1_isForReference_18 (by decide) ?_
      exact ret _ _ _ _ _ (by exact hw) (by unfold jDue; first | exact (if_pos c_1).symm | exact ((if_neg c_1).trans (if_pos c_2)).symm | exact ((if_neg c_1).trans (if_neg (not_not_intro c_2))).symm) dX1_isForReference_22

theorem i_X1_nextReference_X1 : ∀ w ∈ u_ws RX1 TX1 9, w ∈ wsX1_nextReference := by decide +kernel
theorem f_X1_nextReference_66 : Cond.fieldLink RX1 66 "ChargeLines$Line" "references" "I" ∈ wsX1_nextReference := by decide +kernel
set_option maxHeartbeats 4000000 in
set_option maxRecDepth 100000 in
/-- Line.nextReference -/
theorem c_X1_nextReference (l : Launch) (D : va_G) (cI cC cL : ClassId) (q : Nat → Nat) (u : U) : y_MI l yX1_nextReference wsX1_nextReference 0 0 D cI cC cL [.ref (q 7)] (cLn cI q u) (jNx u) (fun _ : Unit => cLn cI q u) () := by
  refine y_startI (cc := cX1_nextReference) (maxL := 1) (ret := some .int) (by decide +kernel) rfl (Nat.le_of_ble_eq_true rfl) ⟨_, rfl, fun x _ => rfl⟩ (fun h => by cases h) ?_
  intro p e s mm args below meth c A QQ ls S hw ret hl
  have S : CallFix p mm c cX1_nextReference 1 s args wsX1_nextReference RX1 := S
  have hw : y_W D cI cC cL A s s.heap [] [((q 7), .inr (1, [.ref (q 0), .ref (q 4), .ref (q 8), .int (u 11 0), .int (u 12 0), .ref (q 9), .ref (q 10), .ref (q 11), .ref (q 12)])), ((q 8), .inl (cI, 5, .inl (u 10))), ((q 9), .inl (cI, 32, .inl (u 13))), ((q 10), .inl (cI, 32, .inl (u 14))), ((q 11), .inl (cI, 32, .inl (u 15))), ((q 12), .inl (cI, 32, .inl (u 16))), ((q 0), .inr (3, [.int (u 0 0), .ref (q 1), .ref (q 2), .ref (q 3), .int (u 4 0), .int (u 5 0), .int (u 6 0), .int (u 7 0)])), ((q 1), .inl (cI, 10, .inl (u 1))), ((q 2), .inl (cI, 10, .inl (u 2))), ((q 3), .inl (cI, 10, .inl (u 3))), ((q 4), .inr (2, [.ref (q 5), .ref (q 6)])), ((q 5), .inl (cI, 3, .inl (u 8))), ((q 6), .inl (cI, 3, .inl (u 9)))] := hw
  have hl : lv_has ls 1 [(0, .ref (q 7))] := hl
  refine lv_aload_n S.1 S.2.1 dX1_nextReference_0 rfl (lv_at hl 0 rfl) ?_
  refine y_get S hw (C := RX1) (T := TX1) (N := 9) i_X1_nextReference_X1 0 rfl rfl 4 (by decide) f_X1_nextReference_66 rfl dX1_nextReference_1 ?_
  refine lv_iconst (v := 3) S.1 S.2.1 dX1_nextReference_4 (by decide) ?_
  refine lv_irem S.1 S.2.1 dX1_nextReference_5 (by decide) ?_
  exact ret _ _ _ _ _ (by exact hw) (by rfl) dX1_nextReference_6

theorem i_X1_handOversBehind_X1 : ∀ w ∈ u_ws RX1 TX1 9, w ∈ wsX1_handOversBehind := by decide +kernel
theorem f_X1_handOversBehind_62 : Cond.fieldLink RX1 62 "ChargeLines$Line" "handOvers" "I" ∈ wsX1_handOversBehind := by decide +kernel
set_option maxHeartbeats 4000000 in
set_option maxRecDepth 100000 in
/-- Line.handOversBehind -/
theorem c_X1_handOversBehind (l : Launch) (D : va_G) (cI cC cL : ClassId) (q : Nat → Nat) (u : U) (k : Nat) (hm : k ≤ 60) : y_MI l yX1_handOversBehind wsX1_handOversBehind 1 22 D cI cC cL [.ref (q 7), .int (nI k)] (cLn cI q u) (jHB (u 11 0) (u 10 1) k) (fun _ : Unit => cLn cI q u) () := by
  refine y_startI (cc := cX1_handOversBehind) (maxL := 4) (ret := some .int) (by decide +kernel) rfl (Nat.le_of_ble_eq_true rfl) ⟨_, rfl, fun x _ => rfl⟩ (fun h => by cases h) ?_
  intro p e s mm args below meth c A QQ ls S hw ret hl
  have S : CallFix p mm c cX1_handOversBehind 4 s args wsX1_handOversBehind RX1 := S
  have hw : y_W D cI cC cL A s s.heap [] [((q 7), .inr (1, [.ref (q 0), .ref (q 4), .ref (q 8), .int (u 11 0), .int (u 12 0), .ref (q 9), .ref (q 10), .ref (q 11), .ref (q 12)])), ((q 8), .inl (cI, 5, .inl (u 10))), ((q 9), .inl (cI, 32, .inl (u 13))), ((q 10), .inl (cI, 32, .inl (u 14))), ((q 11), .inl (cI, 32, .inl (u 15))), ((q 12), .inl (cI, 32, .inl (u 16))), ((q 0), .inr (3, [.int (u 0 0), .ref (q 1), .ref (q 2), .ref (q 3), .int (u 4 0), .int (u 5 0), .int (u 6 0), .int (u 7 0)])), ((q 1), .inl (cI, 10, .inl (u 1))), ((q 2), .inl (cI, 10, .inl (u 2))), ((q 3), .inl (cI, 10, .inl (u 3))), ((q 4), .inr (2, [.ref (q 5), .ref (q 6)])), ((q 5), .inl (cI, 3, .inl (u 8))), ((q 6), .inl (cI, 3, .inl (u 9)))] := hw
  have hl : lv_has ls 4 [(0, .ref (q 7)), (1, .int (nI k))] := hl
  refine lv_aload_n S.1 S.2.1 dX1_handOversBehind_0 rfl (lv_at hl 0 rfl) ?_
  refine y_get S hw (C := RX1) (T := TX1) (N := 9) i_X1_handOversBehind_X1 0 rfl rfl 3 (by decide) f_X1_handOversBehind_62 rfl dX1_handOversBehind_1 ?_
  refine lv_istore_n (lv' := [(2, .int (u 11 0)), (0, .ref (q 7)), (1, .int (nI k))]) S.1 S.2.1 dX1_handOversBehind_4 rfl hl (by decide) rfl (fun ls hl => ?_)
  refine lv_iconst (v := 0) S.1 S.2.1 dX1_handOversBehind_5 (by decide) ?_
  refine lv_istore_n (lv' := [(3, .int 0), (2, .int (u 11 0)), (0, .ref (q 7)), (1, .int (nI k))]) S.1 S.2.1 dX1_handOversBehind_6 rfl hl (by decide) rfl (fun ls hl => ?_)
  have lp7 : ∀ (fuel : Nat) (i : Nat) (z : Int32), (i ≤ k) → (z = jHB (u 11 0) (u 10 1) i) → (k - i) < fuel → ∀ (H : Heap) (locs : List Loc) (ls : Array Slot), y_W D cI cC cL A s H locs [((q 7), .inr (1, [.ref (q 0), .ref (q 4), .ref (q 8), .int (u 11 0), .int (u 12 0), .ref (q 9), .ref (q 10), .ref (q 11), .ref (q 12)])), ((q 8), .inl (cI, 5, .inl (u 10))), ((q 9), .inl (cI, 32, .inl (u 13))), ((q 10), .inl (cI, 32, .inl (u 14))), ((q 11), .inl (cI, 32, .inl (u 15))), ((q 12), .inl (cI, 32, .inl (u 16))), ((q 0), .inr (3, [.int (u 0 0), .ref (q 1), .ref (q 2), .ref (q 3), .int (u 4 0), .int (u 5 0), .int (u 6 0), .int (u 7 0)])), ((q 1), .inl (cI, 10, .inl (u 1))), ((q 2), .inl (cI, 10, .inl (u 2))), ((q 3), .inl (cI, 10, .inl (u 3))), ((q 4), .inr (2, [.ref (q 5), .ref (q 6)])), ((q 5), .inl (cI, 3, .inl (u 8))), ((q 6), .inl (cI, 3, .inl (u 9)))] → lv_has ls 4 [(0, .ref (q 7)), (1, .int (nI k)), (2, .int z), (3, .int (nI i))] → W p l e (y_R 1 22) s mm args below meth c H locs 0 0 QQ (F0 mm 7 ls []) := by
    intro fuel
    induction fuel with
    | zero =>
      intro i z hi hz hfu
      exact absurd hfu (Nat.not_lt_zero _)
    | succ fuel ih7 =>
      intro i z hi hz hfu H locs ls hw hl
      refine lv_iload_n S.1 S.2.1 dX1_handOversBehind_7 rfl (lv_at hl 3 rfl) ?_
      refine lv_iload_n S.1 S.2.1 dX1_handOversBehind_8 rfl (lv_at hl 1 rfl) ?_
      refine lv_icmp_ge (tgt := 34) S.1 S.2.1 dX1_handOversBehind_9 (by decide) (fun c_1 => ?_) (fun c_1 => ?_)
      · skip
        have c_1N : k ≤ i := (nI_leI (a := k) (b := i) (by omega) (by omega)).mp c_1
        refine lv_iload_n S.1 S.2.1 dX1_handOversBehind_34 rfl (lv_at hl 2 rfl) ?_
        exact ret _ _ _ _ _ (by exact hw) (by rw [hz, show i = k from by omega]) dX1_handOversBehind_35
      · skip
        have c_1N : ¬ k ≤ i := fun z => c_1 ((nI_leI (a := k) (b := i) (by omega) (by omega)).mpr z)
        refine lv_iload_n S.1 S.2.1 dX1_handOversBehind_12 rfl (lv_at hl 2 rfl) ?_
        refine lv_aload_n S.1 S.2.1 dX1_handOversBehind_13 rfl (lv_at hl 0 rfl) ?_
        refine lv_iload_n S.1 S.2.1 dX1_handOversBehind_14 rfl (lv_at hl 2 rfl) ?_
        refine y_callI (As := [.int z]) (rest := [.int z]) S hw hl.1 (c_X1_isForReference l D cI cC cL q u z) (cwV 1 S.2.2.2.2 gX1_handOversBehind_X1_isForReference rfl rfl rfl (by decide +kernel) ⟨Nat.le_of_ble_eq_true rfl, Nat.le_of_ble_eq_true rfl⟩) 0 rfl rfl [0, 1, 2, 3, 4, 5, 6, 7, 8, 9, 10, 11, 12] [] rfl (by decide +kernel) (wr := []) rfl (by decide +kernel) (by decide +kernel) rfl (Nat.le_of_ble_eq_true rfl) dX1_handOversBehind_15 rfl ⟨Nat.le_refl _, Nat.le_refl _⟩ (fun H locs v_2 x_3 ev_2 ex_3 hw => ?_)
        have hw : y_W D cI cC cL A s H locs [((q 7), .inr (1, [.ref (q 0), .ref (q 4), .ref (q 8), .int (u 11 0), .int (u 12 0), .ref (q 9), .ref (q 10), .ref (q 11), .ref (q 12)])), ((q 8), .inl (cI, 5, .inl (u 10))), ((q 9), .inl (cI, 32, .inl (u 13))), ((q 10), .inl (cI, 32, .inl (u 14))), ((q 11), .inl (cI, 32, .inl (u 15))), ((q 12), .inl (cI, 32, .inl (u 16))), ((q 0), .inr (3, [.int (u 0 0), .ref (q 1), .ref (q 2), .ref (q 3), .int (u 4 0), .int (u 5 0), .int (u 6 0), .int (u 7 0)])), ((q 1), .inl (cI, 10, .inl (u 1))), ((q 2), .inl (cI, 10, .inl (u 2))), ((q 3), .inl (cI, 10, .inl (u 3))), ((q 4), .inr (2, [.ref (q 5), .ref (q 6)])), ((q 5), .inl (cI, 3, .inl (u 8))), ((q 6), .inl (cI, 3, .inl (u 9)))] := hw
        subst ex_3
        refine lv_if_eq (tgt := 25) S.1 S.2.1 dX1_handOversBehind_18 (by decide) (fun c_4 => ?_) (fun c_4 => ?_)
        · skip
          refine lv_iconst (v := 1) S.1 S.2.1 dX1_handOversBehind_25 (by decide) ?_
          refine lv_iadd S.1 S.2.1 dX1_handOversBehind_26 ?_
          refine lv_istore_n (lv' := [(2, .int (z + 1)), (0, .ref (q 7)), (1, .int (nI k)), (3, .int (nI i))]) S.1 S.2.1 dX1_handOversBehind_27 rfl hl (by decide) rfl (fun ls hl => ?_)
          refine lv_iinc (v := (nI (i + 1))) (lv' := [(3, .int (nI (i + 1))), (2, .int (z + 1)), (0, .ref (q 7)), (1, .int (nI k))]) S.1 S.2.1 dX1_handOversBehind_28 hl (k := 3) rfl (by first | exact nI_1 _ | exact nI_add _ _) (by decide) rfl (fun ls hl => ?_)
          refine lv_goto (tgt := 7) S.1 S.2.1 dX1_handOversBehind_31 (by decide) ?_
          exact ih7 (i + 1) (z + 1) (by omega) (by rw [jHB, ← hz]; simp only [c_1, c_4, ↓reduceIte]) (by omega) _ _ ls hw (lv_sub hl [2, 3, 1, 0] rfl)
        · skip
          refine lv_iconst (v := 2) S.1 S.2.1 dX1_handOversBehind_21 (by decide) ?_
          refine lv_goto (tgt := 26) S.1 S.2.1 dX1_handOversBehind_22 (by decide) ?_
          refine lv_iadd S.1 S.2.1 dX1_handOversBehind_26 ?_
          refine lv_istore_n (lv' := [(2, .int (z + 2)), (0, .ref (q 7)), (1, .int (nI k)), (3, .int (nI i))]) S.1 S.2.1 dX1_handOversBehind_27 rfl hl (by decide) rfl (fun ls hl => ?_)
          refine lv_iinc (v := (nI (i + 1))) (lv' := [(3, .int (nI (i + 1))), (2, .int (z + 2)), (0, .ref (q 7)), (1, .int (nI k))]) S.1 S.2.1 dX1_handOversBehind_28 hl (k := 3) rfl (by first | exact nI_1 _ | exact nI_add _ _) (by decide) rfl (fun ls hl => ?_)
          refine lv_goto (tgt := 7) S.1 S.2.1 dX1_handOversBehind_31 (by decide) ?_
          exact ih7 (i + 1) (z + 2) (by omega) (by rw [jHB, ← hz]; simp only [c_1, c_4, ↓reduceIte]) (by omega) _ _ ls hw (lv_sub hl [2, 3, 1, 0] rfl)
  exact lp7 ((k - 0) + 1) 0 (u 11 0) (Nat.zero_le _) (rfl) (Nat.lt_succ_self _) _ _ ls hw (lv_sub hl [2, 3, 1, 0] rfl)

theorem i_X1_keptOutputs_X1 : ∀ w ∈ u_ws RX1 TX1 9, w ∈ wsX1_keptOutputs := by decide +kernel
theorem f_X1_keptOutputs_62 : Cond.fieldLink RX1 62 "ChargeLines$Line" "handOvers" "I" ∈ wsX1_keptOutputs := by decide +kernel
theorem f_X1_keptOutputs_12 : Cond.fieldLink RX1 12 "ChargeLines$Line" "stages" "LChargeLines$Stages;" ∈ wsX1_keptOutputs := by decide +kernel
theorem i_X1_keptOutputs_X3 : ∀ w ∈ u_ws RX3 TX3 8, w ∈ wsX1_keptOutputs := by decide +kernel
theorem f_X1_keptOutputs_94 : Cond.fieldLink RX1 94 "ChargeLines$Stages" "many" "I" ∈ wsX1_keptOutputs := by decide +kernel
theorem w_X1_keptOutputs_ml111 : Cond.methodLink RX1 111 Lib.Math.min.name ∈ wsX1_keptOutputs := by decide +kernel
theorem w_X1_keptOutputs_ms111 : Cond.static Lib.Math.min.name ∈ wsX1_keptOutputs := by decide +kernel
theorem w_X1_keptOutputs_mi111 : Cond.initialized "java/lang/Math" ∈ wsX1_keptOutputs := by decide +kernel
theorem w_X1_keptOutputs_mc111 : Cond.code Lib.Math.min.name Lib.Math.min.code 2 (some .int) ∈ wsX1_keptOutputs := by decide +kernel
theorem w_X1_keptOutputs_ml116 : Cond.methodLink RX1 116 Lib.Math.max.name ∈ wsX1_keptOutputs := by decide +kernel
theorem w_X1_keptOutputs_ms116 : Cond.static Lib.Math.max.name ∈ wsX1_keptOutputs := by decide +kernel
theorem w_X1_keptOutputs_mi116 : Cond.initialized "java/lang/Math" ∈ wsX1_keptOutputs := by decide +kernel
theorem w_X1_keptOutputs_mc116 : Cond.code Lib.Math.max.name Lib.Math.max.code 2 (some .int) ∈ wsX1_keptOutputs := by decide +kernel
set_option maxHeartbeats 4000000 in
set_option maxRecDepth 100000 in
/-- Line.keptOutputs -/
theorem c_X1_keptOutputs (l : Launch) (D : va_G) (cI cC cL : ClassId) (q : Nat → Nat) (u : U) : y_MI l yX1_keptOutputs wsX1_keptOutputs 1 14 D cI cC cL [.ref (q 7)] (cLn cI q u) (jKept u) (fun _ : Unit => cLn cI q u) () := by
  refine y_startI (cc := cX1_keptOutputs) (maxL := 1) (ret := some .int) (by decide +kernel) rfl (Nat.le_of_ble_eq_true rfl) ⟨_, rfl, fun x _ => rfl⟩ (fun h => by cases h) ?_
  intro p e s mm args below meth c A QQ ls S hw ret hl
  have S : CallFix p mm c cX1_keptOutputs 1 s args wsX1_keptOutputs RX1 := S
  have hw : y_W D cI cC cL A s s.heap [] [((q 7), .inr (1, [.ref (q 0), .ref (q 4), .ref (q 8), .int (u 11 0), .int (u 12 0), .ref (q 9), .ref (q 10), .ref (q 11), .ref (q 12)])), ((q 8), .inl (cI, 5, .inl (u 10))), ((q 9), .inl (cI, 32, .inl (u 13))), ((q 10), .inl (cI, 32, .inl (u 14))), ((q 11), .inl (cI, 32, .inl (u 15))), ((q 12), .inl (cI, 32, .inl (u 16))), ((q 0), .inr (3, [.int (u 0 0), .ref (q 1), .ref (q 2), .ref (q 3), .int (u 4 0), .int (u 5 0), .int (u 6 0), .int (u 7 0)])), ((q 1), .inl (cI, 10, .inl (u 1))), ((q 2), .inl (cI, 10, .inl (u 2))), ((q 3), .inl (cI, 10, .inl (u 3))), ((q 4), .inr (2, [.ref (q 5), .ref (q 6)])), ((q 5), .inl (cI, 3, .inl (u 8))), ((q 6), .inl (cI, 3, .inl (u 9)))] := hw
  have hl : lv_has ls 1 [(0, .ref (q 7))] := hl
  refine lv_iconst (v := 0) S.1 S.2.1 dX1_keptOutputs_0 (by decide) ?_
  refine lv_bipush (v := 16) S.1 S.2.1 dX1_keptOutputs_1 (by decide) ?_
  refine lv_aload_n S.1 S.2.1 dX1_keptOutputs_3 rfl (lv_at hl 0 rfl) ?_
  refine y_get S hw (C := RX1) (T := TX1) (N := 9) i_X1_keptOutputs_X1 0 rfl rfl 3 (by decide) f_X1_keptOutputs_62 rfl dX1_keptOutputs_4 ?_
  refine lv_aload_n S.1 S.2.1 dX1_keptOutputs_7 rfl (lv_at hl 0 rfl) ?_
  refine y_get S hw (C := RX1) (T := TX1) (N := 9) i_X1_keptOutputs_X1 0 rfl rfl 0 (by decide) f_X1_keptOutputs_12 rfl dX1_keptOutputs_8 ?_
  refine y_get S hw (C := RX3) (T := TX3) (N := 8) i_X1_keptOutputs_X3 6 rfl rfl 0 (by decide) f_X1_keptOutputs_94 rfl dX1_keptOutputs_11 ?_
  refine lv_isub S.1 S.2.1 dX1_keptOutputs_14 ?_
  refine va_mmin S.1 S.2.1 (by rw [S.2.2.1, hl.1]) S.2.2.2.1 (S.2.2.2.2 _ w_X1_keptOutputs_ml111) (S.2.2.2.2 _ w_X1_keptOutputs_ms111) (S.2.2.2.2 _ w_X1_keptOutputs_mi111) (S.2.2.2.2 _ w_X1_keptOutputs_mc111) (Nat.le_of_ble_eq_true rfl) (rest := [.int 0]) (Nat.le_of_ble_eq_true rfl) (Nat.le_of_ble_eq_true rfl) (Nat.le_of_ble_eq_true rfl) (x := 16) (y := ((u 11 0) - (u 0 0))) dX1_keptOutputs_15 ?_
  refine va_mmax S.1 S.2.1 (by rw [S.2.2.1, hl.1]) S.2.2.2.1 (S.2.2.2.2 _ w_X1_keptOutputs_ml116) (S.2.2.2.2 _ w_X1_keptOutputs_ms116) (S.2.2.2.2 _ w_X1_keptOutputs_mi116) (S.2.2.2.2 _ w_X1_keptOutputs_mc116) (Nat.le_of_ble_eq_true rfl) (rest := []) (Nat.le_of_ble_eq_true rfl) (Nat.le_of_ble_eq_true rfl) (Nat.le_of_ble_eq_true rfl) (x := 0) (y := (if ((u 11 0) - (u 0 0)) < 16 then ((u 11 0) - (u 0 0)) else 16)) dX1_keptOutputs_18 ?_
  exact ret _ _ _ _ _ (by exact hw) (by rfl) dX1_keptOutputs_21

theorem i_X1_sourceSlot_X1 : ∀ w ∈ u_ws RX1 TX1 9, w ∈ wsX1_sourceSlot := by decide +kernel
theorem f_X1_sourceSlot_12 : Cond.fieldLink RX1 12 "ChargeLines$Line" "stages" "LChargeLines$Stages;" ∈ wsX1_sourceSlot := by decide +kernel
theorem i_X1_sourceSlot_X3 : ∀ w ∈ u_ws RX3 TX3 8, w ∈ wsX1_sourceSlot := by decide +kernel
theorem f_X1_sourceSlot_94 : Cond.fieldLink RX1 94 "ChargeLines$Stages" "many" "I" ∈ wsX1_sourceSlot := by decide +kernel
set_option maxHeartbeats 4000000 in
set_option maxRecDepth 100000 in
/-- Line.sourceSlot -/
theorem c_X1_sourceSlot (l : Launch) (D : va_G) (cI cC cL : ClassId) (q : Nat → Nat) (u : U) (x : Int32) : y_MI l yX1_sourceSlot wsX1_sourceSlot 0 0 D cI cC cL [.ref (q 7), .int x] (cLn cI q u) ((x - u 0 0) &&& 31) (fun _ : Unit => cLn cI q u) () := by
  refine y_startI (cc := cX1_sourceSlot) (maxL := 2) (ret := some .int) (by decide +kernel) rfl (Nat.le_of_ble_eq_true rfl) ⟨_, rfl, fun x _ => rfl⟩ (fun h => by cases h) ?_
  intro p e s mm args below meth c A QQ ls S hw ret hl
  have S : CallFix p mm c cX1_sourceSlot 2 s args wsX1_sourceSlot RX1 := S
  have hw : y_W D cI cC cL A s s.heap [] [((q 7), .inr (1, [.ref (q 0), .ref (q 4), .ref (q 8), .int (u 11 0), .int (u 12 0), .ref (q 9), .ref (q 10), .ref (q 11), .ref (q 12)])), ((q 8), .inl (cI, 5, .inl (u 10))), ((q 9), .inl (cI, 32, .inl (u 13))), ((q 10), .inl (cI, 32, .inl (u 14))), ((q 11), .inl (cI, 32, .inl (u 15))), ((q 12), .inl (cI, 32, .inl (u 16))), ((q 0), .inr (3, [.int (u 0 0), .ref (q 1), .ref (q 2), .ref (q 3), .int (u 4 0), .int (u 5 0), .int (u 6 0), .int (u 7 0)])), ((q 1), .inl (cI, 10, .inl (u 1))), ((q 2), .inl (cI, 10, .inl (u 2))), ((q 3), .inl (cI, 10, .inl (u 3))), ((q 4), .inr (2, [.ref (q 5), .ref (q 6)])), ((q 5), .inl (cI, 3, .inl (u 8))), ((q 6), .inl (cI, 3, .inl (u 9)))] := hw
  have hl : lv_has ls 2 [(0, .ref (q 7)), (1, .int x)] := hl
  refine lv_iload_n S.1 S.2.1 dX1_sourceSlot_0 rfl (lv_at hl 1 rfl) ?_
  refine lv_aload_n S.1 S.2.1 dX1_sourceSlot_1 rfl (lv_at hl 0 rfl) ?_
  refine y_get S hw (C := RX1) (T := TX1) (N := 9) i_X1_sourceSlot_X1 0 rfl rfl 0 (by decide) f_X1_sourceSlot_12 rfl dX1_sourceSlot_2 ?_
  refine y_get S hw (C := RX3) (T := TX3) (N := 8) i_X1_sourceSlot_X3 6 rfl rfl 0 (by decide) f_X1_sourceSlot_94 rfl dX1_sourceSlot_5 ?_
  refine lv_isub S.1 S.2.1 dX1_sourceSlot_8 ?_
  refine lv_bipush (v := 31) S.1 S.2.1 dX1_sourceSlot_9 (by decide) ?_
  refine lv_iand S.1 S.2.1 dX1_sourceSlot_11 ?_
  exact ret _ _ _ _ _ (by exact hw) (by rfl) dX1_sourceSlot_12

theorem i_X1_isOfReference_X1 : ∀ w ∈ u_ws RX1 TX1 9, w ∈ wsX1_isOfReference := by decide +kernel
theorem f_X1_isOfReference_40 : Cond.fieldLink RX1 40 "ChargeLines$Line" "referencesOfSamples" "[I" ∈ wsX1_isOfReference := by decide +kernel
set_option maxHeartbeats 4000000 in
set_option maxRecDepth 100000 in
/-- Line.isOfReference -/
theorem c_X1_isOfReference (l : Launch) (D : va_G) (cI cC cL : ClassId) (q : Nat → Nat) (u : U) (x : Int32) (k : Nat) (hk : (x - u 0 0) &&& 31 = nI k) (hk2 : k < 32) : y_MI l yX1_isOfReference wsX1_isOfReference 1 21 D cI cC cL [.ref (q 7), .int x] (cLn cI q u) (jIsR (u 14 k)) (fun _ : Unit => cLn cI q u) () := by
  refine y_startI (cc := cX1_isOfReference) (maxL := 2) (ret := some .boolean) (by decide +kernel) rfl (Nat.le_of_ble_eq_true rfl) ⟨_, rfl, fun x h => by rcases h rfl with rfl | rfl <;> rfl⟩ (fun _ => jIsR_01) ?_
  intro p e s mm args below meth c A QQ ls S hw ret hl
  have S : CallFix p mm c cX1_isOfReference 2 s args wsX1_isOfReference RX1 := S
  have hw : y_W D cI cC cL A s s.heap [] [((q 7), .inr (1, [.ref (q 0), .ref (q 4), .ref (q 8), .int (u 11 0), .int (u 12 0), .ref (q 9), .ref (q 10), .ref (q 11), .ref (q 12)])), ((q 8), .inl (cI, 5, .inl (u 10))), ((q 9), .inl (cI, 32, .inl (u 13))), ((q 10), .inl (cI, 32, .inl (u 14))), ((q 11), .inl (cI, 32, .inl (u 15))), ((q 12), .inl (cI, 32, .inl (u 16))), ((q 0), .inr (3, [.int (u 0 0), .ref (q 1), .ref (q 2), .ref (q 3), .int (u 4 0), .int (u 5 0), .int (u 6 0), .int (u 7 0)])), ((q 1), .inl (cI, 10, .inl (u 1))), ((q 2), .inl (cI, 10, .inl (u 2))), ((q 3), .inl (cI, 10, .inl (u 3))), ((q 4), .inr (2, [.ref (q 5), .ref (q 6)])), ((q 5), .inl (cI, 3, .inl (u 8))), ((q 6), .inl (cI, 3, .inl (u 9)))] := hw
  have hl : lv_has ls 2 [(0, .ref (q 7)), (1, .int x)] := hl
  refine lv_aload_n S.1 S.2.1 dX1_isOfReference_0 rfl (lv_at hl 0 rfl) ?_
  refine y_get S hw (C := RX1) (T := TX1) (N := 9) i_X1_isOfReference_X1 0 rfl rfl 6 (by decide) f_X1_isOfReference_40 rfl dX1_isOfReference_1 ?_
  refine lv_aload_n S.1 S.2.1 dX1_isOfReference_4 rfl (lv_at hl 0 rfl) ?_
  refine lv_iload_n S.1 S.2.1 dX1_isOfReference_5 rfl (lv_at hl 1 rfl) ?_
  refine y_callI (As := [.int x]) (rest := [.ref (q 10)]) S hw hl.1 (c_X1_sourceSlot l D cI cC cL q u x) (cwV 1 S.2.2.2.2 gX1_isOfReference_X1_sourceSlot rfl rfl rfl (by decide +kernel) ⟨Nat.le_of_ble_eq_true rfl, Nat.le_of_ble_eq_true rfl⟩) 0 rfl rfl [0, 1, 2, 3, 4, 5, 6, 7, 8, 9, 10, 11, 12] [] rfl (by decide +kernel) (wr := []) rfl (by decide +kernel) (by decide +kernel) rfl (Nat.le_of_ble_eq_true rfl) dX1_isOfReference_6 rfl ⟨Nat.le_refl _, Nat.le_refl _⟩ (fun H locs v_1 x_2 ev_1 ex_2 hw => ?_)
  have hw : y_W D cI cC cL A s H locs [((q 7), .inr (1, [.ref (q 0), .ref (q 4), .ref (q 8), .int (u 11 0), .int (u 12 0), .ref (q 9), .ref (q 10), .ref (q 11), .ref (q 12)])), ((q 8), .inl (cI, 5, .inl (u 10))), ((q 9), .inl (cI, 32, .inl (u 13))), ((q 10), .inl (cI, 32, .inl (u 14))), ((q 11), .inl (cI, 32, .inl (u 15))), ((q 12), .inl (cI, 32, .inl (u 16))), ((q 0), .inr (3, [.int (u 0 0), .ref (q 1), .ref (q 2), .ref (q 3), .int (u 4 0), .int (u 5 0), .int (u 6 0), .int (u 7 0)])), ((q 1), .inl (cI, 10, .inl (u 1))), ((q 2), .inl (cI, 10, .inl (u 2))), ((q 3), .inl (cI, 10, .inl (u 3))), ((q 4), .inr (2, [.ref (q 5), .ref (q 6)])), ((q 5), .inl (cI, 3, .inl (u 8))), ((q 6), .inl (cI, 3, .inl (u 9)))] := hw
  subst ex_2
  refine y_top (y := (nI k)) (hk) ?_
  refine y_iald S hw 3 (k := k) rfl (by omega) (Nat.le_of_ble_eq_true rfl) dX1_isOfReference_9 ?_
  refine lv_iconst (v := (-1)) S.1 S.2.1 dX1_isOfReference_10 (by decide) ?_
  refine lv_icmp_eq (tgt := 18) S.1 S.2.1 dX1_isOfReference_11 (by decide) (fun c_3 => ?_) (fun c_3 => ?_)
  · skip
    refine lv_iconst (v := 0) S.1 S.2.1 dX1_isOfReference_18 (by decide) ?_
    exact ret _ _ _ _ _ (by exact hw) (by unfold jIsR; first | exact (if_pos c_3).symm | exact (if_neg c_3).symm) dX1_isOfReference_19
  · skip
    refine lv_iconst (v := 1) S.1 S.2.1 dX1_isOfReference_14 (by decide) ?_
    refine lv_goto (tgt := 19) S.1 S.2.1 dX1_isOfReference_15 (by decide) ?_
    exact ret _ _ _ _ _ (by exact hw) (by unfold jIsR; first | exact (if_pos c_3).symm | exact (if_neg c_3).symm) dX1_isOfReference_19

theorem i_X1_errorOf_X1 : ∀ w ∈ u_ws RX1 TX1 9, w ∈ wsX1_errorOf := by decide +kernel
theorem f_X1_errorOf_46 : Cond.fieldLink RX1 46 "ChargeLines$Line" "mendedOutputs" "[I" ∈ wsX1_errorOf := by decide +kernel
theorem k_X1_errorOf_119 : Cond.constant RX1 119 (-2000004) ∈ wsX1_errorOf := by decide +kernel
theorem f_X1_errorOf_37 : Cond.fieldLink RX1 37 "ChargeLines$Line" "samples" "[I" ∈ wsX1_errorOf := by decide +kernel
theorem f_X1_errorOf_43 : Cond.fieldLink RX1 43 "ChargeLines$Line" "outputs" "[I" ∈ wsX1_errorOf := by decide +kernel
set_option maxHeartbeats 4000000 in
set_option maxRecDepth 100000 in
/-- Line.errorOf -/
theorem c_X1_errorOf (l : Launch) (D : va_G) (cI cC cL : ClassId) (q : Nat → Nat) (u : U) (h n : Nat) (hn : u 0 0 = nI n) (hnh : n ≤ h) (hh : h < 2147483648) : y_MI l yX1_errorOf wsX1_errorOf 1 21 D cI cC cL [.ref (q 7), .int (nI h)] (cLn cI q u) (jErr u h n) (fun _ : Unit => cLn cI q u) () := by
  refine y_startI (cc := cX1_errorOf) (maxL := 4) (ret := some .int) (by decide +kernel) rfl (Nat.le_of_ble_eq_true rfl) ⟨_, rfl, fun x _ => rfl⟩ (fun h => by cases h) ?_
  intro p e s mm args below meth c A QQ ls S hw ret hl
  have S : CallFix p mm c cX1_errorOf 4 s args wsX1_errorOf RX1 := S
  have hw : y_W D cI cC cL A s s.heap [] [((q 7), .inr (1, [.ref (q 0), .ref (q 4), .ref (q 8), .int (u 11 0), .int (u 12 0), .ref (q 9), .ref (q 10), .ref (q 11), .ref (q 12)])), ((q 8), .inl (cI, 5, .inl (u 10))), ((q 9), .inl (cI, 32, .inl (u 13))), ((q 10), .inl (cI, 32, .inl (u 14))), ((q 11), .inl (cI, 32, .inl (u 15))), ((q 12), .inl (cI, 32, .inl (u 16))), ((q 0), .inr (3, [.int (u 0 0), .ref (q 1), .ref (q 2), .ref (q 3), .int (u 4 0), .int (u 5 0), .int (u 6 0), .int (u 7 0)])), ((q 1), .inl (cI, 10, .inl (u 1))), ((q 2), .inl (cI, 10, .inl (u 2))), ((q 3), .inl (cI, 10, .inl (u 3))), ((q 4), .inr (2, [.ref (q 5), .ref (q 6)])), ((q 5), .inl (cI, 3, .inl (u 8))), ((q 6), .inl (cI, 3, .inl (u 9)))] := hw
  have hl : lv_has ls 4 [(0, .ref (q 7)), (1, .int (nI h))] := hl
  refine lv_iload_n S.1 S.2.1 dX1_errorOf_0 rfl (lv_at hl 1 rfl) ?_
  refine lv_bipush (v := 31) S.1 S.2.1 dX1_errorOf_1 (by decide) ?_
  refine lv_iand S.1 S.2.1 dX1_errorOf_3 ?_
  refine y_top (y := (nI (h % 32))) (y_and31 rfl (by omega)) ?_
  refine lv_istore_n (lv' := [(2, .int (nI (h % 32))), (0, .ref (q 7)), (1, .int (nI h))]) S.1 S.2.1 dX1_errorOf_4 rfl hl (by decide) rfl (fun ls hl => ?_)
  refine lv_aload_n S.1 S.2.1 dX1_errorOf_5 rfl (lv_at hl 1 rfl) ?_
  refine y_get S hw (C := RX1) (T := TX1) (N := 9) i_X1_errorOf_X1 0 rfl rfl 8 (by decide) f_X1_errorOf_46 rfl dX1_errorOf_6 ?_
  refine lv_iload_n S.1 S.2.1 dX1_errorOf_9 rfl (lv_at hl 0 rfl) ?_
  refine y_iald S hw 5 (k := (h % 32)) rfl (by omega) (Nat.le_of_ble_eq_true rfl) dX1_errorOf_10 ?_
  refine lv_ldc (v := (-2000004)) S.1 S.2.1 S.2.2.2.1 (S.2.2.2.2 _ k_X1_errorOf_119) dX1_errorOf_11 ?_
  refine lv_icmp_ne (tgt := 25) S.1 S.2.1 dX1_errorOf_13 (by decide) (fun c_1 => ?_) (fun c_1 => ?_)
  · skip
    refine lv_aload_n S.1 S.2.1 dX1_errorOf_25 rfl (lv_at hl 1 rfl) ?_
    refine y_get S hw (C := RX1) (T := TX1) (N := 9) i_X1_errorOf_X1 0 rfl rfl 8 (by decide) f_X1_errorOf_46 rfl dX1_errorOf_26 ?_
    refine lv_iload_n S.1 S.2.1 dX1_errorOf_29 rfl (lv_at hl 0 rfl) ?_
    refine y_iald S hw 5 (k := (h % 32)) rfl (by omega) (Nat.le_of_ble_eq_true rfl) dX1_errorOf_30 ?_
    refine lv_istore_n (lv' := [(3, .int ((u 16) (h % 32))), (2, .int (nI (h % 32))), (0, .ref (q 7)), (1, .int (nI h))]) S.1 S.2.1 dX1_errorOf_31 rfl hl (by decide) rfl (fun ls hl => ?_)
    refine lv_iload_n S.1 S.2.1 dX1_errorOf_32 rfl (lv_at hl 0 rfl) ?_
    refine lv_aload_n S.1 S.2.1 dX1_errorOf_33 rfl (lv_at hl 2 rfl) ?_
    refine y_get S hw (C := RX1) (T := TX1) (N := 9) i_X1_errorOf_X1 0 rfl rfl 5 (by decide) f_X1_errorOf_37 rfl dX1_errorOf_34 ?_
    refine lv_aload_n S.1 S.2.1 dX1_errorOf_37 rfl (lv_at hl 2 rfl) ?_
    refine lv_iload_n S.1 S.2.1 dX1_errorOf_38 rfl (lv_at hl 3 rfl) ?_
    refine y_callI (As := [.int (nI h)]) (rest := [.ref (q 9), .int ((u 16) (h % 32))]) S hw hl.1 (c_X1_sourceSlot l D cI cC cL q u (nI h)) (cwV 1 S.2.2.2.2 gX1_errorOf_X1_sourceSlot rfl rfl rfl (by decide +kernel) ⟨Nat.le_of_ble_eq_true rfl, Nat.le_of_ble_eq_true rfl⟩) 0 rfl rfl [0, 1, 2, 3, 4, 5, 6, 7, 8, 9, 10, 11, 12] [] rfl (by decide +kernel) (wr := []) rfl (by decide +kernel) (by decide +kernel) rfl (Nat.le_of_ble_eq_true rfl) dX1_errorOf_39 rfl ⟨Nat.le_refl _, Nat.le_refl _⟩ (fun H locs v_2 x_3 ev_2 ex_3 hw => ?_)
    have hw : y_W D cI cC cL A s H locs [((q 7), .inr (1, [.ref (q 0), .ref (q 4), .ref (q 8), .int (u 11 0), .int (u 12 0), .ref (q 9), .ref (q 10), .ref (q 11), .ref (q 12)])), ((q 8), .inl (cI, 5, .inl (u 10))), ((q 9), .inl (cI, 32, .inl (u 13))), ((q 10), .inl (cI, 32, .inl (u 14))), ((q 11), .inl (cI, 32, .inl (u 15))), ((q 12), .inl (cI, 32, .inl (u 16))), ((q 0), .inr (3, [.int (u 0 0), .ref (q 1), .ref (q 2), .ref (q 3), .int (u 4 0), .int (u 5 0), .int (u 6 0), .int (u 7 0)])), ((q 1), .inl (cI, 10, .inl (u 1))), ((q 2), .inl (cI, 10, .inl (u 2))), ((q 3), .inl (cI, 10, .inl (u 3))), ((q 4), .inr (2, [.ref (q 5), .ref (q 6)])), ((q 5), .inl (cI, 3, .inl (u 8))), ((q 6), .inl (cI, 3, .inl (u 9)))] := hw
    subst ex_3
    refine y_top (y := (nI ((h - n) % 32))) (y_and31 (by rw [hn]; exact pk_sub hnh) (by omega)) ?_
    refine y_iald S hw 2 (k := ((h - n) % 32)) rfl (by omega) (Nat.le_of_ble_eq_true rfl) dX1_errorOf_42 ?_
    refine lv_isub S.1 S.2.1 dX1_errorOf_43 ?_
    exact ret _ _ _ _ _ (by exact hw) (by unfold jErr; first | rw [if_pos c_1] | rw [if_neg (not_not_intro c_1)]) dX1_errorOf_44
  · skip
    refine lv_aload_n S.1 S.2.1 dX1_errorOf_16 rfl (lv_at hl 1 rfl) ?_
    refine y_get S hw (C := RX1) (T := TX1) (N := 9) i_X1_errorOf_X1 0 rfl rfl 7 (by decide) f_X1_errorOf_43 rfl dX1_errorOf_17 ?_
    refine lv_iload_n S.1 S.2.1 dX1_errorOf_20 rfl (lv_at hl 0 rfl) ?_
    refine y_iald S hw 4 (k := (h % 32)) rfl (by omega) (Nat.le_of_ble_eq_true rfl) dX1_errorOf_21 ?_
    refine lv_goto (tgt := 31) S.1 S.2.1 dX1_errorOf_22 (by decide) ?_
    refine lv_istore_n (lv' := [(3, .int ((u 15) (h % 32))), (2, .int (nI (h % 32))), (0, .ref (q 7)), (1, .int (nI h))]) S.1 S.2.1 dX1_errorOf_31 rfl hl (by decide) rfl (fun ls hl => ?_)
    refine lv_iload_n S.1 S.2.1 dX1_errorOf_32 rfl (lv_at hl 0 rfl) ?_
    refine lv_aload_n S.1 S.2.1 dX1_errorOf_33 rfl (lv_at hl 2 rfl) ?_
    refine y_get S hw (C := RX1) (T := TX1) (N := 9) i_X1_errorOf_X1 0 rfl rfl 5 (by decide) f_X1_errorOf_37 rfl dX1_errorOf_34 ?_
    refine lv_aload_n S.1 S.2.1 dX1_errorOf_37 rfl (lv_at hl 2 rfl) ?_
    refine lv_iload_n S.1 S.2.1 dX1_errorOf_38 rfl (lv_at hl 3 rfl) ?_
    refine y_callI (As := [.int (nI h)]) (rest := [.ref (q 9), .int ((u 15) (h % 32))]) S hw hl.1 (c_X1_sourceSlot l D cI cC cL q u (nI h)) (cwV 1 S.2.2.2.2 gX1_errorOf_X1_sourceSlot rfl rfl rfl (by decide +kernel) ⟨Nat.le_of_ble_eq_true rfl, Nat.le_of_ble_eq_true rfl⟩) 0 rfl rfl [0, 1, 2, 3, 4, 5, 6, 7, 8, 9, 10, 11, 12] [] rfl (by decide +kernel) (wr := []) rfl (by decide +kernel) (by decide +kernel) rfl (Nat.le_of_ble_eq_true rfl) dX1_errorOf_39 rfl ⟨Nat.le_refl _, Nat.le_refl _⟩ (fun H locs v_4 x_5 ev_4 ex_5 hw => ?_)
    have hw : y_W D cI cC cL A s H locs [((q 7), .inr (1, [.ref (q 0), .ref (q 4), .ref (q 8), .int (u 11 0), .int (u 12 0), .ref (q 9), .ref (q 10), .ref (q 11), .ref (q 12)])), ((q 8), .inl (cI, 5, .inl (u 10))), ((q 9), .inl (cI, 32, .inl (u 13))), ((q 10), .inl (cI, 32, .inl (u 14))), ((q 11), .inl (cI, 32, .inl (u 15))), ((q 12), .inl (cI, 32, .inl (u 16))), ((q 0), .inr (3, [.int (u 0 0), .ref (q 1), .ref (q 2), .ref (q 3), .int (u 4 0), .int (u 5 0), .int (u 6 0), .int (u 7 0)])), ((q 1), .inl (cI, 10, .inl (u 1))), ((q 2), .inl (cI, 10, .inl (u 2))), ((q 3), .inl (cI, 10, .inl (u 3))), ((q 4), .inr (2, [.ref (q 5), .ref (q 6)])), ((q 5), .inl (cI, 3, .inl (u 8))), ((q 6), .inl (cI, 3, .inl (u 9)))] := hw
    subst ex_5
    refine y_top (y := (nI ((h - n) % 32))) (y_and31 (by rw [hn]; exact pk_sub hnh) (by omega)) ?_
    refine y_iald S hw 2 (k := ((h - n) % 32)) rfl (by omega) (Nat.le_of_ble_eq_true rfl) dX1_errorOf_42 ?_
    refine lv_isub S.1 S.2.1 dX1_errorOf_43 ?_
    exact ret _ _ _ _ _ (by exact hw) (by unfold jErr; first | rw [if_pos c_1] | rw [if_neg (not_not_intro c_1)]) dX1_errorOf_44

theorem i_X1_learnFrom_X1 : ∀ w ∈ u_ws RX1 TX1 9, w ∈ wsX1_learnFrom := by decide +kernel
theorem f_X1_learnFrom_40 : Cond.fieldLink RX1 40 "ChargeLines$Line" "referencesOfSamples" "[I" ∈ wsX1_learnFrom := by decide +kernel
theorem f_X1_learnFrom_21 : Cond.fieldLink RX1 21 "ChargeLines$Line" "pairs" "LChargeLines$Pairs;" ∈ wsX1_learnFrom := by decide +kernel
theorem f_X1_learnFrom_37 : Cond.fieldLink RX1 37 "ChargeLines$Line" "samples" "[I" ∈ wsX1_learnFrom := by decide +kernel
set_option maxHeartbeats 4000000 in
set_option maxRecDepth 100000 in
/-- Line.learnFrom -/
theorem c_X1_learnFrom (l : Launch) (D : va_G) (cI cC cL : ClassId) (q : Nat → Nat) (u : U) (o : Int32) (k : Nat) (hk : u 14 k = -1 ∨ ∃ j, j < 3 ∧ u 14 k = nI j) (hk2 : k < 32) : y_MV l yX1_learnFrom wsX1_learnFrom 1 23 D cI cC cL [.ref (q 7), .int o, .int (nI k)] (cLn cI q u) (fun v : U => cLn cI q v) (jLf u o k) := by
  refine y_startV (cc := cX1_learnFrom) (maxL := 4) (by decide) rfl (Nat.le_of_ble_eq_true rfl) ?_
  intro p e s mm args below meth c A QQ ls S hw ret hl
  have S : CallFix p mm c cX1_learnFrom 4 s args wsX1_learnFrom RX1 := S
  have hw : y_W D cI cC cL A s s.heap [] [((q 7), .inr (1, [.ref (q 0), .ref (q 4), .ref (q 8), .int (u 11 0), .int (u 12 0), .ref (q 9), .ref (q 10), .ref (q 11), .ref (q 12)])), ((q 8), .inl (cI, 5, .inl (u 10))), ((q 9), .inl (cI, 32, .inl (u 13))), ((q 10), .inl (cI, 32, .inl (u 14))), ((q 11), .inl (cI, 32, .inl (u 15))), ((q 12), .inl (cI, 32, .inl (u 16))), ((q 0), .inr (3, [.int (u 0 0), .ref (q 1), .ref (q 2), .ref (q 3), .int (u 4 0), .int (u 5 0), .int (u 6 0), .int (u 7 0)])), ((q 1), .inl (cI, 10, .inl (u 1))), ((q 2), .inl (cI, 10, .inl (u 2))), ((q 3), .inl (cI, 10, .inl (u 3))), ((q 4), .inr (2, [.ref (q 5), .ref (q 6)])), ((q 5), .inl (cI, 3, .inl (u 8))), ((q 6), .inl (cI, 3, .inl (u 9)))] := hw
  have hl : lv_has ls 4 [(0, .ref (q 7)), (1, .int o), (2, .int (nI k))] := hl
  refine lv_aload_n S.1 S.2.1 dX1_learnFrom_0 rfl (lv_at hl 0 rfl) ?_
  refine y_get S hw (C := RX1) (T := TX1) (N := 9) i_X1_learnFrom_X1 0 rfl rfl 6 (by decide) f_X1_learnFrom_40 rfl dX1_learnFrom_1 ?_
  refine lv_iload_n S.1 S.2.1 dX1_learnFrom_4 rfl (lv_at hl 2 rfl) ?_
  refine y_iald S hw 3 (k := k) rfl (by omega) (Nat.le_of_ble_eq_true rfl) dX1_learnFrom_5 ?_
  refine lv_istore_n (lv' := [(3, .int ((u 14) k)), (0, .ref (q 7)), (1, .int o), (2, .int (nI k))]) S.1 S.2.1 dX1_learnFrom_6 rfl hl (by decide) rfl (fun ls hl => ?_)
  refine lv_iload_n S.1 S.2.1 dX1_learnFrom_7 rfl (lv_at hl 0 rfl) ?_
  refine lv_iconst (v := (-1)) S.1 S.2.1 dX1_learnFrom_8 (by decide) ?_
  refine lv_icmp_eq (tgt := 27) S.1 S.2.1 dX1_learnFrom_9 (by decide) (fun c_1 => ?_) (fun c_1 => ?_)
  · skip
    exact ret _ _ _ _ (by rw [show jLf u o k = u from if_pos c_1]; exact hw) dX1_learnFrom_27
  · skip
    obtain ⟨j, hj, ej⟩ := hk.resolve_left c_1
    refine lv_aload_n S.1 S.2.1 dX1_learnFrom_12 rfl (lv_at hl 1 rfl) ?_
    refine y_get S hw (C := RX1) (T := TX1) (N := 9) i_X1_learnFrom_X1 0 rfl rfl 1 (by decide) f_X1_learnFrom_21 rfl dX1_learnFrom_13 ?_
    refine lv_iload_n S.1 S.2.1 dX1_learnFrom_16 rfl (lv_at hl 0 rfl) ?_
    refine y_top (y := (nI j)) (ej) ?_
    refine lv_iload_n S.1 S.2.1 dX1_learnFrom_17 rfl (lv_at hl 2 rfl) ?_
    refine lv_aload_n S.1 S.2.1 dX1_learnFrom_18 rfl (lv_at hl 1 rfl) ?_
    refine y_get S hw (C := RX1) (T := TX1) (N := 9) i_X1_learnFrom_X1 0 rfl rfl 5 (by decide) f_X1_learnFrom_37 rfl dX1_learnFrom_19 ?_
    refine lv_iload_n S.1 S.2.1 dX1_learnFrom_22 rfl (lv_at hl 3 rfl) ?_
    refine y_iald S hw 2 (k := k) rfl (by omega) (Nat.le_of_ble_eq_true rfl) dX1_learnFrom_23 ?_
    refine y_callV (As := [.int (nI j), .int o, .int ((u 13) k)]) (rest := []) S hw hl.1 (c_X2_learn l D cI cC cL q u j o ((u 13) k) (by omega)) (cwV 3 S.2.2.2.2 gX1_learnFrom_X2_learn rfl rfl rfl (by decide +kernel) ⟨Nat.le_of_ble_eq_true rfl, Nat.le_of_ble_eq_true rfl⟩) 10 rfl rfl [10, 11, 12] [0, 1, 2, 3, 4, 5, 6, 7, 8, 9] rfl (by decide +kernel) (wr := [((q 7), .inr (1, [.ref (q 0), .ref (q 4), .ref (q 8), .int (u 11 0), .int (u 12 0), .ref (q 9), .ref (q 10), .ref (q 11), .ref (q 12)])), ((q 8), .inl (cI, 5, .inl (u 10))), ((q 9), .inl (cI, 32, .inl (u 13))), ((q 10), .inl (cI, 32, .inl (u 14))), ((q 11), .inl (cI, 32, .inl (u 15))), ((q 12), .inl (cI, 32, .inl (u 16))), ((q 0), .inr (3, [.int (u 0 0), .ref (q 1), .ref (q 2), .ref (q 3), .int (u 4 0), .int (u 5 0), .int (u 6 0), .int (u 7 0)])), ((q 1), .inl (cI, 10, .inl (u 1))), ((q 2), .inl (cI, 10, .inl (u 2))), ((q 3), .inl (cI, 10, .inl (u 3)))]) rfl (by decide +kernel) (by decide +kernel) rfl (Nat.le_of_ble_eq_true rfl) dX1_learnFrom_24 rfl ⟨Nat.le_refl _, Nat.le_refl _⟩ (fun H locs v_2 ev_2 hw => ?_)
    have hw : y_W D cI cC cL A s H locs [((q 7), .inr (1, [.ref (q 0), .ref (q 4), .ref (q 8), .int (u 11 0), .int (u 12 0), .ref (q 9), .ref (q 10), .ref (q 11), .ref (q 12)])), ((q 8), .inl (cI, 5, .inl (u 10))), ((q 9), .inl (cI, 32, .inl (u 13))), ((q 10), .inl (cI, 32, .inl (u 14))), ((q 11), .inl (cI, 32, .inl (u 15))), ((q 12), .inl (cI, 32, .inl (u 16))), ((q 0), .inr (3, [.int (u 0 0), .ref (q 1), .ref (q 2), .ref (q 3), .int (u 4 0), .int (u 5 0), .int (u 6 0), .int (u 7 0)])), ((q 1), .inl (cI, 10, .inl (u 1))), ((q 2), .inl (cI, 10, .inl (u 2))), ((q 3), .inl (cI, 10, .inl (u 3))), ((q 4), .inr (2, [.ref (q 5), .ref (q 6)])), ((q 5), .inl (cI, 3, .inl (v_2 8))), ((q 6), .inl (cI, 3, .inl (v_2 9)))] := hw
    exact ret _ _ _ _ (by rw [show jLf u o k = prMix (jLearn u j o (u 13 k)) u from by rw [jLf_mix _ _ _ c_1, ej, nI_clamp (by omega)]]; subst ev_2; exact hw) dX1_learnFrom_27

theorem i_X1_handOver_X1 : ∀ w ∈ u_ws RX1 TX1 9, w ∈ wsX1_handOver := by decide +kernel
theorem f_X1_handOver_12 : Cond.fieldLink RX1 12 "ChargeLines$Line" "stages" "LChargeLines$Stages;" ∈ wsX1_handOver := by decide +kernel
theorem f_X1_handOver_34 : Cond.fieldLink RX1 34 "ChargeLines$Line" "settings" "[I" ∈ wsX1_handOver := by decide +kernel
theorem f_X1_handOver_62 : Cond.fieldLink RX1 62 "ChargeLines$Line" "handOvers" "I" ∈ wsX1_handOver := by decide +kernel
theorem f_X1_handOver_37 : Cond.fieldLink RX1 37 "ChargeLines$Line" "samples" "[I" ∈ wsX1_handOver := by decide +kernel
theorem f_X1_handOver_40 : Cond.fieldLink RX1 40 "ChargeLines$Line" "referencesOfSamples" "[I" ∈ wsX1_handOver := by decide +kernel
theorem f_X1_handOver_43 : Cond.fieldLink RX1 43 "ChargeLines$Line" "outputs" "[I" ∈ wsX1_handOver := by decide +kernel
theorem i_X1_handOver_X3 : ∀ w ∈ u_ws RX3 TX3 8, w ∈ wsX1_handOver := by decide +kernel
theorem f_X1_handOver_94 : Cond.fieldLink RX1 94 "ChargeLines$Stages" "many" "I" ∈ wsX1_handOver := by decide +kernel
theorem f_X1_handOver_46 : Cond.fieldLink RX1 46 "ChargeLines$Line" "mendedOutputs" "[I" ∈ wsX1_handOver := by decide +kernel
theorem f_X1_handOver_21 : Cond.fieldLink RX1 21 "ChargeLines$Line" "pairs" "LChargeLines$Pairs;" ∈ wsX1_handOver := by decide +kernel
set_option maxHeartbeats 4000000 in
set_option maxRecDepth 100000 in
/-- Line.handOver -/
theorem c_X1_handOver (l : Launch) (D : va_G) (cI cC cL : ClassId) (q : Nat → Nat) (u : U) (x ref : Int32) (n h : Nat) (hn : u 0 0 = nI n) (h10 : n ≤ 10) (hh : u 11 0 = nI h) (hh2 : h ≤ 100000) (hok : okR u) (hr : okr ref) : y_MV l yX1_handOver wsX1_handOver 3 72 D cI cC cL [.ref (q 7), .int x, .int ref] (cLn cI q u) (fun v : U => cLn cI q v) (jLH u x ref n h) := by
  refine y_startV (cc := cX1_handOver) (maxL := 5) (by decide) rfl (Nat.le_of_ble_eq_true rfl) ?_
  intro p e s mm args below meth c A QQ ls S hw ret hl
  have S : CallFix p mm c cX1_handOver 5 s args wsX1_handOver RX1 := S
  have hw : y_W D cI cC cL A s s.heap [] [((q 7), .inr (1, [.ref (q 0), .ref (q 4), .ref (q 8), .int (u 11 0), .int (u 12 0), .ref (q 9), .ref (q 10), .ref (q 11), .ref (q 12)])), ((q 8), .inl (cI, 5, .inl (u 10))), ((q 9), .inl (cI, 32, .inl (u 13))), ((q 10), .inl (cI, 32, .inl (u 14))), ((q 11), .inl (cI, 32, .inl (u 15))), ((q 12), .inl (cI, 32, .inl (u 16))), ((q 0), .inr (3, [.int (u 0 0), .ref (q 1), .ref (q 2), .ref (q 3), .int (u 4 0), .int (u 5 0), .int (u 6 0), .int (u 7 0)])), ((q 1), .inl (cI, 10, .inl (u 1))), ((q 2), .inl (cI, 10, .inl (u 2))), ((q 3), .inl (cI, 10, .inl (u 3))), ((q 4), .inr (2, [.ref (q 5), .ref (q 6)])), ((q 5), .inl (cI, 3, .inl (u 8))), ((q 6), .inl (cI, 3, .inl (u 9)))] := hw
  have hl : lv_has ls 5 [(0, .ref (q 7)), (1, .int x), (2, .int ref)] := hl
  refine lv_aload_n S.1 S.2.1 dX1_handOver_0 rfl (lv_at hl 0 rfl) ?_
  refine y_get S hw (C := RX1) (T := TX1) (N := 9) i_X1_handOver_X1 0 rfl rfl 0 (by decide) f_X1_handOver_12 rfl dX1_handOver_1 ?_
  refine lv_iload_n S.1 S.2.1 dX1_handOver_4 rfl (lv_at hl 1 rfl) ?_
  refine lv_aload_n S.1 S.2.1 dX1_handOver_5 rfl (lv_at hl 0 rfl) ?_
  refine y_get S hw (C := RX1) (T := TX1) (N := 9) i_X1_handOver_X1 0 rfl rfl 2 (by decide) f_X1_handOver_34 rfl dX1_handOver_6 ?_
  refine lv_iconst (v := 0) S.1 S.2.1 dX1_handOver_9 (by decide) ?_
  refine y_iald S hw 1 (k := 0) rfl (by omega) (Nat.le_of_ble_eq_true rfl) dX1_handOver_10 ?_
  refine y_callI (As := [.int x, .int ((u 10) 0)]) (rest := []) S hw hl.1 (c_X3_handOver l D cI cC cL q u x ((u 10) 0) n hn (by omega)) (cwV 2 S.2.2.2.2 gX1_handOver_X3_handOver rfl rfl rfl (by decide +kernel) ⟨Nat.le_of_ble_eq_true rfl, Nat.le_of_ble_eq_true rfl⟩) 6 rfl rfl [6, 7, 8, 9] [0, 1, 2, 3, 4, 5, 10, 11, 12] rfl (by decide +kernel) (wr := [((q 7), .inr (1, [.ref (q 0), .ref (q 4), .ref (q 8), .int (u 11 0), .int (u 12 0), .ref (q 9), .ref (q 10), .ref (q 11), .ref (q 12)])), ((q 8), .inl (cI, 5, .inl (u 10))), ((q 9), .inl (cI, 32, .inl (u 13))), ((q 10), .inl (cI, 32, .inl (u 14))), ((q 11), .inl (cI, 32, .inl (u 15))), ((q 12), .inl (cI, 32, .inl (u 16))), ((q 4), .inr (2, [.ref (q 5), .ref (q 6)])), ((q 5), .inl (cI, 3, .inl (u 8))), ((q 6), .inl (cI, 3, .inl (u 9)))]) rfl (by decide +kernel) (by decide +kernel) rfl (Nat.le_of_ble_eq_true rfl) dX1_handOver_11 rfl ⟨Nat.le_refl _, Nat.le_refl _⟩ (fun H locs v_1 x_2 ev_1 ex_2 hw => ?_)
  have hw : y_W D cI cC cL A s H locs [((q 7), .inr (1, [.ref (q 0), .ref (q 4), .ref (q 8), .int (u 11 0), .int (u 12 0), .ref (q 9), .ref (q 10), .ref (q 11), .ref (q 12)])), ((q 8), .inl (cI, 5, .inl (u 10))), ((q 9), .inl (cI, 32, .inl (u 13))), ((q 10), .inl (cI, 32, .inl (u 14))), ((q 11), .inl (cI, 32, .inl (u 15))), ((q 12), .inl (cI, 32, .inl (u 16))), ((q 4), .inr (2, [.ref (q 5), .ref (q 6)])), ((q 5), .inl (cI, 3, .inl (u 8))), ((q 6), .inl (cI, 3, .inl (u 9))), ((q 0), .inr (3, [.int (v_1 0 0), .ref (q 1), .ref (q 2), .ref (q 3), .int (v_1 4 0), .int (v_1 5 0), .int (v_1 6 0), .int (v_1 7 0)])), ((q 1), .inl (cI, 10, .inl (v_1 1))), ((q 2), .inl (cI, 10, .inl (v_1 2))), ((q 3), .inl (cI, 10, .inl (v_1 3)))] := hw
  subst ex_2
  refine lv_istore_n (lv' := [(3, .int ((jHO x ((u 10) 0) u n).2)), (0, .ref (q 7)), (1, .int x), (2, .int ref)]) S.1 S.2.1 dX1_handOver_14 rfl hl (by decide) rfl (fun ls hl => ?_)
  refine lv_aload_n S.1 S.2.1 dX1_handOver_15 rfl (lv_at hl 1 rfl) ?_
  refine y_get S hw (C := RX1) (T := TX1) (N := 9) i_X1_handOver_X1 0 rfl rfl 3 (by decide) f_X1_handOver_62 rfl dX1_handOver_16 ?_
  refine y_top (y := (nI h)) (hh) ?_
  refine lv_bipush (v := 31) S.1 S.2.1 dX1_handOver_19 (by decide) ?_
  refine lv_iand S.1 S.2.1 dX1_handOver_21 ?_
  refine y_top (y := (nI (h % 32))) (y_and31 rfl (by omega)) ?_
  refine lv_istore (lv' := [(4, .int (nI (h % 32))), (3, .int ((jHO x ((u 10) 0) u n).2)), (0, .ref (q 7)), (1, .int x), (2, .int ref)]) S.1 S.2.1 dX1_handOver_22 hl (by decide) rfl (fun ls hl => ?_)
  refine lv_aload_n S.1 S.2.1 dX1_handOver_24 rfl (lv_at hl 2 rfl) ?_
  refine y_get S hw (C := RX1) (T := TX1) (N := 9) i_X1_handOver_X1 0 rfl rfl 5 (by decide) f_X1_handOver_37 rfl dX1_handOver_25 ?_
  refine lv_iload S.1 S.2.1 dX1_handOver_28 (lv_at hl 0 rfl) ?_
  refine lv_iload_n S.1 S.2.1 dX1_handOver_30 rfl (lv_at hl 3 rfl) ?_
  refine y_iast S hw 2 (k := (h % 32)) rfl (by omega) (Nat.le_of_ble_eq_true rfl) dX1_handOver_31 (ws' := [((q 7), .inr (1, [.ref (q 0), .ref (q 4), .ref (q 8), .int (u 11 0), .int (u 12 0), .ref (q 9), .ref (q 10), .ref (q 11), .ref (q 12)])), ((q 8), .inl (cI, 5, .inl (u 10))), ((q 9), .inl (cI, 32, .inl (upd (u 13) (h % 32) x))), ((q 10), .inl (cI, 32, .inl (u 14))), ((q 11), .inl (cI, 32, .inl (u 15))), ((q 12), .inl (cI, 32, .inl (u 16))), ((q 4), .inr (2, [.ref (q 5), .ref (q 6)])), ((q 5), .inl (cI, 3, .inl (u 8))), ((q 6), .inl (cI, 3, .inl (u 9))), ((q 0), .inr (3, [.int (v_1 0 0), .ref (q 1), .ref (q 2), .ref (q 3), .int (v_1 4 0), .int (v_1 5 0), .int (v_1 6 0), .int (v_1 7 0)])), ((q 1), .inl (cI, 10, .inl (v_1 1))), ((q 2), .inl (cI, 10, .inl (v_1 2))), ((q 3), .inl (cI, 10, .inl (v_1 3)))]) rfl (fun H locs hw => ?_)
  refine lv_aload_n S.1 S.2.1 dX1_handOver_32 rfl (lv_at hl 2 rfl) ?_
  refine y_get S hw (C := RX1) (T := TX1) (N := 9) i_X1_handOver_X1 0 rfl rfl 6 (by decide) f_X1_handOver_40 rfl dX1_handOver_33 ?_
  refine lv_iload S.1 S.2.1 dX1_handOver_36 (lv_at hl 0 rfl) ?_
  refine lv_iload_n S.1 S.2.1 dX1_handOver_38 rfl (lv_at hl 4 rfl) ?_
  refine y_iast S hw 3 (k := (h % 32)) rfl (by omega) (Nat.le_of_ble_eq_true rfl) dX1_handOver_39 (ws' := [((q 7), .inr (1, [.ref (q 0), .ref (q 4), .ref (q 8), .int (u 11 0), .int (u 12 0), .ref (q 9), .ref (q 10), .ref (q 11), .ref (q 12)])), ((q 8), .inl (cI, 5, .inl (u 10))), ((q 9), .inl (cI, 32, .inl (upd (u 13) (h % 32) x))), ((q 10), .inl (cI, 32, .inl (upd (u 14) (h % 32) ref))), ((q 11), .inl (cI, 32, .inl (u 15))), ((q 12), .inl (cI, 32, .inl (u 16))), ((q 4), .inr (2, [.ref (q 5), .ref (q 6)])), ((q 5), .inl (cI, 3, .inl (u 8))), ((q 6), .inl (cI, 3, .inl (u 9))), ((q 0), .inr (3, [.int (v_1 0 0), .ref (q 1), .ref (q 2), .ref (q 3), .int (v_1 4 0), .int (v_1 5 0), .int (v_1 6 0), .int (v_1 7 0)])), ((q 1), .inl (cI, 10, .inl (v_1 1))), ((q 2), .inl (cI, 10, .inl (v_1 2))), ((q 3), .inl (cI, 10, .inl (v_1 3)))]) rfl (fun H locs hw => ?_)
  refine lv_aload_n S.1 S.2.1 dX1_handOver_40 rfl (lv_at hl 2 rfl) ?_
  refine y_get S hw (C := RX1) (T := TX1) (N := 9) i_X1_handOver_X1 0 rfl rfl 7 (by decide) f_X1_handOver_43 rfl dX1_handOver_41 ?_
  refine lv_iload S.1 S.2.1 dX1_handOver_44 (lv_at hl 0 rfl) ?_
  refine lv_iload_n S.1 S.2.1 dX1_handOver_46 rfl (lv_at hl 1 rfl) ?_
  refine y_iast S hw 4 (k := (h % 32)) rfl (by omega) (Nat.le_of_ble_eq_true rfl) dX1_handOver_47 (ws' := [((q 7), .inr (1, [.ref (q 0), .ref (q 4), .ref (q 8), .int (u 11 0), .int (u 12 0), .ref (q 9), .ref (q 10), .ref (q 11), .ref (q 12)])), ((q 8), .inl (cI, 5, .inl (u 10))), ((q 9), .inl (cI, 32, .inl (upd (u 13) (h % 32) x))), ((q 10), .inl (cI, 32, .inl (upd (u 14) (h % 32) ref))), ((q 11), .inl (cI, 32, .inl (upd (u 15) (h % 32) ((jHO x ((u 10) 0) u n).2)))), ((q 12), .inl (cI, 32, .inl (u 16))), ((q 4), .inr (2, [.ref (q 5), .ref (q 6)])), ((q 5), .inl (cI, 3, .inl (u 8))), ((q 6), .inl (cI, 3, .inl (u 9))), ((q 0), .inr (3, [.int (v_1 0 0), .ref (q 1), .ref (q 2), .ref (q 3), .int (v_1 4 0), .int (v_1 5 0), .int (v_1 6 0), .int (v_1 7 0)])), ((q 1), .inl (cI, 10, .inl (v_1 1))), ((q 2), .inl (cI, 10, .inl (v_1 2))), ((q 3), .inl (cI, 10, .inl (v_1 3)))]) rfl (fun H locs hw => ?_)
  refine lv_aload_n S.1 S.2.1 dX1_handOver_48 rfl (lv_at hl 2 rfl) ?_
  refine y_get S hw (C := RX1) (T := TX1) (N := 9) i_X1_handOver_X1 0 rfl rfl 3 (by decide) f_X1_handOver_62 rfl dX1_handOver_49 ?_
  refine y_top (y := (nI h)) (hh) ?_
  refine lv_aload_n S.1 S.2.1 dX1_handOver_52 rfl (lv_at hl 2 rfl) ?_
  refine y_get S hw (C := RX1) (T := TX1) (N := 9) i_X1_handOver_X1 0 rfl rfl 0 (by decide) f_X1_handOver_12 rfl dX1_handOver_53 ?_
  refine y_get S hw (C := RX3) (T := TX3) (N := 8) i_X1_handOver_X3 9 rfl rfl 0 (by decide) f_X1_handOver_94 rfl dX1_handOver_56 ?_
  refine y_top (y := (nI n)) (by rw [ev_1]; exact jHO_n hn) ?_
  refine lv_icmp_lt (tgt := 90) S.1 S.2.1 dX1_handOver_59 (by decide) (fun c_3 => ?_) (fun c_3 => ?_)
  · skip
    have c_3N : h < n := (nI_ltI (a := h) (b := n) (by omega) (by omega)).mp c_3
    refine lv_aload_n S.1 S.2.1 dX1_handOver_90 rfl (lv_at hl 2 rfl) ?_
    refine lv_dup S.1 S.2.1 dX1_handOver_91 rfl ?_
    refine y_get S hw (C := RX1) (T := TX1) (N := 9) i_X1_handOver_X1 0 rfl rfl 3 (by decide) f_X1_handOver_62 rfl dX1_handOver_92 ?_
    refine y_top (y := (nI h)) (hh) ?_
    refine lv_iconst (v := 1) S.1 S.2.1 dX1_handOver_95 (by decide) ?_
    refine y_iaddN S h 1 dX1_handOver_96 ?_
    refine y_put S hw (C := RX1) (T := TX1) (N := 9) i_X1_handOver_X1 tyX1_ok nmX1 0 rfl rfl 3 (by decide) f_X1_handOver_62 (by decide +kernel) rfl rfl (Nat.le_of_ble_eq_true rfl) dX1_handOver_97 (ws' := [((q 7), .inr (1, [.ref (q 0), .ref (q 4), .ref (q 8), .int (nI (h + 1)), .int (u 12 0), .ref (q 9), .ref (q 10), .ref (q 11), .ref (q 12)])), ((q 8), .inl (cI, 5, .inl (u 10))), ((q 9), .inl (cI, 32, .inl (upd (u 13) (h % 32) x))), ((q 10), .inl (cI, 32, .inl (upd (u 14) (h % 32) ref))), ((q 11), .inl (cI, 32, .inl (upd (u 15) (h % 32) ((jHO x ((u 10) 0) u n).2)))), ((q 12), .inl (cI, 32, .inl (u 16))), ((q 4), .inr (2, [.ref (q 5), .ref (q 6)])), ((q 5), .inl (cI, 3, .inl (u 8))), ((q 6), .inl (cI, 3, .inl (u 9))), ((q 0), .inr (3, [.int (v_1 0 0), .ref (q 1), .ref (q 2), .ref (q 3), .int (v_1 4 0), .int (v_1 5 0), .int (v_1 6 0), .int (v_1 7 0)])), ((q 1), .inl (cI, 10, .inl (v_1 1))), ((q 2), .inl (cI, 10, .inl (v_1 2))), ((q 3), .inl (cI, 10, .inl (v_1 3)))]) rfl (fun H locs hw => ?_)
    exact ret _ _ _ _ (by rw [show jLH u x ref n h = va_up (jA u x ref n h) 11 (fun _ => nI (h + 1)) from by rw [jLH, if_pos c_3N]]; subst ev_1; exact (hw.sub [0, 1, 2, 3, 4, 5, 9, 10, 11, 12, 6, 7, 8] (by decide +kernel) rfl)) dX1_handOver_100
  · skip
    have c_3N : ¬ h < n := fun z => c_3 ((nI_ltI (a := h) (b := n) (by omega) (by omega)).mpr z)
    refine lv_aload_n S.1 S.2.1 dX1_handOver_62 rfl (lv_at hl 2 rfl) ?_
    refine lv_iload_n S.1 S.2.1 dX1_handOver_63 rfl (lv_at hl 1 rfl) ?_
    refine lv_aload_n S.1 S.2.1 dX1_handOver_64 rfl (lv_at hl 2 rfl) ?_
    refine lv_aload_n S.1 S.2.1 dX1_handOver_65 rfl (lv_at hl 2 rfl) ?_
    refine y_get S hw (C := RX1) (T := TX1) (N := 9) i_X1_handOver_X1 0 rfl rfl 3 (by decide) f_X1_handOver_62 rfl dX1_handOver_66 ?_
    refine y_top (y := (nI h)) (hh) ?_
    refine y_callI (As := [.int (nI h)]) (rest := [.int ((jHO x ((u 10) 0) u n).2), .ref (q 7)]) S hw hl.1 (c_X1_sourceSlot l D cI cC cL q (va_up (va_up (va_up (stMix v_1 u) 13 (upd (u 13) (h % 32) x)) 14 (upd (u 14) (h % 32) ref)) 15 (upd (u 15) (h % 32) ((jHO x ((u 10) 0) u n).2))) (nI h)) (cwV 1 S.2.2.2.2 gX1_handOver_X1_sourceSlot rfl rfl rfl (by decide +kernel) ⟨Nat.le_of_ble_eq_true rfl, Nat.le_of_ble_eq_true rfl⟩) 0 rfl rfl [0, 1, 2, 3, 4, 5, 9, 10, 11, 12, 6, 7, 8] [] rfl (by decide +kernel) (wr := []) rfl (by decide +kernel) (by decide +kernel) rfl (Nat.le_of_ble_eq_true rfl) dX1_handOver_69 rfl ⟨Nat.le_refl _, Nat.le_refl _⟩ (fun H locs v_4 x_5 ev_4 ex_5 hw => ?_)
    have hw : y_W D cI cC cL A s H locs [((q 7), .inr (1, [.ref (q 0), .ref (q 4), .ref (q 8), .int (u 11 0), .int (u 12 0), .ref (q 9), .ref (q 10), .ref (q 11), .ref (q 12)])), ((q 8), .inl (cI, 5, .inl (u 10))), ((q 9), .inl (cI, 32, .inl (upd (u 13) (h % 32) x))), ((q 10), .inl (cI, 32, .inl (upd (u 14) (h % 32) ref))), ((q 11), .inl (cI, 32, .inl (upd (u 15) (h % 32) ((jHO x ((u 10) 0) u n).2)))), ((q 12), .inl (cI, 32, .inl (u 16))), ((q 0), .inr (3, [.int (v_1 0 0), .ref (q 1), .ref (q 2), .ref (q 3), .int (v_1 4 0), .int (v_1 5 0), .int (v_1 6 0), .int (v_1 7 0)])), ((q 1), .inl (cI, 10, .inl (v_1 1))), ((q 2), .inl (cI, 10, .inl (v_1 2))), ((q 3), .inl (cI, 10, .inl (v_1 3))), ((q 4), .inr (2, [.ref (q 5), .ref (q 6)])), ((q 5), .inl (cI, 3, .inl (u 8))), ((q 6), .inl (cI, 3, .inl (u 9)))] := hw
    subst ex_5
    refine y_top (y := (nI ((h - n) % 32))) (y_and31 (show nI h - v_1 0 0 = nI (h - n) from by rw [show v_1 0 0 = nI n from (by rw [ev_1]; exact jHO_n hn)]; exact pk_sub (by omega)) (by omega)) ?_
    refine y_callV (As := [.int ((jHO x ((u 10) 0) u n).2), .int (nI ((h - n) % 32))]) (rest := []) S hw hl.1 (c_X1_learnFrom l D cI cC cL q (va_up (va_up (va_up (stMix v_1 u) 13 (upd (u 13) (h % 32) x)) 14 (upd (u 14) (h % 32) ref)) 15 (upd (u 15) (h % 32) ((jHO x ((u 10) 0) u n).2))) ((jHO x ((u 10) 0) u n).2) ((h - n) % 32) (okR_upd hok hr (h % 32) ((h - n) % 32) (by omega)) (by omega)) (cwV 2 S.2.2.2.2 gX1_handOver_X1_learnFrom rfl rfl rfl (by decide +kernel) ⟨Nat.le_of_ble_eq_true rfl, Nat.le_of_ble_eq_true rfl⟩) 0 rfl rfl [0, 1, 2, 3, 4, 5, 6, 7, 8, 9, 10, 11, 12] [] rfl (by decide +kernel) (wr := []) rfl (by decide +kernel) (by decide +kernel) rfl (Nat.le_of_ble_eq_true rfl) dX1_handOver_72 rfl ⟨Nat.le_refl _, Nat.le_refl _⟩ (fun H locs v_6 ev_6 hw => ?_)
    have hw : y_W D cI cC cL A s H locs [((q 7), .inr (1, [.ref (q 0), .ref (q 4), .ref (q 8), .int (v_6 11 0), .int (v_6 12 0), .ref (q 9), .ref (q 10), .ref (q 11), .ref (q 12)])), ((q 8), .inl (cI, 5, .inl (v_6 10))), ((q 9), .inl (cI, 32, .inl (v_6 13))), ((q 10), .inl (cI, 32, .inl (v_6 14))), ((q 11), .inl (cI, 32, .inl (v_6 15))), ((q 12), .inl (cI, 32, .inl (v_6 16))), ((q 0), .inr (3, [.int (v_6 0 0), .ref (q 1), .ref (q 2), .ref (q 3), .int (v_6 4 0), .int (v_6 5 0), .int (v_6 6 0), .int (v_6 7 0)])), ((q 1), .inl (cI, 10, .inl (v_6 1))), ((q 2), .inl (cI, 10, .inl (v_6 2))), ((q 3), .inl (cI, 10, .inl (v_6 3))), ((q 4), .inr (2, [.ref (q 5), .ref (q 6)])), ((q 5), .inl (cI, 3, .inl (v_6 8))), ((q 6), .inl (cI, 3, .inl (v_6 9)))] := hw
    refine lv_aload_n S.1 S.2.1 dX1_handOver_75 rfl (lv_at hl 2 rfl) ?_
    refine y_get S hw (C := RX1) (T := TX1) (N := 9) i_X1_handOver_X1 0 rfl rfl 8 (by decide) f_X1_handOver_46 rfl dX1_handOver_76 ?_
    refine lv_iload S.1 S.2.1 dX1_handOver_79 (lv_at hl 0 rfl) ?_
    refine lv_aload_n S.1 S.2.1 dX1_handOver_81 rfl (lv_at hl 2 rfl) ?_
    refine y_get S hw (C := RX1) (T := TX1) (N := 9) i_X1_handOver_X1 0 rfl rfl 1 (by decide) f_X1_handOver_21 rfl dX1_handOver_82 ?_
    refine lv_iload_n S.1 S.2.1 dX1_handOver_85 rfl (lv_at hl 1 rfl) ?_
    refine y_callI (As := [.int ((jHO x ((u 10) 0) u n).2)]) (rest := [.int (nI (h % 32)), .ref (q 12)]) S hw hl.1 (c_X2_mend l D cI cC cL q v_6 ((jHO x ((u 10) 0) u n).2)) (cwV 1 S.2.2.2.2 gX1_handOver_X2_mend rfl rfl rfl (by decide +kernel) ⟨Nat.le_of_ble_eq_true rfl, Nat.le_of_ble_eq_true rfl⟩) 10 rfl rfl [10, 11, 12] [0, 1, 2, 3, 4, 5, 6, 7, 8, 9] rfl (by decide +kernel) (wr := [((q 7), .inr (1, [.ref (q 0), .ref (q 4), .ref (q 8), .int (v_6 11 0), .int (v_6 12 0), .ref (q 9), .ref (q 10), .ref (q 11), .ref (q 12)])), ((q 8), .inl (cI, 5, .inl (v_6 10))), ((q 9), .inl (cI, 32, .inl (v_6 13))), ((q 10), .inl (cI, 32, .inl (v_6 14))), ((q 11), .inl (cI, 32, .inl (v_6 15))), ((q 12), .inl (cI, 32, .inl (v_6 16))), ((q 0), .inr (3, [.int (v_6 0 0), .ref (q 1), .ref (q 2), .ref (q 3), .int (v_6 4 0), .int (v_6 5 0), .int (v_6 6 0), .int (v_6 7 0)])), ((q 1), .inl (cI, 10, .inl (v_6 1))), ((q 2), .inl (cI, 10, .inl (v_6 2))), ((q 3), .inl (cI, 10, .inl (v_6 3)))]) rfl (by decide +kernel) (by decide +kernel) rfl (Nat.le_of_ble_eq_true rfl) dX1_handOver_86 rfl ⟨Nat.le_refl _, Nat.le_refl _⟩ (fun H locs v_8 x_9 ev_8 ex_9 hw => ?_)
    have hw : y_W D cI cC cL A s H locs [((q 7), .inr (1, [.ref (q 0), .ref (q 4), .ref (q 8), .int (v_6 11 0), .int (v_6 12 0), .ref (q 9), .ref (q 10), .ref (q 11), .ref (q 12)])), ((q 8), .inl (cI, 5, .inl (v_6 10))), ((q 9), .inl (cI, 32, .inl (v_6 13))), ((q 10), .inl (cI, 32, .inl (v_6 14))), ((q 11), .inl (cI, 32, .inl (v_6 15))), ((q 12), .inl (cI, 32, .inl (v_6 16))), ((q 0), .inr (3, [.int (v_6 0 0), .ref (q 1), .ref (q 2), .ref (q 3), .int (v_6 4 0), .int (v_6 5 0), .int (v_6 6 0), .int (v_6 7 0)])), ((q 1), .inl (cI, 10, .inl (v_6 1))), ((q 2), .inl (cI, 10, .inl (v_6 2))), ((q 3), .inl (cI, 10, .inl (v_6 3))), ((q 4), .inr (2, [.ref (q 5), .ref (q 6)])), ((q 5), .inl (cI, 3, .inl (v_6 8))), ((q 6), .inl (cI, 3, .inl (v_6 9)))] := hw
    subst ex_9
    refine y_iast S hw 5 (k := (h % 32)) rfl (by omega) (Nat.le_of_ble_eq_true rfl) dX1_handOver_89 (ws' := [((q 7), .inr (1, [.ref (q 0), .ref (q 4), .ref (q 8), .int (v_6 11 0), .int (v_6 12 0), .ref (q 9), .ref (q 10), .ref (q 11), .ref (q 12)])), ((q 8), .inl (cI, 5, .inl (v_6 10))), ((q 9), .inl (cI, 32, .inl (v_6 13))), ((q 10), .inl (cI, 32, .inl (v_6 14))), ((q 11), .inl (cI, 32, .inl (v_6 15))), ((q 12), .inl (cI, 32, .inl (upd (v_6 16) (h % 32) (jMend v_6 ((jHO x ((u 10) 0) u n).2))))), ((q 0), .inr (3, [.int (v_6 0 0), .ref (q 1), .ref (q 2), .ref (q 3), .int (v_6 4 0), .int (v_6 5 0), .int (v_6 6 0), .int (v_6 7 0)])), ((q 1), .inl (cI, 10, .inl (v_6 1))), ((q 2), .inl (cI, 10, .inl (v_6 2))), ((q 3), .inl (cI, 10, .inl (v_6 3))), ((q 4), .inr (2, [.ref (q 5), .ref (q 6)])), ((q 5), .inl (cI, 3, .inl (v_6 8))), ((q 6), .inl (cI, 3, .inl (v_6 9)))]) rfl (fun H locs hw => ?_)
    refine lv_aload_n S.1 S.2.1 dX1_handOver_90 rfl (lv_at hl 2 rfl) ?_
    refine lv_dup S.1 S.2.1 dX1_handOver_91 rfl ?_
    refine y_get S hw (C := RX1) (T := TX1) (N := 9) i_X1_handOver_X1 0 rfl rfl 3 (by decide) f_X1_handOver_62 rfl dX1_handOver_92 ?_
    refine y_top (y := (nI h)) (by rw [ev_6, jLf_o _ _ _ 11 (by decide) (by decide)]; exact hh) ?_
    refine lv_iconst (v := 1) S.1 S.2.1 dX1_handOver_95 (by decide) ?_
    refine y_iaddN S h 1 dX1_handOver_96 ?_
    refine y_put S hw (C := RX1) (T := TX1) (N := 9) i_X1_handOver_X1 tyX1_ok nmX1 0 rfl rfl 3 (by decide) f_X1_handOver_62 (by decide +kernel) rfl rfl (Nat.le_of_ble_eq_true rfl) dX1_handOver_97 (ws' := [((q 7), .inr (1, [.ref (q 0), .ref (q 4), .ref (q 8), .int (nI (h + 1)), .int (v_6 12 0), .ref (q 9), .ref (q 10), .ref (q 11), .ref (q 12)])), ((q 8), .inl (cI, 5, .inl (v_6 10))), ((q 9), .inl (cI, 32, .inl (v_6 13))), ((q 10), .inl (cI, 32, .inl (v_6 14))), ((q 11), .inl (cI, 32, .inl (v_6 15))), ((q 12), .inl (cI, 32, .inl (upd (v_6 16) (h % 32) (jMend v_6 ((jHO x ((u 10) 0) u n).2))))), ((q 0), .inr (3, [.int (v_6 0 0), .ref (q 1), .ref (q 2), .ref (q 3), .int (v_6 4 0), .int (v_6 5 0), .int (v_6 6 0), .int (v_6 7 0)])), ((q 1), .inl (cI, 10, .inl (v_6 1))), ((q 2), .inl (cI, 10, .inl (v_6 2))), ((q 3), .inl (cI, 10, .inl (v_6 3))), ((q 4), .inr (2, [.ref (q 5), .ref (q 6)])), ((q 5), .inl (cI, 3, .inl (v_6 8))), ((q 6), .inl (cI, 3, .inl (v_6 9)))]) rfl (fun H locs hw => ?_)
    exact ret _ _ _ _ (by rw [show jLH u x ref n h = va_up (jBm (jA u x ref n h) (jHO x (u 10 0) u n).2 n h) 11 (fun _ => nI (h + 1)) from by rw [jLH, if_neg c_3N]]; subst ev_8; subst ev_6; subst ev_4; subst ev_1; exact hw) dX1_handOver_100

theorem i_X1_take_X1 : ∀ w ∈ u_ws RX1 TX1 9, w ∈ wsX1_take := by decide +kernel
theorem f_X1_take_62 : Cond.fieldLink RX1 62 "ChargeLines$Line" "handOvers" "I" ∈ wsX1_take := by decide +kernel
theorem f_X1_take_66 : Cond.fieldLink RX1 66 "ChargeLines$Line" "references" "I" ∈ wsX1_take := by decide +kernel
theorem f_X1_take_34 : Cond.fieldLink RX1 34 "ChargeLines$Line" "settings" "[I" ∈ wsX1_take := by decide +kernel
set_option maxHeartbeats 4000000 in
set_option maxRecDepth 100000 in
/-- Line.take -/
theorem c_X1_take (l : Launch) (D : va_G) (cI cC cL : ClassId) (q : Nat → Nat) (u : U) (x : Int32) (n h r : Nat) (hn : u 0 0 = nI n) (h10 : n ≤ 10) (hh : u 11 0 = nI h) (hh2 : h ≤ 50000) (hok : okR u) (hr : u 12 0 = nI r) (hr2 : r ≤ 50000) : y_MV l yX1_take wsX1_take 4 96 D cI cC cL [.ref (q 7), .int x] (cLn cI q u) (fun v : U => cLn cI q v) (jTk u x n h r) := by
  refine y_startV (cc := cX1_take) (maxL := 3) (by decide) rfl (Nat.le_of_ble_eq_true rfl) ?_
  intro p e s mm args below meth c A QQ ls S hw ret hl
  have S : CallFix p mm c cX1_take 3 s args wsX1_take RX1 := S
  have hw : y_W D cI cC cL A s s.heap [] [((q 7), .inr (1, [.ref (q 0), .ref (q 4), .ref (q 8), .int (u 11 0), .int (u 12 0), .ref (q 9), .ref (q 10), .ref (q 11), .ref (q 12)])), ((q 8), .inl (cI, 5, .inl (u 10))), ((q 9), .inl (cI, 32, .inl (u 13))), ((q 10), .inl (cI, 32, .inl (u 14))), ((q 11), .inl (cI, 32, .inl (u 15))), ((q 12), .inl (cI, 32, .inl (u 16))), ((q 0), .inr (3, [.int (u 0 0), .ref (q 1), .ref (q 2), .ref (q 3), .int (u 4 0), .int (u 5 0), .int (u 6 0), .int (u 7 0)])), ((q 1), .inl (cI, 10, .inl (u 1))), ((q 2), .inl (cI, 10, .inl (u 2))), ((q 3), .inl (cI, 10, .inl (u 3))), ((q 4), .inr (2, [.ref (q 5), .ref (q 6)])), ((q 5), .inl (cI, 3, .inl (u 8))), ((q 6), .inl (cI, 3, .inl (u 9)))] := hw
  have hl : lv_has ls 3 [(0, .ref (q 7)), (1, .int x)] := hl
  refine lv_aload_n S.1 S.2.1 dX1_take_0 rfl (lv_at hl 0 rfl) ?_
  refine lv_aload_n S.1 S.2.1 dX1_take_1 rfl (lv_at hl 0 rfl) ?_
  refine y_get S hw (C := RX1) (T := TX1) (N := 9) i_X1_take_X1 0 rfl rfl 3 (by decide) f_X1_take_62 rfl dX1_take_2 ?_
  refine y_callI (As := [.int (u 11 0)]) (rest := []) S hw hl.1 (c_X1_isForReference l D cI cC cL q u (u 11 0)) (cwV 1 S.2.2.2.2 gX1_take_X1_isForReference rfl rfl rfl (by decide +kernel) ⟨Nat.le_of_ble_eq_true rfl, Nat.le_of_ble_eq_true rfl⟩) 0 rfl rfl [0, 1, 2, 3, 4, 5, 6, 7, 8, 9, 10, 11, 12] [] rfl (by decide +kernel) (wr := []) rfl (by decide +kernel) (by decide +kernel) rfl (Nat.le_of_ble_eq_true rfl) dX1_take_5 rfl ⟨Nat.le_refl _, Nat.le_refl _⟩ (fun H locs v_1 x_2 ev_1 ex_2 hw => ?_)
  have hw : y_W D cI cC cL A s H locs [((q 7), .inr (1, [.ref (q 0), .ref (q 4), .ref (q 8), .int (u 11 0), .int (u 12 0), .ref (q 9), .ref (q 10), .ref (q 11), .ref (q 12)])), ((q 8), .inl (cI, 5, .inl (u 10))), ((q 9), .inl (cI, 32, .inl (u 13))), ((q 10), .inl (cI, 32, .inl (u 14))), ((q 11), .inl (cI, 32, .inl (u 15))), ((q 12), .inl (cI, 32, .inl (u 16))), ((q 0), .inr (3, [.int (u 0 0), .ref (q 1), .ref (q 2), .ref (q 3), .int (u 4 0), .int (u 5 0), .int (u 6 0), .int (u 7 0)])), ((q 1), .inl (cI, 10, .inl (u 1))), ((q 2), .inl (cI, 10, .inl (u 2))), ((q 3), .inl (cI, 10, .inl (u 3))), ((q 4), .inr (2, [.ref (q 5), .ref (q 6)])), ((q 5), .inl (cI, 3, .inl (u 8))), ((q 6), .inl (cI, 3, .inl (u 9)))] := hw
  subst ex_2
  refine lv_if_eq (tgt := 39) S.1 S.2.1 dX1_take_8 (by decide) (fun c_3 => ?_) (fun c_3 => ?_)
  · skip
    refine lv_aload_n S.1 S.2.1 dX1_take_39 rfl (lv_at hl 0 rfl) ?_
    refine lv_iload_n S.1 S.2.1 dX1_take_40 rfl (lv_at hl 1 rfl) ?_
    refine lv_iconst (v := (-1)) S.1 S.2.1 dX1_take_41 (by decide) ?_
    refine y_callV (As := [.int x, .int (-1)]) (rest := []) S hw hl.1 (c_X1_handOver l D cI cC cL q u x (-1) n h (hn) (by omega) (hh) (by omega) (hok) (Or.inl rfl)) (cwV 2 S.2.2.2.2 gX1_take_X1_handOver rfl rfl rfl (by decide +kernel) ⟨Nat.le_of_ble_eq_true rfl, Nat.le_of_ble_eq_true rfl⟩) 0 rfl rfl [0, 1, 2, 3, 4, 5, 6, 7, 8, 9, 10, 11, 12] [] rfl (by decide +kernel) (wr := []) rfl (by decide +kernel) (by decide +kernel) rfl (Nat.le_of_ble_eq_true rfl) dX1_take_42 rfl ⟨Nat.le_refl _, Nat.le_refl _⟩ (fun H locs v_4 ev_4 hw => ?_)
    have hw : y_W D cI cC cL A s H locs [((q 7), .inr (1, [.ref (q 0), .ref (q 4), .ref (q 8), .int (v_4 11 0), .int (v_4 12 0), .ref (q 9), .ref (q 10), .ref (q 11), .ref (q 12)])), ((q 8), .inl (cI, 5, .inl (v_4 10))), ((q 9), .inl (cI, 32, .inl (v_4 13))), ((q 10), .inl (cI, 32, .inl (v_4 14))), ((q 11), .inl (cI, 32, .inl (v_4 15))), ((q 12), .inl (cI, 32, .inl (v_4 16))), ((q 0), .inr (3, [.int (v_4 0 0), .ref (q 1), .ref (q 2), .ref (q 3), .int (v_4 4 0), .int (v_4 5 0), .int (v_4 6 0), .int (v_4 7 0)])), ((q 1), .inl (cI, 10, .inl (v_4 1))), ((q 2), .inl (cI, 10, .inl (v_4 2))), ((q 3), .inl (cI, 10, .inl (v_4 3))), ((q 4), .inr (2, [.ref (q 5), .ref (q 6)])), ((q 5), .inl (cI, 3, .inl (v_4 8))), ((q 6), .inl (cI, 3, .inl (v_4 9)))] := hw
    exact ret _ _ _ _ (by rw [show jTk u x n h r = jLH u x (-1) n h from by rw [jTk, if_pos c_3]]; subst ev_4; subst ev_1; exact hw) dX1_take_45
  · skip
    refine lv_aload_n S.1 S.2.1 dX1_take_11 rfl (lv_at hl 0 rfl) ?_
    refine y_callI (As := []) (rest := []) S hw hl.1 (c_X1_nextReference l D cI cC cL q u) (cwV 0 S.2.2.2.2 gX1_take_X1_nextReference rfl rfl rfl (by decide +kernel) ⟨Nat.le_of_ble_eq_true rfl, Nat.le_of_ble_eq_true rfl⟩) 0 rfl rfl [0, 1, 2, 3, 4, 5, 6, 7, 8, 9, 10, 11, 12] [] rfl (by decide +kernel) (wr := []) rfl (by decide +kernel) (by decide +kernel) rfl (Nat.le_of_ble_eq_true rfl) dX1_take_12 rfl ⟨Nat.le_refl _, Nat.le_refl _⟩ (fun H locs v_6 x_7 ev_6 ex_7 hw => ?_)
    have hw : y_W D cI cC cL A s H locs [((q 7), .inr (1, [.ref (q 0), .ref (q 4), .ref (q 8), .int (u 11 0), .int (u 12 0), .ref (q 9), .ref (q 10), .ref (q 11), .ref (q 12)])), ((q 8), .inl (cI, 5, .inl (u 10))), ((q 9), .inl (cI, 32, .inl (u 13))), ((q 10), .inl (cI, 32, .inl (u 14))), ((q 11), .inl (cI, 32, .inl (u 15))), ((q 12), .inl (cI, 32, .inl (u 16))), ((q 0), .inr (3, [.int (u 0 0), .ref (q 1), .ref (q 2), .ref (q 3), .int (u 4 0), .int (u 5 0), .int (u 6 0), .int (u 7 0)])), ((q 1), .inl (cI, 10, .inl (u 1))), ((q 2), .inl (cI, 10, .inl (u 2))), ((q 3), .inl (cI, 10, .inl (u 3))), ((q 4), .inr (2, [.ref (q 5), .ref (q 6)])), ((q 5), .inl (cI, 3, .inl (u 8))), ((q 6), .inl (cI, 3, .inl (u 9)))] := hw
    subst ex_7
    refine y_top (y := (nI (r % 3))) (jNx_n hr (by omega)) ?_
    refine lv_istore_n (lv' := [(2, .int (nI (r % 3))), (0, .ref (q 7)), (1, .int x)]) S.1 S.2.1 dX1_take_15 rfl hl (by decide) rfl (fun ls hl => ?_)
    refine lv_aload_n S.1 S.2.1 dX1_take_16 rfl (lv_at hl 1 rfl) ?_
    refine lv_dup S.1 S.2.1 dX1_take_17 rfl ?_
    refine y_get S hw (C := RX1) (T := TX1) (N := 9) i_X1_take_X1 0 rfl rfl 4 (by decide) f_X1_take_66 rfl dX1_take_18 ?_
    refine y_top (y := (nI r)) (hr) ?_
    refine lv_iconst (v := 1) S.1 S.2.1 dX1_take_21 (by decide) ?_
    refine y_iaddN S r 1 dX1_take_22 ?_
    refine y_put S hw (C := RX1) (T := TX1) (N := 9) i_X1_take_X1 tyX1_ok nmX1 0 rfl rfl 4 (by decide) f_X1_take_66 (by decide +kernel) rfl rfl (Nat.le_of_ble_eq_true rfl) dX1_take_23 (ws' := [((q 7), .inr (1, [.ref (q 0), .ref (q 4), .ref (q 8), .int (u 11 0), .int (nI (r + 1)), .ref (q 9), .ref (q 10), .ref (q 11), .ref (q 12)])), ((q 8), .inl (cI, 5, .inl (u 10))), ((q 9), .inl (cI, 32, .inl (u 13))), ((q 10), .inl (cI, 32, .inl (u 14))), ((q 11), .inl (cI, 32, .inl (u 15))), ((q 12), .inl (cI, 32, .inl (u 16))), ((q 0), .inr (3, [.int (u 0 0), .ref (q 1), .ref (q 2), .ref (q 3), .int (u 4 0), .int (u 5 0), .int (u 6 0), .int (u 7 0)])), ((q 1), .inl (cI, 10, .inl (u 1))), ((q 2), .inl (cI, 10, .inl (u 2))), ((q 3), .inl (cI, 10, .inl (u 3))), ((q 4), .inr (2, [.ref (q 5), .ref (q 6)])), ((q 5), .inl (cI, 3, .inl (u 8))), ((q 6), .inl (cI, 3, .inl (u 9)))]) rfl (fun H locs hw => ?_)
    refine lv_aload_n S.1 S.2.1 dX1_take_26 rfl (lv_at hl 1 rfl) ?_
    refine lv_aload_n S.1 S.2.1 dX1_take_27 rfl (lv_at hl 1 rfl) ?_
    refine y_get S hw (C := RX1) (T := TX1) (N := 9) i_X1_take_X1 0 rfl rfl 2 (by decide) f_X1_take_34 rfl dX1_take_28 ?_
    refine lv_iconst (v := 2) S.1 S.2.1 dX1_take_31 (by decide) ?_
    refine lv_iload_n S.1 S.2.1 dX1_take_32 rfl (lv_at hl 0 rfl) ?_
    refine y_iaddN S 2 (r % 3) dX1_take_33 ?_
    refine y_iald S hw 1 (k := (2 + (r % 3))) rfl (by omega) (Nat.le_of_ble_eq_true rfl) dX1_take_34 ?_
    refine lv_iload_n S.1 S.2.1 dX1_take_35 rfl (lv_at hl 0 rfl) ?_
    refine y_callV (As := [.int ((u 10) (2 + (r % 3))), .int (nI (r % 3))]) (rest := []) S hw hl.1 (c_X1_handOver l D cI cC cL q (va_up u 12 (fun _ => (nI (r + 1)))) ((u 10) (2 + (r % 3))) (nI (r % 3)) n h (hn) (by omega) (hh) (by omega) (show okR u from hok) (Or.inr ⟨r % 3, by omega, rfl⟩)) (cwV 2 S.2.2.2.2 gX1_take_X1_handOver rfl rfl rfl (by decide +kernel) ⟨Nat.le_of_ble_eq_true rfl, Nat.le_of_ble_eq_true rfl⟩) 0 rfl rfl [0, 1, 2, 3, 4, 5, 6, 7, 8, 9, 10, 11, 12] [] rfl (by decide +kernel) (wr := []) rfl (by decide +kernel) (by decide +kernel) rfl (Nat.le_of_ble_eq_true rfl) dX1_take_36 rfl ⟨Nat.le_refl _, Nat.le_refl _⟩ (fun H locs v_8 ev_8 hw => ?_)
    have hw : y_W D cI cC cL A s H locs [((q 7), .inr (1, [.ref (q 0), .ref (q 4), .ref (q 8), .int (v_8 11 0), .int (v_8 12 0), .ref (q 9), .ref (q 10), .ref (q 11), .ref (q 12)])), ((q 8), .inl (cI, 5, .inl (v_8 10))), ((q 9), .inl (cI, 32, .inl (v_8 13))), ((q 10), .inl (cI, 32, .inl (v_8 14))), ((q 11), .inl (cI, 32, .inl (v_8 15))), ((q 12), .inl (cI, 32, .inl (v_8 16))), ((q 0), .inr (3, [.int (v_8 0 0), .ref (q 1), .ref (q 2), .ref (q 3), .int (v_8 4 0), .int (v_8 5 0), .int (v_8 6 0), .int (v_8 7 0)])), ((q 1), .inl (cI, 10, .inl (v_8 1))), ((q 2), .inl (cI, 10, .inl (v_8 2))), ((q 3), .inl (cI, 10, .inl (v_8 3))), ((q 4), .inr (2, [.ref (q 5), .ref (q 6)])), ((q 5), .inl (cI, 3, .inl (v_8 8))), ((q 6), .inl (cI, 3, .inl (v_8 9)))] := hw
    refine lv_aload_n S.1 S.2.1 dX1_take_39 rfl (lv_at hl 1 rfl) ?_
    refine lv_iload_n S.1 S.2.1 dX1_take_40 rfl (lv_at hl 2 rfl) ?_
    refine lv_iconst (v := (-1)) S.1 S.2.1 dX1_take_41 (by decide) ?_
    refine y_callV (As := [.int x, .int (-1)]) (rest := []) S hw hl.1 (c_X1_handOver l D cI cC cL q v_8 x (-1) n (h + 1) (by rw [ev_8]; exact jLH_n hn) (by omega) (by rw [ev_8]; rfl) (by omega) (by rw [ev_8]; exact jLH_ok (show okR u from hok) (Or.inr ⟨r % 3, by omega, rfl⟩)) (Or.inl rfl)) (cwV 2 S.2.2.2.2 gX1_take_X1_handOver rfl rfl rfl (by decide +kernel) ⟨Nat.le_of_ble_eq_true rfl, Nat.le_of_ble_eq_true rfl⟩) 0 rfl rfl [0, 1, 2, 3, 4, 5, 6, 7, 8, 9, 10, 11, 12] [] rfl (by decide +kernel) (wr := []) rfl (by decide +kernel) (by decide +kernel) rfl (Nat.le_of_ble_eq_true rfl) dX1_take_42 rfl ⟨Nat.le_refl _, Nat.le_refl _⟩ (fun H locs v_10 ev_10 hw => ?_)
    have hw : y_W D cI cC cL A s H locs [((q 7), .inr (1, [.ref (q 0), .ref (q 4), .ref (q 8), .int (v_10 11 0), .int (v_10 12 0), .ref (q 9), .ref (q 10), .ref (q 11), .ref (q 12)])), ((q 8), .inl (cI, 5, .inl (v_10 10))), ((q 9), .inl (cI, 32, .inl (v_10 13))), ((q 10), .inl (cI, 32, .inl (v_10 14))), ((q 11), .inl (cI, 32, .inl (v_10 15))), ((q 12), .inl (cI, 32, .inl (v_10 16))), ((q 0), .inr (3, [.int (v_10 0 0), .ref (q 1), .ref (q 2), .ref (q 3), .int (v_10 4 0), .int (v_10 5 0), .int (v_10 6 0), .int (v_10 7 0)])), ((q 1), .inl (cI, 10, .inl (v_10 1))), ((q 2), .inl (cI, 10, .inl (v_10 2))), ((q 3), .inl (cI, 10, .inl (v_10 3))), ((q 4), .inr (2, [.ref (q 5), .ref (q 6)])), ((q 5), .inl (cI, 3, .inl (v_10 8))), ((q 6), .inl (cI, 3, .inl (v_10 9)))] := hw
    exact ret _ _ _ _ (by rw [show jTk u x n h r = jLH (jLH (va_up u 12 (fun _ => nI (r + 1))) (u 10 (2 + r % 3)) (nI (r % 3)) n h) x (-1) n (h + 1) from by rw [jTk, if_neg c_3]]; subst ev_10; subst ev_8; subst ev_6; subst ev_1; exact hw) dX1_take_45

theorem i_X1_startAnew_X1 : ∀ w ∈ u_ws RX1 TX1 9, w ∈ wsX1_startAnew := by decide +kernel
theorem f_X1_startAnew_12 : Cond.fieldLink RX1 12 "ChargeLines$Line" "stages" "LChargeLines$Stages;" ∈ wsX1_startAnew := by decide +kernel
theorem f_X1_startAnew_21 : Cond.fieldLink RX1 21 "ChargeLines$Line" "pairs" "LChargeLines$Pairs;" ∈ wsX1_startAnew := by decide +kernel
theorem f_X1_startAnew_62 : Cond.fieldLink RX1 62 "ChargeLines$Line" "handOvers" "I" ∈ wsX1_startAnew := by decide +kernel
theorem f_X1_startAnew_66 : Cond.fieldLink RX1 66 "ChargeLines$Line" "references" "I" ∈ wsX1_startAnew := by decide +kernel
set_option maxHeartbeats 4000000 in
set_option maxRecDepth 100000 in
/-- Line.startAnew -/
theorem c_X1_startAnew (l : Launch) (D : va_G) (cI cC cL : ClassId) (q : Nat → Nat) (u : U) (a : Nat) (ha : a ≤ 10) : y_MV l yX1_startAnew wsX1_startAnew 2 45 D cI cC cL [.ref (q 7), .int (nI a)] (cLn cI q u) (fun v : U => cLn cI q v) (jSA u a) := by
  refine y_startV (cc := cX1_startAnew) (maxL := 2) (by decide) rfl (Nat.le_of_ble_eq_true rfl) ?_
  intro p e s mm args below meth c A QQ ls S hw ret hl
  have S : CallFix p mm c cX1_startAnew 2 s args wsX1_startAnew RX1 := S
  have hw : y_W D cI cC cL A s s.heap [] [((q 7), .inr (1, [.ref (q 0), .ref (q 4), .ref (q 8), .int (u 11 0), .int (u 12 0), .ref (q 9), .ref (q 10), .ref (q 11), .ref (q 12)])), ((q 8), .inl (cI, 5, .inl (u 10))), ((q 9), .inl (cI, 32, .inl (u 13))), ((q 10), .inl (cI, 32, .inl (u 14))), ((q 11), .inl (cI, 32, .inl (u 15))), ((q 12), .inl (cI, 32, .inl (u 16))), ((q 0), .inr (3, [.int (u 0 0), .ref (q 1), .ref (q 2), .ref (q 3), .int (u 4 0), .int (u 5 0), .int (u 6 0), .int (u 7 0)])), ((q 1), .inl (cI, 10, .inl (u 1))), ((q 2), .inl (cI, 10, .inl (u 2))), ((q 3), .inl (cI, 10, .inl (u 3))), ((q 4), .inr (2, [.ref (q 5), .ref (q 6)])), ((q 5), .inl (cI, 3, .inl (u 8))), ((q 6), .inl (cI, 3, .inl (u 9)))] := hw
  have hl : lv_has ls 2 [(0, .ref (q 7)), (1, .int (nI a))] := hl
  refine lv_aload_n S.1 S.2.1 dX1_startAnew_0 rfl (lv_at hl 0 rfl) ?_
  refine y_get S hw (C := RX1) (T := TX1) (N := 9) i_X1_startAnew_X1 0 rfl rfl 0 (by decide) f_X1_startAnew_12 rfl dX1_startAnew_1 ?_
  refine lv_iload_n S.1 S.2.1 dX1_startAnew_4 rfl (lv_at hl 1 rfl) ?_
  refine y_callV (As := [.int (nI a)]) (rest := []) S hw hl.1 (c_X3_changeMany l D cI cC cL q u a (by omega)) (cwV 1 S.2.2.2.2 gX1_startAnew_X3_changeMany rfl rfl rfl (by decide +kernel) ⟨Nat.le_of_ble_eq_true rfl, Nat.le_of_ble_eq_true rfl⟩) 6 rfl rfl [6, 7, 8, 9] [0, 1, 2, 3, 4, 5, 10, 11, 12] rfl (by decide +kernel) (wr := [((q 7), .inr (1, [.ref (q 0), .ref (q 4), .ref (q 8), .int (u 11 0), .int (u 12 0), .ref (q 9), .ref (q 10), .ref (q 11), .ref (q 12)])), ((q 8), .inl (cI, 5, .inl (u 10))), ((q 9), .inl (cI, 32, .inl (u 13))), ((q 10), .inl (cI, 32, .inl (u 14))), ((q 11), .inl (cI, 32, .inl (u 15))), ((q 12), .inl (cI, 32, .inl (u 16))), ((q 4), .inr (2, [.ref (q 5), .ref (q 6)])), ((q 5), .inl (cI, 3, .inl (u 8))), ((q 6), .inl (cI, 3, .inl (u 9)))]) rfl (by decide +kernel) (by decide +kernel) rfl (Nat.le_of_ble_eq_true rfl) dX1_startAnew_5 rfl ⟨Nat.le_refl _, Nat.le_refl _⟩ (fun H locs v_1 ev_1 hw => ?_)
  have hw : y_W D cI cC cL A s H locs [((q 7), .inr (1, [.ref (q 0), .ref (q 4), .ref (q 8), .int (u 11 0), .int (u 12 0), .ref (q 9), .ref (q 10), .ref (q 11), .ref (q 12)])), ((q 8), .inl (cI, 5, .inl (u 10))), ((q 9), .inl (cI, 32, .inl (u 13))), ((q 10), .inl (cI, 32, .inl (u 14))), ((q 11), .inl (cI, 32, .inl (u 15))), ((q 12), .inl (cI, 32, .inl (u 16))), ((q 4), .inr (2, [.ref (q 5), .ref (q 6)])), ((q 5), .inl (cI, 3, .inl (u 8))), ((q 6), .inl (cI, 3, .inl (u 9))), ((q 0), .inr (3, [.int (v_1 0 0), .ref (q 1), .ref (q 2), .ref (q 3), .int (v_1 4 0), .int (v_1 5 0), .int (v_1 6 0), .int (v_1 7 0)])), ((q 1), .inl (cI, 10, .inl (v_1 1))), ((q 2), .inl (cI, 10, .inl (v_1 2))), ((q 3), .inl (cI, 10, .inl (v_1 3)))] := hw
  refine lv_aload_n S.1 S.2.1 dX1_startAnew_8 rfl (lv_at hl 0 rfl) ?_
  refine y_get S hw (C := RX1) (T := TX1) (N := 9) i_X1_startAnew_X1 0 rfl rfl 0 (by decide) f_X1_startAnew_12 rfl dX1_startAnew_9 ?_
  refine y_callV (As := []) (rest := []) S hw hl.1 (c_X3_empty l D cI cC cL q (stMix v_1 u)) (cwV 0 S.2.2.2.2 gX1_startAnew_X3_empty rfl rfl rfl (by decide +kernel) ⟨Nat.le_of_ble_eq_true rfl, Nat.le_of_ble_eq_true rfl⟩) 9 rfl rfl [9, 10, 11, 12] [0, 1, 2, 3, 4, 5, 6, 7, 8] rfl (by decide +kernel) (wr := [((q 7), .inr (1, [.ref (q 0), .ref (q 4), .ref (q 8), .int (u 11 0), .int (u 12 0), .ref (q 9), .ref (q 10), .ref (q 11), .ref (q 12)])), ((q 8), .inl (cI, 5, .inl (u 10))), ((q 9), .inl (cI, 32, .inl (u 13))), ((q 10), .inl (cI, 32, .inl (u 14))), ((q 11), .inl (cI, 32, .inl (u 15))), ((q 12), .inl (cI, 32, .inl (u 16))), ((q 4), .inr (2, [.ref (q 5), .ref (q 6)])), ((q 5), .inl (cI, 3, .inl (u 8))), ((q 6), .inl (cI, 3, .inl (u 9)))]) rfl (by decide +kernel) (by decide +kernel) rfl (Nat.le_of_ble_eq_true rfl) dX1_startAnew_12 rfl ⟨Nat.le_refl _, Nat.le_refl _⟩ (fun H locs v_3 ev_3 hw => ?_)
  have hw : y_W D cI cC cL A s H locs [((q 7), .inr (1, [.ref (q 0), .ref (q 4), .ref (q 8), .int (u 11 0), .int (u 12 0), .ref (q 9), .ref (q 10), .ref (q 11), .ref (q 12)])), ((q 8), .inl (cI, 5, .inl (u 10))), ((q 9), .inl (cI, 32, .inl (u 13))), ((q 10), .inl (cI, 32, .inl (u 14))), ((q 11), .inl (cI, 32, .inl (u 15))), ((q 12), .inl (cI, 32, .inl (u 16))), ((q 4), .inr (2, [.ref (q 5), .ref (q 6)])), ((q 5), .inl (cI, 3, .inl (u 8))), ((q 6), .inl (cI, 3, .inl (u 9))), ((q 0), .inr (3, [.int (v_3 0 0), .ref (q 1), .ref (q 2), .ref (q 3), .int (v_3 4 0), .int (v_3 5 0), .int (v_3 6 0), .int (v_3 7 0)])), ((q 1), .inl (cI, 10, .inl (v_3 1))), ((q 2), .inl (cI, 10, .inl (v_3 2))), ((q 3), .inl (cI, 10, .inl (v_3 3)))] := hw
  refine lv_aload_n S.1 S.2.1 dX1_startAnew_15 rfl (lv_at hl 0 rfl) ?_
  refine y_get S hw (C := RX1) (T := TX1) (N := 9) i_X1_startAnew_X1 0 rfl rfl 1 (by decide) f_X1_startAnew_21 rfl dX1_startAnew_16 ?_
  refine y_callV (As := []) (rest := []) S hw hl.1 (c_X2_forget l D cI cC cL q (stMix v_3 u)) (cwV 0 S.2.2.2.2 gX1_startAnew_X2_forget rfl rfl rfl (by decide +kernel) ⟨Nat.le_of_ble_eq_true rfl, Nat.le_of_ble_eq_true rfl⟩) 6 rfl rfl [6, 7, 8] [0, 1, 2, 3, 4, 5, 9, 10, 11, 12] rfl (by decide +kernel) (wr := [((q 7), .inr (1, [.ref (q 0), .ref (q 4), .ref (q 8), .int (u 11 0), .int (u 12 0), .ref (q 9), .ref (q 10), .ref (q 11), .ref (q 12)])), ((q 8), .inl (cI, 5, .inl (u 10))), ((q 9), .inl (cI, 32, .inl (u 13))), ((q 10), .inl (cI, 32, .inl (u 14))), ((q 11), .inl (cI, 32, .inl (u 15))), ((q 12), .inl (cI, 32, .inl (u 16))), ((q 0), .inr (3, [.int (v_3 0 0), .ref (q 1), .ref (q 2), .ref (q 3), .int (v_3 4 0), .int (v_3 5 0), .int (v_3 6 0), .int (v_3 7 0)])), ((q 1), .inl (cI, 10, .inl (v_3 1))), ((q 2), .inl (cI, 10, .inl (v_3 2))), ((q 3), .inl (cI, 10, .inl (v_3 3)))]) rfl (by decide +kernel) (by decide +kernel) rfl (Nat.le_of_ble_eq_true rfl) dX1_startAnew_19 rfl ⟨Nat.le_refl _, Nat.le_refl _⟩ (fun H locs v_5 ev_5 hw => ?_)
  have hw : y_W D cI cC cL A s H locs [((q 7), .inr (1, [.ref (q 0), .ref (q 4), .ref (q 8), .int (u 11 0), .int (u 12 0), .ref (q 9), .ref (q 10), .ref (q 11), .ref (q 12)])), ((q 8), .inl (cI, 5, .inl (u 10))), ((q 9), .inl (cI, 32, .inl (u 13))), ((q 10), .inl (cI, 32, .inl (u 14))), ((q 11), .inl (cI, 32, .inl (u 15))), ((q 12), .inl (cI, 32, .inl (u 16))), ((q 0), .inr (3, [.int (v_3 0 0), .ref (q 1), .ref (q 2), .ref (q 3), .int (v_3 4 0), .int (v_3 5 0), .int (v_3 6 0), .int (v_3 7 0)])), ((q 1), .inl (cI, 10, .inl (v_3 1))), ((q 2), .inl (cI, 10, .inl (v_3 2))), ((q 3), .inl (cI, 10, .inl (v_3 3))), ((q 4), .inr (2, [.ref (q 5), .ref (q 6)])), ((q 5), .inl (cI, 3, .inl (v_5 8))), ((q 6), .inl (cI, 3, .inl (v_5 9)))] := hw
  refine lv_aload_n S.1 S.2.1 dX1_startAnew_22 rfl (lv_at hl 0 rfl) ?_
  refine lv_iconst (v := 0) S.1 S.2.1 dX1_startAnew_23 (by decide) ?_
  refine y_put S hw (C := RX1) (T := TX1) (N := 9) i_X1_startAnew_X1 tyX1_ok nmX1 0 rfl rfl 3 (by decide) f_X1_startAnew_62 (by decide +kernel) rfl rfl (Nat.le_of_ble_eq_true rfl) dX1_startAnew_24 (ws' := [((q 7), .inr (1, [.ref (q 0), .ref (q 4), .ref (q 8), .int 0, .int (u 12 0), .ref (q 9), .ref (q 10), .ref (q 11), .ref (q 12)])), ((q 8), .inl (cI, 5, .inl (u 10))), ((q 9), .inl (cI, 32, .inl (u 13))), ((q 10), .inl (cI, 32, .inl (u 14))), ((q 11), .inl (cI, 32, .inl (u 15))), ((q 12), .inl (cI, 32, .inl (u 16))), ((q 0), .inr (3, [.int (v_3 0 0), .ref (q 1), .ref (q 2), .ref (q 3), .int (v_3 4 0), .int (v_3 5 0), .int (v_3 6 0), .int (v_3 7 0)])), ((q 1), .inl (cI, 10, .inl (v_3 1))), ((q 2), .inl (cI, 10, .inl (v_3 2))), ((q 3), .inl (cI, 10, .inl (v_3 3))), ((q 4), .inr (2, [.ref (q 5), .ref (q 6)])), ((q 5), .inl (cI, 3, .inl (v_5 8))), ((q 6), .inl (cI, 3, .inl (v_5 9)))]) rfl (fun H locs hw => ?_)
  refine lv_aload_n S.1 S.2.1 dX1_startAnew_27 rfl (lv_at hl 0 rfl) ?_
  refine lv_iconst (v := 0) S.1 S.2.1 dX1_startAnew_28 (by decide) ?_
  refine y_put S hw (C := RX1) (T := TX1) (N := 9) i_X1_startAnew_X1 tyX1_ok nmX1 0 rfl rfl 4 (by decide) f_X1_startAnew_66 (by decide +kernel) rfl rfl (Nat.le_of_ble_eq_true rfl) dX1_startAnew_29 (ws' := [((q 7), .inr (1, [.ref (q 0), .ref (q 4), .ref (q 8), .int 0, .int 0, .ref (q 9), .ref (q 10), .ref (q 11), .ref (q 12)])), ((q 8), .inl (cI, 5, .inl (u 10))), ((q 9), .inl (cI, 32, .inl (u 13))), ((q 10), .inl (cI, 32, .inl (u 14))), ((q 11), .inl (cI, 32, .inl (u 15))), ((q 12), .inl (cI, 32, .inl (u 16))), ((q 0), .inr (3, [.int (v_3 0 0), .ref (q 1), .ref (q 2), .ref (q 3), .int (v_3 4 0), .int (v_3 5 0), .int (v_3 6 0), .int (v_3 7 0)])), ((q 1), .inl (cI, 10, .inl (v_3 1))), ((q 2), .inl (cI, 10, .inl (v_3 2))), ((q 3), .inl (cI, 10, .inl (v_3 3))), ((q 4), .inr (2, [.ref (q 5), .ref (q 6)])), ((q 5), .inl (cI, 3, .inl (v_5 8))), ((q 6), .inl (cI, 3, .inl (v_5 9)))]) rfl (fun H locs hw => ?_)
  exact ret _ _ _ _ (by subst ev_5; subst ev_3; subst ev_1; exact hw) dX1_startAnew_32

theorem i_X1_copyFrom_X1 : ∀ w ∈ u_ws RX1 TX1 9, w ∈ wsX1_copyFrom := by decide +kernel
theorem f_X1_copyFrom_12 : Cond.fieldLink RX1 12 "ChargeLines$Line" "stages" "LChargeLines$Stages;" ∈ wsX1_copyFrom := by decide +kernel
theorem f_X1_copyFrom_21 : Cond.fieldLink RX1 21 "ChargeLines$Line" "pairs" "LChargeLines$Pairs;" ∈ wsX1_copyFrom := by decide +kernel
theorem f_X1_copyFrom_34 : Cond.fieldLink RX1 34 "ChargeLines$Line" "settings" "[I" ∈ wsX1_copyFrom := by decide +kernel
theorem w_X1_copyFrom_cl56 : Cond.methodLink RX1 56 arraycopyName ∈ wsX1_copyFrom := by decide +kernel
theorem w_X1_copyFrom_cn : Cond.native arraycopyName ∈ wsX1_copyFrom := by decide +kernel
theorem w_X1_copyFrom_cs : Cond.static arraycopyName ∈ wsX1_copyFrom := by decide +kernel
theorem w_X1_copyFrom_ci : Cond.initialized "java/lang/System" ∈ wsX1_copyFrom := by decide +kernel
theorem f_X1_copyFrom_62 : Cond.fieldLink RX1 62 "ChargeLines$Line" "handOvers" "I" ∈ wsX1_copyFrom := by decide +kernel
theorem f_X1_copyFrom_66 : Cond.fieldLink RX1 66 "ChargeLines$Line" "references" "I" ∈ wsX1_copyFrom := by decide +kernel
theorem f_X1_copyFrom_37 : Cond.fieldLink RX1 37 "ChargeLines$Line" "samples" "[I" ∈ wsX1_copyFrom := by decide +kernel
theorem f_X1_copyFrom_40 : Cond.fieldLink RX1 40 "ChargeLines$Line" "referencesOfSamples" "[I" ∈ wsX1_copyFrom := by decide +kernel
theorem f_X1_copyFrom_43 : Cond.fieldLink RX1 43 "ChargeLines$Line" "outputs" "[I" ∈ wsX1_copyFrom := by decide +kernel
theorem f_X1_copyFrom_46 : Cond.fieldLink RX1 46 "ChargeLines$Line" "mendedOutputs" "[I" ∈ wsX1_copyFrom := by decide +kernel
set_option maxHeartbeats 4000000 in
set_option maxRecDepth 100000 in
/-- Line.copyFrom -/
theorem c_X1_copyFrom (l : Launch) (D : va_G) (cI cC cL : ClassId) (q q2 : Nat → Nat) (u u2 : U) : y_MV l yX1_copyFrom wsX1_copyFrom 2 39 D cI cC cL [.ref (q 7), .ref (q2 7)] (cLn cI q u ++ cLn cI q2 u2) (fun v : U => cLn cI q v ++ cLn cI q2 u2) u2 := by
  refine y_startV (cc := cX1_copyFrom) (maxL := 2) (by decide) rfl (Nat.le_of_ble_eq_true rfl) ?_
  intro p e s mm args below meth c A QQ ls S hw ret hl
  have S : CallFix p mm c cX1_copyFrom 2 s args wsX1_copyFrom RX1 := S
  have hw : y_W D cI cC cL A s s.heap [] [((q 7), .inr (1, [.ref (q 0), .ref (q 4), .ref (q 8), .int (u 11 0), .int (u 12 0), .ref (q 9), .ref (q 10), .ref (q 11), .ref (q 12)])), ((q 8), .inl (cI, 5, .inl (u 10))), ((q 9), .inl (cI, 32, .inl (u 13))), ((q 10), .inl (cI, 32, .inl (u 14))), ((q 11), .inl (cI, 32, .inl (u 15))), ((q 12), .inl (cI, 32, .inl (u 16))), ((q 0), .inr (3, [.int (u 0 0), .ref (q 1), .ref (q 2), .ref (q 3), .int (u 4 0), .int (u 5 0), .int (u 6 0), .int (u 7 0)])), ((q 1), .inl (cI, 10, .inl (u 1))), ((q 2), .inl (cI, 10, .inl (u 2))), ((q 3), .inl (cI, 10, .inl (u 3))), ((q 4), .inr (2, [.ref (q 5), .ref (q 6)])), ((q 5), .inl (cI, 3, .inl (u 8))), ((q 6), .inl (cI, 3, .inl (u 9))), ((q2 7), .inr (1, [.ref (q2 0), .ref (q2 4), .ref (q2 8), .int (u2 11 0), .int (u2 12 0), .ref (q2 9), .ref (q2 10), .ref (q2 11), .ref (q2 12)])), ((q2 8), .inl (cI, 5, .inl (u2 10))), ((q2 9), .inl (cI, 32, .inl (u2 13))), ((q2 10), .inl (cI, 32, .inl (u2 14))), ((q2 11), .inl (cI, 32, .inl (u2 15))), ((q2 12), .inl (cI, 32, .inl (u2 16))), ((q2 0), .inr (3, [.int (u2 0 0), .ref (q2 1), .ref (q2 2), .ref (q2 3), .int (u2 4 0), .int (u2 5 0), .int (u2 6 0), .int (u2 7 0)])), ((q2 1), .inl (cI, 10, .inl (u2 1))), ((q2 2), .inl (cI, 10, .inl (u2 2))), ((q2 3), .inl (cI, 10, .inl (u2 3))), ((q2 4), .inr (2, [.ref (q2 5), .ref (q2 6)])), ((q2 5), .inl (cI, 3, .inl (u2 8))), ((q2 6), .inl (cI, 3, .inl (u2 9)))] := hw
  have hl : lv_has ls 2 [(0, .ref (q 7)), (1, .ref (q2 7))] := hl
  refine lv_aload_n S.1 S.2.1 dX1_copyFrom_0 rfl (lv_at hl 0 rfl) ?_
  refine y_get S hw (C := RX1) (T := TX1) (N := 9) i_X1_copyFrom_X1 0 rfl rfl 0 (by decide) f_X1_copyFrom_12 rfl dX1_copyFrom_1 ?_
  refine lv_aload_n S.1 S.2.1 dX1_copyFrom_4 rfl (lv_at hl 1 rfl) ?_
  refine y_get S hw (C := RX1) (T := TX1) (N := 9) i_X1_copyFrom_X1 13 rfl rfl 0 (by decide) f_X1_copyFrom_12 rfl dX1_copyFrom_5 ?_
  refine y_callV (As := [.ref (q2 0)]) (rest := []) S hw hl.1 (c_X3_copyFrom l D cI cC cL q q2 u u2) (cwV 1 S.2.2.2.2 gX1_copyFrom_X3_copyFrom rfl rfl rfl (by decide +kernel) ⟨Nat.le_of_ble_eq_true rfl, Nat.le_of_ble_eq_true rfl⟩) 6 rfl rfl [6, 7, 8, 9, 19, 20, 21, 22] [0, 1, 2, 3, 4, 5, 10, 11, 12, 13, 14, 15, 16, 17, 18, 23, 24, 25] rfl (by decide +kernel) (wr := [((q 7), .inr (1, [.ref (q 0), .ref (q 4), .ref (q 8), .int (u 11 0), .int (u 12 0), .ref (q 9), .ref (q 10), .ref (q 11), .ref (q 12)])), ((q 8), .inl (cI, 5, .inl (u 10))), ((q 9), .inl (cI, 32, .inl (u 13))), ((q 10), .inl (cI, 32, .inl (u 14))), ((q 11), .inl (cI, 32, .inl (u 15))), ((q 12), .inl (cI, 32, .inl (u 16))), ((q 4), .inr (2, [.ref (q 5), .ref (q 6)])), ((q 5), .inl (cI, 3, .inl (u 8))), ((q 6), .inl (cI, 3, .inl (u 9))), ((q2 7), .inr (1, [.ref (q2 0), .ref (q2 4), .ref (q2 8), .int (u2 11 0), .int (u2 12 0), .ref (q2 9), .ref (q2 10), .ref (q2 11), .ref (q2 12)])), ((q2 8), .inl (cI, 5, .inl (u2 10))), ((q2 9), .inl (cI, 32, .inl (u2 13))), ((q2 10), .inl (cI, 32, .inl (u2 14))), ((q2 11), .inl (cI, 32, .inl (u2 15))), ((q2 12), .inl (cI, 32, .inl (u2 16))), ((q2 4), .inr (2, [.ref (q2 5), .ref (q2 6)])), ((q2 5), .inl (cI, 3, .inl (u2 8))), ((q2 6), .inl (cI, 3, .inl (u2 9)))]) rfl (by decide +kernel) (by decide +kernel) rfl (Nat.le_of_ble_eq_true rfl) dX1_copyFrom_8 rfl ⟨Nat.le_refl _, Nat.le_refl _⟩ (fun H locs v_1 ev_1 hw => ?_)
  have hw : y_W D cI cC cL A s H locs [((q 7), .inr (1, [.ref (q 0), .ref (q 4), .ref (q 8), .int (u 11 0), .int (u 12 0), .ref (q 9), .ref (q 10), .ref (q 11), .ref (q 12)])), ((q 8), .inl (cI, 5, .inl (u 10))), ((q 9), .inl (cI, 32, .inl (u 13))), ((q 10), .inl (cI, 32, .inl (u 14))), ((q 11), .inl (cI, 32, .inl (u 15))), ((q 12), .inl (cI, 32, .inl (u 16))), ((q 4), .inr (2, [.ref (q 5), .ref (q 6)])), ((q 5), .inl (cI, 3, .inl (u 8))), ((q 6), .inl (cI, 3, .inl (u 9))), ((q2 7), .inr (1, [.ref (q2 0), .ref (q2 4), .ref (q2 8), .int (u2 11 0), .int (u2 12 0), .ref (q2 9), .ref (q2 10), .ref (q2 11), .ref (q2 12)])), ((q2 8), .inl (cI, 5, .inl (u2 10))), ((q2 9), .inl (cI, 32, .inl (u2 13))), ((q2 10), .inl (cI, 32, .inl (u2 14))), ((q2 11), .inl (cI, 32, .inl (u2 15))), ((q2 12), .inl (cI, 32, .inl (u2 16))), ((q2 4), .inr (2, [.ref (q2 5), .ref (q2 6)])), ((q2 5), .inl (cI, 3, .inl (u2 8))), ((q2 6), .inl (cI, 3, .inl (u2 9))), ((q 0), .inr (3, [.int (v_1 0 0), .ref (q 1), .ref (q 2), .ref (q 3), .int (v_1 4 0), .int (v_1 5 0), .int (v_1 6 0), .int (v_1 7 0)])), ((q 1), .inl (cI, 10, .inl (v_1 1))), ((q 2), .inl (cI, 10, .inl (v_1 2))), ((q 3), .inl (cI, 10, .inl (v_1 3))), ((q2 0), .inr (3, [.int (u2 0 0), .ref (q2 1), .ref (q2 2), .ref (q2 3), .int (u2 4 0), .int (u2 5 0), .int (u2 6 0), .int (u2 7 0)])), ((q2 1), .inl (cI, 10, .inl (u2 1))), ((q2 2), .inl (cI, 10, .inl (u2 2))), ((q2 3), .inl (cI, 10, .inl (u2 3)))] := hw
  refine lv_aload_n S.1 S.2.1 dX1_copyFrom_11 rfl (lv_at hl 0 rfl) ?_
  refine y_get S hw (C := RX1) (T := TX1) (N := 9) i_X1_copyFrom_X1 0 rfl rfl 1 (by decide) f_X1_copyFrom_21 rfl dX1_copyFrom_12 ?_
  refine lv_aload_n S.1 S.2.1 dX1_copyFrom_15 rfl (lv_at hl 1 rfl) ?_
  refine y_get S hw (C := RX1) (T := TX1) (N := 9) i_X1_copyFrom_X1 9 rfl rfl 1 (by decide) f_X1_copyFrom_21 rfl dX1_copyFrom_16 ?_
  refine y_callV (As := [.ref (q2 4)]) (rest := []) S hw hl.1 (c_X2_copyFrom l D cI cC cL q q2 (stMix v_1 u) u2) (cwV 1 S.2.2.2.2 gX1_copyFrom_X2_copyFrom rfl rfl rfl (by decide +kernel) ⟨Nat.le_of_ble_eq_true rfl, Nat.le_of_ble_eq_true rfl⟩) 6 rfl rfl [6, 7, 8, 15, 16, 17] [0, 1, 2, 3, 4, 5, 9, 10, 11, 12, 13, 14, 18, 19, 20, 21, 22, 23, 24, 25] rfl (by decide +kernel) (wr := [((q 7), .inr (1, [.ref (q 0), .ref (q 4), .ref (q 8), .int (u 11 0), .int (u 12 0), .ref (q 9), .ref (q 10), .ref (q 11), .ref (q 12)])), ((q 8), .inl (cI, 5, .inl (u 10))), ((q 9), .inl (cI, 32, .inl (u 13))), ((q 10), .inl (cI, 32, .inl (u 14))), ((q 11), .inl (cI, 32, .inl (u 15))), ((q 12), .inl (cI, 32, .inl (u 16))), ((q2 7), .inr (1, [.ref (q2 0), .ref (q2 4), .ref (q2 8), .int (u2 11 0), .int (u2 12 0), .ref (q2 9), .ref (q2 10), .ref (q2 11), .ref (q2 12)])), ((q2 8), .inl (cI, 5, .inl (u2 10))), ((q2 9), .inl (cI, 32, .inl (u2 13))), ((q2 10), .inl (cI, 32, .inl (u2 14))), ((q2 11), .inl (cI, 32, .inl (u2 15))), ((q2 12), .inl (cI, 32, .inl (u2 16))), ((q 0), .inr (3, [.int (v_1 0 0), .ref (q 1), .ref (q 2), .ref (q 3), .int (v_1 4 0), .int (v_1 5 0), .int (v_1 6 0), .int (v_1 7 0)])), ((q 1), .inl (cI, 10, .inl (v_1 1))), ((q 2), .inl (cI, 10, .inl (v_1 2))), ((q 3), .inl (cI, 10, .inl (v_1 3))), ((q2 0), .inr (3, [.int (u2 0 0), .ref (q2 1), .ref (q2 2), .ref (q2 3), .int (u2 4 0), .int (u2 5 0), .int (u2 6 0), .int (u2 7 0)])), ((q2 1), .inl (cI, 10, .inl (u2 1))), ((q2 2), .inl (cI, 10, .inl (u2 2))), ((q2 3), .inl (cI, 10, .inl (u2 3)))]) rfl (by decide +kernel) (by decide +kernel) rfl (Nat.le_of_ble_eq_true rfl) dX1_copyFrom_19 rfl ⟨Nat.le_refl _, Nat.le_refl _⟩ (fun H locs v_3 ev_3 hw => ?_)
  have hw : y_W D cI cC cL A s H locs [((q 7), .inr (1, [.ref (q 0), .ref (q 4), .ref (q 8), .int (u 11 0), .int (u 12 0), .ref (q 9), .ref (q 10), .ref (q 11), .ref (q 12)])), ((q 8), .inl (cI, 5, .inl (u 10))), ((q 9), .inl (cI, 32, .inl (u 13))), ((q 10), .inl (cI, 32, .inl (u 14))), ((q 11), .inl (cI, 32, .inl (u 15))), ((q 12), .inl (cI, 32, .inl (u 16))), ((q2 7), .inr (1, [.ref (q2 0), .ref (q2 4), .ref (q2 8), .int (u2 11 0), .int (u2 12 0), .ref (q2 9), .ref (q2 10), .ref (q2 11), .ref (q2 12)])), ((q2 8), .inl (cI, 5, .inl (u2 10))), ((q2 9), .inl (cI, 32, .inl (u2 13))), ((q2 10), .inl (cI, 32, .inl (u2 14))), ((q2 11), .inl (cI, 32, .inl (u2 15))), ((q2 12), .inl (cI, 32, .inl (u2 16))), ((q 0), .inr (3, [.int (v_1 0 0), .ref (q 1), .ref (q 2), .ref (q 3), .int (v_1 4 0), .int (v_1 5 0), .int (v_1 6 0), .int (v_1 7 0)])), ((q 1), .inl (cI, 10, .inl (v_1 1))), ((q 2), .inl (cI, 10, .inl (v_1 2))), ((q 3), .inl (cI, 10, .inl (v_1 3))), ((q2 0), .inr (3, [.int (u2 0 0), .ref (q2 1), .ref (q2 2), .ref (q2 3), .int (u2 4 0), .int (u2 5 0), .int (u2 6 0), .int (u2 7 0)])), ((q2 1), .inl (cI, 10, .inl (u2 1))), ((q2 2), .inl (cI, 10, .inl (u2 2))), ((q2 3), .inl (cI, 10, .inl (u2 3))), ((q 4), .inr (2, [.ref (q 5), .ref (q 6)])), ((q 5), .inl (cI, 3, .inl (v_3 8))), ((q 6), .inl (cI, 3, .inl (v_3 9))), ((q2 4), .inr (2, [.ref (q2 5), .ref (q2 6)])), ((q2 5), .inl (cI, 3, .inl (u2 8))), ((q2 6), .inl (cI, 3, .inl (u2 9)))] := hw
  refine lv_aload_n S.1 S.2.1 dX1_copyFrom_22 rfl (lv_at hl 1 rfl) ?_
  refine y_get S hw (C := RX1) (T := TX1) (N := 9) i_X1_copyFrom_X1 6 rfl rfl 2 (by decide) f_X1_copyFrom_34 rfl dX1_copyFrom_23 ?_
  refine lv_iconst (v := 0) S.1 S.2.1 dX1_copyFrom_26 (by decide) ?_
  refine lv_aload_n S.1 S.2.1 dX1_copyFrom_27 rfl (lv_at hl 0 rfl) ?_
  refine y_get S hw (C := RX1) (T := TX1) (N := 9) i_X1_copyFrom_X1 0 rfl rfl 2 (by decide) f_X1_copyFrom_34 rfl dX1_copyFrom_28 ?_
  refine lv_iconst (v := 0) S.1 S.2.1 dX1_copyFrom_31 (by decide) ?_
  refine lv_iconst (v := 5) S.1 S.2.1 dX1_copyFrom_32 (by decide) ?_
  refine y_copy (rest := []) S hw hl.1 w_X1_copyFrom_cl56 w_X1_copyFrom_cn w_X1_copyFrom_cs w_X1_copyFrom_ci 7 1 rfl rfl (by decide) (Nat.le_of_ble_eq_true rfl) (Nat.le_of_ble_eq_true rfl) (Nat.le_of_ble_eq_true rfl) dX1_copyFrom_33 (ws' := [((q 7), .inr (1, [.ref (q 0), .ref (q 4), .ref (q 8), .int (u 11 0), .int (u 12 0), .ref (q 9), .ref (q 10), .ref (q 11), .ref (q 12)])), ((q 8), .inl (cI, 5, .inl (u2 10))), ((q 9), .inl (cI, 32, .inl (u 13))), ((q 10), .inl (cI, 32, .inl (u 14))), ((q 11), .inl (cI, 32, .inl (u 15))), ((q 12), .inl (cI, 32, .inl (u 16))), ((q2 7), .inr (1, [.ref (q2 0), .ref (q2 4), .ref (q2 8), .int (u2 11 0), .int (u2 12 0), .ref (q2 9), .ref (q2 10), .ref (q2 11), .ref (q2 12)])), ((q2 8), .inl (cI, 5, .inl (u2 10))), ((q2 9), .inl (cI, 32, .inl (u2 13))), ((q2 10), .inl (cI, 32, .inl (u2 14))), ((q2 11), .inl (cI, 32, .inl (u2 15))), ((q2 12), .inl (cI, 32, .inl (u2 16))), ((q 0), .inr (3, [.int (v_1 0 0), .ref (q 1), .ref (q 2), .ref (q 3), .int (v_1 4 0), .int (v_1 5 0), .int (v_1 6 0), .int (v_1 7 0)])), ((q 1), .inl (cI, 10, .inl (v_1 1))), ((q 2), .inl (cI, 10, .inl (v_1 2))), ((q 3), .inl (cI, 10, .inl (v_1 3))), ((q2 0), .inr (3, [.int (u2 0 0), .ref (q2 1), .ref (q2 2), .ref (q2 3), .int (u2 4 0), .int (u2 5 0), .int (u2 6 0), .int (u2 7 0)])), ((q2 1), .inl (cI, 10, .inl (u2 1))), ((q2 2), .inl (cI, 10, .inl (u2 2))), ((q2 3), .inl (cI, 10, .inl (u2 3))), ((q 4), .inr (2, [.ref (q 5), .ref (q 6)])), ((q 5), .inl (cI, 3, .inl (v_3 8))), ((q 6), .inl (cI, 3, .inl (v_3 9))), ((q2 4), .inr (2, [.ref (q2 5), .ref (q2 6)])), ((q2 5), .inl (cI, 3, .inl (u2 8))), ((q2 6), .inl (cI, 3, .inl (u2 9)))]) rfl (fun H locs hw => ?_)
  refine lv_aload_n S.1 S.2.1 dX1_copyFrom_36 rfl (lv_at hl 0 rfl) ?_
  refine lv_aload_n S.1 S.2.1 dX1_copyFrom_37 rfl (lv_at hl 1 rfl) ?_
  refine y_get S hw (C := RX1) (T := TX1) (N := 9) i_X1_copyFrom_X1 6 rfl rfl 3 (by decide) f_X1_copyFrom_62 rfl dX1_copyFrom_38 ?_
  refine y_put S hw (C := RX1) (T := TX1) (N := 9) i_X1_copyFrom_X1 tyX1_ok nmX1 0 rfl rfl 3 (by decide) f_X1_copyFrom_62 (by decide +kernel) rfl rfl (Nat.le_of_ble_eq_true rfl) dX1_copyFrom_41 (ws' := [((q 7), .inr (1, [.ref (q 0), .ref (q 4), .ref (q 8), .int (u2 11 0), .int (u 12 0), .ref (q 9), .ref (q 10), .ref (q 11), .ref (q 12)])), ((q 8), .inl (cI, 5, .inl (u2 10))), ((q 9), .inl (cI, 32, .inl (u 13))), ((q 10), .inl (cI, 32, .inl (u 14))), ((q 11), .inl (cI, 32, .inl (u 15))), ((q 12), .inl (cI, 32, .inl (u 16))), ((q2 7), .inr (1, [.ref (q2 0), .ref (q2 4), .ref (q2 8), .int (u2 11 0), .int (u2 12 0), .ref (q2 9), .ref (q2 10), .ref (q2 11), .ref (q2 12)])), ((q2 8), .inl (cI, 5, .inl (u2 10))), ((q2 9), .inl (cI, 32, .inl (u2 13))), ((q2 10), .inl (cI, 32, .inl (u2 14))), ((q2 11), .inl (cI, 32, .inl (u2 15))), ((q2 12), .inl (cI, 32, .inl (u2 16))), ((q 0), .inr (3, [.int (v_1 0 0), .ref (q 1), .ref (q 2), .ref (q 3), .int (v_1 4 0), .int (v_1 5 0), .int (v_1 6 0), .int (v_1 7 0)])), ((q 1), .inl (cI, 10, .inl (v_1 1))), ((q 2), .inl (cI, 10, .inl (v_1 2))), ((q 3), .inl (cI, 10, .inl (v_1 3))), ((q2 0), .inr (3, [.int (u2 0 0), .ref (q2 1), .ref (q2 2), .ref (q2 3), .int (u2 4 0), .int (u2 5 0), .int (u2 6 0), .int (u2 7 0)])), ((q2 1), .inl (cI, 10, .inl (u2 1))), ((q2 2), .inl (cI, 10, .inl (u2 2))), ((q2 3), .inl (cI, 10, .inl (u2 3))), ((q 4), .inr (2, [.ref (q 5), .ref (q 6)])), ((q 5), .inl (cI, 3, .inl (v_3 8))), ((q 6), .inl (cI, 3, .inl (v_3 9))), ((q2 4), .inr (2, [.ref (q2 5), .ref (q2 6)])), ((q2 5), .inl (cI, 3, .inl (u2 8))), ((q2 6), .inl (cI, 3, .inl (u2 9)))]) rfl (fun H locs hw => ?_)
  refine lv_aload_n S.1 S.2.1 dX1_copyFrom_44 rfl (lv_at hl 0 rfl) ?_
  refine lv_aload_n S.1 S.2.1 dX1_copyFrom_45 rfl (lv_at hl 1 rfl) ?_
  refine y_get S hw (C := RX1) (T := TX1) (N := 9) i_X1_copyFrom_X1 6 rfl rfl 4 (by decide) f_X1_copyFrom_66 rfl dX1_copyFrom_46 ?_
  refine y_put S hw (C := RX1) (T := TX1) (N := 9) i_X1_copyFrom_X1 tyX1_ok nmX1 0 rfl rfl 4 (by decide) f_X1_copyFrom_66 (by decide +kernel) rfl rfl (Nat.le_of_ble_eq_true rfl) dX1_copyFrom_49 (ws' := [((q 7), .inr (1, [.ref (q 0), .ref (q 4), .ref (q 8), .int (u2 11 0), .int (u2 12 0), .ref (q 9), .ref (q 10), .ref (q 11), .ref (q 12)])), ((q 8), .inl (cI, 5, .inl (u2 10))), ((q 9), .inl (cI, 32, .inl (u 13))), ((q 10), .inl (cI, 32, .inl (u 14))), ((q 11), .inl (cI, 32, .inl (u 15))), ((q 12), .inl (cI, 32, .inl (u 16))), ((q2 7), .inr (1, [.ref (q2 0), .ref (q2 4), .ref (q2 8), .int (u2 11 0), .int (u2 12 0), .ref (q2 9), .ref (q2 10), .ref (q2 11), .ref (q2 12)])), ((q2 8), .inl (cI, 5, .inl (u2 10))), ((q2 9), .inl (cI, 32, .inl (u2 13))), ((q2 10), .inl (cI, 32, .inl (u2 14))), ((q2 11), .inl (cI, 32, .inl (u2 15))), ((q2 12), .inl (cI, 32, .inl (u2 16))), ((q 0), .inr (3, [.int (v_1 0 0), .ref (q 1), .ref (q 2), .ref (q 3), .int (v_1 4 0), .int (v_1 5 0), .int (v_1 6 0), .int (v_1 7 0)])), ((q 1), .inl (cI, 10, .inl (v_1 1))), ((q 2), .inl (cI, 10, .inl (v_1 2))), ((q 3), .inl (cI, 10, .inl (v_1 3))), ((q2 0), .inr (3, [.int (u2 0 0), .ref (q2 1), .ref (q2 2), .ref (q2 3), .int (u2 4 0), .int (u2 5 0), .int (u2 6 0), .int (u2 7 0)])), ((q2 1), .inl (cI, 10, .inl (u2 1))), ((q2 2), .inl (cI, 10, .inl (u2 2))), ((q2 3), .inl (cI, 10, .inl (u2 3))), ((q 4), .inr (2, [.ref (q 5), .ref (q 6)])), ((q 5), .inl (cI, 3, .inl (v_3 8))), ((q 6), .inl (cI, 3, .inl (v_3 9))), ((q2 4), .inr (2, [.ref (q2 5), .ref (q2 6)])), ((q2 5), .inl (cI, 3, .inl (u2 8))), ((q2 6), .inl (cI, 3, .inl (u2 9)))]) rfl (fun H locs hw => ?_)
  refine lv_aload_n S.1 S.2.1 dX1_copyFrom_52 rfl (lv_at hl 1 rfl) ?_
  refine y_get S hw (C := RX1) (T := TX1) (N := 9) i_X1_copyFrom_X1 6 rfl rfl 5 (by decide) f_X1_copyFrom_37 rfl dX1_copyFrom_53 ?_
  refine lv_iconst (v := 0) S.1 S.2.1 dX1_copyFrom_56 (by decide) ?_
  refine lv_aload_n S.1 S.2.1 dX1_copyFrom_57 rfl (lv_at hl 0 rfl) ?_
  refine y_get S hw (C := RX1) (T := TX1) (N := 9) i_X1_copyFrom_X1 0 rfl rfl 5 (by decide) f_X1_copyFrom_37 rfl dX1_copyFrom_58 ?_
  refine lv_iconst (v := 0) S.1 S.2.1 dX1_copyFrom_61 (by decide) ?_
  refine lv_bipush (v := 32) S.1 S.2.1 dX1_copyFrom_62 (by decide) ?_
  refine y_copy (rest := []) S hw hl.1 w_X1_copyFrom_cl56 w_X1_copyFrom_cn w_X1_copyFrom_cs w_X1_copyFrom_ci 8 2 rfl rfl (by decide) (Nat.le_of_ble_eq_true rfl) (Nat.le_of_ble_eq_true rfl) (Nat.le_of_ble_eq_true rfl) dX1_copyFrom_64 (ws' := [((q 7), .inr (1, [.ref (q 0), .ref (q 4), .ref (q 8), .int (u2 11 0), .int (u2 12 0), .ref (q 9), .ref (q 10), .ref (q 11), .ref (q 12)])), ((q 8), .inl (cI, 5, .inl (u2 10))), ((q 9), .inl (cI, 32, .inl (u2 13))), ((q 10), .inl (cI, 32, .inl (u 14))), ((q 11), .inl (cI, 32, .inl (u 15))), ((q 12), .inl (cI, 32, .inl (u 16))), ((q2 7), .inr (1, [.ref (q2 0), .ref (q2 4), .ref (q2 8), .int (u2 11 0), .int (u2 12 0), .ref (q2 9), .ref (q2 10), .ref (q2 11), .ref (q2 12)])), ((q2 8), .inl (cI, 5, .inl (u2 10))), ((q2 9), .inl (cI, 32, .inl (u2 13))), ((q2 10), .inl (cI, 32, .inl (u2 14))), ((q2 11), .inl (cI, 32, .inl (u2 15))), ((q2 12), .inl (cI, 32, .inl (u2 16))), ((q 0), .inr (3, [.int (v_1 0 0), .ref (q 1), .ref (q 2), .ref (q 3), .int (v_1 4 0), .int (v_1 5 0), .int (v_1 6 0), .int (v_1 7 0)])), ((q 1), .inl (cI, 10, .inl (v_1 1))), ((q 2), .inl (cI, 10, .inl (v_1 2))), ((q 3), .inl (cI, 10, .inl (v_1 3))), ((q2 0), .inr (3, [.int (u2 0 0), .ref (q2 1), .ref (q2 2), .ref (q2 3), .int (u2 4 0), .int (u2 5 0), .int (u2 6 0), .int (u2 7 0)])), ((q2 1), .inl (cI, 10, .inl (u2 1))), ((q2 2), .inl (cI, 10, .inl (u2 2))), ((q2 3), .inl (cI, 10, .inl (u2 3))), ((q 4), .inr (2, [.ref (q 5), .ref (q 6)])), ((q 5), .inl (cI, 3, .inl (v_3 8))), ((q 6), .inl (cI, 3, .inl (v_3 9))), ((q2 4), .inr (2, [.ref (q2 5), .ref (q2 6)])), ((q2 5), .inl (cI, 3, .inl (u2 8))), ((q2 6), .inl (cI, 3, .inl (u2 9)))]) rfl (fun H locs hw => ?_)
  refine lv_aload_n S.1 S.2.1 dX1_copyFrom_67 rfl (lv_at hl 1 rfl) ?_
  refine y_get S hw (C := RX1) (T := TX1) (N := 9) i_X1_copyFrom_X1 6 rfl rfl 6 (by decide) f_X1_copyFrom_40 rfl dX1_copyFrom_68 ?_
  refine lv_iconst (v := 0) S.1 S.2.1 dX1_copyFrom_71 (by decide) ?_
  refine lv_aload_n S.1 S.2.1 dX1_copyFrom_72 rfl (lv_at hl 0 rfl) ?_
  refine y_get S hw (C := RX1) (T := TX1) (N := 9) i_X1_copyFrom_X1 0 rfl rfl 6 (by decide) f_X1_copyFrom_40 rfl dX1_copyFrom_73 ?_
  refine lv_iconst (v := 0) S.1 S.2.1 dX1_copyFrom_76 (by decide) ?_
  refine lv_bipush (v := 32) S.1 S.2.1 dX1_copyFrom_77 (by decide) ?_
  refine y_copy (rest := []) S hw hl.1 w_X1_copyFrom_cl56 w_X1_copyFrom_cn w_X1_copyFrom_cs w_X1_copyFrom_ci 9 3 rfl rfl (by decide) (Nat.le_of_ble_eq_true rfl) (Nat.le_of_ble_eq_true rfl) (Nat.le_of_ble_eq_true rfl) dX1_copyFrom_79 (ws' := [((q 7), .inr (1, [.ref (q 0), .ref (q 4), .ref (q 8), .int (u2 11 0), .int (u2 12 0), .ref (q 9), .ref (q 10), .ref (q 11), .ref (q 12)])), ((q 8), .inl (cI, 5, .inl (u2 10))), ((q 9), .inl (cI, 32, .inl (u2 13))), ((q 10), .inl (cI, 32, .inl (u2 14))), ((q 11), .inl (cI, 32, .inl (u 15))), ((q 12), .inl (cI, 32, .inl (u 16))), ((q2 7), .inr (1, [.ref (q2 0), .ref (q2 4), .ref (q2 8), .int (u2 11 0), .int (u2 12 0), .ref (q2 9), .ref (q2 10), .ref (q2 11), .ref (q2 12)])), ((q2 8), .inl (cI, 5, .inl (u2 10))), ((q2 9), .inl (cI, 32, .inl (u2 13))), ((q2 10), .inl (cI, 32, .inl (u2 14))), ((q2 11), .inl (cI, 32, .inl (u2 15))), ((q2 12), .inl (cI, 32, .inl (u2 16))), ((q 0), .inr (3, [.int (v_1 0 0), .ref (q 1), .ref (q 2), .ref (q 3), .int (v_1 4 0), .int (v_1 5 0), .int (v_1 6 0), .int (v_1 7 0)])), ((q 1), .inl (cI, 10, .inl (v_1 1))), ((q 2), .inl (cI, 10, .inl (v_1 2))), ((q 3), .inl (cI, 10, .inl (v_1 3))), ((q2 0), .inr (3, [.int (u2 0 0), .ref (q2 1), .ref (q2 2), .ref (q2 3), .int (u2 4 0), .int (u2 5 0), .int (u2 6 0), .int (u2 7 0)])), ((q2 1), .inl (cI, 10, .inl (u2 1))), ((q2 2), .inl (cI, 10, .inl (u2 2))), ((q2 3), .inl (cI, 10, .inl (u2 3))), ((q 4), .inr (2, [.ref (q 5), .ref (q 6)])), ((q 5), .inl (cI, 3, .inl (v_3 8))), ((q 6), .inl (cI, 3, .inl (v_3 9))), ((q2 4), .inr (2, [.ref (q2 5), .ref (q2 6)])), ((q2 5), .inl (cI, 3, .inl (u2 8))), ((q2 6), .inl (cI, 3, .inl (u2 9)))]) rfl (fun H locs hw => ?_)
  refine lv_aload_n S.1 S.2.1 dX1_copyFrom_82 rfl (lv_at hl 1 rfl) ?_
  refine y_get S hw (C := RX1) (T := TX1) (N := 9) i_X1_copyFrom_X1 6 rfl rfl 7 (by decide) f_X1_copyFrom_43 rfl dX1_copyFrom_83 ?_
  refine lv_iconst (v := 0) S.1 S.2.1 dX1_copyFrom_86 (by decide) ?_
  refine lv_aload_n S.1 S.2.1 dX1_copyFrom_87 rfl (lv_at hl 0 rfl) ?_
  refine y_get S hw (C := RX1) (T := TX1) (N := 9) i_X1_copyFrom_X1 0 rfl rfl 7 (by decide) f_X1_copyFrom_43 rfl dX1_copyFrom_88 ?_
  refine lv_iconst (v := 0) S.1 S.2.1 dX1_copyFrom_91 (by decide) ?_
  refine lv_bipush (v := 32) S.1 S.2.1 dX1_copyFrom_92 (by decide) ?_
  refine y_copy (rest := []) S hw hl.1 w_X1_copyFrom_cl56 w_X1_copyFrom_cn w_X1_copyFrom_cs w_X1_copyFrom_ci 10 4 rfl rfl (by decide) (Nat.le_of_ble_eq_true rfl) (Nat.le_of_ble_eq_true rfl) (Nat.le_of_ble_eq_true rfl) dX1_copyFrom_94 (ws' := [((q 7), .inr (1, [.ref (q 0), .ref (q 4), .ref (q 8), .int (u2 11 0), .int (u2 12 0), .ref (q 9), .ref (q 10), .ref (q 11), .ref (q 12)])), ((q 8), .inl (cI, 5, .inl (u2 10))), ((q 9), .inl (cI, 32, .inl (u2 13))), ((q 10), .inl (cI, 32, .inl (u2 14))), ((q 11), .inl (cI, 32, .inl (u2 15))), ((q 12), .inl (cI, 32, .inl (u 16))), ((q2 7), .inr (1, [.ref (q2 0), .ref (q2 4), .ref (q2 8), .int (u2 11 0), .int (u2 12 0), .ref (q2 9), .ref (q2 10), .ref (q2 11), .ref (q2 12)])), ((q2 8), .inl (cI, 5, .inl (u2 10))), ((q2 9), .inl (cI, 32, .inl (u2 13))), ((q2 10), .inl (cI, 32, .inl (u2 14))), ((q2 11), .inl (cI, 32, .inl (u2 15))), ((q2 12), .inl (cI, 32, .inl (u2 16))), ((q 0), .inr (3, [.int (v_1 0 0), .ref (q 1), .ref (q 2), .ref (q 3), .int (v_1 4 0), .int (v_1 5 0), .int (v_1 6 0), .int (v_1 7 0)])), ((q 1), .inl (cI, 10, .inl (v_1 1))), ((q 2), .inl (cI, 10, .inl (v_1 2))), ((q 3), .inl (cI, 10, .inl (v_1 3))), ((q2 0), .inr (3, [.int (u2 0 0), .ref (q2 1), .ref (q2 2), .ref (q2 3), .int (u2 4 0), .int (u2 5 0), .int (u2 6 0), .int (u2 7 0)])), ((q2 1), .inl (cI, 10, .inl (u2 1))), ((q2 2), .inl (cI, 10, .inl (u2 2))), ((q2 3), .inl (cI, 10, .inl (u2 3))), ((q 4), .inr (2, [.ref (q 5), .ref (q 6)])), ((q 5), .inl (cI, 3, .inl (v_3 8))), ((q 6), .inl (cI, 3, .inl (v_3 9))), ((q2 4), .inr (2, [.ref (q2 5), .ref (q2 6)])), ((q2 5), .inl (cI, 3, .inl (u2 8))), ((q2 6), .inl (cI, 3, .inl (u2 9)))]) rfl (fun H locs hw => ?_)
  refine lv_aload_n S.1 S.2.1 dX1_copyFrom_97 rfl (lv_at hl 1 rfl) ?_
  refine y_get S hw (C := RX1) (T := TX1) (N := 9) i_X1_copyFrom_X1 6 rfl rfl 8 (by decide) f_X1_copyFrom_46 rfl dX1_copyFrom_98 ?_
  refine lv_iconst (v := 0) S.1 S.2.1 dX1_copyFrom_101 (by decide) ?_
  refine lv_aload_n S.1 S.2.1 dX1_copyFrom_102 rfl (lv_at hl 0 rfl) ?_
  refine y_get S hw (C := RX1) (T := TX1) (N := 9) i_X1_copyFrom_X1 0 rfl rfl 8 (by decide) f_X1_copyFrom_46 rfl dX1_copyFrom_103 ?_
  refine lv_iconst (v := 0) S.1 S.2.1 dX1_copyFrom_106 (by decide) ?_
  refine lv_bipush (v := 32) S.1 S.2.1 dX1_copyFrom_107 (by decide) ?_
  refine y_copy (rest := []) S hw hl.1 w_X1_copyFrom_cl56 w_X1_copyFrom_cn w_X1_copyFrom_cs w_X1_copyFrom_ci 11 5 rfl rfl (by decide) (Nat.le_of_ble_eq_true rfl) (Nat.le_of_ble_eq_true rfl) (Nat.le_of_ble_eq_true rfl) dX1_copyFrom_109 (ws' := [((q 7), .inr (1, [.ref (q 0), .ref (q 4), .ref (q 8), .int (u2 11 0), .int (u2 12 0), .ref (q 9), .ref (q 10), .ref (q 11), .ref (q 12)])), ((q 8), .inl (cI, 5, .inl (u2 10))), ((q 9), .inl (cI, 32, .inl (u2 13))), ((q 10), .inl (cI, 32, .inl (u2 14))), ((q 11), .inl (cI, 32, .inl (u2 15))), ((q 12), .inl (cI, 32, .inl (u2 16))), ((q2 7), .inr (1, [.ref (q2 0), .ref (q2 4), .ref (q2 8), .int (u2 11 0), .int (u2 12 0), .ref (q2 9), .ref (q2 10), .ref (q2 11), .ref (q2 12)])), ((q2 8), .inl (cI, 5, .inl (u2 10))), ((q2 9), .inl (cI, 32, .inl (u2 13))), ((q2 10), .inl (cI, 32, .inl (u2 14))), ((q2 11), .inl (cI, 32, .inl (u2 15))), ((q2 12), .inl (cI, 32, .inl (u2 16))), ((q 0), .inr (3, [.int (v_1 0 0), .ref (q 1), .ref (q 2), .ref (q 3), .int (v_1 4 0), .int (v_1 5 0), .int (v_1 6 0), .int (v_1 7 0)])), ((q 1), .inl (cI, 10, .inl (v_1 1))), ((q 2), .inl (cI, 10, .inl (v_1 2))), ((q 3), .inl (cI, 10, .inl (v_1 3))), ((q2 0), .inr (3, [.int (u2 0 0), .ref (q2 1), .ref (q2 2), .ref (q2 3), .int (u2 4 0), .int (u2 5 0), .int (u2 6 0), .int (u2 7 0)])), ((q2 1), .inl (cI, 10, .inl (u2 1))), ((q2 2), .inl (cI, 10, .inl (u2 2))), ((q2 3), .inl (cI, 10, .inl (u2 3))), ((q 4), .inr (2, [.ref (q 5), .ref (q 6)])), ((q 5), .inl (cI, 3, .inl (v_3 8))), ((q 6), .inl (cI, 3, .inl (v_3 9))), ((q2 4), .inr (2, [.ref (q2 5), .ref (q2 6)])), ((q2 5), .inl (cI, 3, .inl (u2 8))), ((q2 6), .inl (cI, 3, .inl (u2 9)))]) rfl (fun H locs hw => ?_)
  exact ret _ _ _ _ (by subst ev_3; subst ev_1; exact (hw.sub [0, 1, 2, 3, 4, 5, 12, 13, 14, 15, 20, 21, 22, 6, 7, 8, 9, 10, 11, 16, 17, 18, 19, 23, 24, 25] (by decide +kernel) rfl)) dX1_copyFrom_112
