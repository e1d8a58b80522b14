set_option maxHeartbeats 4000000 in
set_option maxRecDepth 100000 in
/-- Model.in -/
theorem c_X6_in (l : Launch) (D : va_G) (cI cC cL : ClassId) (x y z : Int32) : y_MI l yX6_in wsX6_in 0 0 D cI cC cL [.int x, .int y, .int z] [] (mIn x y z) (fun _ : Unit => []) () := by
  refine y_startI (cc := cX6_in) (maxL := 3) (ret := some .boolean) (by decide +kernel) rfl (Nat.le_of_ble_eq_true rfl) ⟨_, rfl, fun x h => by rcases h rfl with rfl | rfl <;> rfl⟩ (fun _ => mIn_01) ?_
  intro p e s mm args below meth c A QQ ls S hw ret hl
  have S : CallFix p mm c cX6_in 3 s args wsX6_in RX6 := S
  have hw : y_W D cI cC cL A s s.heap [] [] := hw
  have hl : lv_has ls 3 [(0, .int x), (1, .int y), (2, .int z)] := hl
  refine lv_iload_n S.1 S.2.1 dX6_in_0 rfl (lv_at hl 0 rfl) ?_
  refine lv_iload_n S.1 S.2.1 dX6_in_1 rfl (lv_at hl 1 rfl) ?_
  refine lv_icmp_lt (tgt := 14) S.1 S.2.1 dX6_in_2 (by decide) (fun c_1 => ?_) (fun c_1 => ?_)
  · skip
    refine lv_iconst (v := 0) S.1 S.2.1 dX6_in_14 (by decide) ?_
    exact ret _ _ _ _ _ (by exact hw) (by simp only [mIn, c_1, ↓reduceIte]) dX6_in_15
  · skip
    refine lv_iload_n S.1 S.2.1 dX6_in_5 rfl (lv_at hl 0 rfl) ?_
    refine lv_iload_n S.1 S.2.1 dX6_in_6 rfl (lv_at hl 2 rfl) ?_
    refine lv_icmp_gt (tgt := 14) S.1 S.2.1 dX6_in_7 (by decide) (fun c_2 => ?_) (fun c_2 => ?_)
    · skip
      refine lv_iconst (v := 0) S.1 S.2.1 dX6_in_14 (by decide) ?_
      exact ret _ _ _ _ _ (by exact hw) (by simp only [mIn, c_1, c_2, ↓reduceIte]) dX6_in_15
    · skip
      refine lv_iconst (v := 1) S.1 S.2.1 dX6_in_10 (by decide) ?_
      refine lv_goto (tgt := 15) S.1 S.2.1 dX6_in_11 (by decide) ?_
      exact ret _ _ _ _ _ (by exact hw) (by simp only [mIn, c_1, c_2, ↓reduceIte]) dX6_in_15

set_option maxHeartbeats 4000000 in
set_option maxRecDepth 100000 in
/-- Model.staying -/
theorem c_X6_staying (l : Launch) (D : va_G) (cI cC cL : ClassId) (a : Nat) (f : V1) (k : Nat) (hk : k < 10) : y_MI l yX6_staying wsX6_staying 0 0 D cI cC cL [.ref a, .int (nI k)] [(a, .inl (cI, 162, .inl f))] (mStay f k) (fun _ : Unit => [(a, .inl (cI, 162, .inl f))]) () := by
  refine y_startI (cc := cX6_staying) (maxL := 2) (ret := some .int) (by decide +kernel) rfl (Nat.le_of_ble_eq_true rfl) ⟨_, rfl, fun x _ => rfl⟩ (fun h => by cases h) ?_
  intro p e s mm args below meth c A QQ ls S hw ret hl
  have S : CallFix p mm c cX6_staying 2 s args wsX6_staying RX6 := S
  have hw : y_W D cI cC cL A s s.heap [] [(a, .inl (cI, 162, .inl f))] := hw
  have hl : lv_has ls 2 [(0, .ref a), (1, .int (nI k))] := hl
  refine lv_aload_n S.1 S.2.1 dX6_staying_0 rfl (lv_at hl 0 rfl) ?_
  refine lv_bipush (v := 10) S.1 S.2.1 dX6_staying_1 (by decide) ?_
  refine lv_iload_n S.1 S.2.1 dX6_staying_3 rfl (lv_at hl 1 rfl) ?_
  refine y_iaddN S 10 k dX6_staying_4 ?_
  refine y_iald S hw 0 (k := (10 + k)) rfl (by omega) (Nat.le_of_ble_eq_true rfl) dX6_staying_5 ?_
  refine lv_aload_n S.1 S.2.1 dX6_staying_6 rfl (lv_at hl 0 rfl) ?_
  refine lv_bipush (v := 20) S.1 S.2.1 dX6_staying_7 (by decide) ?_
  refine lv_iload_n S.1 S.2.1 dX6_staying_9 rfl (lv_at hl 1 rfl) ?_
  refine y_iaddN S 20 k dX6_staying_10 ?_
  refine y_iald S hw 0 (k := (20 + k)) rfl (by omega) (Nat.le_of_ble_eq_true rfl) dX6_staying_11 ?_
  refine lv_imul S.1 S.2.1 dX6_staying_12 ?_
  refine lv_sipush (v := 1000) S.1 S.2.1 dX6_staying_13 (by decide) ?_
  refine lv_idiv S.1 S.2.1 dX6_staying_16 (by decide) ?_
  exact ret _ _ _ _ _ (by exact hw) (by rfl) dX6_staying_17

set_option maxHeartbeats 4000000 in
set_option maxRecDepth 100000 in
/-- Model.leaking -/
theorem c_X6_leaking (l : Launch) (D : va_G) (cI cC cL : ClassId) (a : Nat) (f : V1) (k : Nat) (hk : k < 10) : y_MI l yX6_leaking wsX6_leaking 1 21 D cI cC cL [.ref a, .int (nI k)] [(a, .inl (cI, 162, .inl f))] (mLeak f k) (fun _ : Unit => [(a, .inl (cI, 162, .inl f))]) () := by
  refine y_startI (cc := cX6_leaking) (maxL := 2) (ret := some .int) (by decide +kernel) rfl (Nat.le_of_ble_eq_true rfl) ⟨_, rfl, fun x _ => rfl⟩ (fun h => by cases h) ?_
  intro p e s mm args below meth c A QQ ls S hw ret hl
  have S : CallFix p mm c cX6_leaking 2 s args wsX6_leaking RX6 := S
  have hw : y_W D cI cC cL A s s.heap [] [(a, .inl (cI, 162, .inl f))] := hw
  have hl : lv_has ls 2 [(0, .ref a), (1, .int (nI k))] := hl
  refine lv_aload_n S.1 S.2.1 dX6_leaking_0 rfl (lv_at hl 0 rfl) ?_
  refine lv_bipush (v := 10) S.1 S.2.1 dX6_leaking_1 (by decide) ?_
  refine lv_iload_n S.1 S.2.1 dX6_leaking_3 rfl (lv_at hl 1 rfl) ?_
  refine y_iaddN S 10 k dX6_leaking_4 ?_
  refine y_iald S hw 0 (k := (10 + k)) rfl (by omega) (Nat.le_of_ble_eq_true rfl) dX6_leaking_5 ?_
  refine lv_aload_n S.1 S.2.1 dX6_leaking_6 rfl (lv_at hl 0 rfl) ?_
  refine lv_iload_n S.1 S.2.1 dX6_leaking_7 rfl (lv_at hl 1 rfl) ?_
  refine y_callSI (As := [.ref a, .int (nI k)]) (rest := [.int (f (10 + k))]) S hw hl.1 (c_X6_staying l D cI cC cL a f k (by omega)) (va_cwS 2 S.2.2.2.2 gX6_leaking_X6_staying rfl rfl rfl (by decide +kernel) ⟨Nat.le_of_ble_eq_true rfl, Nat.le_of_ble_eq_true rfl⟩) [0] [] rfl (by decide +kernel) (wr := []) rfl (by decide +kernel) (by decide +kernel) rfl (Nat.le_of_ble_eq_true rfl) dX6_leaking_8 rfl ⟨Nat.le_refl _, Nat.le_refl _⟩ (fun H locs v_1 x_2 ev_1 ex_2 hw => ?_)
  have hw : y_W D cI cC cL A s H locs [(a, .inl (cI, 162, .inl f))] := hw
  subst ex_2
  refine lv_isub S.1 S.2.1 dX6_leaking_11 ?_
  refine lv_aload_n S.1 S.2.1 dX6_leaking_12 rfl (lv_at hl 0 rfl) ?_
  refine lv_bipush (v := 30) S.1 S.2.1 dX6_leaking_13 (by decide) ?_
  refine lv_iload_n S.1 S.2.1 dX6_leaking_15 rfl (lv_at hl 1 rfl) ?_
  refine y_iaddN S 30 k dX6_leaking_16 ?_
  refine y_iald S hw 0 (k := (30 + k)) rfl (by omega) (Nat.le_of_ble_eq_true rfl) dX6_leaking_17 ?_
  refine lv_imul S.1 S.2.1 dX6_leaking_18 ?_
  refine lv_sipush (v := 1000) S.1 S.2.1 dX6_leaking_19 (by decide) ?_
  refine lv_idiv S.1 S.2.1 dX6_leaking_22 (by decide) ?_
  exact ret _ _ _ _ _ (by exact hw) (by rfl) dX6_leaking_23

set_option maxHeartbeats 4000000 in
set_option maxRecDepth 100000 in
/-- Model.moving -/
theorem c_X6_moving (l : Launch) (D : va_G) (cI cC cL : ClassId) (a : Nat) (f : V1) (k : Nat) (hk : k < 10) : y_MI l yX6_moving wsX6_moving 2 42 D cI cC cL [.ref a, .int (nI k)] [(a, .inl (cI, 162, .inl f))] (mMov f k) (fun _ : Unit => [(a, .inl (cI, 162, .inl f))]) () := by
  refine y_startI (cc := cX6_moving) (maxL := 2) (ret := some .int) (by decide +kernel) rfl (Nat.le_of_ble_eq_true rfl) ⟨_, rfl, fun x _ => rfl⟩ (fun h => by cases h) ?_
  intro p e s mm args below meth c A QQ ls S hw ret hl
  have S : CallFix p mm c cX6_moving 2 s args wsX6_moving RX6 := S
  have hw : y_W D cI cC cL A s s.heap [] [(a, .inl (cI, 162, .inl f))] := hw
  have hl : lv_has ls 2 [(0, .ref a), (1, .int (nI k))] := hl
  refine lv_aload_n S.1 S.2.1 dX6_moving_0 rfl (lv_at hl 0 rfl) ?_
  refine lv_bipush (v := 10) S.1 S.2.1 dX6_moving_1 (by decide) ?_
  refine lv_iload_n S.1 S.2.1 dX6_moving_3 rfl (lv_at hl 1 rfl) ?_
  refine y_iaddN S 10 k dX6_moving_4 ?_
  refine y_iald S hw 0 (k := (10 + k)) rfl (by omega) (Nat.le_of_ble_eq_true rfl) dX6_moving_5 ?_
  refine lv_aload_n S.1 S.2.1 dX6_moving_6 rfl (lv_at hl 0 rfl) ?_
  refine lv_iload_n S.1 S.2.1 dX6_moving_7 rfl (lv_at hl 1 rfl) ?_
  refine y_callSI (As := [.ref a, .int (nI k)]) (rest := [.int (f (10 + k))]) S hw hl.1 (c_X6_staying l D cI cC cL a f k (by omega)) (va_cwS 2 S.2.2.2.2 gX6_moving_X6_staying rfl rfl rfl (by decide +kernel) ⟨Nat.le_of_ble_eq_true rfl, Nat.le_of_ble_eq_true rfl⟩) [0] [] rfl (by decide +kernel) (wr := []) rfl (by decide +kernel) (by decide +kernel) rfl (Nat.le_of_ble_eq_true rfl) dX6_moving_8 rfl ⟨Nat.le_refl _, Nat.le_refl _⟩ (fun H locs v_1 x_2 ev_1 ex_2 hw => ?_)
  have hw : y_W D cI cC cL A s H locs [(a, .inl (cI, 162, .inl f))] := hw
  subst ex_2
  refine lv_isub S.1 S.2.1 dX6_moving_11 ?_
  refine lv_aload_n S.1 S.2.1 dX6_moving_12 rfl (lv_at hl 0 rfl) ?_
  refine lv_iload_n S.1 S.2.1 dX6_moving_13 rfl (lv_at hl 1 rfl) ?_
  refine y_callSI (As := [.ref a, .int (nI k)]) (rest := [.int ((f (10 + k)) - (mStay f k))]) S hw hl.1 (c_X6_leaking l D cI cC cL a f k (by omega)) (va_cwS 2 S.2.2.2.2 gX6_moving_X6_leaking rfl rfl rfl (by decide +kernel) ⟨Nat.le_of_ble_eq_true rfl, Nat.le_of_ble_eq_true rfl⟩) [0] [] rfl (by decide +kernel) (wr := []) rfl (by decide +kernel) (by decide +kernel) rfl (Nat.le_of_ble_eq_true rfl) dX6_moving_14 rfl ⟨Nat.le_refl _, Nat.le_refl _⟩ (fun H locs v_3 x_4 ev_3 ex_4 hw => ?_)
  have hw : y_W D cI cC cL A s H locs [(a, .inl (cI, 162, .inl f))] := hw
  subst ex_4
  refine lv_isub S.1 S.2.1 dX6_moving_17 ?_
  exact ret _ _ _ _ _ (by exact hw) (by rfl) dX6_moving_18

set_option maxHeartbeats 4000000 in
set_option maxRecDepth 100000 in
/-- Model.handsOver -/
theorem c_X6_handsOver (l : Launch) (D : va_G) (cI cC cL : ClassId) (a : Nat) (f : V1) (x : Int32) (n : Nat) (hn : f 0 = nI n) (h10 : n ≤ 10) : y_MI l yX6_handsOver wsX6_handsOver 3 63 D cI cC cL [.ref a, .int x] [(a, .inl (cI, 162, .inl f))] ((mHO x f n).2) (fun v : V1 => [(a, .inl (cI, 162, .inl v))]) ((mHO x f n).1) := by
  refine y_startI (cc := cX6_handsOver) (maxL := 8) (ret := some .int) (by decide +kernel) rfl (Nat.le_of_ble_eq_true rfl) ⟨_, rfl, fun x _ => rfl⟩ (fun h => by cases h) ?_
  intro p e s mm args below meth c A QQ ls S hw ret hl
  have S : CallFix p mm c cX6_handsOver 8 s args wsX6_handsOver RX6 := S
  have hw : y_W D cI cC cL A s s.heap [] [(a, .inl (cI, 162, .inl f))] := hw
  have hl : lv_has ls 8 [(0, .ref a), (1, .int x)] := hl
  refine lv_iload_n S.1 S.2.1 dX6_handsOver_0 rfl (lv_at hl 1 rfl) ?_
  refine lv_istore_n (lv' := [(2, .int x), (0, .ref a), (1, .int x)]) S.1 S.2.1 dX6_handsOver_1 rfl hl (by decide) rfl (fun ls hl => ?_)
  refine lv_iconst (v := 0) S.1 S.2.1 dX6_handsOver_2 (by decide) ?_
  refine lv_istore_n (lv' := [(3, .int 0), (2, .int x), (0, .ref a), (1, .int x)]) S.1 S.2.1 dX6_handsOver_3 rfl hl (by decide) rfl (fun ls hl => ?_)
  have lp4 : ∀ (fuel : Nat) (i : Nat) (z : Int32) (g : V1), (i ≤ n) → ((g, z) = mHL x f i) → (g 0 = nI n) → (n - i) < fuel → ∀ (H : Heap) (locs : List Loc) (ls : Array Slot), y_W D cI cC cL A s H locs [(a, .inl (cI, 162, .inl g))] → lv_has ls 8 [(0, .ref a), (1, .int x), (2, .int z), (3, .int (nI i))] → W p l e (y_R 3 63) s mm args below meth c H locs 0 0 QQ (F0 mm 4 ls []) := by
    intro fuel
    induction fuel with
    | zero =>
      intro i z g hi hv h0 hfu
      exact absurd hfu (Nat.not_lt_zero _)
    | succ fuel ih4 =>
      intro i z g hi hv h0 hfu H locs ls hw hl
      refine lv_iload_n S.1 S.2.1 dX6_handsOver_4 rfl (lv_at hl 3 rfl) ?_
      refine lv_aload_n S.1 S.2.1 dX6_handsOver_5 rfl (lv_at hl 0 rfl) ?_
      refine lv_iconst (v := 0) S.1 S.2.1 dX6_handsOver_6 (by decide) ?_
      refine y_iald S hw 0 (k := 0) rfl (by omega) (Nat.le_of_ble_eq_true rfl) dX6_handsOver_7 ?_
      refine y_top (y := (nI n)) (h0) ?_
      refine lv_icmp_ge (tgt := 92) S.1 S.2.1 dX6_handsOver_8 (by decide) (fun c_1 => ?_) (fun c_1 => ?_)
      · skip
        have c_1N : n ≤ i := (nI_leI (a := n) (b := i) (by omega) (by omega)).mp c_1
        refine lv_aload_n S.1 S.2.1 dX6_handsOver_92 rfl (lv_at hl 0 rfl) ?_
        refine lv_bipush (v := 46) S.1 S.2.1 dX6_handsOver_93 (by decide) ?_
        refine lv_dup2_11 S.1 S.2.1 dX6_handsOver_95 rfl rfl ?_
        refine y_iald S hw 0 (k := 46) rfl (by omega) (Nat.le_of_ble_eq_true rfl) dX6_handsOver_96 ?_
        refine lv_iload_n S.1 S.2.1 dX6_handsOver_97 rfl (lv_at hl 1 rfl) ?_
        refine lv_iadd S.1 S.2.1 dX6_handsOver_98 ?_
        refine y_iast S hw 0 (k := 46) rfl (by omega) (Nat.le_of_ble_eq_true rfl) dX6_handsOver_99 (ws' := [(a, .inl (cI, 162, .inl (upd g 46 ((g 46) + x))))]) rfl (fun H locs hw => ?_)
        refine lv_aload_n S.1 S.2.1 dX6_handsOver_100 rfl (lv_at hl 0 rfl) ?_
        refine lv_bipush (v := 47) S.1 S.2.1 dX6_handsOver_101 (by decide) ?_
        refine lv_dup2_11 S.1 S.2.1 dX6_handsOver_103 rfl rfl ?_
        refine y_iald S hw 0 (k := 47) rfl (by omega) (Nat.le_of_ble_eq_true rfl) dX6_handsOver_104 ?_
        refine y_top (y := (g 47)) (pk_un (by omega)) ?_
        refine lv_iload_n S.1 S.2.1 dX6_handsOver_105 rfl (lv_at hl 2 rfl) ?_
        refine lv_iadd S.1 S.2.1 dX6_handsOver_106 ?_
        refine y_iast S hw 0 (k := 47) rfl (by omega) (Nat.le_of_ble_eq_true rfl) dX6_handsOver_107 (ws' := [(a, .inl (cI, 162, .inl (upd (upd g 46 ((g 46) + x)) 47 ((g 47) + z))))]) rfl (fun H locs hw => ?_)
        refine lv_iload_n S.1 S.2.1 dX6_handsOver_108 rfl (lv_at hl 2 rfl) ?_
        have hJ : mHO x f n = ((upd (upd g 46 ((g 46) + x)) 47 ((g 47) + z)), z) := by
          rw [show n = i from by omega, mHO, ← hv]
        exact ret _ _ _ _ _ (by rw [hJ]; exact hw) (by rw [hJ]) dX6_handsOver_109
      · skip
        have c_1N : ¬ n ≤ i := fun z => c_1 ((nI_leI (a := n) (b := i) (by omega) (by omega)).mpr z)
        refine lv_aload_n S.1 S.2.1 dX6_handsOver_11 rfl (lv_at hl 0 rfl) ?_
        refine lv_iload_n S.1 S.2.1 dX6_handsOver_12 rfl (lv_at hl 3 rfl) ?_
        refine y_callSI (As := [.ref a, .int (nI i)]) (rest := []) S hw hl.1 (c_X6_staying l D cI cC cL a g i (by omega)) (va_cwS 2 S.2.2.2.2 gX6_handsOver_X6_staying rfl rfl rfl (by decide +kernel) ⟨Nat.le_of_ble_eq_true rfl, Nat.le_of_ble_eq_true rfl⟩) [0] [] rfl (by decide +kernel) (wr := []) rfl (by decide +kernel) (by decide +kernel) rfl (Nat.le_of_ble_eq_true rfl) dX6_handsOver_13 rfl ⟨Nat.le_refl _, Nat.le_refl _⟩ (fun H locs v_2 x_3 ev_2 ex_3 hw => ?_)
        have hw : y_W D cI cC cL A s H locs [(a, .inl (cI, 162, .inl g))] := hw
        subst ex_3
        refine lv_istore (lv' := [(4, .int (mStay g i)), (0, .ref a), (1, .int x), (2, .int z), (3, .int (nI i))]) S.1 S.2.1 dX6_handsOver_16 hl (by decide) rfl (fun ls hl => ?_)
        refine lv_aload_n S.1 S.2.1 dX6_handsOver_18 rfl (lv_at hl 1 rfl) ?_
        refine lv_iload_n S.1 S.2.1 dX6_handsOver_19 rfl (lv_at hl 4 rfl) ?_
        refine y_callSI (As := [.ref a, .int (nI i)]) (rest := []) S hw hl.1 (c_X6_moving l D cI cC cL a g i (by omega)) (va_cwS 2 S.2.2.2.2 gX6_handsOver_X6_moving rfl rfl rfl (by decide +kernel) ⟨Nat.le_of_ble_eq_true rfl, Nat.le_of_ble_eq_true rfl⟩) [0] [] rfl (by decide +kernel) (wr := []) rfl (by decide +kernel) (by decide +kernel) rfl (Nat.le_of_ble_eq_true rfl) dX6_handsOver_20 rfl ⟨Nat.le_refl _, Nat.le_refl _⟩ (fun H locs v_4 x_5 ev_4 ex_5 hw => ?_)
        have hw : y_W D cI cC cL A s H locs [(a, .inl (cI, 162, .inl g))] := hw
        subst ex_5
        refine lv_istore (lv' := [(5, .int (mMov g i)), (4, .int (mStay g i)), (0, .ref a), (1, .int x), (2, .int z), (3, .int (nI i))]) S.1 S.2.1 dX6_handsOver_23 hl (by decide) rfl (fun ls hl => ?_)
        refine lv_aload_n S.1 S.2.1 dX6_handsOver_25 rfl (lv_at hl 2 rfl) ?_
        refine lv_bipush (v := 48) S.1 S.2.1 dX6_handsOver_26 (by decide) ?_
        refine lv_dup2_11 S.1 S.2.1 dX6_handsOver_28 rfl rfl ?_
        refine y_iald S hw 0 (k := 48) rfl (by omega) (Nat.le_of_ble_eq_true rfl) dX6_handsOver_29 ?_
        refine lv_aload_n S.1 S.2.1 dX6_handsOver_30 rfl (lv_at hl 2 rfl) ?_
        refine lv_iload_n S.1 S.2.1 dX6_handsOver_31 rfl (lv_at hl 5 rfl) ?_
        refine y_callSI (As := [.ref a, .int (nI i)]) (rest := [.int (g 48), .int 48, .ref a]) S hw hl.1 (c_X6_leaking l D cI cC cL a g i (by omega)) (va_cwS 2 S.2.2.2.2 gX6_handsOver_X6_leaking rfl rfl rfl (by decide +kernel) ⟨Nat.le_of_ble_eq_true rfl, Nat.le_of_ble_eq_true rfl⟩) [0] [] rfl (by decide +kernel) (wr := []) rfl (by decide +kernel) (by decide +kernel) rfl (Nat.le_of_ble_eq_true rfl) dX6_handsOver_32 rfl ⟨Nat.le_refl _, Nat.le_refl _⟩ (fun H locs v_6 x_7 ev_6 ex_7 hw => ?_)
        have hw : y_W D cI cC cL A s H locs [(a, .inl (cI, 162, .inl g))] := hw
        subst ex_7
        refine lv_iadd S.1 S.2.1 dX6_handsOver_35 ?_
        refine y_iast S hw 0 (k := 48) rfl (by omega) (Nat.le_of_ble_eq_true rfl) dX6_handsOver_36 (ws' := [(a, .inl (cI, 162, .inl (upd g 48 ((g 48) + (mLeak g i)))))]) rfl (fun H locs hw => ?_)
        refine lv_iload S.1 S.2.1 dX6_handsOver_37 (lv_at hl 1 rfl) ?_
        refine lv_iload_n S.1 S.2.1 dX6_handsOver_39 rfl (lv_at hl 4 rfl) ?_
        refine lv_iadd S.1 S.2.1 dX6_handsOver_40 ?_
        refine lv_istore (lv' := [(6, .int ((mStay g i) + z)), (5, .int (mMov g i)), (4, .int (mStay g i)), (0, .ref a), (1, .int x), (2, .int z), (3, .int (nI i))]) S.1 S.2.1 dX6_handsOver_41 hl (by decide) rfl (fun ls hl => ?_)
        refine lv_iload S.1 S.2.1 dX6_handsOver_43 (lv_at hl 0 rfl) ?_
        refine lv_aload_n S.1 S.2.1 dX6_handsOver_45 rfl (lv_at hl 3 rfl) ?_
        refine lv_iconst (v := 5) S.1 S.2.1 dX6_handsOver_46 (by decide) ?_
        refine y_iald S hw 0 (k := 5) rfl (by omega) (Nat.le_of_ble_eq_true rfl) dX6_handsOver_47 ?_
        refine y_top (y := (g 5)) (pk_un (by omega)) ?_
        refine lv_icmp_le (tgt := 60) S.1 S.2.1 dX6_handsOver_48 (by decide) (fun c_8 => ?_) (fun c_8 => ?_)
        · skip
          refine lv_iconst (v := 0) S.1 S.2.1 dX6_handsOver_60 (by decide) ?_
          refine lv_istore (lv' := [(7, .int 0), (6, .int ((mStay g i) + z)), (5, .int (mMov g i)), (4, .int (mStay g i)), (0, .ref a), (1, .int x), (2, .int z), (3, .int (nI i))]) S.1 S.2.1 dX6_handsOver_61 hl (by decide) rfl (fun ls hl => ?_)
          refine lv_aload_n S.1 S.2.1 dX6_handsOver_63 rfl (lv_at hl 4 rfl) ?_
          refine lv_bipush (v := 49) S.1 S.2.1 dX6_handsOver_64 (by decide) ?_
          refine lv_dup2_11 S.1 S.2.1 dX6_handsOver_66 rfl rfl ?_
          refine y_iald S hw 0 (k := 49) rfl (by omega) (Nat.le_of_ble_eq_true rfl) dX6_handsOver_67 ?_
          refine y_top (y := (g 49)) (pk_un (by omega)) ?_
          refine lv_iload S.1 S.2.1 dX6_handsOver_68 (lv_at hl 0 rfl) ?_
          refine lv_iadd S.1 S.2.1 dX6_handsOver_70 ?_
          refine y_iast S hw 0 (k := 49) rfl (by omega) (Nat.le_of_ble_eq_true rfl) dX6_handsOver_71 (ws' := [(a, .inl (cI, 162, .inl (upd (upd g 48 ((g 48) + (mLeak g i))) 49 ((g 49) + 0))))]) rfl (fun H locs hw => ?_)
          refine lv_aload_n S.1 S.2.1 dX6_handsOver_72 rfl (lv_at hl 4 rfl) ?_
          refine lv_bipush (v := 10) S.1 S.2.1 dX6_handsOver_73 (by decide) ?_
          refine lv_iload_n S.1 S.2.1 dX6_handsOver_75 rfl (lv_at hl 7 rfl) ?_
          refine y_iaddN S 10 i dX6_handsOver_76 ?_
          refine lv_iload S.1 S.2.1 dX6_handsOver_77 (lv_at hl 1 rfl) ?_
          refine lv_iload S.1 S.2.1 dX6_handsOver_79 (lv_at hl 0 rfl) ?_
          refine lv_isub S.1 S.2.1 dX6_handsOver_81 ?_
          refine y_iast S hw 0 (k := (10 + i)) rfl (by omega) (Nat.le_of_ble_eq_true rfl) dX6_handsOver_82 (ws' := [(a, .inl (cI, 162, .inl (upd (upd (upd g 48 ((g 48) + (mLeak g i))) 49 ((g 49) + 0)) (10 + i) (((mStay g i) + z) - 0))))]) rfl (fun H locs hw => ?_)
          refine lv_iload S.1 S.2.1 dX6_handsOver_83 (lv_at hl 2 rfl) ?_
          refine lv_istore_n (lv' := [(2, .int (mMov g i)), (7, .int 0), (6, .int ((mStay g i) + z)), (5, .int (mMov g i)), (4, .int (mStay g i)), (0, .ref a), (1, .int x), (3, .int (nI i))]) S.1 S.2.1 dX6_handsOver_85 rfl hl (by decide) rfl (fun ls hl => ?_)
          refine lv_iinc (v := (nI (i + 1))) (lv' := [(3, .int (nI (i + 1))), (2, .int (mMov g i)), (7, .int 0), (6, .int ((mStay g i) + z)), (5, .int (mMov g i)), (4, .int (mStay g i)), (0, .ref a), (1, .int x)]) S.1 S.2.1 dX6_handsOver_86 hl (k := 7) rfl (by first | exact nI_1 _ | exact nI_add _ _) (by decide) rfl (fun ls hl => ?_)
          refine lv_goto (tgt := 4) S.1 S.2.1 dX6_handsOver_89 (by decide) ?_
          exact ih4 (i + 1) (mMov g i) (upd (upd (upd g 48 ((g 48) + (mLeak g i))) 49 ((g 49) + 0)) (10 + i) (((mStay g i) + z) - 0)) (by omega) (by rw [mHL, ← hv]; simp only [mHS, mOver, c_1, c_8, ↓reduceIte]) (by rw [pk_un (by omega), pk_un (by decide), pk_un (by decide)]; exact h0) (by omega) _ _ ls hw (lv_sub hl [6, 7, 1, 0] rfl)
        · skip
          refine lv_iload S.1 S.2.1 dX6_handsOver_51 (lv_at hl 0 rfl) ?_
          refine lv_aload_n S.1 S.2.1 dX6_handsOver_53 rfl (lv_at hl 3 rfl) ?_
          refine lv_iconst (v := 5) S.1 S.2.1 dX6_handsOver_54 (by decide) ?_
          refine y_iald S hw 0 (k := 5) rfl (by omega) (Nat.le_of_ble_eq_true rfl) dX6_handsOver_55 ?_
          refine y_top (y := (g 5)) (pk_un (by omega)) ?_
          refine lv_isub S.1 S.2.1 dX6_handsOver_56 ?_
          refine lv_goto (tgt := 61) S.1 S.2.1 dX6_handsOver_57 (by decide) ?_
          refine lv_istore (lv' := [(7, .int (((mStay g i) + z) - (g 5))), (6, .int ((mStay g i) + z)), (5, .int (mMov g i)), (4, .int (mStay g i)), (0, .ref a), (1, .int x), (2, .int z), (3, .int (nI i))]) S.1 S.2.1 dX6_handsOver_61 hl (by decide) rfl (fun ls hl => ?_)
          refine lv_aload_n S.1 S.2.1 dX6_handsOver_63 rfl (lv_at hl 4 rfl) ?_
          refine lv_bipush (v := 49) S.1 S.2.1 dX6_handsOver_64 (by decide) ?_
          refine lv_dup2_11 S.1 S.2.1 dX6_handsOver_66 rfl rfl ?_
          refine y_iald S hw 0 (k := 49) rfl (by omega) (Nat.le_of_ble_eq_true rfl) dX6_handsOver_67 ?_
          refine y_top (y := (g 49)) (pk_un (by omega)) ?_
          refine lv_iload S.1 S.2.1 dX6_handsOver_68 (lv_at hl 0 rfl) ?_
          refine lv_iadd S.1 S.2.1 dX6_handsOver_70 ?_
          refine y_iast S hw 0 (k := 49) rfl (by omega) (Nat.le_of_ble_eq_true rfl) dX6_handsOver_71 (ws' := [(a, .inl (cI, 162, .inl (upd (upd g 48 ((g 48) + (mLeak g i))) 49 ((g 49) + (((mStay g i) + z) - (g 5))))))]) rfl (fun H locs hw => ?_)
          refine lv_aload_n S.1 S.2.1 dX6_handsOver_72 rfl (lv_at hl 4 rfl) ?_
          refine lv_bipush (v := 10) S.1 S.2.1 dX6_handsOver_73 (by decide) ?_
          refine lv_iload_n S.1 S.2.1 dX6_handsOver_75 rfl (lv_at hl 7 rfl) ?_
          refine y_iaddN S 10 i dX6_handsOver_76 ?_
          refine lv_iload S.1 S.2.1 dX6_handsOver_77 (lv_at hl 1 rfl) ?_
          refine lv_iload S.1 S.2.1 dX6_handsOver_79 (lv_at hl 0 rfl) ?_
          refine lv_isub S.1 S.2.1 dX6_handsOver_81 ?_
          refine y_iast S hw 0 (k := (10 + i)) rfl (by omega) (Nat.le_of_ble_eq_true rfl) dX6_handsOver_82 (ws' := [(a, .inl (cI, 162, .inl (upd (upd (upd g 48 ((g 48) + (mLeak g i))) 49 ((g 49) + (((mStay g i) + z) - (g 5)))) (10 + i) (((mStay g i) + z) - (((mStay g i) + z) - (g 5))))))]) rfl (fun H locs hw => ?_)
          refine lv_iload S.1 S.2.1 dX6_handsOver_83 (lv_at hl 2 rfl) ?_
          refine lv_istore_n (lv' := [(2, .int (mMov g i)), (7, .int (((mStay g i) + z) - (g 5))), (6, .int ((mStay g i) + z)), (5, .int (mMov g i)), (4, .int (mStay g i)), (0, .ref a), (1, .int x), (3, .int (nI i))]) S.1 S.2.1 dX6_handsOver_85 rfl hl (by decide) rfl (fun ls hl => ?_)
          refine lv_iinc (v := (nI (i + 1))) (lv' := [(3, .int (nI (i + 1))), (2, .int (mMov g i)), (7, .int (((mStay g i) + z) - (g 5))), (6, .int ((mStay g i) + z)), (5, .int (mMov g i)), (4, .int (mStay g i)), (0, .ref a), (1, .int x)]) S.1 S.2.1 dX6_handsOver_86 hl (k := 7) rfl (by first | exact nI_1 _ | exact nI_add _ _) (by decide) rfl (fun ls hl => ?_)
          refine lv_goto (tgt := 4) S.1 S.2.1 dX6_handsOver_89 (by decide) ?_
          exact ih4 (i + 1) (mMov g i) (upd (upd (upd g 48 ((g 48) + (mLeak g i))) 49 ((g 49) + (((mStay g i) + z) - (g 5)))) (10 + i) (((mStay g i) + z) - (((mStay g i) + z) - (g 5)))) (by omega) (by rw [mHL, ← hv]; simp only [mHS, mOver, c_1, c_8, ↓reduceIte]) (by rw [pk_un (by omega), pk_un (by decide), pk_un (by decide)]; exact h0) (by omega) _ _ ls hw (lv_sub hl [6, 7, 1, 0] rfl)
  exact lp4 ((n - 0) + 1) 0 x f (Nat.zero_le _) (rfl) (hn) (Nat.lt_succ_self _) _ _ ls hw (lv_sub hl [2, 3, 1, 0] rfl)

set_option maxHeartbeats 4000000 in
set_option maxRecDepth 100000 in
/-- Model.inStages -/
theorem c_X6_inStages (l : Launch) (D : va_G) (cI cC cL : ClassId) (a : Nat) (f : V1) (n : Nat) (hn : f 0 = nI n) (h10 : n ≤ 10) : y_MI l yX6_inStages wsX6_inStages 0 0 D cI cC cL [.ref a] [(a, .inl (cI, 162, .inl f))] (mSum f n) (fun _ : Unit => [(a, .inl (cI, 162, .inl f))]) () := by
  refine y_startI (cc := cX6_inStages) (maxL := 3) (ret := some .int) (by decide +kernel) rfl (Nat.le_of_ble_eq_true rfl) ⟨_, rfl, fun x _ => rfl⟩ (fun h => by cases h) ?_
  intro p e s mm args below meth c A QQ ls S hw ret hl
  have S : CallFix p mm c cX6_inStages 3 s args wsX6_inStages RX6 := S
  have hw : y_W D cI cC cL A s s.heap [] [(a, .inl (cI, 162, .inl f))] := hw
  have hl : lv_has ls 3 [(0, .ref a)] := hl
  refine lv_iconst (v := 0) S.1 S.2.1 dX6_inStages_0 (by decide) ?_
  refine lv_istore_n (lv' := [(1, .int 0), (0, .ref a)]) S.1 S.2.1 dX6_inStages_1 rfl hl (by decide) rfl (fun ls hl => ?_)
  refine lv_iconst (v := 0) S.1 S.2.1 dX6_inStages_2 (by decide) ?_
  refine lv_istore_n (lv' := [(2, .int 0), (1, .int 0), (0, .ref a)]) S.1 S.2.1 dX6_inStages_3 rfl hl (by decide) rfl (fun ls hl => ?_)
  have lp4 : ∀ (fuel : Nat) (i : Nat), (i ≤ n) → (n - i) < fuel → ∀ (H : Heap) (locs : List Loc) (ls : Array Slot), y_W D cI cC cL A s H locs [(a, .inl (cI, 162, .inl f))] → lv_has ls 3 [(0, .ref a), (1, .int (mSum f i)), (2, .int (nI i))] → W p l e (y_R 0 0) s mm args below meth c H locs 0 0 QQ (F0 mm 4 ls []) := by
    intro fuel
    induction fuel with
    | zero =>
      intro i hi hfu
      exact absurd hfu (Nat.not_lt_zero _)
    | succ fuel ih4 =>
      intro i hi hfu H locs ls hw hl
      refine lv_iload_n S.1 S.2.1 dX6_inStages_4 rfl (lv_at hl 2 rfl) ?_
      refine lv_aload_n S.1 S.2.1 dX6_inStages_5 rfl (lv_at hl 0 rfl) ?_
      refine lv_iconst (v := 0) S.1 S.2.1 dX6_inStages_6 (by decide) ?_
      refine y_iald S hw 0 (k := 0) rfl (by omega) (Nat.le_of_ble_eq_true rfl) dX6_inStages_7 ?_
      refine y_top (y := (nI n)) (hn) ?_
      refine lv_icmp_ge (tgt := 26) S.1 S.2.1 dX6_inStages_8 (by decide) (fun c_1 => ?_) (fun c_1 => ?_)
      · skip
        have c_1N : n ≤ i := (nI_leI (a := n) (b := i) (by omega) (by omega)).mp c_1
        refine lv_iload_n S.1 S.2.1 dX6_inStages_26 rfl (lv_at hl 1 rfl) ?_
        exact ret _ _ _ _ _ (by exact hw) (by rw [show n = i from by omega]) dX6_inStages_27
      · skip
        have c_1N : ¬ n ≤ i := fun z => c_1 ((nI_leI (a := n) (b := i) (by omega) (by omega)).mpr z)
        refine lv_iload_n S.1 S.2.1 dX6_inStages_11 rfl (lv_at hl 1 rfl) ?_
        refine lv_aload_n S.1 S.2.1 dX6_inStages_12 rfl (lv_at hl 0 rfl) ?_
        refine lv_bipush (v := 10) S.1 S.2.1 dX6_inStages_13 (by decide) ?_
        refine lv_iload_n S.1 S.2.1 dX6_inStages_15 rfl (lv_at hl 2 rfl) ?_
        refine y_iaddN S 10 i dX6_inStages_16 ?_
        refine y_iald S hw 0 (k := (10 + i)) rfl (by omega) (Nat.le_of_ble_eq_true rfl) dX6_inStages_17 ?_
        refine lv_iadd S.1 S.2.1 dX6_inStages_18 ?_
        refine lv_istore_n (lv' := [(1, .int ((mSum f i) + (f (10 + i)))), (0, .ref a), (2, .int (nI i))]) S.1 S.2.1 dX6_inStages_19 rfl hl (by decide) rfl (fun ls hl => ?_)
        refine lv_iinc (v := (nI (i + 1))) (lv' := [(2, .int (nI (i + 1))), (1, .int ((mSum f i) + (f (10 + i)))), (0, .ref a)]) S.1 S.2.1 dX6_inStages_20 hl (k := 2) rfl (by first | exact nI_1 _ | exact nI_add _ _) (by decide) rfl (fun ls hl => ?_)
        refine lv_goto (tgt := 4) S.1 S.2.1 dX6_inStages_23 (by decide) ?_
        exact ih4 (i + 1) (by omega) (by omega) _ _ ls hw (lv_sub hl [2, 1, 0] rfl)
  exact lp4 ((n - 0) + 1) 0 (Nat.zero_le _) (Nat.lt_succ_self _) _ _ ls hw (lv_sub hl [2, 1, 0] rfl)

theorem i_X6_begins_X6 : ∀ w ∈ u_ws RX6 TX6 13, w ∈ wsX6_begins := by decide +kernel
theorem f_X6_begins_7 : Cond.fieldLink RX6 7 "ChargeLinesModel" "s" "[I" ∈ wsX6_begins := by decide +kernel
set_option maxHeartbeats 4000000 in
set_option maxRecDepth 100000 in
/-- Model.begins -/
theorem c_X6_begins (l : Launch) (D : va_G) (cI cC cL : ClassId) (q : Nat → Nat) (u : U) (n : Nat) (hn : u 0 0 = nI n) (h10 : n ≤ 10) : y_MV l yX6_begins wsX6_begins 0 0 D cI cC cL [.ref (q 0)] (cMd cI q u) (fun v : U => cMd cI q v) (va_up u 0 (mBeg (u 0) n)) := by
  refine y_startV (cc := cX6_begins) (maxL := 2) (by decide) rfl (Nat.le_of_ble_eq_true rfl) ?_
  intro p e s mm args below meth c A QQ ls S hw ret hl
  have S : CallFix p mm c cX6_begins 2 s args wsX6_begins RX6 := S
  have hw : y_W D cI cC cL A s s.heap [] [((q 0), .inr (6, [.ref (q 1), .ref (q 2), .ref (q 3), .int (u 3 0), .ref (q 4), .int (u 5 0), .ref (q 5), .int (u 7 0), .int (u 8 0), .int (u 9 0), .int (u 10 0), .int (u 11 0), .ref (q 6)])), ((q 1), .inl (cI, 162, .inl (u 0))), ((q 2), .inl (cI, 162, .inl (u 1))), ((q 3), .inl (cI, 648, .inl (u 2))), ((q 4), .inl (cI, 60, .inl (u 4))), ((q 5), .inl (cI, 3, .inl (u 6))), ((q 6), .inl (cI, 3, .inl (u 12)))] := hw
  have hl : lv_has ls 2 [(0, .ref (q 0))] := hl
  refine lv_iconst (v := 0) S.1 S.2.1 dX6_begins_0 (by decide) ?_
  refine lv_istore_n (lv' := [(1, .int 0), (0, .ref (q 0))]) S.1 S.2.1 dX6_begins_1 rfl hl (by decide) rfl (fun ls hl => ?_)
  have lp2 : ∀ (fuel : Nat) (i : Nat) (g : V1), (i ≤ n) → (g = mFil (u 0) 10 0 i) → (g 0 = nI n) → (n - i) < fuel → ∀ (H : Heap) (locs : List Loc) (ls : Array Slot), y_W D cI cC cL A s H locs [((q 0), .inr (6, [.ref (q 1), .ref (q 2), .ref (q 3), .int (u 3 0), .ref (q 4), .int (u 5 0), .ref (q 5), .int (u 7 0), .int (u 8 0), .int (u 9 0), .int (u 10 0), .int (u 11 0), .ref (q 6)])), ((q 1), .inl (cI, 162, .inl g)), ((q 2), .inl (cI, 162, .inl (u 1))), ((q 3), .inl (cI, 648, .inl (u 2))), ((q 4), .inl (cI, 60, .inl (u 4))), ((q 5), .inl (cI, 3, .inl (u 6))), ((q 6), .inl (cI, 3, .inl (u 12)))] → lv_has ls 2 [(0, .ref (q 0)), (1, .int (nI i))] → W p l e (y_R 0 0) s mm args below meth c H locs 0 0 QQ (F0 mm 2 ls []) := by
    intro fuel
    induction fuel with
    | zero =>
      intro i g hi hv h0 hfu
      exact absurd hfu (Nat.not_lt_zero _)
    | succ fuel ih2 =>
      intro i g hi hv h0 hfu H locs ls hw hl
      refine lv_iload_n S.1 S.2.1 dX6_begins_2 rfl (lv_at hl 1 rfl) ?_
      refine lv_aload_n S.1 S.2.1 dX6_begins_3 rfl (lv_at hl 0 rfl) ?_
      refine y_get S hw (C := RX6) (T := TX6) (N := 13) i_X6_begins_X6 0 rfl rfl 0 (by decide) f_X6_begins_7 rfl dX6_begins_4 ?_
      refine lv_iconst (v := 0) S.1 S.2.1 dX6_begins_7 (by decide) ?_
      refine y_iald S hw 1 (k := 0) rfl (by omega) (Nat.le_of_ble_eq_true rfl) dX6_begins_8 ?_
      refine y_top (y := (nI n)) (h0) ?_
      refine lv_icmp_ge (tgt := 28) S.1 S.2.1 dX6_begins_9 (by decide) (fun c_1 => ?_) (fun c_1 => ?_)
      · skip
        have c_1N : n ≤ i := (nI_leI (a := n) (b := i) (by omega) (by omega)).mp c_1
        refine lv_aload_n S.1 S.2.1 dX6_begins_28 rfl (lv_at hl 0 rfl) ?_
        refine y_get S hw (C := RX6) (T := TX6) (N := 13) i_X6_begins_X6 0 rfl rfl 0 (by decide) f_X6_begins_7 rfl dX6_begins_29 ?_
        refine lv_iconst (v := 1) S.1 S.2.1 dX6_begins_32 (by decide) ?_
        refine lv_iconst (v := 0) S.1 S.2.1 dX6_begins_33 (by decide) ?_
        refine y_iast S hw 1 (k := 1) rfl (by omega) (Nat.le_of_ble_eq_true rfl) dX6_begins_34 (ws' := [((q 0), .inr (6, [.ref (q 1), .ref (q 2), .ref (q 3), .int (u 3 0), .ref (q 4), .int (u 5 0), .ref (q 5), .int (u 7 0), .int (u 8 0), .int (u 9 0), .int (u 10 0), .int (u 11 0), .ref (q 6)])), ((q 1), .inl (cI, 162, .inl (upd g 1 0))), ((q 2), .inl (cI, 162, .inl (u 1))), ((q 3), .inl (cI, 648, .inl (u 2))), ((q 4), .inl (cI, 60, .inl (u 4))), ((q 5), .inl (cI, 3, .inl (u 6))), ((q 6), .inl (cI, 3, .inl (u 12)))]) rfl (fun H locs hw => ?_)
        refine lv_aload_n S.1 S.2.1 dX6_begins_35 rfl (lv_at hl 0 rfl) ?_
        refine y_get S hw (C := RX6) (T := TX6) (N := 13) i_X6_begins_X6 0 rfl rfl 0 (by decide) f_X6_begins_7 rfl dX6_begins_36 ?_
        refine lv_iconst (v := 2) S.1 S.2.1 dX6_begins_39 (by decide) ?_
        refine lv_iconst (v := 0) S.1 S.2.1 dX6_begins_40 (by decide) ?_
        refine y_iast S hw 1 (k := 2) rfl (by omega) (Nat.le_of_ble_eq_true rfl) dX6_begins_41 (ws' := [((q 0), .inr (6, [.ref (q 1), .ref (q 2), .ref (q 3), .int (u 3 0), .ref (q 4), .int (u 5 0), .ref (q 5), .int (u 7 0), .int (u 8 0), .int (u 9 0), .int (u 10 0), .int (u 11 0), .ref (q 6)])), ((q 1), .inl (cI, 162, .inl (upd (upd g 1 0) 2 0))), ((q 2), .inl (cI, 162, .inl (u 1))), ((q 3), .inl (cI, 648, .inl (u 2))), ((q 4), .inl (cI, 60, .inl (u 4))), ((q 5), .inl (cI, 3, .inl (u 6))), ((q 6), .inl (cI, 3, .inl (u 12)))]) rfl (fun H locs hw => ?_)
        refine lv_aload_n S.1 S.2.1 dX6_begins_42 rfl (lv_at hl 0 rfl) ?_
        refine y_get S hw (C := RX6) (T := TX6) (N := 13) i_X6_begins_X6 0 rfl rfl 0 (by decide) f_X6_begins_7 rfl dX6_begins_43 ?_
        refine lv_iconst (v := 3) S.1 S.2.1 dX6_begins_46 (by decide) ?_
        refine lv_iconst (v := 0) S.1 S.2.1 dX6_begins_47 (by decide) ?_
        refine y_iast S hw 1 (k := 3) rfl (by omega) (Nat.le_of_ble_eq_true rfl) dX6_begins_48 (ws' := [((q 0), .inr (6, [.ref (q 1), .ref (q 2), .ref (q 3), .int (u 3 0), .ref (q 4), .int (u 5 0), .ref (q 5), .int (u 7 0), .int (u 8 0), .int (u 9 0), .int (u 10 0), .int (u 11 0), .ref (q 6)])), ((q 1), .inl (cI, 162, .inl (upd (upd (upd g 1 0) 2 0) 3 0))), ((q 2), .inl (cI, 162, .inl (u 1))), ((q 3), .inl (cI, 648, .inl (u 2))), ((q 4), .inl (cI, 60, .inl (u 4))), ((q 5), .inl (cI, 3, .inl (u 6))), ((q 6), .inl (cI, 3, .inl (u 12)))]) rfl (fun H locs hw => ?_)
        refine lv_aload_n S.1 S.2.1 dX6_begins_49 rfl (lv_at hl 0 rfl) ?_
        refine y_get S hw (C := RX6) (T := TX6) (N := 13) i_X6_begins_X6 0 rfl rfl 0 (by decide) f_X6_begins_7 rfl dX6_begins_50 ?_
        refine lv_iconst (v := 4) S.1 S.2.1 dX6_begins_53 (by decide) ?_
        refine lv_iconst (v := 0) S.1 S.2.1 dX6_begins_54 (by decide) ?_
        refine y_iast S hw 1 (k := 4) rfl (by omega) (Nat.le_of_ble_eq_true rfl) dX6_begins_55 (ws' := [((q 0), .inr (6, [.ref (q 1), .ref (q 2), .ref (q 3), .int (u 3 0), .ref (q 4), .int (u 5 0), .ref (q 5), .int (u 7 0), .int (u 8 0), .int (u 9 0), .int (u 10 0), .int (u 11 0), .ref (q 6)])), ((q 1), .inl (cI, 162, .inl (upd (upd (upd (upd g 1 0) 2 0) 3 0) 4 0))), ((q 2), .inl (cI, 162, .inl (u 1))), ((q 3), .inl (cI, 648, .inl (u 2))), ((q 4), .inl (cI, 60, .inl (u 4))), ((q 5), .inl (cI, 3, .inl (u 6))), ((q 6), .inl (cI, 3, .inl (u 12)))]) rfl (fun H locs hw => ?_)
        refine lv_iconst (v := 0) S.1 S.2.1 dX6_begins_56 (by decide) ?_
        refine lv_istore_n (lv' := [(1, .int 0), (0, .ref (q 0))]) S.1 S.2.1 dX6_begins_57 rfl hl (by decide) rfl (fun ls hl => ?_)
        have lp58 : ∀ (fuel : Nat) (j : Nat) (g2 : V1), (j ≤ 3) → (g2 = mFil (upd (upd (upd (upd (mFil (u 0) 10 0 n) 1 0) 2 0) 3 0) 4 0) 40 (-1) j) → (3 - j) < fuel → ∀ (H : Heap) (locs : List Loc) (ls : Array Slot), y_W D cI cC cL A s H locs [((q 0), .inr (6, [.ref (q 1), .ref (q 2), .ref (q 3), .int (u 3 0), .ref (q 4), .int (u 5 0), .ref (q 5), .int (u 7 0), .int (u 8 0), .int (u 9 0), .int (u 10 0), .int (u 11 0), .ref (q 6)])), ((q 1), .inl (cI, 162, .inl g2)), ((q 2), .inl (cI, 162, .inl (u 1))), ((q 3), .inl (cI, 648, .inl (u 2))), ((q 4), .inl (cI, 60, .inl (u 4))), ((q 5), .inl (cI, 3, .inl (u 6))), ((q 6), .inl (cI, 3, .inl (u 12)))] → lv_has ls 2 [(0, .ref (q 0)), (1, .int (nI j))] → W p l e (y_R 0 0) s mm args below meth c H locs 0 0 QQ (F0 mm 58 ls []) := by
          intro fuel
          induction fuel with
          | zero =>
            intro j g2 hj hv2 hfu
            exact absurd hfu (Nat.not_lt_zero _)
          | succ fuel ih58 =>
            intro j g2 hj hv2 hfu H locs ls hw hl
            refine lv_iload_n S.1 S.2.1 dX6_begins_58 rfl (lv_at hl 1 rfl) ?_
            refine lv_iconst (v := 3) S.1 S.2.1 dX6_begins_59 (by decide) ?_
            refine lv_icmp_ge (tgt := 79) S.1 S.2.1 dX6_begins_60 (by decide) (fun c_2 => ?_) (fun c_2 => ?_)
            · skip
              have c_2N : 3 ≤ j := (nI_leI (a := 3) (b := j) (by omega) (by omega)).mp c_2
              refine lv_bipush (v := 46) S.1 S.2.1 dX6_begins_79 (by decide) ?_
              refine lv_istore_n (lv' := [(1, .int 46), (0, .ref (q 0))]) S.1 S.2.1 dX6_begins_81 rfl hl (by decide) rfl (fun ls hl => ?_)
              have lp82 : ∀ (fuel : Nat) (k : Nat) (g3 : V1), (k ≤ 4) → (g3 = mFil (mFil (upd (upd (upd (upd (mFil (u 0) 10 0 n) 1 0) 2 0) 3 0) 4 0) 40 (-1) 3) 46 0 k) → (4 - k) < fuel → ∀ (H : Heap) (locs : List Loc) (ls : Array Slot), y_W D cI cC cL A s H locs [((q 0), .inr (6, [.ref (q 1), .ref (q 2), .ref (q 3), .int (u 3 0), .ref (q 4), .int (u 5 0), .ref (q 5), .int (u 7 0), .int (u 8 0), .int (u 9 0), .int (u 10 0), .int (u 11 0), .ref (q 6)])), ((q 1), .inl (cI, 162, .inl g3)), ((q 2), .inl (cI, 162, .inl (u 1))), ((q 3), .inl (cI, 648, .inl (u 2))), ((q 4), .inl (cI, 60, .inl (u 4))), ((q 5), .inl (cI, 3, .inl (u 6))), ((q 6), .inl (cI, 3, .inl (u 12)))] → lv_has ls 2 [(0, .ref (q 0)), (1, .int (nI (46 + k)))] → W p l e (y_R 0 0) s mm args below meth c H locs 0 0 QQ (F0 mm 82 ls []) := by
                intro fuel
                induction fuel with
                | zero =>
                  intro k g3 hk hv3 hfu
                  exact absurd hfu (Nat.not_lt_zero _)
                | succ fuel ih82 =>
                  intro k g3 hk hv3 hfu H locs ls hw hl
                  refine lv_iload_n S.1 S.2.1 dX6_begins_82 rfl (lv_at hl 1 rfl) ?_
                  refine lv_bipush (v := 49) S.1 S.2.1 dX6_begins_83 (by decide) ?_
                  refine lv_icmp_gt (tgt := 101) S.1 S.2.1 dX6_begins_85 (by decide) (fun c_3 => ?_) (fun c_3 => ?_)
                  · skip
                    have c_3N : 49 < (46 + k) := (nI_ltI (a := 49) (b := (46 + k)) (by omega) (by omega)).mp c_3
                    exact ret _ _ _ _ (by have e4 : k = 4 := (by omega); rw [e4] at hv3; rw [mBeg, ← hv3]; exact hw) dX6_begins_101
                  · skip
                    have c_3N : ¬ 49 < (46 + k) := fun z => c_3 ((nI_ltI (a := 49) (b := (46 + k)) (by omega) (by omega)).mpr z)
                    refine lv_aload_n S.1 S.2.1 dX6_begins_88 rfl (lv_at hl 0 rfl) ?_
                    refine y_get S hw (C := RX6) (T := TX6) (N := 13) i_X6_begins_X6 0 rfl rfl 0 (by decide) f_X6_begins_7 rfl dX6_begins_89 ?_
                    refine lv_iload_n S.1 S.2.1 dX6_begins_92 rfl (lv_at hl 1 rfl) ?_
                    refine lv_iconst (v := 0) S.1 S.2.1 dX6_begins_93 (by decide) ?_
                    refine y_iast S hw 1 (k := (46 + k)) rfl (by omega) (Nat.le_of_ble_eq_true rfl) dX6_begins_94 (ws' := [((q 0), .inr (6, [.ref (q 1), .ref (q 2), .ref (q 3), .int (u 3 0), .ref (q 4), .int (u 5 0), .ref (q 5), .int (u 7 0), .int (u 8 0), .int (u 9 0), .int (u 10 0), .int (u 11 0), .ref (q 6)])), ((q 1), .inl (cI, 162, .inl (upd g3 (46 + k) 0))), ((q 2), .inl (cI, 162, .inl (u 1))), ((q 3), .inl (cI, 648, .inl (u 2))), ((q 4), .inl (cI, 60, .inl (u 4))), ((q 5), .inl (cI, 3, .inl (u 6))), ((q 6), .inl (cI, 3, .inl (u 12)))]) rfl (fun H locs hw => ?_)
                    refine lv_iinc (v := (nI ((46 + k) + 1))) (lv' := [(1, .int (nI ((46 + k) + 1))), (0, .ref (q 0))]) S.1 S.2.1 dX6_begins_95 hl (k := 1) rfl (by first | exact nI_1 _ | exact nI_add _ _) (by decide) rfl (fun ls hl => ?_)
                    refine lv_goto (tgt := 82) S.1 S.2.1 dX6_begins_98 (by decide) ?_
                    exact ih82 (k + 1) (upd g3 (46 + k) 0) (by omega) (by rw [hv3]; rfl) (by omega) _ _ ls hw (lv_sub hl [1, 0] rfl)
              exact lp82 ((4 - 0) + 1) 0 g2 (Nat.zero_le _) (by rw [hv2, show j = 3 from by omega]; rfl) (Nat.lt_succ_self _) _ _ ls hw (lv_sub hl [1, 0] rfl)
            · skip
              have c_2N : ¬ 3 ≤ j := fun z => c_2 ((nI_leI (a := 3) (b := j) (by omega) (by omega)).mpr z)
              refine lv_aload_n S.1 S.2.1 dX6_begins_63 rfl (lv_at hl 0 rfl) ?_
              refine y_get S hw (C := RX6) (T := TX6) (N := 13) i_X6_begins_X6 0 rfl rfl 0 (by decide) f_X6_begins_7 rfl dX6_begins_64 ?_
              refine lv_bipush (v := 40) S.1 S.2.1 dX6_begins_67 (by decide) ?_
              refine lv_iload_n S.1 S.2.1 dX6_begins_69 rfl (lv_at hl 1 rfl) ?_
              refine y_iaddN S 40 j dX6_begins_70 ?_
              refine lv_iconst (v := (-1)) S.1 S.2.1 dX6_begins_71 (by decide) ?_
              refine y_iast S hw 1 (k := (40 + j)) rfl (by omega) (Nat.le_of_ble_eq_true rfl) dX6_begins_72 (ws' := [((q 0), .inr (6, [.ref (q 1), .ref (q 2), .ref (q 3), .int (u 3 0), .ref (q 4), .int (u 5 0), .ref (q 5), .int (u 7 0), .int (u 8 0), .int (u 9 0), .int (u 10 0), .int (u 11 0), .ref (q 6)])), ((q 1), .inl (cI, 162, .inl (upd g2 (40 + j) (-1)))), ((q 2), .inl (cI, 162, .inl (u 1))), ((q 3), .inl (cI, 648, .inl (u 2))), ((q 4), .inl (cI, 60, .inl (u 4))), ((q 5), .inl (cI, 3, .inl (u 6))), ((q 6), .inl (cI, 3, .inl (u 12)))]) rfl (fun H locs hw => ?_)
              refine lv_iinc (v := (nI (j + 1))) (lv' := [(1, .int (nI (j + 1))), (0, .ref (q 0))]) S.1 S.2.1 dX6_begins_73 hl (k := 1) rfl (by first | exact nI_1 _ | exact nI_add _ _) (by decide) rfl (fun ls hl => ?_)
              refine lv_goto (tgt := 58) S.1 S.2.1 dX6_begins_76 (by decide) ?_
              exact ih58 (j + 1) (upd g2 (40 + j) (-1)) (by omega) (by rw [hv2]; rfl) (by omega) _ _ ls hw (lv_sub hl [1, 0] rfl)
        exact lp58 ((3 - 0) + 1) 0 (upd (upd (upd (upd g 1 0) 2 0) 3 0) 4 0) (Nat.zero_le _) (by rw [hv, show i = n from by omega]; rfl) (Nat.lt_succ_self _) _ _ ls hw (lv_sub hl [1, 0] rfl)
      · skip
        have c_1N : ¬ n ≤ i := fun z => c_1 ((nI_leI (a := n) (b := i) (by omega) (by omega)).mpr z)
        refine lv_aload_n S.1 S.2.1 dX6_begins_12 rfl (lv_at hl 0 rfl) ?_
        refine y_get S hw (C := RX6) (T := TX6) (N := 13) i_X6_begins_X6 0 rfl rfl 0 (by decide) f_X6_begins_7 rfl dX6_begins_13 ?_
        refine lv_bipush (v := 10) S.1 S.2.1 dX6_begins_16 (by decide) ?_
        refine lv_iload_n S.1 S.2.1 dX6_begins_18 rfl (lv_at hl 1 rfl) ?_
        refine y_iaddN S 10 i dX6_begins_19 ?_
        refine lv_iconst (v := 0) S.1 S.2.1 dX6_begins_20 (by decide) ?_
        refine y_iast S hw 1 (k := (10 + i)) rfl (by omega) (Nat.le_of_ble_eq_true rfl) dX6_begins_21 (ws' := [((q 0), .inr (6, [.ref (q 1), .ref (q 2), .ref (q 3), .int (u 3 0), .ref (q 4), .int (u 5 0), .ref (q 5), .int (u 7 0), .int (u 8 0), .int (u 9 0), .int (u 10 0), .int (u 11 0), .ref (q 6)])), ((q 1), .inl (cI, 162, .inl (upd g (10 + i) 0))), ((q 2), .inl (cI, 162, .inl (u 1))), ((q 3), .inl (cI, 648, .inl (u 2))), ((q 4), .inl (cI, 60, .inl (u 4))), ((q 5), .inl (cI, 3, .inl (u 6))), ((q 6), .inl (cI, 3, .inl (u 12)))]) rfl (fun H locs hw => ?_)
        refine lv_iinc (v := (nI (i + 1))) (lv' := [(1, .int (nI (i + 1))), (0, .ref (q 0))]) S.1 S.2.1 dX6_begins_22 hl (k := 1) rfl (by first | exact nI_1 _ | exact nI_add _ _) (by decide) rfl (fun ls hl => ?_)
        refine lv_goto (tgt := 2) S.1 S.2.1 dX6_begins_25 (by decide) ?_
        exact ih2 (i + 1) (upd g (10 + i) 0) (by omega) (by rw [hv]; rfl) (by rw [pk_un (by omega)]; exact h0) (by omega) _ _ ls hw (lv_sub hl [1, 0] rfl)
  exact lp2 ((n - 0) + 1) 0 (u 0) (Nat.zero_le _) (rfl) (hn) (Nat.lt_succ_self _) _ _ ls hw (lv_sub hl [1, 0] rfl)

theorem i_X6_records_X6 : ∀ w ∈ u_ws RX6 TX6 13, w ∈ wsX6_records := by decide +kernel
theorem f_X6_records_31 : Cond.fieldLink RX6 31 "ChargeLinesModel" "saved" "I" ∈ wsX6_records := by decide +kernel
theorem f_X6_records_16 : Cond.fieldLink RX6 16 "ChargeLinesModel" "past" "[I" ∈ wsX6_records := by decide +kernel
theorem f_X6_records_7 : Cond.fieldLink RX6 7 "ChargeLinesModel" "s" "[I" ∈ wsX6_records := by decide +kernel
set_option maxHeartbeats 4000000 in
set_option maxRecDepth 100000 in
/-- Model.records -/
theorem c_X6_records (l : Launch) (D : va_G) (cI cC cL : ClassId) (q : Nat → Nat) (u : U) (k : Nat) (hs : u 3 0 = nI k) (hk4 : k ≤ 4) : y_MV l yX6_records wsX6_records 0 0 D cI cC cL [.ref (q 0)] (cMd cI q u) (fun v : U => cMd cI q v) (mRec u k) := by
  refine y_startV (cc := cX6_records) (maxL := 2) (by decide) rfl (Nat.le_of_ble_eq_true rfl) ?_
  intro p e s mm args below meth c A QQ ls S hw ret hl
  have S : CallFix p mm c cX6_records 2 s args wsX6_records RX6 := S
  have hw : y_W D cI cC cL A s s.heap [] [((q 0), .inr (6, [.ref (q 1), .ref (q 2), .ref (q 3), .int (u 3 0), .ref (q 4), .int (u 5 0), .ref (q 5), .int (u 7 0), .int (u 8 0), .int (u 9 0), .int (u 10 0), .int (u 11 0), .ref (q 6)])), ((q 1), .inl (cI, 162, .inl (u 0))), ((q 2), .inl (cI, 162, .inl (u 1))), ((q 3), .inl (cI, 648, .inl (u 2))), ((q 4), .inl (cI, 60, .inl (u 4))), ((q 5), .inl (cI, 3, .inl (u 6))), ((q 6), .inl (cI, 3, .inl (u 12)))] := hw
  have hl : lv_has ls 2 [(0, .ref (q 0))] := hl
  refine lv_aload_n S.1 S.2.1 dX6_records_0 rfl (lv_at hl 0 rfl) ?_
  refine y_get S hw (C := RX6) (T := TX6) (N := 13) i_X6_records_X6 0 rfl rfl 3 (by decide) f_X6_records_31 rfl dX6_records_1 ?_
  refine y_top (y := (nI k)) (hs) ?_
  refine lv_iconst (v := 4) S.1 S.2.1 dX6_records_4 (by decide) ?_
  refine lv_icmp_ne (tgt := 49) S.1 S.2.1 dX6_records_5 (by decide) (fun c_1 => ?_) (fun c_1 => ?_)
  · skip
    have c_1N : ¬ k = 4 := fun z => c_1 ((nI_eq (a := k) (b := 4) (by omega) (by omega)).mpr z)
    refine lv_iconst (v := 0) S.1 S.2.1 dX6_records_49 (by decide) ?_
    refine lv_istore_n (lv' := [(1, .int 0), (0, .ref (q 0))]) S.1 S.2.1 dX6_records_50 rfl hl (by decide) rfl (fun ls hl => ?_)
    have lp51 : ∀ (fuel : Nat) (i2 : Nat) (g2 : V1), (i2 ≤ 162) → (g2 = mPut (u 2) (u 0) (162 * k) 0 i2) → (162 - i2) < fuel → ∀ (H : Heap) (locs : List Loc) (ls : Array Slot), y_W D cI cC cL A s H locs [((q 0), .inr (6, [.ref (q 1), .ref (q 2), .ref (q 3), .int (u 3 0), .ref (q 4), .int (u 5 0), .ref (q 5), .int (u 7 0), .int (u 8 0), .int (u 9 0), .int (u 10 0), .int (u 11 0), .ref (q 6)])), ((q 1), .inl (cI, 162, .inl (u 0))), ((q 2), .inl (cI, 162, .inl (u 1))), ((q 3), .inl (cI, 648, .inl g2)), ((q 4), .inl (cI, 60, .inl (u 4))), ((q 5), .inl (cI, 3, .inl (u 6))), ((q 6), .inl (cI, 3, .inl (u 12)))] → lv_has ls 2 [(0, .ref (q 0)), (1, .int (nI i2))] → W p l e (y_R 0 0) s mm args below meth c H locs 0 0 QQ (F0 mm 51 ls []) := by
      intro fuel
      induction fuel with
      | zero =>
        intro i2 g2 hi2 hv2 hfu
        exact absurd hfu (Nat.not_lt_zero _)
      | succ fuel ih51 =>
        intro i2 g2 hi2 hv2 hfu H locs ls hw hl
        refine lv_iload_n S.1 S.2.1 dX6_records_51 rfl (lv_at hl 1 rfl) ?_
        refine lv_sipush (v := 162) S.1 S.2.1 dX6_records_52 (by decide) ?_
        refine lv_icmp_ge (tgt := 85) S.1 S.2.1 dX6_records_55 (by decide) (fun c_2 => ?_) (fun c_2 => ?_)
        · skip
          have c_2N : 162 ≤ i2 := (nI_leI (a := 162) (b := i2) (by omega) (by omega)).mp c_2
          refine lv_aload_n S.1 S.2.1 dX6_records_85 rfl (lv_at hl 0 rfl) ?_
          refine lv_dup S.1 S.2.1 dX6_records_86 rfl ?_
          refine y_get S hw (C := RX6) (T := TX6) (N := 13) i_X6_records_X6 0 rfl rfl 3 (by decide) f_X6_records_31 rfl dX6_records_87 ?_
          refine y_top (y := (nI k)) (hs) ?_
          refine lv_iconst (v := 1) S.1 S.2.1 dX6_records_90 (by decide) ?_
          refine y_iaddN S k 1 dX6_records_91 ?_
          refine y_put S hw (C := RX6) (T := TX6) (N := 13) i_X6_records_X6 tyX6_ok nmX6 0 rfl rfl 3 (by decide) f_X6_records_31 (by decide +kernel) rfl rfl (Nat.le_of_ble_eq_true rfl) dX6_records_92 (ws' := [((q 0), .inr (6, [.ref (q 1), .ref (q 2), .ref (q 3), .int (nI (k + 1)), .ref (q 4), .int (u 5 0), .ref (q 5), .int (u 7 0), .int (u 8 0), .int (u 9 0), .int (u 10 0), .int (u 11 0), .ref (q 6)])), ((q 1), .inl (cI, 162, .inl (u 0))), ((q 2), .inl (cI, 162, .inl (u 1))), ((q 3), .inl (cI, 648, .inl g2)), ((q 4), .inl (cI, 60, .inl (u 4))), ((q 5), .inl (cI, 3, .inl (u 6))), ((q 6), .inl (cI, 3, .inl (u 12)))]) rfl (fun H locs hw => ?_)
          exact ret _ _ _ _ (by have e2 : i2 = 162 := (by omega); rw [show mRec u k = mRecAt u (u 2) k from by rw [mRec, if_neg c_1N]]; unfold mRecAt; rw [e2] at hv2; rw [← hv2]; exact hw) dX6_records_95
        · skip
          have c_2N : ¬ 162 ≤ i2 := fun z => c_2 ((nI_leI (a := 162) (b := i2) (by omega) (by omega)).mpr z)
          refine lv_aload_n S.1 S.2.1 dX6_records_58 rfl (lv_at hl 0 rfl) ?_
          refine y_get S hw (C := RX6) (T := TX6) (N := 13) i_X6_records_X6 0 rfl rfl 2 (by decide) f_X6_records_16 rfl dX6_records_59 ?_
          refine lv_sipush (v := 162) S.1 S.2.1 dX6_records_62 (by decide) ?_
          refine lv_aload_n S.1 S.2.1 dX6_records_65 rfl (lv_at hl 0 rfl) ?_
          refine y_get S hw (C := RX6) (T := TX6) (N := 13) i_X6_records_X6 0 rfl rfl 3 (by decide) f_X6_records_31 rfl dX6_records_66 ?_
          refine y_top (y := (nI k)) (hs) ?_
          refine y_imulN S 162 k dX6_records_69 ?_
          refine lv_iload_n S.1 S.2.1 dX6_records_70 rfl (lv_at hl 1 rfl) ?_
          refine y_iaddN S (162 * k) i2 dX6_records_71 ?_
          refine lv_aload_n S.1 S.2.1 dX6_records_72 rfl (lv_at hl 0 rfl) ?_
          refine y_get S hw (C := RX6) (T := TX6) (N := 13) i_X6_records_X6 0 rfl rfl 0 (by decide) f_X6_records_7 rfl dX6_records_73 ?_
          refine lv_iload_n S.1 S.2.1 dX6_records_76 rfl (lv_at hl 1 rfl) ?_
          refine y_iald S hw 1 (k := i2) rfl (by omega) (Nat.le_of_ble_eq_true rfl) dX6_records_77 ?_
          refine y_iast S hw 3 (k := ((162 * k) + i2)) rfl (by omega) (Nat.le_of_ble_eq_true rfl) dX6_records_78 (ws' := [((q 0), .inr (6, [.ref (q 1), .ref (q 2), .ref (q 3), .int (u 3 0), .ref (q 4), .int (u 5 0), .ref (q 5), .int (u 7 0), .int (u 8 0), .int (u 9 0), .int (u 10 0), .int (u 11 0), .ref (q 6)])), ((q 1), .inl (cI, 162, .inl (u 0))), ((q 2), .inl (cI, 162, .inl (u 1))), ((q 3), .inl (cI, 648, .inl (upd g2 ((162 * k) + i2) ((u 0) i2)))), ((q 4), .inl (cI, 60, .inl (u 4))), ((q 5), .inl (cI, 3, .inl (u 6))), ((q 6), .inl (cI, 3, .inl (u 12)))]) rfl (fun H locs hw => ?_)
          refine lv_iinc (v := (nI (i2 + 1))) (lv' := [(1, .int (nI (i2 + 1))), (0, .ref (q 0))]) S.1 S.2.1 dX6_records_79 hl (k := 1) rfl (by first | exact nI_1 _ | exact nI_add _ _) (by decide) rfl (fun ls hl => ?_)
          refine lv_goto (tgt := 51) S.1 S.2.1 dX6_records_82 (by decide) ?_
          exact ih51 (i2 + 1) (upd g2 ((162 * k) + i2) ((u 0) i2)) (by omega) (by rw [hv2, mPut, Nat.zero_add]) (by omega) _ _ ls hw (lv_sub hl [1, 0] rfl)
    exact lp51 ((162 - 0) + 1) 0 (u 2) (Nat.zero_le _) (rfl) (Nat.lt_succ_self _) _ _ ls hw (lv_sub hl [1, 0] rfl)
  · skip
    have c_1N : k = 4 := (nI_eq (a := k) (b := 4) (by omega) (by omega)).mp c_1
    refine lv_iconst (v := 0) S.1 S.2.1 dX6_records_8 (by decide) ?_
    refine lv_istore_n (lv' := [(1, .int 0), (0, .ref (q 0))]) S.1 S.2.1 dX6_records_9 rfl hl (by decide) rfl (fun ls hl => ?_)
    have lp10 : ∀ (fuel : Nat) (i : Nat) (g : V1), (i ≤ 486) → (g = mDown (u 2) 0 162 i) → (486 - i) < fuel → ∀ (H : Heap) (locs : List Loc) (ls : Array Slot), y_W D cI cC cL A s H locs [((q 0), .inr (6, [.ref (q 1), .ref (q 2), .ref (q 3), .int (u 3 0), .ref (q 4), .int (u 5 0), .ref (q 5), .int (u 7 0), .int (u 8 0), .int (u 9 0), .int (u 10 0), .int (u 11 0), .ref (q 6)])), ((q 1), .inl (cI, 162, .inl (u 0))), ((q 2), .inl (cI, 162, .inl (u 1))), ((q 3), .inl (cI, 648, .inl g)), ((q 4), .inl (cI, 60, .inl (u 4))), ((q 5), .inl (cI, 3, .inl (u 6))), ((q 6), .inl (cI, 3, .inl (u 12)))] → lv_has ls 2 [(0, .ref (q 0)), (1, .int (nI i))] → W p l e (y_R 0 0) s mm args below meth c H locs 0 0 QQ (F0 mm 10 ls []) := by
      intro fuel
      induction fuel with
      | zero =>
        intro i g hi hv hfu
        exact absurd hfu (Nat.not_lt_zero _)
      | succ fuel ih10 =>
        intro i g hi hv hfu H locs ls hw hl
        refine lv_iload_n S.1 S.2.1 dX6_records_10 rfl (lv_at hl 1 rfl) ?_
        refine lv_sipush (v := 486) S.1 S.2.1 dX6_records_11 (by decide) ?_
        refine lv_icmp_ge (tgt := 39) S.1 S.2.1 dX6_records_14 (by decide) (fun c_3 => ?_) (fun c_3 => ?_)
        · skip
          have c_3N : 486 ≤ i := (nI_leI (a := 486) (b := i) (by omega) (by omega)).mp c_3
          refine lv_aload_n S.1 S.2.1 dX6_records_39 rfl (lv_at hl 0 rfl) ?_
          refine lv_dup S.1 S.2.1 dX6_records_40 rfl ?_
          refine y_get S hw (C := RX6) (T := TX6) (N := 13) i_X6_records_X6 0 rfl rfl 3 (by decide) f_X6_records_31 rfl dX6_records_41 ?_
          refine y_top (y := (nI k)) (hs) ?_
          refine lv_iconst (v := 1) S.1 S.2.1 dX6_records_44 (by decide) ?_
          refine y_isubN S k 1 (by omega) dX6_records_45 ?_
          refine y_put S hw (C := RX6) (T := TX6) (N := 13) i_X6_records_X6 tyX6_ok nmX6 0 rfl rfl 3 (by decide) f_X6_records_31 (by decide +kernel) rfl rfl (Nat.le_of_ble_eq_true rfl) dX6_records_46 (ws' := [((q 0), .inr (6, [.ref (q 1), .ref (q 2), .ref (q 3), .int (nI (k - 1)), .ref (q 4), .int (u 5 0), .ref (q 5), .int (u 7 0), .int (u 8 0), .int (u 9 0), .int (u 10 0), .int (u 11 0), .ref (q 6)])), ((q 1), .inl (cI, 162, .inl (u 0))), ((q 2), .inl (cI, 162, .inl (u 1))), ((q 3), .inl (cI, 648, .inl g)), ((q 4), .inl (cI, 60, .inl (u 4))), ((q 5), .inl (cI, 3, .inl (u 6))), ((q 6), .inl (cI, 3, .inl (u 12)))]) rfl (fun H locs hw => ?_)
          refine lv_iconst (v := 0) S.1 S.2.1 dX6_records_49 (by decide) ?_
          refine lv_istore_n (lv' := [(1, .int 0), (0, .ref (q 0))]) S.1 S.2.1 dX6_records_50 rfl hl (by decide) rfl (fun ls hl => ?_)
          have lp51 : ∀ (fuel : Nat) (i2 : Nat) (g2 : V1), (i2 ≤ 162) → (g2 = mPut (mDown (u 2) 0 162 486) (u 0) (162 * (k - 1)) 0 i2) → (162 - i2) < fuel → ∀ (H : Heap) (locs : List Loc) (ls : Array Slot), y_W D cI cC cL A s H locs [((q 0), .inr (6, [.ref (q 1), .ref (q 2), .ref (q 3), .int (nI (k - 1)), .ref (q 4), .int (u 5 0), .ref (q 5), .int (u 7 0), .int (u 8 0), .int (u 9 0), .int (u 10 0), .int (u 11 0), .ref (q 6)])), ((q 1), .inl (cI, 162, .inl (u 0))), ((q 2), .inl (cI, 162, .inl (u 1))), ((q 3), .inl (cI, 648, .inl g2)), ((q 4), .inl (cI, 60, .inl (u 4))), ((q 5), .inl (cI, 3, .inl (u 6))), ((q 6), .inl (cI, 3, .inl (u 12)))] → lv_has ls 2 [(0, .ref (q 0)), (1, .int (nI i2))] → W p l e (y_R 0 0) s mm args below meth c H locs 0 0 QQ (F0 mm 51 ls []) := by
            intro fuel
            induction fuel with
            | zero =>
              intro i2 g2 hi2 hv2 hfu
              exact absurd hfu (Nat.not_lt_zero _)
            | succ fuel ih51 =>
              intro i2 g2 hi2 hv2 hfu H locs ls hw hl
              refine lv_iload_n S.1 S.2.1 dX6_records_51 rfl (lv_at hl 1 rfl) ?_
              refine lv_sipush (v := 162) S.1 S.2.1 dX6_records_52 (by decide) ?_
              refine lv_icmp_ge (tgt := 85) S.1 S.2.1 dX6_records_55 (by decide) (fun c_4 => ?_) (fun c_4 => ?_)
              · skip
                have c_4N : 162 ≤ i2 := (nI_leI (a := 162) (b := i2) (by omega) (by omega)).mp c_4
                refine lv_aload_n S.1 S.2.1 dX6_records_85 rfl (lv_at hl 0 rfl) ?_
                refine lv_dup S.1 S.2.1 dX6_records_86 rfl ?_
                refine y_get S hw (C := RX6) (T := TX6) (N := 13) i_X6_records_X6 0 rfl rfl 3 (by decide) f_X6_records_31 rfl dX6_records_87 ?_
                refine lv_iconst (v := 1) S.1 S.2.1 dX6_records_90 (by decide) ?_
                refine y_iaddN S (k - 1) 1 dX6_records_91 ?_
                refine y_put S hw (C := RX6) (T := TX6) (N := 13) i_X6_records_X6 tyX6_ok nmX6 0 rfl rfl 3 (by decide) f_X6_records_31 (by decide +kernel) rfl rfl (Nat.le_of_ble_eq_true rfl) dX6_records_92 (ws' := [((q 0), .inr (6, [.ref (q 1), .ref (q 2), .ref (q 3), .int (nI ((k - 1) + 1)), .ref (q 4), .int (u 5 0), .ref (q 5), .int (u 7 0), .int (u 8 0), .int (u 9 0), .int (u 10 0), .int (u 11 0), .ref (q 6)])), ((q 1), .inl (cI, 162, .inl (u 0))), ((q 2), .inl (cI, 162, .inl (u 1))), ((q 3), .inl (cI, 648, .inl g2)), ((q 4), .inl (cI, 60, .inl (u 4))), ((q 5), .inl (cI, 3, .inl (u 6))), ((q 6), .inl (cI, 3, .inl (u 12)))]) rfl (fun H locs hw => ?_)
                exact ret _ _ _ _ (by have e2 : i2 = 162 := (by omega); rw [show mRec u k = mRecAt u (mDown (u 2) 0 162 486) (k - 1) from by rw [mRec, if_pos c_1N]]; unfold mRecAt; rw [e2] at hv2; rw [← hv2]; exact hw) dX6_records_95
              · skip
                have c_4N : ¬ 162 ≤ i2 := fun z => c_4 ((nI_leI (a := 162) (b := i2) (by omega) (by omega)).mpr z)
                refine lv_aload_n S.1 S.2.1 dX6_records_58 rfl (lv_at hl 0 rfl) ?_
                refine y_get S hw (C := RX6) (T := TX6) (N := 13) i_X6_records_X6 0 rfl rfl 2 (by decide) f_X6_records_16 rfl dX6_records_59 ?_
                refine lv_sipush (v := 162) S.1 S.2.1 dX6_records_62 (by decide) ?_
                refine lv_aload_n S.1 S.2.1 dX6_records_65 rfl (lv_at hl 0 rfl) ?_
                refine y_get S hw (C := RX6) (T := TX6) (N := 13) i_X6_records_X6 0 rfl rfl 3 (by decide) f_X6_records_31 rfl dX6_records_66 ?_
                refine y_imulN S 162 (k - 1) dX6_records_69 ?_
                refine lv_iload_n S.1 S.2.1 dX6_records_70 rfl (lv_at hl 1 rfl) ?_
                refine y_iaddN S (162 * (k - 1)) i2 dX6_records_71 ?_
                refine lv_aload_n S.1 S.2.1 dX6_records_72 rfl (lv_at hl 0 rfl) ?_
                refine y_get S hw (C := RX6) (T := TX6) (N := 13) i_X6_records_X6 0 rfl rfl 0 (by decide) f_X6_records_7 rfl dX6_records_73 ?_
                refine lv_iload_n S.1 S.2.1 dX6_records_76 rfl (lv_at hl 1 rfl) ?_
                refine y_iald S hw 1 (k := i2) rfl (by omega) (Nat.le_of_ble_eq_true rfl) dX6_records_77 ?_
                refine y_iast S hw 3 (k := ((162 * (k - 1)) + i2)) rfl (by omega) (Nat.le_of_ble_eq_true rfl) dX6_records_78 (ws' := [((q 0), .inr (6, [.ref (q 1), .ref (q 2), .ref (q 3), .int (nI (k - 1)), .ref (q 4), .int (u 5 0), .ref (q 5), .int (u 7 0), .int (u 8 0), .int (u 9 0), .int (u 10 0), .int (u 11 0), .ref (q 6)])), ((q 1), .inl (cI, 162, .inl (u 0))), ((q 2), .inl (cI, 162, .inl (u 1))), ((q 3), .inl (cI, 648, .inl (upd g2 ((162 * (k - 1)) + i2) ((u 0) i2)))), ((q 4), .inl (cI, 60, .inl (u 4))), ((q 5), .inl (cI, 3, .inl (u 6))), ((q 6), .inl (cI, 3, .inl (u 12)))]) rfl (fun H locs hw => ?_)
                refine lv_iinc (v := (nI (i2 + 1))) (lv' := [(1, .int (nI (i2 + 1))), (0, .ref (q 0))]) S.1 S.2.1 dX6_records_79 hl (k := 1) rfl (by first | exact nI_1 _ | exact nI_add _ _) (by decide) rfl (fun ls hl => ?_)
                refine lv_goto (tgt := 51) S.1 S.2.1 dX6_records_82 (by decide) ?_
                exact ih51 (i2 + 1) (upd g2 ((162 * (k - 1)) + i2) ((u 0) i2)) (by omega) (by rw [hv2, mPut, Nat.zero_add]) (by omega) _ _ ls hw (lv_sub hl [1, 0] rfl)
          exact lp51 ((162 - 0) + 1) 0 g (Nat.zero_le _) (by rw [hv, show i = 486 from by omega]; rfl) (Nat.lt_succ_self _) _ _ ls hw (lv_sub hl [1, 0] rfl)
        · skip
          have c_3N : ¬ 486 ≤ i := fun z => c_3 ((nI_leI (a := 486) (b := i) (by omega) (by omega)).mpr z)
          refine lv_aload_n S.1 S.2.1 dX6_records_17 rfl (lv_at hl 0 rfl) ?_
          refine y_get S hw (C := RX6) (T := TX6) (N := 13) i_X6_records_X6 0 rfl rfl 2 (by decide) f_X6_records_16 rfl dX6_records_18 ?_
          refine lv_iload_n S.1 S.2.1 dX6_records_21 rfl (lv_at hl 1 rfl) ?_
          refine lv_aload_n S.1 S.2.1 dX6_records_22 rfl (lv_at hl 0 rfl) ?_
          refine y_get S hw (C := RX6) (T := TX6) (N := 13) i_X6_records_X6 0 rfl rfl 2 (by decide) f_X6_records_16 rfl dX6_records_23 ?_
          refine lv_iload_n S.1 S.2.1 dX6_records_26 rfl (lv_at hl 1 rfl) ?_
          refine lv_sipush (v := 162) S.1 S.2.1 dX6_records_27 (by decide) ?_
          refine y_iaddN S i 162 dX6_records_30 ?_
          refine y_iald S hw 3 (k := (i + 162)) rfl (by omega) (Nat.le_of_ble_eq_true rfl) dX6_records_31 ?_
          refine y_iast S hw 3 (k := i) rfl (by omega) (Nat.le_of_ble_eq_true rfl) dX6_records_32 (ws' := [((q 0), .inr (6, [.ref (q 1), .ref (q 2), .ref (q 3), .int (u 3 0), .ref (q 4), .int (u 5 0), .ref (q 5), .int (u 7 0), .int (u 8 0), .int (u 9 0), .int (u 10 0), .int (u 11 0), .ref (q 6)])), ((q 1), .inl (cI, 162, .inl (u 0))), ((q 2), .inl (cI, 162, .inl (u 1))), ((q 3), .inl (cI, 648, .inl (upd g i (g (i + 162))))), ((q 4), .inl (cI, 60, .inl (u 4))), ((q 5), .inl (cI, 3, .inl (u 6))), ((q 6), .inl (cI, 3, .inl (u 12)))]) rfl (fun H locs hw => ?_)
          refine lv_iinc (v := (nI (i + 1))) (lv' := [(1, .int (nI (i + 1))), (0, .ref (q 0))]) S.1 S.2.1 dX6_records_33 hl (k := 1) rfl (by first | exact nI_1 _ | exact nI_add _ _) (by decide) rfl (fun ls hl => ?_)
          refine lv_goto (tgt := 10) S.1 S.2.1 dX6_records_36 (by decide) ?_
          exact ih10 (i + 1) (upd g i (g (i + 162))) (by omega) (by rw [hv, mDown, Nat.zero_add]) (by omega) _ _ ls hw (lv_sub hl [1, 0] rfl)
    exact lp10 ((486 - 0) + 1) 0 (u 2) (Nat.zero_le _) (rfl) (Nat.lt_succ_self _) _ _ ls hw (lv_sub hl [1, 0] rfl)

theorem i_X6_isDue_X6 : ∀ w ∈ u_ws RX6 TX6 13, w ∈ wsX6_isDue := by decide +kernel
theorem f_X6_isDue_7 : Cond.fieldLink RX6 7 "ChargeLinesModel" "s" "[I" ∈ wsX6_isDue := by decide +kernel
set_option maxHeartbeats 4000000 in
set_option maxRecDepth 100000 in
/-- Model.isDue -/
theorem c_X6_isDue (l : Launch) (D : va_G) (cI cC cL : ClassId) (q : Nat → Nat) (u : U) (x : Int32) : y_MI l yX6_isDue wsX6_isDue 0 0 D cI cC cL [.ref (q 0), .int x] (cMd cI q u) (mDue x (u 0 6)) (fun _ : Unit => cMd cI q u) () := by
  refine y_startI (cc := cX6_isDue) (maxL := 2) (ret := some .boolean) (by decide +kernel) rfl (Nat.le_of_ble_eq_true rfl) ⟨_, rfl, fun x h => by rcases h rfl with rfl | rfl <;> rfl⟩ (fun _ => mDue_01) ?_
  intro p e s mm args below meth c A QQ ls S hw ret hl
  have S : CallFix p mm c cX6_isDue 2 s args wsX6_isDue RX6 := S
  have hw : y_W D cI cC cL A s s.heap [] [((q 0), .inr (6, [.ref (q 1), .ref (q 2), .ref (q 3), .int (u 3 0), .ref (q 4), .int (u 5 0), .ref (q 5), .int (u 7 0), .int (u 8 0), .int (u 9 0), .int (u 10 0), .int (u 11 0), .ref (q 6)])), ((q 1), .inl (cI, 162, .inl (u 0))), ((q 2), .inl (cI, 162, .inl (u 1))), ((q 3), .inl (cI, 648, .inl (u 2))), ((q 4), .inl (cI, 60, .inl (u 4))), ((q 5), .inl (cI, 3, .inl (u 6))), ((q 6), .inl (cI, 3, .inl (u 12)))] := hw
  have hl : lv_has ls 2 [(0, .ref (q 0)), (1, .int x)] := hl
  refine lv_aload_n S.1 S.2.1 dX6_isDue_0 rfl (lv_at hl 0 rfl) ?_
  refine y_get S hw (C := RX6) (T := TX6) (N := 13) i_X6_isDue_X6 0 rfl rfl 0 (by decide) f_X6_isDue_7 rfl dX6_isDue_1 ?_
  refine lv_bipush (v := 6) S.1 S.2.1 dX6_isDue_4 (by decide) ?_
  refine y_iald S hw 1 (k := 6) rfl (by omega) (Nat.le_of_ble_eq_true rfl) dX6_isDue_6 ?_
  refine lv_if_le (tgt := 26) S.1 S.2.1 dX6_isDue_7 (by decide) (fun c_1 => ?_) (fun c_1 => ?_)
  · skip
    refine lv_iconst (v := 0) S.1 S.2.1 dX6_isDue_26 (by decide) ?_
    exact ret _ _ _ _ _ (by exact hw) (by unfold mDue; first | exact (if_pos c_1).symm | exact ((if_neg c_1).trans (if_pos c_1)).symm | exact ((if_neg c_1).trans (if_neg (not_not_intro c_1))).symm) dX6_isDue_27
  · skip
    refine lv_iload_n S.1 S.2.1 dX6_isDue_10 rfl (lv_at hl 1 rfl) ?_
    refine lv_aload_n S.1 S.2.1 dX6_isDue_11 rfl (lv_at hl 0 rfl) ?_
    refine y_get S hw (C := RX6) (T := TX6) (N := 13) i_X6_isDue_X6 0 rfl rfl 0 (by decide) f_X6_isDue_7 rfl dX6_isDue_12 ?_
    refine lv_bipush (v := 6) S.1 S.2.1 dX6_isDue_15 (by decide) ?_
    refine y_iald S hw 1 (k := 6) rfl (by omega) (Nat.le_of_ble_eq_true rfl) dX6_isDue_17 ?_
    refine lv_irem S.1 S.2.1 dX6_isDue_18 (y_nle0 c_1) ?_
    refine lv_if_ne (tgt := 26) S.1 S.2.1 dX6_isDue_19 (by decide) (fun c_2 => ?_) (fun c_2 => ?_)
    · skip
      refine lv_iconst (v := 0) S.1 S.2.1 dX6_isDue_26 (by decide) ?_
      exact ret _ _ _ _ _ (by exact hw) (by unfold mDue; first | exact (if_pos c_1).symm | exact ((if_neg c_1).trans (if_pos c_2)).symm | exact ((if_neg c_1).trans (if_neg (not_not_intro c_2))).symm) dX6_isDue_27
    · skip
      refine lv_iconst (v := 1) S.1 S.2.1 dX6_isDue_22 (by decide) ?_
      refine lv_goto (tgt := 27) S.1 S.2.1 dX6_isDue_23 (by decide) ?_
      exact ret _ _ _ _ _ (by exact hw) (by unfold mDue; first | exact (if_pos c_1).symm | exact ((if_neg c_1).trans (if_pos c_2)).symm | exact ((if_neg c_1).trans (if_neg (not_not_intro c_2))).symm) dX6_isDue_27

theorem i_X6_handedBehind_X6 : ∀ w ∈ u_ws RX6 TX6 13, w ∈ wsX6_handedBehind := by decide +kernel
theorem f_X6_handedBehind_7 : Cond.fieldLink RX6 7 "ChargeLinesModel" "s" "[I" ∈ wsX6_handedBehind := by decide +kernel
set_option maxHeartbeats 4000000 in
set_option maxRecDepth 100000 in
/-- Model.handedBehind -/
theorem c_X6_handedBehind (l : Launch) (D : va_G) (cI cC cL : ClassId) (q : Nat → Nat) (u : U) (k : Nat) (hm : k ≤ 60) : y_MI l yX6_handedBehind wsX6_handedBehind 1 21 D cI cC cL [.ref (q 0), .int (nI k)] (cMd cI q u) (mHB (u 0 1) (u 0 6) k) (fun _ : Unit => cMd cI q u) () := by
  refine y_startI (cc := cX6_handedBehind) (maxL := 4) (ret := some .int) (by decide +kernel) rfl (Nat.le_of_ble_eq_true rfl) ⟨_, rfl, fun x _ => rfl⟩ (fun h => by cases h) ?_
  intro p e s mm args below meth c A QQ ls S hw ret hl
  have S : CallFix p mm c cX6_handedBehind 4 s args wsX6_handedBehind RX6 := S
  have hw : y_W D cI cC cL A s s.heap [] [((q 0), .inr (6, [.ref (q 1), .ref (q 2), .ref (q 3), .int (u 3 0), .ref (q 4), .int (u 5 0), .ref (q 5), .int (u 7 0), .int (u 8 0), .int (u 9 0), .int (u 10 0), .int (u 11 0), .ref (q 6)])), ((q 1), .inl (cI, 162, .inl (u 0))), ((q 2), .inl (cI, 162, .inl (u 1))), ((q 3), .inl (cI, 648, .inl (u 2))), ((q 4), .inl (cI, 60, .inl (u 4))), ((q 5), .inl (cI, 3, .inl (u 6))), ((q 6), .inl (cI, 3, .inl (u 12)))] := hw
  have hl : lv_has ls 4 [(0, .ref (q 0)), (1, .int (nI k))] := hl
  refine lv_aload_n S.1 S.2.1 dX6_handedBehind_0 rfl (lv_at hl 0 rfl) ?_
  refine y_get S hw (C := RX6) (T := TX6) (N := 13) i_X6_handedBehind_X6 0 rfl rfl 0 (by decide) f_X6_handedBehind_7 rfl dX6_handedBehind_1 ?_
  refine lv_iconst (v := 1) S.1 S.2.1 dX6_handedBehind_4 (by decide) ?_
  refine y_iald S hw 1 (k := 1) rfl (by omega) (Nat.le_of_ble_eq_true rfl) dX6_handedBehind_5 ?_
  refine lv_istore_n (lv' := [(2, .int ((u 0) 1)), (0, .ref (q 0)), (1, .int (nI k))]) S.1 S.2.1 dX6_handedBehind_6 rfl hl (by decide) rfl (fun ls hl => ?_)
  refine lv_iconst (v := 0) S.1 S.2.1 dX6_handedBehind_7 (by decide) ?_
  refine lv_istore_n (lv' := [(3, .int 0), (2, .int ((u 0) 1)), (0, .ref (q 0)), (1, .int (nI k))]) S.1 S.2.1 dX6_handedBehind_8 rfl hl (by decide) rfl (fun ls hl => ?_)
  have lp9 : ∀ (fuel : Nat) (i : Nat) (z : Int32), (i ≤ k) → (z = mHB (u 0 1) (u 0 6) i) → (k - i) < fuel → ∀ (H : Heap) (locs : List Loc) (ls : Array Slot), y_W D cI cC cL A s H locs [((q 0), .inr (6, [.ref (q 1), .ref (q 2), .ref (q 3), .int (u 3 0), .ref (q 4), .int (u 5 0), .ref (q 5), .int (u 7 0), .int (u 8 0), .int (u 9 0), .int (u 10 0), .int (u 11 0), .ref (q 6)])), ((q 1), .inl (cI, 162, .inl (u 0))), ((q 2), .inl (cI, 162, .inl (u 1))), ((q 3), .inl (cI, 648, .inl (u 2))), ((q 4), .inl (cI, 60, .inl (u 4))), ((q 5), .inl (cI, 3, .inl (u 6))), ((q 6), .inl (cI, 3, .inl (u 12)))] → lv_has ls 4 [(0, .ref (q 0)), (1, .int (nI k)), (2, .int z), (3, .int (nI i))] → W p l e (y_R 1 21) s mm args below meth c H locs 0 0 QQ (F0 mm 9 ls []) := by
    intro fuel
    induction fuel with
    | zero =>
      intro i z hi hz hfu
      exact absurd hfu (Nat.not_lt_zero _)
    | succ fuel ih9 =>
      intro i z hi hz hfu H locs ls hw hl
      refine lv_iload_n S.1 S.2.1 dX6_handedBehind_9 rfl (lv_at hl 3 rfl) ?_
      refine lv_iload_n S.1 S.2.1 dX6_handedBehind_10 rfl (lv_at hl 1 rfl) ?_
      refine lv_icmp_ge (tgt := 36) S.1 S.2.1 dX6_handedBehind_11 (by decide) (fun c_1 => ?_) (fun c_1 => ?_)
      · skip
        have c_1N : k ≤ i := (nI_leI (a := k) (b := i) (by omega) (by omega)).mp c_1
        refine lv_iload_n S.1 S.2.1 dX6_handedBehind_36 rfl (lv_at hl 2 rfl) ?_
        exact ret _ _ _ _ _ (by exact hw) (by rw [hz, show i = k from by omega]) dX6_handedBehind_37
      · skip
        have c_1N : ¬ k ≤ i := fun z => c_1 ((nI_leI (a := k) (b := i) (by omega) (by omega)).mpr z)
        refine lv_iload_n S.1 S.2.1 dX6_handedBehind_14 rfl (lv_at hl 2 rfl) ?_
        refine lv_aload_n S.1 S.2.1 dX6_handedBehind_15 rfl (lv_at hl 0 rfl) ?_
        refine lv_iload_n S.1 S.2.1 dX6_handedBehind_16 rfl (lv_at hl 2 rfl) ?_
        refine y_callI (As := [.int z]) (rest := [.int z]) S hw hl.1 (c_X6_isDue l D cI cC cL q u z) (cwV 1 S.2.2.2.2 gX6_handedBehind_X6_isDue rfl rfl rfl (by decide +kernel) ⟨Nat.le_of_ble_eq_true rfl, Nat.le_of_ble_eq_true rfl⟩) 0 rfl rfl [0, 1, 2, 3, 4, 5, 6] [] rfl (by decide +kernel) (wr := []) rfl (by decide +kernel) (by decide +kernel) rfl (Nat.le_of_ble_eq_true rfl) dX6_handedBehind_17 rfl ⟨Nat.le_refl _, Nat.le_refl _⟩ (fun H locs v_2 x_3 ev_2 ex_3 hw => ?_)
        have hw : y_W D cI cC cL A s H locs [((q 0), .inr (6, [.ref (q 1), .ref (q 2), .ref (q 3), .int (u 3 0), .ref (q 4), .int (u 5 0), .ref (q 5), .int (u 7 0), .int (u 8 0), .int (u 9 0), .int (u 10 0), .int (u 11 0), .ref (q 6)])), ((q 1), .inl (cI, 162, .inl (u 0))), ((q 2), .inl (cI, 162, .inl (u 1))), ((q 3), .inl (cI, 648, .inl (u 2))), ((q 4), .inl (cI, 60, .inl (u 4))), ((q 5), .inl (cI, 3, .inl (u 6))), ((q 6), .inl (cI, 3, .inl (u 12)))] := hw
        subst ex_3
        refine y_top (y := (mDue z (u 0 6))) rfl ?_
        refine lv_if_eq (tgt := 27) S.1 S.2.1 dX6_handedBehind_20 (by decide) (fun c_4 => ?_) (fun c_4 => ?_)
        · skip
          refine lv_iconst (v := 1) S.1 S.2.1 dX6_handedBehind_27 (by decide) ?_
          refine lv_iadd S.1 S.2.1 dX6_handedBehind_28 ?_
          refine lv_istore_n (lv' := [(2, .int (z + 1)), (0, .ref (q 0)), (1, .int (nI k)), (3, .int (nI i))]) S.1 S.2.1 dX6_handedBehind_29 rfl hl (by decide) rfl (fun ls hl => ?_)
          refine lv_iinc (v := (nI (i + 1))) (lv' := [(3, .int (nI (i + 1))), (2, .int (z + 1)), (0, .ref (q 0)), (1, .int (nI k))]) S.1 S.2.1 dX6_handedBehind_30 hl (k := 3) rfl (by first | exact nI_1 _ | exact nI_add _ _) (by decide) rfl (fun ls hl => ?_)
          refine lv_goto (tgt := 9) S.1 S.2.1 dX6_handedBehind_33 (by decide) ?_
          exact ih9 (i + 1) (z + 1) (by omega) (by rw [mHB, ← hz]; simp only [c_1, c_4, ↓reduceIte]) (by omega) _ _ ls hw (lv_sub hl [2, 3, 1, 0] rfl)
        · skip
          refine lv_iconst (v := 2) S.1 S.2.1 dX6_handedBehind_23 (by decide) ?_
          refine lv_goto (tgt := 28) S.1 S.2.1 dX6_handedBehind_24 (by decide) ?_
          refine lv_iadd S.1 S.2.1 dX6_handedBehind_28 ?_
          refine lv_istore_n (lv' := [(2, .int (z + 2)), (0, .ref (q 0)), (1, .int (nI k)), (3, .int (nI i))]) S.1 S.2.1 dX6_handedBehind_29 rfl hl (by decide) rfl (fun ls hl => ?_)
          refine lv_iinc (v := (nI (i + 1))) (lv' := [(3, .int (nI (i + 1))), (2, .int (z + 2)), (0, .ref (q 0)), (1, .int (nI k))]) S.1 S.2.1 dX6_handedBehind_30 hl (k := 3) rfl (by first | exact nI_1 _ | exact nI_add _ _) (by decide) rfl (fun ls hl => ?_)
          refine lv_goto (tgt := 9) S.1 S.2.1 dX6_handedBehind_33 (by decide) ?_
          exact ih9 (i + 1) (z + 2) (by omega) (by rw [mHB, ← hz]; simp only [c_1, c_4, ↓reduceIte]) (by omega) _ _ ls hw (lv_sub hl [2, 3, 1, 0] rfl)
  exact lp9 ((k - 0) + 1) 0 (u 0 1) (Nat.zero_le _) (rfl) (Nat.lt_succ_self _) _ _ ls hw (lv_sub hl [2, 3, 1, 0] rfl)

theorem i_X6_isStage_X6 : ∀ w ∈ u_ws RX6 TX6 13, w ∈ wsX6_isStage := by decide +kernel
theorem f_X6_isStage_7 : Cond.fieldLink RX6 7 "ChargeLinesModel" "s" "[I" ∈ wsX6_isStage := by decide +kernel
set_option maxHeartbeats 4000000 in
set_option maxRecDepth 100000 in
/-- Model.isStage -/
theorem c_X6_isStage (l : Launch) (D : va_G) (cI cC cL : ClassId) (q : Nat → Nat) (u : U) (x : Int32) : y_MI l yX6_isStage wsX6_isStage 1 22 D cI cC cL [.ref (q 0), .int x] (cMd cI q u) (mIn x 0 (u 0 0 - 1)) (fun _ : Unit => cMd cI q u) () := by
  refine y_startI (cc := cX6_isStage) (maxL := 2) (ret := some .boolean) (by decide +kernel) rfl (Nat.le_of_ble_eq_true rfl) ⟨_, rfl, fun x h => by rcases h rfl with rfl | rfl <;> rfl⟩ (fun _ => mIn_01) ?_
  intro p e s mm args below meth c A QQ ls S hw ret hl
  have S : CallFix p mm c cX6_isStage 2 s args wsX6_isStage RX6 := S
  have hw : y_W D cI cC cL A s s.heap [] [((q 0), .inr (6, [.ref (q 1), .ref (q 2), .ref (q 3), .int (u 3 0), .ref (q 4), .int (u 5 0), .ref (q 5), .int (u 7 0), .int (u 8 0), .int (u 9 0), .int (u 10 0), .int (u 11 0), .ref (q 6)])), ((q 1), .inl (cI, 162, .inl (u 0))), ((q 2), .inl (cI, 162, .inl (u 1))), ((q 3), .inl (cI, 648, .inl (u 2))), ((q 4), .inl (cI, 60, .inl (u 4))), ((q 5), .inl (cI, 3, .inl (u 6))), ((q 6), .inl (cI, 3, .inl (u 12)))] := hw
  have hl : lv_has ls 2 [(0, .ref (q 0)), (1, .int x)] := hl
  refine lv_iload_n S.1 S.2.1 dX6_isStage_0 rfl (lv_at hl 1 rfl) ?_
  refine lv_iconst (v := 0) S.1 S.2.1 dX6_isStage_1 (by decide) ?_
  refine lv_aload_n S.1 S.2.1 dX6_isStage_2 rfl (lv_at hl 0 rfl) ?_
  refine y_get S hw (C := RX6) (T := TX6) (N := 13) i_X6_isStage_X6 0 rfl rfl 0 (by decide) f_X6_isStage_7 rfl dX6_isStage_3 ?_
  refine lv_iconst (v := 0) S.1 S.2.1 dX6_isStage_6 (by decide) ?_
  refine y_iald S hw 1 (k := 0) rfl (by omega) (Nat.le_of_ble_eq_true rfl) dX6_isStage_7 ?_
  refine lv_iconst (v := 1) S.1 S.2.1 dX6_isStage_8 (by decide) ?_
  refine lv_isub S.1 S.2.1 dX6_isStage_9 ?_
  refine y_callSI (As := [.int x, .int 0, .int (((u 0) 0) - 1)]) (rest := []) S hw hl.1 (c_X6_in l D cI cC cL x 0 (((u 0) 0) - 1)) (va_cwS 3 S.2.2.2.2 gX6_isStage_X6_in rfl rfl rfl (by decide +kernel) ⟨Nat.le_of_ble_eq_true rfl, Nat.le_of_ble_eq_true rfl⟩) [] [0, 1, 2, 3, 4, 5, 6] rfl (by decide +kernel) (wr := [((q 0), .inr (6, [.ref (q 1), .ref (q 2), .ref (q 3), .int (u 3 0), .ref (q 4), .int (u 5 0), .ref (q 5), .int (u 7 0), .int (u 8 0), .int (u 9 0), .int (u 10 0), .int (u 11 0), .ref (q 6)])), ((q 1), .inl (cI, 162, .inl (u 0))), ((q 2), .inl (cI, 162, .inl (u 1))), ((q 3), .inl (cI, 648, .inl (u 2))), ((q 4), .inl (cI, 60, .inl (u 4))), ((q 5), .inl (cI, 3, .inl (u 6))), ((q 6), .inl (cI, 3, .inl (u 12)))]) rfl (by decide +kernel) (by decide +kernel) rfl (Nat.le_of_ble_eq_true rfl) dX6_isStage_10 rfl ⟨Nat.le_refl _, Nat.le_refl _⟩ (fun H locs v_1 x_2 ev_1 ex_2 hw => ?_)
  have hw : y_W D cI cC cL A s H locs [((q 0), .inr (6, [.ref (q 1), .ref (q 2), .ref (q 3), .int (u 3 0), .ref (q 4), .int (u 5 0), .ref (q 5), .int (u 7 0), .int (u 8 0), .int (u 9 0), .int (u 10 0), .int (u 11 0), .ref (q 6)])), ((q 1), .inl (cI, 162, .inl (u 0))), ((q 2), .inl (cI, 162, .inl (u 1))), ((q 3), .inl (cI, 648, .inl (u 2))), ((q 4), .inl (cI, 60, .inl (u 4))), ((q 5), .inl (cI, 3, .inl (u 6))), ((q 6), .inl (cI, 3, .inl (u 12)))] := hw
  subst ex_2
  exact ret _ _ _ _ _ (by exact hw) (by rfl) dX6_isStage_13

theorem i_X6_shares_X6 : ∀ w ∈ u_ws RX6 TX6 13, w ∈ wsX6_shares := by decide +kernel
theorem f_X6_shares_7 : Cond.fieldLink RX6 7 "ChargeLinesModel" "s" "[I" ∈ wsX6_shares := by decide +kernel
set_option maxHeartbeats 4000000 in
set_option maxRecDepth 100000 in
/-- Model.shares -/
theorem c_X6_shares (l : Launch) (D : va_G) (cI cC cL : ClassId) (q : Nat → Nat) (u : U) (k : Nat) (x y : Int32) (hk : k < 10) : y_MI l yX6_shares wsX6_shares 0 0 D cI cC cL [.ref (q 0), .int (nI k), .int x, .int y] (cMd cI q u) (1000 * u 0 (20 + k) + u 0 (30 + k)) (fun v : U => cMd cI q v) (va_up u 0 (upd (upd (u 0) (20 + k) x) (30 + k) y)) := by
  refine y_startI (cc := cX6_shares) (maxL := 5) (ret := some .int) (by decide +kernel) rfl (Nat.le_of_ble_eq_true rfl) ⟨_, rfl, fun x _ => rfl⟩ (fun h => by cases h) ?_
  intro p e s mm args below meth c A QQ ls S hw ret hl
  have S : CallFix p mm c cX6_shares 5 s args wsX6_shares RX6 := S
  have hw : y_W D cI cC cL A s s.heap [] [((q 0), .inr (6, [.ref (q 1), .ref (q 2), .ref (q 3), .int (u 3 0), .ref (q 4), .int (u 5 0), .ref (q 5), .int (u 7 0), .int (u 8 0), .int (u 9 0), .int (u 10 0), .int (u 11 0), .ref (q 6)])), ((q 1), .inl (cI, 162, .inl (u 0))), ((q 2), .inl (cI, 162, .inl (u 1))), ((q 3), .inl (cI, 648, .inl (u 2))), ((q 4), .inl (cI, 60, .inl (u 4))), ((q 5), .inl (cI, 3, .inl (u 6))), ((q 6), .inl (cI, 3, .inl (u 12)))] := hw
  have hl : lv_has ls 5 [(0, .ref (q 0)), (1, .int (nI k)), (2, .int x), (3, .int y)] := hl
  refine lv_sipush (v := 1000) S.1 S.2.1 dX6_shares_0 (by decide) ?_
  refine lv_aload_n S.1 S.2.1 dX6_shares_3 rfl (lv_at hl 0 rfl) ?_
  refine y_get S hw (C := RX6) (T := TX6) (N := 13) i_X6_shares_X6 0 rfl rfl 0 (by decide) f_X6_shares_7 rfl dX6_shares_4 ?_
  refine lv_bipush (v := 20) S.1 S.2.1 dX6_shares_7 (by decide) ?_
  refine lv_iload_n S.1 S.2.1 dX6_shares_9 rfl (lv_at hl 1 rfl) ?_
  refine y_iaddN S 20 k dX6_shares_10 ?_
  refine y_iald S hw 1 (k := (20 + k)) rfl (by omega) (Nat.le_of_ble_eq_true rfl) dX6_shares_11 ?_
  refine lv_imul S.1 S.2.1 dX6_shares_12 ?_
  refine lv_aload_n S.1 S.2.1 dX6_shares_13 rfl (lv_at hl 0 rfl) ?_
  refine y_get S hw (C := RX6) (T := TX6) (N := 13) i_X6_shares_X6 0 rfl rfl 0 (by decide) f_X6_shares_7 rfl dX6_shares_14 ?_
  refine lv_bipush (v := 30) S.1 S.2.1 dX6_shares_17 (by decide) ?_
  refine lv_iload_n S.1 S.2.1 dX6_shares_19 rfl (lv_at hl 1 rfl) ?_
  refine y_iaddN S 30 k dX6_shares_20 ?_
  refine y_iald S hw 1 (k := (30 + k)) rfl (by omega) (Nat.le_of_ble_eq_true rfl) dX6_shares_21 ?_
  refine lv_iadd S.1 S.2.1 dX6_shares_22 ?_
  refine lv_istore (lv' := [(4, .int ((1000 * ((u 0) (20 + k))) + ((u 0) (30 + k)))), (0, .ref (q 0)), (1, .int (nI k)), (2, .int x), (3, .int y)]) S.1 S.2.1 dX6_shares_23 hl (by decide) rfl (fun ls hl => ?_)
  refine lv_aload_n S.1 S.2.1 dX6_shares_25 rfl (lv_at hl 1 rfl) ?_
  refine y_get S hw (C := RX6) (T := TX6) (N := 13) i_X6_shares_X6 0 rfl rfl 0 (by decide) f_X6_shares_7 rfl dX6_shares_26 ?_
  refine lv_bipush (v := 20) S.1 S.2.1 dX6_shares_29 (by decide) ?_
  refine lv_iload_n S.1 S.2.1 dX6_shares_31 rfl (lv_at hl 2 rfl) ?_
  refine y_iaddN S 20 k dX6_shares_32 ?_
  refine lv_iload_n S.1 S.2.1 dX6_shares_33 rfl (lv_at hl 3 rfl) ?_
  refine y_iast S hw 1 (k := (20 + k)) rfl (by omega) (Nat.le_of_ble_eq_true rfl) dX6_shares_34 (ws' := [((q 0), .inr (6, [.ref (q 1), .ref (q 2), .ref (q 3), .int (u 3 0), .ref (q 4), .int (u 5 0), .ref (q 5), .int (u 7 0), .int (u 8 0), .int (u 9 0), .int (u 10 0), .int (u 11 0), .ref (q 6)])), ((q 1), .inl (cI, 162, .inl (upd (u 0) (20 + k) x))), ((q 2), .inl (cI, 162, .inl (u 1))), ((q 3), .inl (cI, 648, .inl (u 2))), ((q 4), .inl (cI, 60, .inl (u 4))), ((q 5), .inl (cI, 3, .inl (u 6))), ((q 6), .inl (cI, 3, .inl (u 12)))]) rfl (fun H locs hw => ?_)
  refine lv_aload_n S.1 S.2.1 dX6_shares_35 rfl (lv_at hl 1 rfl) ?_
  refine y_get S hw (C := RX6) (T := TX6) (N := 13) i_X6_shares_X6 0 rfl rfl 0 (by decide) f_X6_shares_7 rfl dX6_shares_36 ?_
  refine lv_bipush (v := 30) S.1 S.2.1 dX6_shares_39 (by decide) ?_
  refine lv_iload_n S.1 S.2.1 dX6_shares_41 rfl (lv_at hl 2 rfl) ?_
  refine y_iaddN S 30 k dX6_shares_42 ?_
  refine lv_iload_n S.1 S.2.1 dX6_shares_43 rfl (lv_at hl 4 rfl) ?_
  refine y_iast S hw 1 (k := (30 + k)) rfl (by omega) (Nat.le_of_ble_eq_true rfl) dX6_shares_44 (ws' := [((q 0), .inr (6, [.ref (q 1), .ref (q 2), .ref (q 3), .int (u 3 0), .ref (q 4), .int (u 5 0), .ref (q 5), .int (u 7 0), .int (u 8 0), .int (u 9 0), .int (u 10 0), .int (u 11 0), .ref (q 6)])), ((q 1), .inl (cI, 162, .inl (upd (upd (u 0) (20 + k) x) (30 + k) y))), ((q 2), .inl (cI, 162, .inl (u 1))), ((q 3), .inl (cI, 648, .inl (u 2))), ((q 4), .inl (cI, 60, .inl (u 4))), ((q 5), .inl (cI, 3, .inl (u 6))), ((q 6), .inl (cI, 3, .inl (u 12)))]) rfl (fun H locs hw => ?_)
  refine lv_iload S.1 S.2.1 dX6_shares_45 (lv_at hl 0 rfl) ?_
  exact ret _ _ _ _ _ (by exact hw) (by rfl) dX6_shares_47

theorem i_X6_counts_X6 : ∀ w ∈ u_ws RX6 TX6 13, w ∈ wsX6_counts := by decide +kernel
theorem f_X6_counts_7 : Cond.fieldLink RX6 7 "ChargeLinesModel" "s" "[I" ∈ wsX6_counts := by decide +kernel
set_option maxHeartbeats 4000000 in
set_option maxRecDepth 100000 in
/-- Model.counts -/
theorem c_X6_counts (l : Launch) (D : va_G) (cI cC cL : ClassId) (q : Nat → Nat) (u : U) (k : Nat) (hk : k < 3) : y_MI l yX6_counts wsX6_counts 0 0 D cI cC cL [.ref (q 0), .int (nI k)] (cMd cI q u) (mSame (u 0) k k) (fun _ : Unit => cMd cI q u) () := by
  refine y_startI (cc := cX6_counts) (maxL := 4) (ret := some .boolean) (by decide +kernel) rfl (Nat.le_of_ble_eq_true rfl) ⟨_, rfl, fun x h => by rcases h rfl with rfl | rfl <;> rfl⟩ (fun _ => mSame_01 _ _ _) ?_
  intro p e s mm args below meth c A QQ ls S hw ret hl
  have S : CallFix p mm c cX6_counts 4 s args wsX6_counts RX6 := S
  have hw : y_W D cI cC cL A s s.heap [] [((q 0), .inr (6, [.ref (q 1), .ref (q 2), .ref (q 3), .int (u 3 0), .ref (q 4), .int (u 5 0), .ref (q 5), .int (u 7 0), .int (u 8 0), .int (u 9 0), .int (u 10 0), .int (u 11 0), .ref (q 6)])), ((q 1), .inl (cI, 162, .inl (u 0))), ((q 2), .inl (cI, 162, .inl (u 1))), ((q 3), .inl (cI, 648, .inl (u 2))), ((q 4), .inl (cI, 60, .inl (u 4))), ((q 5), .inl (cI, 3, .inl (u 6))), ((q 6), .inl (cI, 3, .inl (u 12)))] := hw
  have hl : lv_has ls 4 [(0, .ref (q 0)), (1, .int (nI k))] := hl
  refine lv_aload_n S.1 S.2.1 dX6_counts_0 rfl (lv_at hl 0 rfl) ?_
  refine y_get S hw (C := RX6) (T := TX6) (N := 13) i_X6_counts_X6 0 rfl rfl 0 (by decide) f_X6_counts_7 rfl dX6_counts_1 ?_
  refine lv_bipush (v := 40) S.1 S.2.1 dX6_counts_4 (by decide) ?_
  refine lv_iload_n S.1 S.2.1 dX6_counts_6 rfl (lv_at hl 1 rfl) ?_
  refine y_iaddN S 40 k dX6_counts_7 ?_
  refine y_iald S hw 1 (k := (40 + k)) rfl (by omega) (Nat.le_of_ble_eq_true rfl) dX6_counts_8 ?_
  refine lv_if_le (tgt := 16) S.1 S.2.1 dX6_counts_9 (by decide) (fun c_1 => ?_) (fun c_1 => ?_)
  · skip
    refine lv_iconst (v := 0) S.1 S.2.1 dX6_counts_16 (by decide) ?_
    refine lv_istore_n (lv' := [(2, .int 0), (0, .ref (q 0)), (1, .int (nI k))]) S.1 S.2.1 dX6_counts_17 rfl hl (by decide) rfl (fun ls hl => ?_)
    refine lv_iconst (v := 0) S.1 S.2.1 dX6_counts_18 (by decide) ?_
    refine lv_istore_n (lv' := [(3, .int 0), (2, .int 0), (0, .ref (q 0)), (1, .int (nI k))]) S.1 S.2.1 dX6_counts_19 rfl hl (by decide) rfl (fun ls hl => ?_)
    have lp20 : ∀ (fuel : Nat) (j : Nat) (z : Int32), (j ≤ k) → (z = mSame (u 0) k j) → (k - j) < fuel → ∀ (H : Heap) (locs : List Loc) (ls : Array Slot), y_W D cI cC cL A s H locs [((q 0), .inr (6, [.ref (q 1), .ref (q 2), .ref (q 3), .int (u 3 0), .ref (q 4), .int (u 5 0), .ref (q 5), .int (u 7 0), .int (u 8 0), .int (u 9 0), .int (u 10 0), .int (u 11 0), .ref (q 6)])), ((q 1), .inl (cI, 162, .inl (u 0))), ((q 2), .inl (cI, 162, .inl (u 1))), ((q 3), .inl (cI, 648, .inl (u 2))), ((q 4), .inl (cI, 60, .inl (u 4))), ((q 5), .inl (cI, 3, .inl (u 6))), ((q 6), .inl (cI, 3, .inl (u 12)))] → lv_has ls 4 [(0, .ref (q 0)), (1, .int (nI k)), (2, .int z), (3, .int (nI j))] → W p l e (y_R 0 0) s mm args below meth c H locs 0 0 QQ (F0 mm 20 ls []) := by
      intro fuel
      induction fuel with
      | zero =>
        intro j z hj hz hfu
        exact absurd hfu (Nat.not_lt_zero _)
      | succ fuel ih20 =>
        intro j z hj hz hfu H locs ls hw hl
        refine lv_iload_n S.1 S.2.1 dX6_counts_20 rfl (lv_at hl 3 rfl) ?_
        refine lv_iload_n S.1 S.2.1 dX6_counts_21 rfl (lv_at hl 1 rfl) ?_
        refine lv_icmp_ge (tgt := 62) S.1 S.2.1 dX6_counts_22 (by decide) (fun c_2 => ?_) (fun c_2 => ?_)
        · skip
          have c_2N : k ≤ j := (nI_leI (a := k) (b := j) (by omega) (by omega)).mp c_2
          refine lv_iload_n S.1 S.2.1 dX6_counts_62 rfl (lv_at hl 2 rfl) ?_
          exact ret _ _ _ _ _ (by exact hw) (by rw [hz, show j = k from by omega]) dX6_counts_63
        · skip
          have c_2N : ¬ k ≤ j := fun z => c_2 ((nI_leI (a := k) (b := j) (by omega) (by omega)).mpr z)
          refine lv_iload_n S.1 S.2.1 dX6_counts_25 rfl (lv_at hl 2 rfl) ?_
          refine lv_if_eq (tgt := 54) S.1 S.2.1 dX6_counts_26 (by decide) (fun c_3 => ?_) (fun c_3 => ?_)
          · skip
            refine lv_iconst (v := 0) S.1 S.2.1 dX6_counts_54 (by decide) ?_
            refine lv_istore_n (lv' := [(2, .int 0), (0, .ref (q 0)), (1, .int (nI k)), (3, .int (nI j))]) S.1 S.2.1 dX6_counts_55 rfl hl (by decide) rfl (fun ls hl => ?_)
            refine lv_iinc (v := (nI (j + 1))) (lv' := [(3, .int (nI (j + 1))), (2, .int 0), (0, .ref (q 0)), (1, .int (nI k))]) S.1 S.2.1 dX6_counts_56 hl (k := 3) rfl (by first | exact nI_1 _ | exact nI_add _ _) (by decide) rfl (fun ls hl => ?_)
            refine lv_goto (tgt := 20) S.1 S.2.1 dX6_counts_59 (by decide) ?_
            exact ih20 (j + 1) 0 (by omega) (by rw [mSame, ← hz]; simp only [c_2, c_3, ↓reduceIte]) (by omega) _ _ ls hw (lv_sub hl [2, 3, 1, 0] rfl)
          · skip
            refine lv_aload_n S.1 S.2.1 dX6_counts_29 rfl (lv_at hl 0 rfl) ?_
            refine y_get S hw (C := RX6) (T := TX6) (N := 13) i_X6_counts_X6 0 rfl rfl 0 (by decide) f_X6_counts_7 rfl dX6_counts_30 ?_
            refine lv_bipush (v := 40) S.1 S.2.1 dX6_counts_33 (by decide) ?_
            refine lv_iload_n S.1 S.2.1 dX6_counts_35 rfl (lv_at hl 3 rfl) ?_
            refine y_iaddN S 40 j dX6_counts_36 ?_
            refine y_iald S hw 1 (k := (40 + j)) rfl (by omega) (Nat.le_of_ble_eq_true rfl) dX6_counts_37 ?_
            refine lv_aload_n S.1 S.2.1 dX6_counts_38 rfl (lv_at hl 0 rfl) ?_
            refine y_get S hw (C := RX6) (T := TX6) (N := 13) i_X6_counts_X6 0 rfl rfl 0 (by decide) f_X6_counts_7 rfl dX6_counts_39 ?_
            refine lv_bipush (v := 40) S.1 S.2.1 dX6_counts_42 (by decide) ?_
            refine lv_iload_n S.1 S.2.1 dX6_counts_44 rfl (lv_at hl 1 rfl) ?_
            refine y_iaddN S 40 k dX6_counts_45 ?_
            refine y_iald S hw 1 (k := (40 + k)) rfl (by omega) (Nat.le_of_ble_eq_true rfl) dX6_counts_46 ?_
            refine lv_icmp_eq (tgt := 54) S.1 S.2.1 dX6_counts_47 (by decide) (fun c_4 => ?_) (fun c_4 => ?_)
            · skip
              refine lv_iconst (v := 0) S.1 S.2.1 dX6_counts_54 (by decide) ?_
              refine lv_istore_n (lv' := [(2, .int 0), (0, .ref (q 0)), (1, .int (nI k)), (3, .int (nI j))]) S.1 S.2.1 dX6_counts_55 rfl hl (by decide) rfl (fun ls hl => ?_)
              refine lv_iinc (v := (nI (j + 1))) (lv' := [(3, .int (nI (j + 1))), (2, .int 0), (0, .ref (q 0)), (1, .int (nI k))]) S.1 S.2.1 dX6_counts_56 hl (k := 3) rfl (by first | exact nI_1 _ | exact nI_add _ _) (by decide) rfl (fun ls hl => ?_)
              refine lv_goto (tgt := 20) S.1 S.2.1 dX6_counts_59 (by decide) ?_
              exact ih20 (j + 1) 0 (by omega) (by rw [mSame, ← hz]; simp only [c_2, c_3, c_4, ↓reduceIte]) (by omega) _ _ ls hw (lv_sub hl [2, 3, 1, 0] rfl)
            · skip
              refine lv_iconst (v := 1) S.1 S.2.1 dX6_counts_50 (by decide) ?_
              refine lv_goto (tgt := 55) S.1 S.2.1 dX6_counts_51 (by decide) ?_
              refine lv_istore_n (lv' := [(2, .int 1), (0, .ref (q 0)), (1, .int (nI k)), (3, .int (nI j))]) S.1 S.2.1 dX6_counts_55 rfl hl (by decide) rfl (fun ls hl => ?_)
              refine lv_iinc (v := (nI (j + 1))) (lv' := [(3, .int (nI (j + 1))), (2, .int 1), (0, .ref (q 0)), (1, .int (nI k))]) S.1 S.2.1 dX6_counts_56 hl (k := 3) rfl (by first | exact nI_1 _ | exact nI_add _ _) (by decide) rfl (fun ls hl => ?_)
              refine lv_goto (tgt := 20) S.1 S.2.1 dX6_counts_59 (by decide) ?_
              exact ih20 (j + 1) 1 (by omega) (by rw [mSame, ← hz]; simp only [c_2, c_3, c_4, ↓reduceIte]) (by omega) _ _ ls hw (lv_sub hl [2, 3, 1, 0] rfl)
    exact lp20 ((k - 0) + 1) 0 0 (Nat.zero_le _) (by unfold mSame; first | exact (if_pos c_1).symm | exact (if_neg c_1).symm) (Nat.lt_succ_self _) _ _ ls hw (lv_sub hl [2, 3, 1, 0] rfl)
  · skip
    refine lv_iconst (v := 1) S.1 S.2.1 dX6_counts_12 (by decide) ?_
    refine lv_goto (tgt := 17) S.1 S.2.1 dX6_counts_13 (by decide) ?_
    refine lv_istore_n (lv' := [(2, .int 1), (0, .ref (q 0)), (1, .int (nI k))]) S.1 S.2.1 dX6_counts_17 rfl hl (by decide) rfl (fun ls hl => ?_)
    refine lv_iconst (v := 0) S.1 S.2.1 dX6_counts_18 (by decide) ?_
    refine lv_istore_n (lv' := [(3, .int 0), (2, .int 1), (0, .ref (q 0)), (1, .int (nI k))]) S.1 S.2.1 dX6_counts_19 rfl hl (by decide) rfl (fun ls hl => ?_)
    have lp20 : ∀ (fuel : Nat) (j : Nat) (z : Int32), (j ≤ k) → (z = mSame (u 0) k j) → (k - j) < fuel → ∀ (H : Heap) (locs : List Loc) (ls : Array Slot), y_W D cI cC cL A s H locs [((q 0), .inr (6, [.ref (q 1), .ref (q 2), .ref (q 3), .int (u 3 0), .ref (q 4), .int (u 5 0), .ref (q 5), .int (u 7 0), .int (u 8 0), .int (u 9 0), .int (u 10 0), .int (u 11 0), .ref (q 6)])), ((q 1), .inl (cI, 162, .inl (u 0))), ((q 2), .inl (cI, 162, .inl (u 1))), ((q 3), .inl (cI, 648, .inl (u 2))), ((q 4), .inl (cI, 60, .inl (u 4))), ((q 5), .inl (cI, 3, .inl (u 6))), ((q 6), .inl (cI, 3, .inl (u 12)))] → lv_has ls 4 [(0, .ref (q 0)), (1, .int (nI k)), (2, .int z), (3, .int (nI j))] → W p l e (y_R 0 0) s mm args below meth c H locs 0 0 QQ (F0 mm 20 ls []) := by
      intro fuel
      induction fuel with
      | zero =>
        intro j z hj hz hfu
        exact absurd hfu (Nat.not_lt_zero _)
      | succ fuel ih20 =>
        intro j z hj hz hfu H locs ls hw hl
        refine lv_iload_n S.1 S.2.1 dX6_counts_20 rfl (lv_at hl 3 rfl) ?_
        refine lv_iload_n S.1 S.2.1 dX6_counts_21 rfl (lv_at hl 1 rfl) ?_
        refine lv_icmp_ge (tgt := 62) S.1 S.2.1 dX6_counts_22 (by decide) (fun c_5 => ?_) (fun c_5 => ?_)
        · skip
          have c_5N : k ≤ j := (nI_leI (a := k) (b := j) (by omega) (by omega)).mp c_5
          refine lv_iload_n S.1 S.2.1 dX6_counts_62 rfl (lv_at hl 2 rfl) ?_
          exact ret _ _ _ _ _ (by exact hw) (by rw [hz, show j = k from by omega]) dX6_counts_63
        · skip
          have c_5N : ¬ k ≤ j := fun z => c_5 ((nI_leI (a := k) (b := j) (by omega) (by omega)).mpr z)
          refine lv_iload_n S.1 S.2.1 dX6_counts_25 rfl (lv_at hl 2 rfl) ?_
          refine lv_if_eq (tgt := 54) S.1 S.2.1 dX6_counts_26 (by decide) (fun c_6 => ?_) (fun c_6 => ?_)
          · skip
            refine lv_iconst (v := 0) S.1 S.2.1 dX6_counts_54 (by decide) ?_
            refine lv_istore_n (lv' := [(2, .int 0), (0, .ref (q 0)), (1, .int (nI k)), (3, .int (nI j))]) S.1 S.2.1 dX6_counts_55 rfl hl (by decide) rfl (fun ls hl => ?_)
            refine lv_iinc (v := (nI (j + 1))) (lv' := [(3, .int (nI (j + 1))), (2, .int 0), (0, .ref (q 0)), (1, .int (nI k))]) S.1 S.2.1 dX6_counts_56 hl (k := 3) rfl (by first | exact nI_1 _ | exact nI_add _ _) (by decide) rfl (fun ls hl => ?_)
            refine lv_goto (tgt := 20) S.1 S.2.1 dX6_counts_59 (by decide) ?_
            exact ih20 (j + 1) 0 (by omega) (by rw [mSame, ← hz]; simp only [c_5, c_6, ↓reduceIte]) (by omega) _ _ ls hw (lv_sub hl [2, 3, 1, 0] rfl)
          · skip
            refine lv_aload_n S.1 S.2.1 dX6_counts_29 rfl (lv_at hl 0 rfl) ?_
            refine y_get S hw (C := RX6) (T := TX6) (N := 13) i_X6_counts_X6 0 rfl rfl 0 (by decide) f_X6_counts_7 rfl dX6_counts_30 ?_
            refine lv_bipush (v := 40) S.1 S.2.1 dX6_counts_33 (by decide) ?_
            refine lv_iload_n S.1 S.2.1 dX6_counts_35 rfl (lv_at hl 3 rfl) ?_
            refine y_iaddN S 40 j dX6_counts_36 ?_
            refine y_iald S hw 1 (k := (40 + j)) rfl (by omega) (Nat.le_of_ble_eq_true rfl) dX6_counts_37 ?_
            refine lv_aload_n S.1 S.2.1 dX6_counts_38 rfl (lv_at hl 0 rfl) ?_
            refine y_get S hw (C := RX6) (T := TX6) (N := 13) i_X6_counts_X6 0 rfl rfl 0 (by decide) f_X6_counts_7 rfl dX6_counts_39 ?_
            refine lv_bipush (v := 40) S.1 S.2.1 dX6_counts_42 (by decide) ?_
            refine lv_iload_n S.1 S.2.1 dX6_counts_44 rfl (lv_at hl 1 rfl) ?_
            refine y_iaddN S 40 k dX6_counts_45 ?_
            refine y_iald S hw 1 (k := (40 + k)) rfl (by omega) (Nat.le_of_ble_eq_true rfl) dX6_counts_46 ?_
            refine lv_icmp_eq (tgt := 54) S.1 S.2.1 dX6_counts_47 (by decide) (fun c_7 => ?_) (fun c_7 => ?_)
            · skip
              refine lv_iconst (v := 0) S.1 S.2.1 dX6_counts_54 (by decide) ?_
              refine lv_istore_n (lv' := [(2, .int 0), (0, .ref (q 0)), (1, .int (nI k)), (3, .int (nI j))]) S.1 S.2.1 dX6_counts_55 rfl hl (by decide) rfl (fun ls hl => ?_)
              refine lv_iinc (v := (nI (j + 1))) (lv' := [(3, .int (nI (j + 1))), (2, .int 0), (0, .ref (q 0)), (1, .int (nI k))]) S.1 S.2.1 dX6_counts_56 hl (k := 3) rfl (by first | exact nI_1 _ | exact nI_add _ _) (by decide) rfl (fun ls hl => ?_)
              refine lv_goto (tgt := 20) S.1 S.2.1 dX6_counts_59 (by decide) ?_
              exact ih20 (j + 1) 0 (by omega) (by rw [mSame, ← hz]; simp only [c_5, c_6, c_7, ↓reduceIte]) (by omega) _ _ ls hw (lv_sub hl [2, 3, 1, 0] rfl)
            · skip
              refine lv_iconst (v := 1) S.1 S.2.1 dX6_counts_50 (by decide) ?_
              refine lv_goto (tgt := 55) S.1 S.2.1 dX6_counts_51 (by decide) ?_
              refine lv_istore_n (lv' := [(2, .int 1), (0, .ref (q 0)), (1, .int (nI k)), (3, .int (nI j))]) S.1 S.2.1 dX6_counts_55 rfl hl (by decide) rfl (fun ls hl => ?_)
              refine lv_iinc (v := (nI (j + 1))) (lv' := [(3, .int (nI (j + 1))), (2, .int 1), (0, .ref (q 0)), (1, .int (nI k))]) S.1 S.2.1 dX6_counts_56 hl (k := 3) rfl (by first | exact nI_1 _ | exact nI_add _ _) (by decide) rfl (fun ls hl => ?_)
              refine lv_goto (tgt := 20) S.1 S.2.1 dX6_counts_59 (by decide) ?_
              exact ih20 (j + 1) 1 (by omega) (by rw [mSame, ← hz]; simp only [c_5, c_6, c_7, ↓reduceIte]) (by omega) _ _ ls hw (lv_sub hl [2, 3, 1, 0] rfl)
    exact lp20 ((k - 0) + 1) 0 1 (Nat.zero_le _) (by unfold mSame; first | exact (if_pos c_1).symm | exact (if_neg c_1).symm) (Nat.lt_succ_self _) _ _ ls hw (lv_sub hl [2, 3, 1, 0] rfl)

theorem i_X6_alone_X6 : ∀ w ∈ u_ws RX6 TX6 13, w ∈ wsX6_alone := by decide +kernel
theorem f_X6_alone_7 : Cond.fieldLink RX6 7 "ChargeLinesModel" "s" "[I" ∈ wsX6_alone := by decide +kernel
set_option maxHeartbeats 4000000 in
set_option maxRecDepth 100000 in
/-- Model.alone -/
theorem c_X6_alone (l : Launch) (D : va_G) (cI cC cL : ClassId) (q : Nat → Nat) (u : U) (j : Nat) (o : Int32) (hj : j < 3) (hne : ¬ u 0 (40 + j) = 0) : y_ML l yX6_alone wsX6_alone 0 0 D cI cC cL [.ref (q 0), .int (nI j), .int o] (cMd cI q u) (mAlone (u 0) j o) (fun _ : Unit => cMd cI q u) () := by
  refine y_startL (cc := cX6_alone) (maxL := 3) (by decide) rfl (Nat.le_of_ble_eq_true rfl) ?_
  intro p e s mm args below meth c A QQ ls S hw ret hl
  have S : CallFix p mm c cX6_alone 3 s args wsX6_alone RX6 := S
  have hw : y_W D cI cC cL A s s.heap [] [((q 0), .inr (6, [.ref (q 1), .ref (q 2), .ref (q 3), .int (u 3 0), .ref (q 4), .int (u 5 0), .ref (q 5), .int (u 7 0), .int (u 8 0), .int (u 9 0), .int (u 10 0), .int (u 11 0), .ref (q 6)])), ((q 1), .inl (cI, 162, .inl (u 0))), ((q 2), .inl (cI, 162, .inl (u 1))), ((q 3), .inl (cI, 648, .inl (u 2))), ((q 4), .inl (cI, 60, .inl (u 4))), ((q 5), .inl (cI, 3, .inl (u 6))), ((q 6), .inl (cI, 3, .inl (u 12)))] := hw
  have hl : lv_has ls 3 [(0, .ref (q 0)), (1, .int (nI j)), (2, .int o)] := hl
  refine lv_iload_n S.1 S.2.1 dX6_alone_0 rfl (lv_at hl 2 rfl) ?_
  refine lv_i2l (v := o.toInt64) S.1 S.2.1 dX6_alone_1 rfl ?_
  refine lv_aload_n S.1 S.2.1 dX6_alone_2 rfl (lv_at hl 0 rfl) ?_
  refine y_get S hw (C := RX6) (T := TX6) (N := 13) i_X6_alone_X6 0 rfl rfl 0 (by decide) f_X6_alone_7 rfl dX6_alone_3 ?_
  refine lv_bipush (v := 43) S.1 S.2.1 dX6_alone_6 (by decide) ?_
  refine lv_iload_n S.1 S.2.1 dX6_alone_8 rfl (lv_at hl 1 rfl) ?_
  refine y_iaddN S 43 j dX6_alone_9 ?_
  refine y_iald S hw 1 (k := (43 + j)) rfl (by omega) (Nat.le_of_ble_eq_true rfl) dX6_alone_10 ?_
  refine lv_i2l (v := ((u 0) (43 + j)).toInt64) S.1 S.2.1 dX6_alone_11 rfl ?_
  refine lv_lmul S.1 S.2.1 dX6_alone_12 ?_
  refine lv_aload_n S.1 S.2.1 dX6_alone_13 rfl (lv_at hl 0 rfl) ?_
  refine y_get S hw (C := RX6) (T := TX6) (N := 13) i_X6_alone_X6 0 rfl rfl 0 (by decide) f_X6_alone_7 rfl dX6_alone_14 ?_
  refine lv_bipush (v := 40) S.1 S.2.1 dX6_alone_17 (by decide) ?_
  refine lv_iload_n S.1 S.2.1 dX6_alone_19 rfl (lv_at hl 1 rfl) ?_
  refine y_iaddN S 40 j dX6_alone_20 ?_
  refine y_iald S hw 1 (k := (40 + j)) rfl (by omega) (Nat.le_of_ble_eq_true rfl) dX6_alone_21 ?_
  refine lv_i2l (v := ((u 0) (40 + j)).toInt64) S.1 S.2.1 dX6_alone_22 rfl ?_
  refine lv_ldiv S.1 S.2.1 dX6_alone_23 (y_l0 hne) ?_
  exact ret _ _ _ _ _ (by exact hw) (by rfl) dX6_alone_24

set_option maxHeartbeats 4000000 in
set_option maxRecDepth 100000 in
/-- Model.down -/
theorem c_X6_down (l : Launch) (D : va_G) (cI cC cL : ClassId) (x y : Int64) (hy : ¬ y = 0) : y_ML l yX6_down wsX6_down 0 0 D cI cC cL [.long x, .long y] [] (mDn x y) (fun _ : Unit => []) () := by
  refine y_startL (cc := cX6_down) (maxL := 6) (by decide) rfl (Nat.le_of_ble_eq_true rfl) ?_
  intro p e s mm args below meth c A QQ ls S hw ret hl
  have S : CallFix p mm c cX6_down 6 s args wsX6_down RX6 := S
  have hw : y_W D cI cC cL A s s.heap [] [] := hw
  have hl : lv_has ls 6 [(0, .long x), (2, .long y)] := hl
  refine lv_lload_n S.1 S.2.1 dX6_down_0 rfl (lv_at hl 0 rfl) ?_
  refine lv_lload_n S.1 S.2.1 dX6_down_1 rfl (lv_at hl 1 rfl) ?_
  refine lv_ldiv S.1 S.2.1 dX6_down_2 hy ?_
  refine lv_lstore (lv' := [(4, .long (x / y)), (0, .long x), (2, .long y)]) S.1 S.2.1 dX6_down_3 hl (by decide) rfl (fun ls hl => ?_)
  refine lv_lload S.1 S.2.1 dX6_down_5 (lv_at hl 0 rfl) ?_
  refine lv_lload_n S.1 S.2.1 dX6_down_7 rfl (lv_at hl 2 rfl) ?_
  refine lv_lmul S.1 S.2.1 dX6_down_8 ?_
  refine lv_lload_n S.1 S.2.1 dX6_down_9 rfl (lv_at hl 1 rfl) ?_
  refine W.lcmp S.1 S.2.1 dX6_down_10 ?_
  refine lv_if_le (tgt := 21) S.1 S.2.1 dX6_down_11 (by decide) (fun c_1 => ?_) (fun c_1 => ?_)
  · skip
    refine lv_lload S.1 S.2.1 dX6_down_21 (lv_at hl 0 rfl) ?_
    exact ret _ _ _ _ _ (by exact hw) (by unfold mDn; first | exact (if_pos c_1).symm | exact (if_neg c_1).symm) dX6_down_23
  · skip
    refine lv_lload S.1 S.2.1 dX6_down_14 (lv_at hl 0 rfl) ?_
    refine lv_lconst (v := 1) S.1 S.2.1 dX6_down_16 (by decide) ?_
    refine lv_lsub S.1 S.2.1 dX6_down_17 ?_
    refine lv_goto (tgt := 23) S.1 S.2.1 dX6_down_18 (by decide) ?_
    exact ret _ _ _ _ _ (by exact hw) (by unfold mDn; first | exact (if_pos c_1).symm | exact (if_neg c_1).symm) dX6_down_23

theorem i_X6_between_X6 : ∀ w ∈ u_ws RX6 TX6 13, w ∈ wsX6_between := by decide +kernel
theorem f_X6_between_7 : Cond.fieldLink RX6 7 "ChargeLinesModel" "s" "[I" ∈ wsX6_between := by decide +kernel
set_option maxHeartbeats 4000000 in
set_option maxRecDepth 100000 in
/-- Model.between -/
theorem c_X6_between (l : Launch) (D : va_G) (cI cC cL : ClassId) (q : Nat → Nat) (u : U) (i j : Nat) (o : Int32) (hi : i < 3) (hj : j < 3) (hne : ¬ (u 0 (40 + j)).toInt64 - (u 0 (40 + i)).toInt64 = 0) : y_ML l yX6_between wsX6_between 1 25 D cI cC cL [.ref (q 0), .int (nI i), .int (nI j), .int o] (cMd cI q u) (mBetw (u 0) i j o) (fun _ : Unit => cMd cI q u) () := by
  refine y_startL (cc := cX6_between) (maxL := 10) (by decide) rfl (Nat.le_of_ble_eq_true rfl) ?_
  intro p e s mm args below meth c A QQ ls S hw ret hl
  have S : CallFix p mm c cX6_between 10 s args wsX6_between RX6 := S
  have hw : y_W D cI cC cL A s s.heap [] [((q 0), .inr (6, [.ref (q 1), .ref (q 2), .ref (q 3), .int (u 3 0), .ref (q 4), .int (u 5 0), .ref (q 5), .int (u 7 0), .int (u 8 0), .int (u 9 0), .int (u 10 0), .int (u 11 0), .ref (q 6)])), ((q 1), .inl (cI, 162, .inl (u 0))), ((q 2), .inl (cI, 162, .inl (u 1))), ((q 3), .inl (cI, 648, .inl (u 2))), ((q 4), .inl (cI, 60, .inl (u 4))), ((q 5), .inl (cI, 3, .inl (u 6))), ((q 6), .inl (cI, 3, .inl (u 12)))] := hw
  have hl : lv_has ls 10 [(0, .ref (q 0)), (1, .int (nI i)), (2, .int (nI j)), (3, .int o)] := hl
  refine lv_aload_n S.1 S.2.1 dX6_between_0 rfl (lv_at hl 0 rfl) ?_
  refine y_get S hw (C := RX6) (T := TX6) (N := 13) i_X6_between_X6 0 rfl rfl 0 (by decide) f_X6_between_7 rfl dX6_between_1 ?_
  refine lv_bipush (v := 40) S.1 S.2.1 dX6_between_4 (by decide) ?_
  refine lv_iload_n S.1 S.2.1 dX6_between_6 rfl (lv_at hl 1 rfl) ?_
  refine y_iaddN S 40 i dX6_between_7 ?_
  refine y_iald S hw 1 (k := (40 + i)) rfl (by omega) (Nat.le_of_ble_eq_true rfl) dX6_between_8 ?_
  refine lv_i2l (v := ((u 0) (40 + i)).toInt64) S.1 S.2.1 dX6_between_9 rfl ?_
  refine lv_lstore (lv' := [(4, .long (((u 0) (40 + i)).toInt64)), (0, .ref (q 0)), (1, .int (nI i)), (2, .int (nI j)), (3, .int o)]) S.1 S.2.1 dX6_between_10 hl (by decide) rfl (fun ls hl => ?_)
  refine lv_aload_n S.1 S.2.1 dX6_between_12 rfl (lv_at hl 1 rfl) ?_
  refine y_get S hw (C := RX6) (T := TX6) (N := 13) i_X6_between_X6 0 rfl rfl 0 (by decide) f_X6_between_7 rfl dX6_between_13 ?_
  refine lv_bipush (v := 40) S.1 S.2.1 dX6_between_16 (by decide) ?_
  refine lv_iload_n S.1 S.2.1 dX6_between_18 rfl (lv_at hl 3 rfl) ?_
  refine y_iaddN S 40 j dX6_between_19 ?_
  refine y_iald S hw 1 (k := (40 + j)) rfl (by omega) (Nat.le_of_ble_eq_true rfl) dX6_between_20 ?_
  refine lv_i2l (v := ((u 0) (40 + j)).toInt64) S.1 S.2.1 dX6_between_21 rfl ?_
  refine lv_lstore (lv' := [(6, .long (((u 0) (40 + j)).toInt64)), (4, .long (((u 0) (40 + i)).toInt64)), (0, .ref (q 0)), (1, .int (nI i)), (2, .int (nI j)), (3, .int o)]) S.1 S.2.1 dX6_between_22 hl (by decide) rfl (fun ls hl => ?_)
  refine lv_aload_n S.1 S.2.1 dX6_between_24 rfl (lv_at hl 2 rfl) ?_
  refine y_get S hw (C := RX6) (T := TX6) (N := 13) i_X6_between_X6 0 rfl rfl 0 (by decide) f_X6_between_7 rfl dX6_between_25 ?_
  refine lv_bipush (v := 43) S.1 S.2.1 dX6_between_28 (by decide) ?_
  refine lv_iload_n S.1 S.2.1 dX6_between_30 rfl (lv_at hl 4 rfl) ?_
  refine y_iaddN S 43 j dX6_between_31 ?_
  refine y_iald S hw 1 (k := (43 + j)) rfl (by omega) (Nat.le_of_ble_eq_true rfl) dX6_between_32 ?_
  refine lv_aload_n S.1 S.2.1 dX6_between_33 rfl (lv_at hl 2 rfl) ?_
  refine y_get S hw (C := RX6) (T := TX6) (N := 13) i_X6_between_X6 0 rfl rfl 0 (by decide) f_X6_between_7 rfl dX6_between_34 ?_
  refine lv_bipush (v := 43) S.1 S.2.1 dX6_between_37 (by decide) ?_
  refine lv_iload_n S.1 S.2.1 dX6_between_39 rfl (lv_at hl 3 rfl) ?_
  refine y_iaddN S 43 i dX6_between_40 ?_
  refine y_iald S hw 1 (k := (43 + i)) rfl (by omega) (Nat.le_of_ble_eq_true rfl) dX6_between_41 ?_
  refine lv_isub S.1 S.2.1 dX6_between_42 ?_
  refine lv_i2l (v := (((u 0) (43 + j)) - ((u 0) (43 + i))).toInt64) S.1 S.2.1 dX6_between_43 rfl ?_
  refine lv_lstore (lv' := [(8, .long ((((u 0) (43 + j)) - ((u 0) (43 + i))).toInt64)), (6, .long (((u 0) (40 + j)).toInt64)), (4, .long (((u 0) (40 + i)).toInt64)), (0, .ref (q 0)), (1, .int (nI i)), (2, .int (nI j)), (3, .int o)]) S.1 S.2.1 dX6_between_44 hl (by decide) rfl (fun ls hl => ?_)
  refine lv_aload_n S.1 S.2.1 dX6_between_46 rfl (lv_at hl 3 rfl) ?_
  refine y_get S hw (C := RX6) (T := TX6) (N := 13) i_X6_between_X6 0 rfl rfl 0 (by decide) f_X6_between_7 rfl dX6_between_47 ?_
  refine lv_bipush (v := 43) S.1 S.2.1 dX6_between_50 (by decide) ?_
  refine lv_iload_n S.1 S.2.1 dX6_between_52 rfl (lv_at hl 4 rfl) ?_
  refine y_iaddN S 43 i dX6_between_53 ?_
  refine y_iald S hw 1 (k := (43 + i)) rfl (by omega) (Nat.le_of_ble_eq_true rfl) dX6_between_54 ?_
  refine lv_i2l (v := ((u 0) (43 + i)).toInt64) S.1 S.2.1 dX6_between_55 rfl ?_
  refine lv_iload_n S.1 S.2.1 dX6_between_56 rfl (lv_at hl 6 rfl) ?_
  refine lv_i2l (v := o.toInt64) S.1 S.2.1 dX6_between_57 rfl ?_
  refine lv_lload S.1 S.2.1 dX6_between_58 (lv_at hl 2 rfl) ?_
  refine lv_lsub S.1 S.2.1 dX6_between_60 ?_
  refine lv_lload S.1 S.2.1 dX6_between_61 (lv_at hl 0 rfl) ?_
  refine lv_lmul S.1 S.2.1 dX6_between_63 ?_
  refine lv_lload S.1 S.2.1 dX6_between_64 (lv_at hl 1 rfl) ?_
  refine lv_lload S.1 S.2.1 dX6_between_66 (lv_at hl 2 rfl) ?_
  refine lv_lsub S.1 S.2.1 dX6_between_68 ?_
  refine y_callSL (As := [.long (((o.toInt64) - (((u 0) (40 + i)).toInt64)) * ((((u 0) (43 + j)) - ((u 0) (43 + i))).toInt64)), .long ((((u 0) (40 + j)).toInt64) - (((u 0) (40 + i)).toInt64))]) (rest := [.long (((u 0) (43 + i)).toInt64)]) S hw hl.1 (c_X6_down l D cI cC cL (((o.toInt64) - (((u 0) (40 + i)).toInt64)) * ((((u 0) (43 + j)) - ((u 0) (43 + i))).toInt64)) ((((u 0) (40 + j)).toInt64) - (((u 0) (40 + i)).toInt64)) (hne)) (va_cwS 2 S.2.2.2.2 gX6_between_X6_down rfl rfl rfl (by decide +kernel) ⟨Nat.le_of_ble_eq_true rfl, Nat.le_of_ble_eq_true rfl⟩) [] [0, 1, 2, 3, 4, 5, 6] rfl (by decide +kernel) (wr := [((q 0), .inr (6, [.ref (q 1), .ref (q 2), .ref (q 3), .int (u 3 0), .ref (q 4), .int (u 5 0), .ref (q 5), .int (u 7 0), .int (u 8 0), .int (u 9 0), .int (u 10 0), .int (u 11 0), .ref (q 6)])), ((q 1), .inl (cI, 162, .inl (u 0))), ((q 2), .inl (cI, 162, .inl (u 1))), ((q 3), .inl (cI, 648, .inl (u 2))), ((q 4), .inl (cI, 60, .inl (u 4))), ((q 5), .inl (cI, 3, .inl (u 6))), ((q 6), .inl (cI, 3, .inl (u 12)))]) rfl (by decide +kernel) (by decide +kernel) rfl (Nat.le_of_ble_eq_true rfl) dX6_between_69 rfl ⟨Nat.le_refl _, Nat.le_refl _⟩ (fun H locs v_1 x_2 ev_1 ex_2 hw => ?_)
  have hw : y_W D cI cC cL A s H locs [((q 0), .inr (6, [.ref (q 1), .ref (q 2), .ref (q 3), .int (u 3 0), .ref (q 4), .int (u 5 0), .ref (q 5), .int (u 7 0), .int (u 8 0), .int (u 9 0), .int (u 10 0), .int (u 11 0), .ref (q 6)])), ((q 1), .inl (cI, 162, .inl (u 0))), ((q 2), .inl (cI, 162, .inl (u 1))), ((q 3), .inl (cI, 648, .inl (u 2))), ((q 4), .inl (cI, 60, .inl (u 4))), ((q 5), .inl (cI, 3, .inl (u 6))), ((q 6), .inl (cI, 3, .inl (u 12)))] := hw
  subst ex_2
  refine lv_ladd S.1 S.2.1 dX6_between_72 ?_
  exact ret _ _ _ _ _ (by exact hw) (by rfl) dX6_between_73
