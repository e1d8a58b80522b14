theorem i_X6_undo_X6 : ∀ w ∈ u_ws RX6 TX6 13, w ∈ wsX6_undo := by decide +kernel
theorem f_X6_undo_31 : Cond.fieldLink RX6 31 "ChargeLinesModel" "saved" "I" ∈ wsX6_undo := by decide +kernel
theorem f_X6_undo_7 : Cond.fieldLink RX6 7 "ChargeLinesModel" "s" "[I" ∈ wsX6_undo := by decide +kernel
theorem f_X6_undo_16 : Cond.fieldLink RX6 16 "ChargeLinesModel" "past" "[I" ∈ wsX6_undo := by decide +kernel
theorem k_X6_undo_35 : Cond.constant RX6 35 (-2000002) ∈ wsX6_undo := by decide +kernel
set_option maxHeartbeats 4000000 in
set_option maxRecDepth 100000 in
/-- Model.undo -/
theorem c_X6_undo (l : Launch) (D : va_G) (cI cC cL : ClassId) (q : Nat → Nat) (u : U) (k : Nat) (hs : u 3 0 = nI k) (hk4 : k ≤ 4) : y_MI l yX6_undo wsX6_undo 0 0 D cI cC cL [.ref (q 0)] (cMd cI q u) (mUndoR k) (fun v : U => cMd cI q v) (mUndoU u k) := by
  refine y_startI (cc := cX6_undo) (maxL := 2) (ret := some .int) (by decide +kernel) rfl (Nat.le_of_ble_eq_true rfl) ⟨_, rfl, fun x _ => rfl⟩ (fun h => by cases h) ?_
  intro p e s mm args below meth c A QQ ls S hw ret hl
  have S : CallFix p mm c cX6_undo 2 s args wsX6_undo RX6 := S
  have hw : y_W D cI cC cL A s s.heap [] [((q 0), .inr (6, [.ref (q 1), .ref (q 2), .ref (q 3), .int (u 3 0), .ref (q 4), .int (u 5 0), .ref (q 5), .int (u 7 0), .int (u 8 0), .int (u 9 0), .int (u 10 0), .int (u 11 0), .ref (q 6)])), ((q 1), .inl (cI, 162, .inl (u 0))), ((q 2), .inl (cI, 162, .inl (u 1))), ((q 3), .inl (cI, 648, .inl (u 2))), ((q 4), .inl (cI, 60, .inl (u 4))), ((q 5), .inl (cI, 3, .inl (u 6))), ((q 6), .inl (cI, 3, .inl (u 12)))] := hw
  have hl : lv_has ls 2 [(0, .ref (q 0))] := hl
  refine lv_aload_n S.1 S.2.1 dX6_undo_0 rfl (lv_at hl 0 rfl) ?_
  refine y_get S hw (C := RX6) (T := TX6) (N := 13) i_X6_undo_X6 0 rfl rfl 3 (by decide) f_X6_undo_31 rfl dX6_undo_1 ?_
  refine y_top (y := (nI k)) (hs) ?_
  refine lv_if_ne (tgt := 10) S.1 S.2.1 dX6_undo_4 (by decide) (fun c_1 => ?_) (fun c_1 => ?_)
  · skip
    have c_1N : ¬ k = 0 := fun z => c_1 ((nI_eq (a := k) (b := 0) (by omega) (by omega)).mpr z)
    refine lv_aload_n S.1 S.2.1 dX6_undo_10 rfl (lv_at hl 0 rfl) ?_
    refine lv_dup S.1 S.2.1 dX6_undo_11 rfl ?_
    refine y_get S hw (C := RX6) (T := TX6) (N := 13) i_X6_undo_X6 0 rfl rfl 3 (by decide) f_X6_undo_31 rfl dX6_undo_12 ?_
    refine y_top (y := (nI k)) (hs) ?_
    refine lv_iconst (v := 1) S.1 S.2.1 dX6_undo_15 (by decide) ?_
    refine y_isubN S k 1 (by omega) dX6_undo_16 ?_
    refine y_put S hw (C := RX6) (T := TX6) (N := 13) i_X6_undo_X6 tyX6_ok nmX6 0 rfl rfl 3 (by decide) f_X6_undo_31 (by decide +kernel) rfl rfl (Nat.le_of_ble_eq_true rfl) dX6_undo_17 (ws' := [((q 0), .inr (6, [.ref (q 1), .ref (q 2), .ref (q 3), .int (nI (k - 1)), .ref (q 4), .int (u 5 0), .ref (q 5), .int (u 7 0), .int (u 8 0), .int (u 9 0), .int (u 10 0), .int (u 11 0), .ref (q 6)])), ((q 1), .inl (cI, 162, .inl (u 0))), ((q 2), .inl (cI, 162, .inl (u 1))), ((q 3), .inl (cI, 648, .inl (u 2))), ((q 4), .inl (cI, 60, .inl (u 4))), ((q 5), .inl (cI, 3, .inl (u 6))), ((q 6), .inl (cI, 3, .inl (u 12)))]) rfl (fun H locs hw => ?_)
    refine lv_iconst (v := 0) S.1 S.2.1 dX6_undo_20 (by decide) ?_
    refine lv_istore_n (lv' := [(1, .int 0), (0, .ref (q 0))]) S.1 S.2.1 dX6_undo_21 rfl hl (by decide) rfl (fun ls hl => ?_)
    have lp22 : ∀ (fuel : Nat) (i : Nat) (g : V1), (i ≤ 162) → (g = mPut (u 0) (u 2) 0 (162 * (k - 1)) i) → (162 - i) < fuel → ∀ (H : Heap) (locs : List Loc) (ls : Array Slot), y_W D cI cC cL A s H locs [((q 0), .inr (6, [.ref (q 1), .ref (q 2), .ref (q 3), .int (nI (k - 1)), .ref (q 4), .int (u 5 0), .ref (q 5), .int (u 7 0), .int (u 8 0), .int (u 9 0), .int (u 10 0), .int (u 11 0), .ref (q 6)])), ((q 1), .inl (cI, 162, .inl g)), ((q 2), .inl (cI, 162, .inl (u 1))), ((q 3), .inl (cI, 648, .inl (u 2))), ((q 4), .inl (cI, 60, .inl (u 4))), ((q 5), .inl (cI, 3, .inl (u 6))), ((q 6), .inl (cI, 3, .inl (u 12)))] → lv_has ls 2 [(0, .ref (q 0)), (1, .int (nI i))] → W p l e (y_R 0 0) s mm args below meth c H locs 0 0 QQ (F0 mm 22 ls []) := by
      intro fuel
      induction fuel with
      | zero =>
        intro i g hi hg hfu
        exact absurd hfu (Nat.not_lt_zero _)
      | succ fuel ih22 =>
        intro i g hi hg hfu H locs ls hw hl
        refine lv_iload_n S.1 S.2.1 dX6_undo_22 rfl (lv_at hl 1 rfl) ?_
        refine lv_sipush (v := 162) S.1 S.2.1 dX6_undo_23 (by decide) ?_
        refine lv_icmp_ge (tgt := 56) S.1 S.2.1 dX6_undo_26 (by decide) (fun c_2 => ?_) (fun c_2 => ?_)
        · skip
          have c_2N : 162 ≤ i := (nI_leI (a := 162) (b := i) (by omega) (by omega)).mp c_2
          refine lv_aload_n S.1 S.2.1 dX6_undo_56 rfl (lv_at hl 0 rfl) ?_
          refine y_get S hw (C := RX6) (T := TX6) (N := 13) i_X6_undo_X6 0 rfl rfl 3 (by decide) f_X6_undo_31 rfl dX6_undo_57 ?_
          exact ret _ _ _ _ _ (by have e2 : i = 162 := (by omega); rw [e2] at hg; rw [show mUndoU u k = mUndo u k from by rw [mUndoU, if_pos c_1N]]; unfold mUndo; rw [← hg]; exact hw) (by unfold mUndoR; first | rw [if_pos c_1N] | rw [if_neg (not_not_intro c_1N)]) dX6_undo_60
        · skip
          have c_2N : ¬ 162 ≤ i := fun z => c_2 ((nI_leI (a := 162) (b := i) (by omega) (by omega)).mpr z)
          refine lv_aload_n S.1 S.2.1 dX6_undo_29 rfl (lv_at hl 0 rfl) ?_
          refine y_get S hw (C := RX6) (T := TX6) (N := 13) i_X6_undo_X6 0 rfl rfl 0 (by decide) f_X6_undo_7 rfl dX6_undo_30 ?_
          refine lv_iload_n S.1 S.2.1 dX6_undo_33 rfl (lv_at hl 1 rfl) ?_
          refine lv_aload_n S.1 S.2.1 dX6_undo_34 rfl (lv_at hl 0 rfl) ?_
          refine y_get S hw (C := RX6) (T := TX6) (N := 13) i_X6_undo_X6 0 rfl rfl 2 (by decide) f_X6_undo_16 rfl dX6_undo_35 ?_
          refine lv_sipush (v := 162) S.1 S.2.1 dX6_undo_38 (by decide) ?_
          refine lv_aload_n S.1 S.2.1 dX6_undo_41 rfl (lv_at hl 0 rfl) ?_
          refine y_get S hw (C := RX6) (T := TX6) (N := 13) i_X6_undo_X6 0 rfl rfl 3 (by decide) f_X6_undo_31 rfl dX6_undo_42 ?_
          refine y_imulN S 162 (k - 1) dX6_undo_45 ?_
          refine lv_iload_n S.1 S.2.1 dX6_undo_46 rfl (lv_at hl 1 rfl) ?_
          refine y_iaddN S (162 * (k - 1)) i dX6_undo_47 ?_
          refine y_iald S hw 3 (k := ((162 * (k - 1)) + i)) rfl (by omega) (Nat.le_of_ble_eq_true rfl) dX6_undo_48 ?_
          refine y_iast S hw 1 (k := i) rfl (by omega) (Nat.le_of_ble_eq_true rfl) dX6_undo_49 (ws' := [((q 0), .inr (6, [.ref (q 1), .ref (q 2), .ref (q 3), .int (nI (k - 1)), .ref (q 4), .int (u 5 0), .ref (q 5), .int (u 7 0), .int (u 8 0), .int (u 9 0), .int (u 10 0), .int (u 11 0), .ref (q 6)])), ((q 1), .inl (cI, 162, .inl (upd g i ((u 2) ((162 * (k - 1)) + i))))), ((q 2), .inl (cI, 162, .inl (u 1))), ((q 3), .inl (cI, 648, .inl (u 2))), ((q 4), .inl (cI, 60, .inl (u 4))), ((q 5), .inl (cI, 3, .inl (u 6))), ((q 6), .inl (cI, 3, .inl (u 12)))]) rfl (fun H locs hw => ?_)
          refine lv_iinc (v := (nI (i + 1))) (lv' := [(1, .int (nI (i + 1))), (0, .ref (q 0))]) S.1 S.2.1 dX6_undo_50 hl (k := 1) rfl (by first | exact nI_1 _ | exact nI_add _ _) (by decide) rfl (fun ls hl => ?_)
          refine lv_goto (tgt := 22) S.1 S.2.1 dX6_undo_53 (by decide) ?_
          exact ih22 (i + 1) (upd g i ((u 2) ((162 * (k - 1)) + i))) (by omega) (by rw [hg, mPut, Nat.zero_add]) (by omega) _ _ ls hw (lv_sub hl [1, 0] rfl)
    exact lp22 ((162 - 0) + 1) 0 (u 0) (Nat.zero_le _) (rfl) (Nat.lt_succ_self _) _ _ ls hw (lv_sub hl [1, 0] rfl)
  · skip
    have c_1N : k = 0 := (nI_eq (a := k) (b := 0) (by omega) (by omega)).mp c_1
    refine lv_ldc (v := (-2000002)) S.1 S.2.1 S.2.2.2.1 (S.2.2.2.2 _ k_X6_undo_35) dX6_undo_7 ?_
    exact ret _ _ _ _ _ (by rw [show mUndoU u k = u from by rw [mUndoU, if_neg (not_not_intro c_1N)]]; exact hw) (by unfold mUndoR; first | rw [if_pos c_1N] | rw [if_neg (not_not_intro c_1N)]) dX6_undo_9

theorem i_X6_begin_X6 : ∀ w ∈ u_ws RX6 TX6 13, w ∈ wsX6_begin := by decide +kernel
theorem f_X6_begin_7 : Cond.fieldLink RX6 7 "ChargeLinesModel" "s" "[I" ∈ wsX6_begin := by decide +kernel
theorem k_X6_begin_69 : Cond.constant RX6 69 (-2000001) ∈ wsX6_begin := by decide +kernel
set_option maxHeartbeats 4000000 in
set_option maxRecDepth 100000 in
/-- Model.begin -/
theorem c_X6_begin (l : Launch) (D : va_G) (cI cC cL : ClassId) (q : Nat → Nat) (u : U) (x : Int32) (n : Nat) (hn : u 0 0 = nI n) (h10 : n ≤ 10) (k : Nat) (hs : u 3 0 = nI k) (hk4 : k ≤ 4) : y_MI l yX6_begin wsX6_begin 1 22 D cI cC cL [.ref (q 0), .int x] (cMd cI q u) (mBeginR u x) (fun v : U => cMd cI q v) (mBeginU u x n k) := by
  refine y_startI (cc := cX6_begin) (maxL := 4) (ret := some .int) (by decide +kernel) rfl (Nat.le_of_ble_eq_true rfl) ⟨_, rfl, fun x _ => rfl⟩ (fun h => by cases h) ?_
  intro p e s mm args below meth c A QQ ls S hw ret hl
  have S : CallFix p mm c cX6_begin 4 s args wsX6_begin RX6 := S
  have hw : y_W D cI cC cL A s s.heap [] [((q 0), .inr (6, [.ref (q 1), .ref (q 2), .ref (q 3), .int (u 3 0), .ref (q 4), .int (u 5 0), .ref (q 5), .int (u 7 0), .int (u 8 0), .int (u 9 0), .int (u 10 0), .int (u 11 0), .ref (q 6)])), ((q 1), .inl (cI, 162, .inl (u 0))), ((q 2), .inl (cI, 162, .inl (u 1))), ((q 3), .inl (cI, 648, .inl (u 2))), ((q 4), .inl (cI, 60, .inl (u 4))), ((q 5), .inl (cI, 3, .inl (u 6))), ((q 6), .inl (cI, 3, .inl (u 12)))] := hw
  have hl : lv_has ls 4 [(0, .ref (q 0)), (1, .int x)] := hl
  refine lv_iload_n S.1 S.2.1 dX6_begin_0 rfl (lv_at hl 1 rfl) ?_
  refine lv_iconst (v := 2) S.1 S.2.1 dX6_begin_1 (by decide) ?_
  refine lv_bipush (v := 10) S.1 S.2.1 dX6_begin_2 (by decide) ?_
  refine y_callSI (As := [.int x, .int 2, .int 10]) (rest := []) S hw hl.1 (c_X6_in l D cI cC cL x 2 10) (va_cwS 3 S.2.2.2.2 gX6_begin_X6_in rfl rfl rfl (by decide +kernel) ⟨Nat.le_of_ble_eq_true rfl, Nat.le_of_ble_eq_true rfl⟩) [] [0, 1, 2, 3, 4, 5, 6] rfl (by decide +kernel) (wr := [((q 0), .inr (6, [.ref (q 1), .ref (q 2), .ref (q 3), .int (u 3 0), .ref (q 4), .int (u 5 0), .ref (q 5), .int (u 7 0), .int (u 8 0), .int (u 9 0), .int (u 10 0), .int (u 11 0), .ref (q 6)])), ((q 1), .inl (cI, 162, .inl (u 0))), ((q 2), .inl (cI, 162, .inl (u 1))), ((q 3), .inl (cI, 648, .inl (u 2))), ((q 4), .inl (cI, 60, .inl (u 4))), ((q 5), .inl (cI, 3, .inl (u 6))), ((q 6), .inl (cI, 3, .inl (u 12)))]) rfl (by decide +kernel) (by decide +kernel) rfl (Nat.le_of_ble_eq_true rfl) dX6_begin_4 rfl ⟨Nat.le_refl _, Nat.le_refl _⟩ (fun H locs v_1 x_2 ev_1 ex_2 hw => ?_)
  have hw : y_W D cI cC cL A s H locs [((q 0), .inr (6, [.ref (q 1), .ref (q 2), .ref (q 3), .int (u 3 0), .ref (q 4), .int (u 5 0), .ref (q 5), .int (u 7 0), .int (u 8 0), .int (u 9 0), .int (u 10 0), .int (u 11 0), .ref (q 6)])), ((q 1), .inl (cI, 162, .inl (u 0))), ((q 2), .inl (cI, 162, .inl (u 1))), ((q 3), .inl (cI, 648, .inl (u 2))), ((q 4), .inl (cI, 60, .inl (u 4))), ((q 5), .inl (cI, 3, .inl (u 6))), ((q 6), .inl (cI, 3, .inl (u 12)))] := hw
  subst ex_2
  refine lv_if_ne (tgt := 13) S.1 S.2.1 dX6_begin_7 (by decide) (fun c_3 => ?_) (fun c_3 => ?_)
  · skip
    obtain ⟨a, ea, ha1, ha2⟩ := mIn_nat (m := 2) (n := 10) rfl rfl (by omega) (by omega) c_3
    refine lv_aload_n S.1 S.2.1 dX6_begin_13 rfl (lv_at hl 0 rfl) ?_
    refine y_callV (As := []) (rest := []) S hw hl.1 (c_X6_records2 l D cI cC cL q u k (hs) (by omega) (c_X6_records l D cI cC cL q u k (hs) (by omega))) (cwV 0 S.2.2.2.2 gX6_begin_X6_records rfl rfl rfl (by decide +kernel) ⟨Nat.le_of_ble_eq_true rfl, Nat.le_of_ble_eq_true rfl⟩) 0 rfl rfl [0, 1, 2, 3, 4, 5, 6] [] rfl (by decide +kernel) (wr := []) rfl (by decide +kernel) (by decide +kernel) rfl (Nat.le_of_ble_eq_true rfl) dX6_begin_14 rfl ⟨Nat.le_refl _, Nat.le_refl _⟩ (fun H locs v_4 ev_4 hw => ?_)
    subst ev_4
    have hw : y_W D cI cC cL A s H locs [((q 0), .inr (6, [.ref (q 1), .ref (q 2), .ref (q 3), .int (nI (mRecK k)), .ref (q 4), .int (u 5 0), .ref (q 5), .int (u 7 0), .int (u 8 0), .int (u 9 0), .int (u 10 0), .int (u 11 0), .ref (q 6)])), ((q 1), .inl (cI, 162, .inl (u 0))), ((q 2), .inl (cI, 162, .inl (u 1))), ((q 3), .inl (cI, 648, .inl (mRecP (u 2) (u 0) k))), ((q 4), .inl (cI, 60, .inl (u 4))), ((q 5), .inl (cI, 3, .inl (u 6))), ((q 6), .inl (cI, 3, .inl (u 12)))] := hw
    refine lv_aload_n S.1 S.2.1 dX6_begin_17 rfl (lv_at hl 0 rfl) ?_
    refine y_get S hw (C := RX6) (T := TX6) (N := 13) i_X6_begin_X6 0 rfl rfl 0 (by decide) f_X6_begin_7 rfl dX6_begin_18 ?_
    refine lv_iconst (v := 1) S.1 S.2.1 dX6_begin_21 (by decide) ?_
    refine y_iald S hw 1 (k := 1) rfl (by omega) (Nat.le_of_ble_eq_true rfl) dX6_begin_22 ?_
    refine lv_istore_n (lv' := [(2, .int ((u 0) 1)), (0, .ref (q 0)), (1, .int x)]) S.1 S.2.1 dX6_begin_23 rfl hl (by decide) rfl (fun ls hl => ?_)
    refine lv_aload_n S.1 S.2.1 dX6_begin_24 rfl (lv_at hl 1 rfl) ?_
    refine y_get S hw (C := RX6) (T := TX6) (N := 13) i_X6_begin_X6 0 rfl rfl 0 (by decide) f_X6_begin_7 rfl dX6_begin_25 ?_
    refine lv_iconst (v := 0) S.1 S.2.1 dX6_begin_28 (by decide) ?_
    refine y_iald S hw 1 (k := 0) rfl (by omega) (Nat.le_of_ble_eq_true rfl) dX6_begin_29 ?_
    refine y_top (y := (nI n)) (hn) ?_
    refine lv_istore_n (lv' := [(3, .int (nI n)), (2, .int ((u 0) 1)), (0, .ref (q 0)), (1, .int x)]) S.1 S.2.1 dX6_begin_30 rfl hl (by decide) rfl (fun ls hl => ?_)
    have lp31 : ∀ (fuel : Nat) (i : Nat) (g : V1), (i ≤ a - n) → (g = mNew (u 0) n i) → (a - n - i) < fuel → ∀ (H : Heap) (locs : List Loc) (ls : Array Slot), y_W D cI cC cL A s H locs [((q 0), .inr (6, [.ref (q 1), .ref (q 2), .ref (q 3), .int (nI (mRecK k)), .ref (q 4), .int (u 5 0), .ref (q 5), .int (u 7 0), .int (u 8 0), .int (u 9 0), .int (u 10 0), .int (u 11 0), .ref (q 6)])), ((q 1), .inl (cI, 162, .inl g)), ((q 2), .inl (cI, 162, .inl (u 1))), ((q 3), .inl (cI, 648, .inl (mRecP (u 2) (u 0) k))), ((q 4), .inl (cI, 60, .inl (u 4))), ((q 5), .inl (cI, 3, .inl (u 6))), ((q 6), .inl (cI, 3, .inl (u 12)))] → lv_has ls 4 [(0, .ref (q 0)), (1, .int x), (2, .int ((u 0) 1)), (3, .int (nI (n + i)))] → W p l e (y_R 1 22) s mm args below meth c H locs 0 0 QQ (F0 mm 31 ls []) := by
      intro fuel
      induction fuel with
      | zero =>
        intro i g hi hg hfu
        exact absurd hfu (Nat.not_lt_zero _)
      | succ fuel ih31 =>
        intro i g hi hg hfu H locs ls hw hl
        refine lv_iload_n S.1 S.2.1 dX6_begin_31 rfl (lv_at hl 3 rfl) ?_
        refine lv_iload_n S.1 S.2.1 dX6_begin_32 rfl (lv_at hl 1 rfl) ?_
        refine y_top (y := (nI a)) (ea) ?_
        refine lv_icmp_ge (tgt := 62) S.1 S.2.1 dX6_begin_33 (by decide) (fun c_6 => ?_) (fun c_6 => ?_)
        · skip
          have c_6N : a ≤ (n + i) := (nI_leI (a := a) (b := (n + i)) (by omega) (by omega)).mp c_6
          refine lv_aload_n S.1 S.2.1 dX6_begin_62 rfl (lv_at hl 0 rfl) ?_
          refine y_get S hw (C := RX6) (T := TX6) (N := 13) i_X6_begin_X6 0 rfl rfl 0 (by decide) f_X6_begin_7 rfl dX6_begin_63 ?_
          refine lv_iconst (v := 0) S.1 S.2.1 dX6_begin_66 (by decide) ?_
          refine lv_iload_n S.1 S.2.1 dX6_begin_67 rfl (lv_at hl 1 rfl) ?_
          refine y_top (y := (nI a)) (ea) ?_
          refine y_iast S hw 1 (k := 0) rfl (by omega) (Nat.le_of_ble_eq_true rfl) dX6_begin_68 (ws' := [((q 0), .inr (6, [.ref (q 1), .ref (q 2), .ref (q 3), .int (nI (mRecK k)), .ref (q 4), .int (u 5 0), .ref (q 5), .int (u 7 0), .int (u 8 0), .int (u 9 0), .int (u 10 0), .int (u 11 0), .ref (q 6)])), ((q 1), .inl (cI, 162, .inl (upd g 0 (nI a)))), ((q 2), .inl (cI, 162, .inl (u 1))), ((q 3), .inl (cI, 648, .inl (mRecP (u 2) (u 0) k))), ((q 4), .inl (cI, 60, .inl (u 4))), ((q 5), .inl (cI, 3, .inl (u 6))), ((q 6), .inl (cI, 3, .inl (u 12)))]) rfl (fun H locs hw => ?_)
          refine lv_aload_n S.1 S.2.1 dX6_begin_69 rfl (lv_at hl 0 rfl) ?_
          refine y_callV (As := []) (rest := []) S hw hl.1 (c_X6_begins l D cI cC cL q (va_up (va_up (va_up u 0 (upd g 0 (nI a))) 2 (mRecP (u 2) (u 0) k)) 3 (fun _ => (nI (mRecK k)))) a (show upd g 0 (nI a) 0 = nI a from pk_us) (by omega)) (cwV 0 S.2.2.2.2 gX6_begin_X6_begins rfl rfl rfl (by decide +kernel) ⟨Nat.le_of_ble_eq_true rfl, Nat.le_of_ble_eq_true rfl⟩) 0 rfl rfl [0, 1, 2, 3, 4, 5, 6] [] rfl (by decide +kernel) (wr := []) rfl (by decide +kernel) (by decide +kernel) rfl (Nat.le_of_ble_eq_true rfl) dX6_begin_70 rfl ⟨Nat.le_refl _, Nat.le_refl _⟩ (fun H locs v_7 ev_7 hw => ?_)
          subst ev_7
          have hw : y_W D cI cC cL A s H locs [((q 0), .inr (6, [.ref (q 1), .ref (q 2), .ref (q 3), .int (nI (mRecK k)), .ref (q 4), .int (u 5 0), .ref (q 5), .int (u 7 0), .int (u 8 0), .int (u 9 0), .int (u 10 0), .int (u 11 0), .ref (q 6)])), ((q 1), .inl (cI, 162, .inl (mBeg (upd g 0 (nI a)) a))), ((q 2), .inl (cI, 162, .inl (u 1))), ((q 3), .inl (cI, 648, .inl (mRecP (u 2) (u 0) k))), ((q 4), .inl (cI, 60, .inl (u 4))), ((q 5), .inl (cI, 3, .inl (u 6))), ((q 6), .inl (cI, 3, .inl (u 12)))] := hw
          refine lv_iload_n S.1 S.2.1 dX6_begin_73 rfl (lv_at hl 2 rfl) ?_
          exact ret _ _ _ _ _ (by rw [show mBeginU u x n k = (va_up (va_up (va_up u 0 (mBeg (upd g 0 (nI a)) a)) 2 (mRecP (u 2) (u 0) k)) 3 (fun _ => (nI (mRecK k)))) from by rw [mBeginU, if_neg c_3, ea, nI_clamp (by omega), hg, show i = a - n from by omega]]; exact hw) (by unfold mBeginR; first | rw [if_pos c_3] | rw [if_neg c_3]) dX6_begin_74
        · skip
          have c_6N : ¬ a ≤ (n + i) := fun z => c_6 ((nI_leI (a := a) (b := (n + i)) (by omega) (by omega)).mpr z)
          refine lv_aload_n S.1 S.2.1 dX6_begin_36 rfl (lv_at hl 0 rfl) ?_
          refine y_get S hw (C := RX6) (T := TX6) (N := 13) i_X6_begin_X6 0 rfl rfl 0 (by decide) f_X6_begin_7 rfl dX6_begin_37 ?_
          refine lv_bipush (v := 20) S.1 S.2.1 dX6_begin_40 (by decide) ?_
          refine lv_iload_n S.1 S.2.1 dX6_begin_42 rfl (lv_at hl 3 rfl) ?_
          refine y_iaddN S 20 (n + i) dX6_begin_43 ?_
          refine lv_iconst (v := 0) S.1 S.2.1 dX6_begin_44 (by decide) ?_
          refine y_iast S hw 1 (k := (20 + (n + i))) rfl (by omega) (Nat.le_of_ble_eq_true rfl) dX6_begin_45 (ws' := [((q 0), .inr (6, [.ref (q 1), .ref (q 2), .ref (q 3), .int (nI (mRecK k)), .ref (q 4), .int (u 5 0), .ref (q 5), .int (u 7 0), .int (u 8 0), .int (u 9 0), .int (u 10 0), .int (u 11 0), .ref (q 6)])), ((q 1), .inl (cI, 162, .inl (upd g (20 + (n + i)) 0))), ((q 2), .inl (cI, 162, .inl (u 1))), ((q 3), .inl (cI, 648, .inl (mRecP (u 2) (u 0) k))), ((q 4), .inl (cI, 60, .inl (u 4))), ((q 5), .inl (cI, 3, .inl (u 6))), ((q 6), .inl (cI, 3, .inl (u 12)))]) rfl (fun H locs hw => ?_)
          refine lv_aload_n S.1 S.2.1 dX6_begin_46 rfl (lv_at hl 0 rfl) ?_
          refine y_get S hw (C := RX6) (T := TX6) (N := 13) i_X6_begin_X6 0 rfl rfl 0 (by decide) f_X6_begin_7 rfl dX6_begin_47 ?_
          refine lv_bipush (v := 30) S.1 S.2.1 dX6_begin_50 (by decide) ?_
          refine lv_iload_n S.1 S.2.1 dX6_begin_52 rfl (lv_at hl 3 rfl) ?_
          refine y_iaddN S 30 (n + i) dX6_begin_53 ?_
          refine lv_iconst (v := 0) S.1 S.2.1 dX6_begin_54 (by decide) ?_
          refine y_iast S hw 1 (k := (30 + (n + i))) rfl (by omega) (Nat.le_of_ble_eq_true rfl) dX6_begin_55 (ws' := [((q 0), .inr (6, [.ref (q 1), .ref (q 2), .ref (q 3), .int (nI (mRecK k)), .ref (q 4), .int (u 5 0), .ref (q 5), .int (u 7 0), .int (u 8 0), .int (u 9 0), .int (u 10 0), .int (u 11 0), .ref (q 6)])), ((q 1), .inl (cI, 162, .inl (upd (upd g (20 + (n + i)) 0) (30 + (n + i)) 0))), ((q 2), .inl (cI, 162, .inl (u 1))), ((q 3), .inl (cI, 648, .inl (mRecP (u 2) (u 0) k))), ((q 4), .inl (cI, 60, .inl (u 4))), ((q 5), .inl (cI, 3, .inl (u 6))), ((q 6), .inl (cI, 3, .inl (u 12)))]) rfl (fun H locs hw => ?_)
          refine lv_iinc (v := (nI ((n + i) + 1))) (lv' := [(3, .int (nI ((n + i) + 1))), (0, .ref (q 0)), (1, .int x), (2, .int ((u 0) 1))]) S.1 S.2.1 dX6_begin_56 hl (k := 3) rfl (by first | exact nI_1 _ | exact nI_add _ _) (by decide) rfl (fun ls hl => ?_)
          refine lv_goto (tgt := 31) S.1 S.2.1 dX6_begin_59 (by decide) ?_
          exact ih31 (i + 1) (upd (upd g (20 + (n + i)) 0) (30 + (n + i)) 0) (by omega) (by rw [hg]; rfl) (by omega) _ _ ls hw (lv_sub hl [1, 2, 3, 0] rfl)
    exact lp31 ((a - n - 0) + 1) 0 (u 0) (Nat.zero_le _) (rfl) (Nat.lt_succ_self _) _ _ ls hw (lv_sub hl [2, 3, 1, 0] rfl)
  · skip
    refine lv_ldc (v := (-2000001)) S.1 S.2.1 S.2.2.2.1 (S.2.2.2.2 _ k_X6_begin_69) dX6_begin_10 ?_
    exact ret _ _ _ _ _ (by rw [show mBeginU u x n k = u from by rw [mBeginU, if_pos c_3]]; exact hw) (by unfold mBeginR; first | rw [if_pos c_3] | rw [if_neg c_3]) dX6_begin_12

theorem k_X6_stage_69 : Cond.constant RX6 69 (-2000001) ∈ wsX6_stage := by decide +kernel
set_option maxHeartbeats 4000000 in
set_option maxRecDepth 100000 in
/-- Model.stage -/
theorem c_X6_stage (l : Launch) (D : va_G) (cI cC cL : ClassId) (q : Nat → Nat) (u : U) (x y z : Int32) (n : Nat) (hn : u 0 0 = nI n) (h10 : n ≤ 10) (hn1 : 1 ≤ n) (k : Nat) (hs : u 3 0 = nI k) (hk4 : k ≤ 4) : y_MI l yX6_stage wsX6_stage 2 43 D cI cC cL [.ref (q 0), .int x, .int y, .int z] (cMd cI q u) (mStageR u x y z) (fun v : U => cMd cI q v) (mStageU u x y z k) := by
  refine y_startI (cc := cX6_stage) (maxL := 4) (ret := some .int) (by decide +kernel) rfl (Nat.le_of_ble_eq_true rfl) ⟨_, rfl, fun x _ => rfl⟩ (fun h => by cases h) ?_
  intro p e s mm args below meth c A QQ ls S hw ret hl
  have S : CallFix p mm c cX6_stage 4 s args wsX6_stage RX6 := S
  have hw : y_W D cI cC cL A s s.heap [] [((q 0), .inr (6, [.ref (q 1), .ref (q 2), .ref (q 3), .int (u 3 0), .ref (q 4), .int (u 5 0), .ref (q 5), .int (u 7 0), .int (u 8 0), .int (u 9 0), .int (u 10 0), .int (u 11 0), .ref (q 6)])), ((q 1), .inl (cI, 162, .inl (u 0))), ((q 2), .inl (cI, 162, .inl (u 1))), ((q 3), .inl (cI, 648, .inl (u 2))), ((q 4), .inl (cI, 60, .inl (u 4))), ((q 5), .inl (cI, 3, .inl (u 6))), ((q 6), .inl (cI, 3, .inl (u 12)))] := hw
  have hl : lv_has ls 4 [(0, .ref (q 0)), (1, .int x), (2, .int y), (3, .int z)] := hl
  refine lv_aload_n S.1 S.2.1 dX6_stage_0 rfl (lv_at hl 0 rfl) ?_
  refine lv_iload_n S.1 S.2.1 dX6_stage_1 rfl (lv_at hl 1 rfl) ?_
  refine y_callI (As := [.int x]) (rest := []) S hw hl.1 (c_X6_isStage l D cI cC cL q u x) (cwV 1 S.2.2.2.2 gX6_stage_X6_isStage rfl rfl rfl (by decide +kernel) ⟨Nat.le_of_ble_eq_true rfl, Nat.le_of_ble_eq_true rfl⟩) 0 rfl rfl [0, 1, 2, 3, 4, 5, 6] [] rfl (by decide +kernel) (wr := []) rfl (by decide +kernel) (by decide +kernel) rfl (Nat.le_of_ble_eq_true rfl) dX6_stage_2 rfl ⟨Nat.le_refl _, Nat.le_refl _⟩ (fun H locs v_1 x_2 ev_1 ex_2 hw => ?_)
  have hw : y_W D cI cC cL A s H locs [((q 0), .inr (6, [.ref (q 1), .ref (q 2), .ref (q 3), .int (u 3 0), .ref (q 4), .int (u 5 0), .ref (q 5), .int (u 7 0), .int (u 8 0), .int (u 9 0), .int (u 10 0), .int (u 11 0), .ref (q 6)])), ((q 1), .inl (cI, 162, .inl (u 0))), ((q 2), .inl (cI, 162, .inl (u 1))), ((q 3), .inl (cI, 648, .inl (u 2))), ((q 4), .inl (cI, 60, .inl (u 4))), ((q 5), .inl (cI, 3, .inl (u 6))), ((q 6), .inl (cI, 3, .inl (u 12)))] := hw
  subst ex_2
  refine lv_if_eq (tgt := 30) S.1 S.2.1 dX6_stage_5 (by decide) (fun c_3 => ?_) (fun c_3 => ?_)
  · skip
    refine lv_ldc (v := (-2000001)) S.1 S.2.1 S.2.2.2.1 (S.2.2.2.2 _ k_X6_stage_69) dX6_stage_30 ?_
    exact ret _ _ _ _ _ (by rw [show mStageU u x y z k = u from by rw [mStageU, mStageOk, if_pos (by simp only [c_3, ↓reduceIte])]]; exact hw) (by rw [mStageR, mStageOk, if_pos (by simp only [c_3, ↓reduceIte])]) dX6_stage_32
  · skip
    refine lv_iload_n S.1 S.2.1 dX6_stage_8 rfl (lv_at hl 2 rfl) ?_
    refine lv_iconst (v := 0) S.1 S.2.1 dX6_stage_9 (by decide) ?_
    refine lv_sipush (v := 300) S.1 S.2.1 dX6_stage_10 (by decide) ?_
    refine y_callSI (As := [.int y, .int 0, .int 300]) (rest := []) S hw hl.1 (c_X6_in l D cI cC cL y 0 300) (va_cwS 3 S.2.2.2.2 gX6_stage_X6_in rfl rfl rfl (by decide +kernel) ⟨Nat.le_of_ble_eq_true rfl, Nat.le_of_ble_eq_true rfl⟩) [] [0, 1, 2, 3, 4, 5, 6] rfl (by decide +kernel) (wr := [((q 0), .inr (6, [.ref (q 1), .ref (q 2), .ref (q 3), .int (u 3 0), .ref (q 4), .int (u 5 0), .ref (q 5), .int (u 7 0), .int (u 8 0), .int (u 9 0), .int (u 10 0), .int (u 11 0), .ref (q 6)])), ((q 1), .inl (cI, 162, .inl (u 0))), ((q 2), .inl (cI, 162, .inl (u 1))), ((q 3), .inl (cI, 648, .inl (u 2))), ((q 4), .inl (cI, 60, .inl (u 4))), ((q 5), .inl (cI, 3, .inl (u 6))), ((q 6), .inl (cI, 3, .inl (u 12)))]) rfl (by decide +kernel) (by decide +kernel) rfl (Nat.le_of_ble_eq_true rfl) dX6_stage_13 rfl ⟨Nat.le_refl _, Nat.le_refl _⟩ (fun H locs v_4 x_5 ev_4 ex_5 hw => ?_)
    have hw : y_W D cI cC cL A s H locs [((q 0), .inr (6, [.ref (q 1), .ref (q 2), .ref (q 3), .int (u 3 0), .ref (q 4), .int (u 5 0), .ref (q 5), .int (u 7 0), .int (u 8 0), .int (u 9 0), .int (u 10 0), .int (u 11 0), .ref (q 6)])), ((q 1), .inl (cI, 162, .inl (u 0))), ((q 2), .inl (cI, 162, .inl (u 1))), ((q 3), .inl (cI, 648, .inl (u 2))), ((q 4), .inl (cI, 60, .inl (u 4))), ((q 5), .inl (cI, 3, .inl (u 6))), ((q 6), .inl (cI, 3, .inl (u 12)))] := hw
    subst ex_5
    refine lv_if_eq (tgt := 30) S.1 S.2.1 dX6_stage_16 (by decide) (fun c_6 => ?_) (fun c_6 => ?_)
    · skip
      refine lv_ldc (v := (-2000001)) S.1 S.2.1 S.2.2.2.1 (S.2.2.2.2 _ k_X6_stage_69) dX6_stage_30 ?_
      exact ret _ _ _ _ _ (by rw [show mStageU u x y z k = u from by rw [mStageU, mStageOk, if_pos (by simp only [c_3, c_6, ↓reduceIte])]]; exact hw) (by rw [mStageR, mStageOk, if_pos (by simp only [c_3, c_6, ↓reduceIte])]) dX6_stage_32
    · skip
      refine lv_iload_n S.1 S.2.1 dX6_stage_19 rfl (lv_at hl 3 rfl) ?_
      refine lv_iconst (v := 0) S.1 S.2.1 dX6_stage_20 (by decide) ?_
      refine lv_sipush (v := 300) S.1 S.2.1 dX6_stage_21 (by decide) ?_
      refine y_callSI (As := [.int z, .int 0, .int 300]) (rest := []) S hw hl.1 (c_X6_in l D cI cC cL z 0 300) (va_cwS 3 S.2.2.2.2 gX6_stage_X6_in rfl rfl rfl (by decide +kernel) ⟨Nat.le_of_ble_eq_true rfl, Nat.le_of_ble_eq_true rfl⟩) [] [0, 1, 2, 3, 4, 5, 6] rfl (by decide +kernel) (wr := [((q 0), .inr (6, [.ref (q 1), .ref (q 2), .ref (q 3), .int (u 3 0), .ref (q 4), .int (u 5 0), .ref (q 5), .int (u 7 0), .int (u 8 0), .int (u 9 0), .int (u 10 0), .int (u 11 0), .ref (q 6)])), ((q 1), .inl (cI, 162, .inl (u 0))), ((q 2), .inl (cI, 162, .inl (u 1))), ((q 3), .inl (cI, 648, .inl (u 2))), ((q 4), .inl (cI, 60, .inl (u 4))), ((q 5), .inl (cI, 3, .inl (u 6))), ((q 6), .inl (cI, 3, .inl (u 12)))]) rfl (by decide +kernel) (by decide +kernel) rfl (Nat.le_of_ble_eq_true rfl) dX6_stage_24 rfl ⟨Nat.le_refl _, Nat.le_refl _⟩ (fun H locs v_7 x_8 ev_7 ex_8 hw => ?_)
      have hw : y_W D cI cC cL A s H locs [((q 0), .inr (6, [.ref (q 1), .ref (q 2), .ref (q 3), .int (u 3 0), .ref (q 4), .int (u 5 0), .ref (q 5), .int (u 7 0), .int (u 8 0), .int (u 9 0), .int (u 10 0), .int (u 11 0), .ref (q 6)])), ((q 1), .inl (cI, 162, .inl (u 0))), ((q 2), .inl (cI, 162, .inl (u 1))), ((q 3), .inl (cI, 648, .inl (u 2))), ((q 4), .inl (cI, 60, .inl (u 4))), ((q 5), .inl (cI, 3, .inl (u 6))), ((q 6), .inl (cI, 3, .inl (u 12)))] := hw
      subst ex_8
      refine lv_if_ne (tgt := 33) S.1 S.2.1 dX6_stage_27 (by decide) (fun c_9 => ?_) (fun c_9 => ?_)
      · skip
        obtain ⟨a, ea, ha1, ha2⟩ := mIn_nat (m := 0) (n := n - 1) rfl (show u 0 0 - 1 = nI (n - 1) from by rw [hn]; exact pk_sub (by omega)) (by omega) (by omega) c_3
        refine lv_aload_n S.1 S.2.1 dX6_stage_33 rfl (lv_at hl 0 rfl) ?_
        refine y_callV (As := []) (rest := []) S hw hl.1 (c_X6_records2 l D cI cC cL q u k (hs) (by omega) (c_X6_records l D cI cC cL q u k (hs) (by omega))) (cwV 0 S.2.2.2.2 gX6_stage_X6_records rfl rfl rfl (by decide +kernel) ⟨Nat.le_of_ble_eq_true rfl, Nat.le_of_ble_eq_true rfl⟩) 0 rfl rfl [0, 1, 2, 3, 4, 5, 6] [] rfl (by decide +kernel) (wr := []) rfl (by decide +kernel) (by decide +kernel) rfl (Nat.le_of_ble_eq_true rfl) dX6_stage_34 rfl ⟨Nat.le_refl _, Nat.le_refl _⟩ (fun H locs v_10 ev_10 hw => ?_)
        subst ev_10
        have hw : y_W D cI cC cL A s H locs [((q 0), .inr (6, [.ref (q 1), .ref (q 2), .ref (q 3), .int (nI (mRecK k)), .ref (q 4), .int (u 5 0), .ref (q 5), .int (u 7 0), .int (u 8 0), .int (u 9 0), .int (u 10 0), .int (u 11 0), .ref (q 6)])), ((q 1), .inl (cI, 162, .inl (u 0))), ((q 2), .inl (cI, 162, .inl (u 1))), ((q 3), .inl (cI, 648, .inl (mRecP (u 2) (u 0) k))), ((q 4), .inl (cI, 60, .inl (u 4))), ((q 5), .inl (cI, 3, .inl (u 6))), ((q 6), .inl (cI, 3, .inl (u 12)))] := hw
        refine lv_aload_n S.1 S.2.1 dX6_stage_37 rfl (lv_at hl 0 rfl) ?_
        refine lv_iload_n S.1 S.2.1 dX6_stage_38 rfl (lv_at hl 1 rfl) ?_
        refine y_top (y := (nI a)) (ea) ?_
        refine lv_iload_n S.1 S.2.1 dX6_stage_39 rfl (lv_at hl 2 rfl) ?_
        refine lv_iload_n S.1 S.2.1 dX6_stage_40 rfl (lv_at hl 3 rfl) ?_
        refine y_callI (As := [.int (nI a), .int y, .int z]) (rest := []) S hw hl.1 (c_X6_shares l D cI cC cL q (va_up (va_up u 2 (mRecP (u 2) (u 0) k)) 3 (fun _ => (nI (mRecK k)))) a y z (by omega)) (cwV 3 S.2.2.2.2 gX6_stage_X6_shares rfl rfl rfl (by decide +kernel) ⟨Nat.le_of_ble_eq_true rfl, Nat.le_of_ble_eq_true rfl⟩) 0 rfl rfl [0, 1, 2, 3, 4, 5, 6] [] rfl (by decide +kernel) (wr := []) rfl (by decide +kernel) (by decide +kernel) rfl (Nat.le_of_ble_eq_true rfl) dX6_stage_41 rfl ⟨Nat.le_refl _, Nat.le_refl _⟩ (fun H locs v_12 x_13 ev_12 ex_13 hw => ?_)
        subst ev_12
        have hw : y_W D cI cC cL A s H locs [((q 0), .inr (6, [.ref (q 1), .ref (q 2), .ref (q 3), .int (nI (mRecK k)), .ref (q 4), .int (u 5 0), .ref (q 5), .int (u 7 0), .int (u 8 0), .int (u 9 0), .int (u 10 0), .int (u 11 0), .ref (q 6)])), ((q 1), .inl (cI, 162, .inl (upd (upd (u 0) (20 + a) y) (30 + a) z))), ((q 2), .inl (cI, 162, .inl (u 1))), ((q 3), .inl (cI, 648, .inl (mRecP (u 2) (u 0) k))), ((q 4), .inl (cI, 60, .inl (u 4))), ((q 5), .inl (cI, 3, .inl (u 6))), ((q 6), .inl (cI, 3, .inl (u 12)))] := hw
        subst ex_13
        refine y_top (y := (1000 * (u 0) (20 + a) + (u 0) (30 + a))) rfl ?_
        exact ret _ _ _ _ _ (by rw [show mStageU u x y z k = (va_up (va_up (va_up u 0 (upd (upd (u 0) (20 + a) y) (30 + a) z)) 2 (mRecP (u 2) (u 0) k)) 3 (fun _ => (nI (mRecK k)))) from by rw [mStageU, mStageOk, if_neg (by simp only [c_3, c_6, c_9, ↓reduceIte, not_false_eq_true]), ea, nI_clamp (by omega)]]; exact hw) (by rw [mStageR, mStageOk, if_neg (by simp only [c_3, c_6, c_9, ↓reduceIte, not_false_eq_true]), ea, nI_clamp (by omega)]) dX6_stage_44
      · skip
        refine lv_ldc (v := (-2000001)) S.1 S.2.1 S.2.2.2.1 (S.2.2.2.2 _ k_X6_stage_69) dX6_stage_30 ?_
        exact ret _ _ _ _ _ (by rw [show mStageU u x y z k = u from by rw [mStageU, mStageOk, if_pos (by simp only [c_3, c_6, c_9, ↓reduceIte])]]; exact hw) (by rw [mStageR, mStageOk, if_pos (by simp only [c_3, c_6, c_9, ↓reduceIte])]) dX6_stage_32

theorem k_X6_isSetting_80 : Cond.constant RX6 80 (100000) ∈ wsX6_isSetting := by decide +kernel
set_option maxHeartbeats 4000000 in
set_option maxRecDepth 100000 in
/-- Model.isSetting -/
theorem c_X6_isSetting (l : Launch) (D : va_G) (cI cC cL : ClassId) (x y : Int32) : y_MI l yX6_isSetting wsX6_isSetting 1 22 D cI cC cL [.int x, .int y] [] (mSetOk x y) (fun _ : Unit => []) () := by
  refine y_startI (cc := cX6_isSetting) (maxL := 2) (ret := some .boolean) (by decide +kernel) rfl (Nat.le_of_ble_eq_true rfl) ⟨_, rfl, fun x h => by rcases h rfl with rfl | rfl <;> rfl⟩ (fun _ => mSetOk_01) ?_
  intro p e s mm args below meth c A QQ ls S hw ret hl
  have S : CallFix p mm c cX6_isSetting 2 s args wsX6_isSetting RX6 := S
  have hw : y_W D cI cC cL A s s.heap [] [] := hw
  have hl : lv_has ls 2 [(0, .int x), (1, .int y)] := hl
  refine lv_iload_n S.1 S.2.1 dX6_isSetting_0 rfl (lv_at hl 0 rfl) ?_
  refine lv_if_ne (tgt := 16) S.1 S.2.1 dX6_isSetting_1 (by decide) (fun c_1 => ?_) (fun c_1 => ?_)
  · skip
    refine lv_iload_n S.1 S.2.1 dX6_isSetting_16 rfl (lv_at hl 0 rfl) ?_
    refine lv_iconst (v := 1) S.1 S.2.1 dX6_isSetting_17 (by decide) ?_
    refine lv_icmp_ne (tgt := 31) S.1 S.2.1 dX6_isSetting_18 (by decide) (fun c_2 => ?_) (fun c_2 => ?_)
    · skip
      refine lv_iload_n S.1 S.2.1 dX6_isSetting_31 rfl (lv_at hl 0 rfl) ?_
      refine lv_iconst (v := 2) S.1 S.2.1 dX6_isSetting_32 (by decide) ?_
      refine lv_iconst (v := 4) S.1 S.2.1 dX6_isSetting_33 (by decide) ?_
      refine y_callSI (As := [.int x, .int 2, .int 4]) (rest := []) S hw hl.1 (c_X6_in l D cI cC cL x 2 4) (va_cwS 3 S.2.2.2.2 gX6_isSetting_X6_in rfl rfl rfl (by decide +kernel) ⟨Nat.le_of_ble_eq_true rfl, Nat.le_of_ble_eq_true rfl⟩) [] [] rfl (by decide +kernel) (wr := []) rfl (by decide +kernel) (by decide +kernel) rfl (Nat.le_of_ble_eq_true rfl) dX6_isSetting_34 rfl ⟨Nat.le_refl _, Nat.le_refl _⟩ (fun H locs v_3 x_4 ev_3 ex_4 hw => ?_)
      have hw : y_W D cI cC cL A s H locs [] := hw
      subst ex_4
      refine lv_if_eq (tgt := 55) S.1 S.2.1 dX6_isSetting_37 (by decide) (fun c_5 => ?_) (fun c_5 => ?_)
      · skip
        refine lv_iconst (v := 0) S.1 S.2.1 dX6_isSetting_55 (by decide) ?_
        exact ret _ _ _ _ _ (by exact hw) (by unfold mSetOk; first | (rw [if_pos c_1, if_neg (not_not_intro c_2)]; done) | simp only [c_1, c_2, c_5, not_true_eq_false, not_false_eq_true, ↓reduceIte]) dX6_isSetting_56
      · skip
        refine lv_iload_n S.1 S.2.1 dX6_isSetting_40 rfl (lv_at hl 1 rfl) ?_
        refine lv_iconst (v := 1) S.1 S.2.1 dX6_isSetting_41 (by decide) ?_
        refine lv_sipush (v := 10000) S.1 S.2.1 dX6_isSetting_42 (by decide) ?_
        refine y_callSI (As := [.int y, .int 1, .int 10000]) (rest := []) S hw hl.1 (c_X6_in l D cI cC cL y 1 10000) (va_cwS 3 S.2.2.2.2 gX6_isSetting_X6_in rfl rfl rfl (by decide +kernel) ⟨Nat.le_of_ble_eq_true rfl, Nat.le_of_ble_eq_true rfl⟩) [] [] rfl (by decide +kernel) (wr := []) rfl (by decide +kernel) (by decide +kernel) rfl (Nat.le_of_ble_eq_true rfl) dX6_isSetting_45 rfl ⟨Nat.le_refl _, Nat.le_refl _⟩ (fun H locs v_6 x_7 ev_6 ex_7 hw => ?_)
        have hw : y_W D cI cC cL A s H locs [] := hw
        subst ex_7
        refine lv_if_eq (tgt := 55) S.1 S.2.1 dX6_isSetting_48 (by decide) (fun c_8 => ?_) (fun c_8 => ?_)
        · skip
          refine lv_iconst (v := 0) S.1 S.2.1 dX6_isSetting_55 (by decide) ?_
          exact ret _ _ _ _ _ (by exact hw) (by unfold mSetOk; first | (rw [if_pos c_1, if_neg (not_not_intro c_2)]; done) | simp only [c_1, c_2, c_5, c_8, not_true_eq_false, not_false_eq_true, ↓reduceIte]) dX6_isSetting_56
        · skip
          refine lv_iconst (v := 1) S.1 S.2.1 dX6_isSetting_51 (by decide) ?_
          refine lv_goto (tgt := 56) S.1 S.2.1 dX6_isSetting_52 (by decide) ?_
          exact ret _ _ _ _ _ (by exact hw) (by unfold mSetOk; first | (rw [if_pos c_1, if_neg (not_not_intro c_2)]; done) | simp only [c_1, c_2, c_5, c_8, not_true_eq_false, not_false_eq_true, ↓reduceIte]) dX6_isSetting_56
    · skip
      refine lv_iload_n S.1 S.2.1 dX6_isSetting_21 rfl (lv_at hl 1 rfl) ?_
      refine lv_iconst (v := 0) S.1 S.2.1 dX6_isSetting_22 (by decide) ?_
      refine lv_bipush (v := 12) S.1 S.2.1 dX6_isSetting_23 (by decide) ?_
      refine y_callSI (As := [.int y, .int 0, .int 12]) (rest := []) S hw hl.1 (c_X6_in l D cI cC cL y 0 12) (va_cwS 3 S.2.2.2.2 gX6_isSetting_X6_in rfl rfl rfl (by decide +kernel) ⟨Nat.le_of_ble_eq_true rfl, Nat.le_of_ble_eq_true rfl⟩) [] [] rfl (by decide +kernel) (wr := []) rfl (by decide +kernel) (by decide +kernel) rfl (Nat.le_of_ble_eq_true rfl) dX6_isSetting_25 rfl ⟨Nat.le_refl _, Nat.le_refl _⟩ (fun H locs v_9 x_10 ev_9 ex_10 hw => ?_)
      have hw : y_W D cI cC cL A s H locs [] := hw
      subst ex_10
      refine lv_goto (tgt := 56) S.1 S.2.1 dX6_isSetting_28 (by decide) ?_
      exact ret _ _ _ _ _ (by exact hw) (by unfold mSetOk; first | (rw [if_pos c_1, if_neg (not_not_intro c_2)]; done) | simp only [c_1, c_2, not_true_eq_false, not_false_eq_true, ↓reduceIte]) dX6_isSetting_56
  · skip
    refine lv_iload_n S.1 S.2.1 dX6_isSetting_4 rfl (lv_at hl 1 rfl) ?_
    refine lv_sipush (v := 1000) S.1 S.2.1 dX6_isSetting_5 (by decide) ?_
    refine lv_ldc (v := 100000) S.1 S.2.1 S.2.2.2.1 (S.2.2.2.2 _ k_X6_isSetting_80) dX6_isSetting_8 ?_
    refine y_callSI (As := [.int y, .int 1000, .int 100000]) (rest := []) S hw hl.1 (c_X6_in l D cI cC cL y 1000 100000) (va_cwS 3 S.2.2.2.2 gX6_isSetting_X6_in rfl rfl rfl (by decide +kernel) ⟨Nat.le_of_ble_eq_true rfl, Nat.le_of_ble_eq_true rfl⟩) [] [] rfl (by decide +kernel) (wr := []) rfl (by decide +kernel) (by decide +kernel) rfl (Nat.le_of_ble_eq_true rfl) dX6_isSetting_10 rfl ⟨Nat.le_refl _, Nat.le_refl _⟩ (fun H locs v_11 x_12 ev_11 ex_12 hw => ?_)
    have hw : y_W D cI cC cL A s H locs [] := hw
    subst ex_12
    refine lv_goto (tgt := 56) S.1 S.2.1 dX6_isSetting_13 (by decide) ?_
    exact ret _ _ _ _ _ (by exact hw) (by unfold mSetOk; first | (rw [if_pos c_1, if_neg (not_not_intro c_1)]; done) | simp only [c_1, not_true_eq_false, not_false_eq_true, ↓reduceIte]) dX6_isSetting_56

theorem i_X6_set_X6 : ∀ w ∈ u_ws RX6 TX6 13, w ∈ wsX6_set := by decide +kernel
theorem f_X6_set_7 : Cond.fieldLink RX6 7 "ChargeLinesModel" "s" "[I" ∈ wsX6_set := by decide +kernel
theorem k_X6_set_69 : Cond.constant RX6 69 (-2000001) ∈ wsX6_set := by decide +kernel
set_option maxHeartbeats 4000000 in
set_option maxRecDepth 100000 in
/-- Model.set -/
theorem c_X6_set (l : Launch) (D : va_G) (cI cC cL : ClassId) (q : Nat → Nat) (u : U) (x y : Int32) (k : Nat) (hs : u 3 0 = nI k) (hk4 : k ≤ 4) : y_MI l yX6_set wsX6_set 2 43 D cI cC cL [.ref (q 0), .int x, .int y] (cMd cI q u) (mSetR u x y) (fun v : U => cMd cI q v) (mSetU u x y k) := by
  refine y_startI (cc := cX6_set) (maxL := 4) (ret := some .int) (by decide +kernel) rfl (Nat.le_of_ble_eq_true rfl) ⟨_, rfl, fun x _ => rfl⟩ (fun h => by cases h) ?_
  intro p e s mm args below meth c A QQ ls S hw ret hl
  have S : CallFix p mm c cX6_set 4 s args wsX6_set RX6 := S
  have hw : y_W D cI cC cL A s s.heap [] [((q 0), .inr (6, [.ref (q 1), .ref (q 2), .ref (q 3), .int (u 3 0), .ref (q 4), .int (u 5 0), .ref (q 5), .int (u 7 0), .int (u 8 0), .int (u 9 0), .int (u 10 0), .int (u 11 0), .ref (q 6)])), ((q 1), .inl (cI, 162, .inl (u 0))), ((q 2), .inl (cI, 162, .inl (u 1))), ((q 3), .inl (cI, 648, .inl (u 2))), ((q 4), .inl (cI, 60, .inl (u 4))), ((q 5), .inl (cI, 3, .inl (u 6))), ((q 6), .inl (cI, 3, .inl (u 12)))] := hw
  have hl : lv_has ls 4 [(0, .ref (q 0)), (1, .int x), (2, .int y)] := hl
  refine lv_iload_n S.1 S.2.1 dX6_set_0 rfl (lv_at hl 1 rfl) ?_
  refine lv_iload_n S.1 S.2.1 dX6_set_1 rfl (lv_at hl 2 rfl) ?_
  refine y_callSI (As := [.int x, .int y]) (rest := []) S hw hl.1 (c_X6_isSetting l D cI cC cL x y) (va_cwS 2 S.2.2.2.2 gX6_set_X6_isSetting rfl rfl rfl (by decide +kernel) ⟨Nat.le_of_ble_eq_true rfl, Nat.le_of_ble_eq_true rfl⟩) [] [0, 1, 2, 3, 4, 5, 6] rfl (by decide +kernel) (wr := [((q 0), .inr (6, [.ref (q 1), .ref (q 2), .ref (q 3), .int (u 3 0), .ref (q 4), .int (u 5 0), .ref (q 5), .int (u 7 0), .int (u 8 0), .int (u 9 0), .int (u 10 0), .int (u 11 0), .ref (q 6)])), ((q 1), .inl (cI, 162, .inl (u 0))), ((q 2), .inl (cI, 162, .inl (u 1))), ((q 3), .inl (cI, 648, .inl (u 2))), ((q 4), .inl (cI, 60, .inl (u 4))), ((q 5), .inl (cI, 3, .inl (u 6))), ((q 6), .inl (cI, 3, .inl (u 12)))]) rfl (by decide +kernel) (by decide +kernel) rfl (Nat.le_of_ble_eq_true rfl) dX6_set_2 rfl ⟨Nat.le_refl _, Nat.le_refl _⟩ (fun H locs v_1 x_2 ev_1 ex_2 hw => ?_)
  have hw : y_W D cI cC cL A s H locs [((q 0), .inr (6, [.ref (q 1), .ref (q 2), .ref (q 3), .int (u 3 0), .ref (q 4), .int (u 5 0), .ref (q 5), .int (u 7 0), .int (u 8 0), .int (u 9 0), .int (u 10 0), .int (u 11 0), .ref (q 6)])), ((q 1), .inl (cI, 162, .inl (u 0))), ((q 2), .inl (cI, 162, .inl (u 1))), ((q 3), .inl (cI, 648, .inl (u 2))), ((q 4), .inl (cI, 60, .inl (u 4))), ((q 5), .inl (cI, 3, .inl (u 6))), ((q 6), .inl (cI, 3, .inl (u 12)))] := hw
  subst ex_2
  refine lv_if_ne (tgt := 11) S.1 S.2.1 dX6_set_5 (by decide) (fun c_3 => ?_) (fun c_3 => ?_)
  · skip
    obtain ⟨a, ea, ha⟩ := mSetOk_nat c_3
    refine lv_aload_n S.1 S.2.1 dX6_set_11 rfl (lv_at hl 0 rfl) ?_
    refine y_callV (As := []) (rest := []) S hw hl.1 (c_X6_records2 l D cI cC cL q u k (hs) (by omega) (c_X6_records l D cI cC cL q u k (hs) (by omega))) (cwV 0 S.2.2.2.2 gX6_set_X6_records rfl rfl rfl (by decide +kernel) ⟨Nat.le_of_ble_eq_true rfl, Nat.le_of_ble_eq_true rfl⟩) 0 rfl rfl [0, 1, 2, 3, 4, 5, 6] [] rfl (by decide +kernel) (wr := []) rfl (by decide +kernel) (by decide +kernel) rfl (Nat.le_of_ble_eq_true rfl) dX6_set_12 rfl ⟨Nat.le_refl _, Nat.le_refl _⟩ (fun H locs v_4 ev_4 hw => ?_)
    subst ev_4
    have hw : y_W D cI cC cL A s H locs [((q 0), .inr (6, [.ref (q 1), .ref (q 2), .ref (q 3), .int (nI (mRecK k)), .ref (q 4), .int (u 5 0), .ref (q 5), .int (u 7 0), .int (u 8 0), .int (u 9 0), .int (u 10 0), .int (u 11 0), .ref (q 6)])), ((q 1), .inl (cI, 162, .inl (u 0))), ((q 2), .inl (cI, 162, .inl (u 1))), ((q 3), .inl (cI, 648, .inl (mRecP (u 2) (u 0) k))), ((q 4), .inl (cI, 60, .inl (u 4))), ((q 5), .inl (cI, 3, .inl (u 6))), ((q 6), .inl (cI, 3, .inl (u 12)))] := hw
    refine lv_aload_n S.1 S.2.1 dX6_set_15 rfl (lv_at hl 0 rfl) ?_
    refine y_get S hw (C := RX6) (T := TX6) (N := 13) i_X6_set_X6 0 rfl rfl 0 (by decide) f_X6_set_7 rfl dX6_set_16 ?_
    refine lv_iconst (v := 5) S.1 S.2.1 dX6_set_19 (by decide) ?_
    refine lv_iload_n S.1 S.2.1 dX6_set_20 rfl (lv_at hl 1 rfl) ?_
    refine y_top (y := (nI a)) (ea) ?_
    refine y_iaddN S 5 a dX6_set_21 ?_
    refine y_iald S hw 1 (k := (5 + a)) rfl (by omega) (Nat.le_of_ble_eq_true rfl) dX6_set_22 ?_
    refine lv_istore_n (lv' := [(3, .int ((u 0) (5 + a))), (0, .ref (q 0)), (1, .int x), (2, .int y)]) S.1 S.2.1 dX6_set_23 rfl hl (by decide) rfl (fun ls hl => ?_)
    refine lv_aload_n S.1 S.2.1 dX6_set_24 rfl (lv_at hl 1 rfl) ?_
    refine y_get S hw (C := RX6) (T := TX6) (N := 13) i_X6_set_X6 0 rfl rfl 0 (by decide) f_X6_set_7 rfl dX6_set_25 ?_
    refine lv_iconst (v := 5) S.1 S.2.1 dX6_set_28 (by decide) ?_
    refine lv_iload_n S.1 S.2.1 dX6_set_29 rfl (lv_at hl 2 rfl) ?_
    refine y_top (y := (nI a)) (ea) ?_
    refine y_iaddN S 5 a dX6_set_30 ?_
    refine lv_iload_n S.1 S.2.1 dX6_set_31 rfl (lv_at hl 3 rfl) ?_
    refine y_iast S hw 1 (k := (5 + a)) rfl (by omega) (Nat.le_of_ble_eq_true rfl) dX6_set_32 (ws' := [((q 0), .inr (6, [.ref (q 1), .ref (q 2), .ref (q 3), .int (nI (mRecK k)), .ref (q 4), .int (u 5 0), .ref (q 5), .int (u 7 0), .int (u 8 0), .int (u 9 0), .int (u 10 0), .int (u 11 0), .ref (q 6)])), ((q 1), .inl (cI, 162, .inl (upd (u 0) (5 + a) y))), ((q 2), .inl (cI, 162, .inl (u 1))), ((q 3), .inl (cI, 648, .inl (mRecP (u 2) (u 0) k))), ((q 4), .inl (cI, 60, .inl (u 4))), ((q 5), .inl (cI, 3, .inl (u 6))), ((q 6), .inl (cI, 3, .inl (u 12)))]) rfl (fun H locs hw => ?_)
    refine lv_iload_n S.1 S.2.1 dX6_set_33 rfl (lv_at hl 0 rfl) ?_
    exact ret _ _ _ _ _ (by rw [show mSetU u x y k = (va_up (va_up (va_up u 0 (upd (u 0) (5 + a) y)) 2 (mRecP (u 2) (u 0) k)) 3 (fun _ => (nI (mRecK k)))) from by rw [mSetU, if_neg c_3, ea, nI_clamp (by omega)]]; exact hw) (by unfold mSetR; rw [if_neg c_3, ea, nI_clamp (by omega)]) dX6_set_34
  · skip
    refine lv_ldc (v := (-2000001)) S.1 S.2.1 S.2.2.2.1 (S.2.2.2.2 _ k_X6_set_69) dX6_set_8 ?_
    exact ret _ _ _ _ _ (by rw [show mSetU u x y k = u from by rw [mSetU, if_pos c_3]]; exact hw) (by unfold mSetR; rw [if_pos c_3]) dX6_set_10

theorem i_X6_pairs_X6 : ∀ w ∈ u_ws RX6 TX6 13, w ∈ wsX6_pairs := by decide +kernel
theorem f_X6_pairs_7 : Cond.fieldLink RX6 7 "ChargeLinesModel" "s" "[I" ∈ wsX6_pairs := by decide +kernel
set_option maxHeartbeats 4000000 in
set_option maxRecDepth 100000 in
/-- Model.pairs -/
theorem c_X6_pairs (l : Launch) (D : va_G) (cI cC cL : ClassId) (q : Nat → Nat) (u : U) : y_MI l yX6_pairs wsX6_pairs 0 0 D cI cC cL [.ref (q 0)] (cMd cI q u) (mCntP (u 0) 3) (fun _ : Unit => cMd cI q u) () := by
  refine y_startI (cc := cX6_pairs) (maxL := 3) (ret := some .int) (by decide +kernel) rfl (Nat.le_of_ble_eq_true rfl) ⟨_, rfl, fun x _ => rfl⟩ (fun h => by cases h) ?_
  intro p e s mm args below meth c A QQ ls S hw ret hl
  have S : CallFix p mm c cX6_pairs 3 s args wsX6_pairs RX6 := S
  have hw : y_W D cI cC cL A s s.heap [] [((q 0), .inr (6, [.ref (q 1), .ref (q 2), .ref (q 3), .int (u 3 0), .ref (q 4), .int (u 5 0), .ref (q 5), .int (u 7 0), .int (u 8 0), .int (u 9 0), .int (u 10 0), .int (u 11 0), .ref (q 6)])), ((q 1), .inl (cI, 162, .inl (u 0))), ((q 2), .inl (cI, 162, .inl (u 1))), ((q 3), .inl (cI, 648, .inl (u 2))), ((q 4), .inl (cI, 60, .inl (u 4))), ((q 5), .inl (cI, 3, .inl (u 6))), ((q 6), .inl (cI, 3, .inl (u 12)))] := hw
  have hl : lv_has ls 3 [(0, .ref (q 0))] := hl
  refine lv_iconst (v := 0) S.1 S.2.1 dX6_pairs_0 (by decide) ?_
  refine lv_istore_n (lv' := [(1, .int 0), (0, .ref (q 0))]) S.1 S.2.1 dX6_pairs_1 rfl hl (by decide) rfl (fun ls hl => ?_)
  refine lv_iconst (v := 0) S.1 S.2.1 dX6_pairs_2 (by decide) ?_
  refine lv_istore_n (lv' := [(2, .int 0), (1, .int 0), (0, .ref (q 0))]) S.1 S.2.1 dX6_pairs_3 rfl hl (by decide) rfl (fun ls hl => ?_)
  have lp4 : ∀ (fuel : Nat) (i : Nat) (z : Int32), (i ≤ 3) → (z = mCntP (u 0) i) → (3 - i) < fuel → ∀ (H : Heap) (locs : List Loc) (ls : Array Slot), y_W D cI cC cL A s H locs [((q 0), .inr (6, [.ref (q 1), .ref (q 2), .ref (q 3), .int (u 3 0), .ref (q 4), .int (u 5 0), .ref (q 5), .int (u 7 0), .int (u 8 0), .int (u 9 0), .int (u 10 0), .int (u 11 0), .ref (q 6)])), ((q 1), .inl (cI, 162, .inl (u 0))), ((q 2), .inl (cI, 162, .inl (u 1))), ((q 3), .inl (cI, 648, .inl (u 2))), ((q 4), .inl (cI, 60, .inl (u 4))), ((q 5), .inl (cI, 3, .inl (u 6))), ((q 6), .inl (cI, 3, .inl (u 12)))] → lv_has ls 3 [(0, .ref (q 0)), (1, .int z), (2, .int (nI i))] → W p l e (y_R 0 0) s mm args below meth c H locs 0 0 QQ (F0 mm 4 ls []) := by
    intro fuel
    induction fuel with
    | zero =>
      intro i z hi hz hfu
      exact absurd hfu (Nat.not_lt_zero _)
    | succ fuel ih4 =>
      intro i z hi hz hfu H locs ls hw hl
      refine lv_iload_n S.1 S.2.1 dX6_pairs_4 rfl (lv_at hl 2 rfl) ?_
      refine lv_iconst (v := 3) S.1 S.2.1 dX6_pairs_5 (by decide) ?_
      refine lv_icmp_ge (tgt := 36) S.1 S.2.1 dX6_pairs_6 (by decide) (fun c_1 => ?_) (fun c_1 => ?_)
      · skip
        have c_1N : 3 ≤ i := (nI_leI (a := 3) (b := i) (by omega) (by omega)).mp c_1
        refine lv_iload_n S.1 S.2.1 dX6_pairs_36 rfl (lv_at hl 1 rfl) ?_
        exact ret _ _ _ _ _ (by exact hw) (by rw [hz, show i = 3 from by omega]) dX6_pairs_37
      · skip
        have c_1N : ¬ 3 ≤ i := fun z => c_1 ((nI_leI (a := 3) (b := i) (by omega) (by omega)).mpr z)
        refine lv_iload_n S.1 S.2.1 dX6_pairs_9 rfl (lv_at hl 1 rfl) ?_
        refine lv_aload_n S.1 S.2.1 dX6_pairs_10 rfl (lv_at hl 0 rfl) ?_
        refine y_get S hw (C := RX6) (T := TX6) (N := 13) i_X6_pairs_X6 0 rfl rfl 0 (by decide) f_X6_pairs_7 rfl dX6_pairs_11 ?_
        refine lv_bipush (v := 40) S.1 S.2.1 dX6_pairs_14 (by decide) ?_
        refine lv_iload_n S.1 S.2.1 dX6_pairs_16 rfl (lv_at hl 2 rfl) ?_
        refine y_iaddN S 40 i dX6_pairs_17 ?_
        refine y_iald S hw 1 (k := (40 + i)) rfl (by omega) (Nat.le_of_ble_eq_true rfl) dX6_pairs_18 ?_
        refine lv_iconst (v := (-1)) S.1 S.2.1 dX6_pairs_19 (by decide) ?_
        refine lv_icmp_ne (tgt := 27) S.1 S.2.1 dX6_pairs_20 (by decide) (fun c_2 => ?_) (fun c_2 => ?_)
        · skip
          refine lv_iconst (v := 1) S.1 S.2.1 dX6_pairs_27 (by decide) ?_
          refine lv_iadd S.1 S.2.1 dX6_pairs_28 ?_
          refine lv_istore_n (lv' := [(1, .int (z + 1)), (0, .ref (q 0)), (2, .int (nI i))]) S.1 S.2.1 dX6_pairs_29 rfl hl (by decide) rfl (fun ls hl => ?_)
          refine lv_iinc (v := (nI (i + 1))) (lv' := [(2, .int (nI (i + 1))), (1, .int (z + 1)), (0, .ref (q 0))]) S.1 S.2.1 dX6_pairs_30 hl (k := 2) rfl (by first | exact nI_1 _ | exact nI_add _ _) (by decide) rfl (fun ls hl => ?_)
          refine lv_goto (tgt := 4) S.1 S.2.1 dX6_pairs_33 (by decide) ?_
          exact ih4 (i + 1) (z + 1) (by omega) (by rw [hz, mCntP]; simp only [c_1, c_2, not_true_eq_false, not_false_eq_true, ↓reduceIte]) (by omega) _ _ ls hw (lv_sub hl [2, 1, 0] rfl)
        · skip
          refine lv_iconst (v := 0) S.1 S.2.1 dX6_pairs_23 (by decide) ?_
          refine lv_goto (tgt := 28) S.1 S.2.1 dX6_pairs_24 (by decide) ?_
          refine lv_iadd S.1 S.2.1 dX6_pairs_28 ?_
          refine lv_istore_n (lv' := [(1, .int (z + 0)), (0, .ref (q 0)), (2, .int (nI i))]) S.1 S.2.1 dX6_pairs_29 rfl hl (by decide) rfl (fun ls hl => ?_)
          refine lv_iinc (v := (nI (i + 1))) (lv' := [(2, .int (nI (i + 1))), (1, .int (z + 0)), (0, .ref (q 0))]) S.1 S.2.1 dX6_pairs_30 hl (k := 2) rfl (by first | exact nI_1 _ | exact nI_add _ _) (by decide) rfl (fun ls hl => ?_)
          refine lv_goto (tgt := 4) S.1 S.2.1 dX6_pairs_33 (by decide) ?_
          exact ih4 (i + 1) (z + 0) (by omega) (by rw [hz, mCntP]; simp only [c_1, c_2, not_true_eq_false, not_false_eq_true, ↓reduceIte]) (by omega) _ _ ls hw (lv_sub hl [2, 1, 0] rfl)
  exact lp4 ((3 - 0) + 1) 0 0 (Nat.zero_le _) (rfl) (Nat.lt_succ_self _) _ _ ls hw (lv_sub hl [2, 1, 0] rfl)

theorem i_X6_type_X6 : ∀ w ∈ u_ws RX6 TX6 13, w ∈ wsX6_type := by decide +kernel
theorem f_X6_type_153 : Cond.fieldLink RX6 153 "ChargeLinesModel" "length" "I" ∈ wsX6_type := by decide +kernel
theorem f_X6_type_19 : Cond.fieldLink RX6 19 "ChargeLinesModel" "text" "[I" ∈ wsX6_type := by decide +kernel
theorem k_X6_type_88 : Cond.constant RX6 88 (-2000003) ∈ wsX6_type := by decide +kernel
theorem k_X6_type_69 : Cond.constant RX6 69 (-2000001) ∈ wsX6_type := by decide +kernel
set_option maxHeartbeats 4000000 in
set_option maxRecDepth 100000 in
/-- Model.type -/
theorem c_X6_type (l : Launch) (D : va_G) (cI cC cL : ClassId) (q : Nat → Nat) (u : U) (x : Int32) (L : Nat) (hL : u 5 0 = nI L) (hL2 : L ≤ 60) : y_MI l yX6_type wsX6_type 1 22 D cI cC cL [.ref (q 0), .int x] (cMd cI q u) (mTypeR x L) (fun v : U => cMd cI q v) (mTypeU u x L) := by
  refine y_startI (cc := cX6_type) (maxL := 2) (ret := some .int) (by decide +kernel) rfl (Nat.le_of_ble_eq_true rfl) ⟨_, rfl, fun x _ => rfl⟩ (fun h => by cases h) ?_
  intro p e s mm args below meth c A QQ ls S hw ret hl
  have S : CallFix p mm c cX6_type 2 s args wsX6_type RX6 := S
  have hw : y_W D cI cC cL A s s.heap [] [((q 0), .inr (6, [.ref (q 1), .ref (q 2), .ref (q 3), .int (u 3 0), .ref (q 4), .int (u 5 0), .ref (q 5), .int (u 7 0), .int (u 8 0), .int (u 9 0), .int (u 10 0), .int (u 11 0), .ref (q 6)])), ((q 1), .inl (cI, 162, .inl (u 0))), ((q 2), .inl (cI, 162, .inl (u 1))), ((q 3), .inl (cI, 648, .inl (u 2))), ((q 4), .inl (cI, 60, .inl (u 4))), ((q 5), .inl (cI, 3, .inl (u 6))), ((q 6), .inl (cI, 3, .inl (u 12)))] := hw
  have hl : lv_has ls 2 [(0, .ref (q 0)), (1, .int x)] := hl
  refine lv_iload_n S.1 S.2.1 dX6_type_0 rfl (lv_at hl 1 rfl) ?_
  refine lv_bipush (v := 32) S.1 S.2.1 dX6_type_1 (by decide) ?_
  refine lv_bipush (v := 126) S.1 S.2.1 dX6_type_3 (by decide) ?_
  refine y_callSI (As := [.int x, .int 32, .int 126]) (rest := []) S hw hl.1 (c_X6_in l D cI cC cL x 32 126) (va_cwS 3 S.2.2.2.2 gX6_type_X6_in rfl rfl rfl (by decide +kernel) ⟨Nat.le_of_ble_eq_true rfl, Nat.le_of_ble_eq_true rfl⟩) [] [0, 1, 2, 3, 4, 5, 6] rfl (by decide +kernel) (wr := [((q 0), .inr (6, [.ref (q 1), .ref (q 2), .ref (q 3), .int (u 3 0), .ref (q 4), .int (u 5 0), .ref (q 5), .int (u 7 0), .int (u 8 0), .int (u 9 0), .int (u 10 0), .int (u 11 0), .ref (q 6)])), ((q 1), .inl (cI, 162, .inl (u 0))), ((q 2), .inl (cI, 162, .inl (u 1))), ((q 3), .inl (cI, 648, .inl (u 2))), ((q 4), .inl (cI, 60, .inl (u 4))), ((q 5), .inl (cI, 3, .inl (u 6))), ((q 6), .inl (cI, 3, .inl (u 12)))]) rfl (by decide +kernel) (by decide +kernel) rfl (Nat.le_of_ble_eq_true rfl) dX6_type_5 rfl ⟨Nat.le_refl _, Nat.le_refl _⟩ (fun H locs v_1 x_2 ev_1 ex_2 hw => ?_)
  have hw : y_W D cI cC cL A s H locs [((q 0), .inr (6, [.ref (q 1), .ref (q 2), .ref (q 3), .int (u 3 0), .ref (q 4), .int (u 5 0), .ref (q 5), .int (u 7 0), .int (u 8 0), .int (u 9 0), .int (u 10 0), .int (u 11 0), .ref (q 6)])), ((q 1), .inl (cI, 162, .inl (u 0))), ((q 2), .inl (cI, 162, .inl (u 1))), ((q 3), .inl (cI, 648, .inl (u 2))), ((q 4), .inl (cI, 60, .inl (u 4))), ((q 5), .inl (cI, 3, .inl (u 6))), ((q 6), .inl (cI, 3, .inl (u 12)))] := hw
  subst ex_2
  refine lv_if_ne (tgt := 14) S.1 S.2.1 dX6_type_8 (by decide) (fun c_3 => ?_) (fun c_3 => ?_)
  · skip
    refine lv_aload_n S.1 S.2.1 dX6_type_14 rfl (lv_at hl 0 rfl) ?_
    refine y_get S hw (C := RX6) (T := TX6) (N := 13) i_X6_type_X6 0 rfl rfl 5 (by decide) f_X6_type_153 rfl dX6_type_15 ?_
    refine y_top (y := (nI L)) (hL) ?_
    refine lv_bipush (v := 60) S.1 S.2.1 dX6_type_18 (by decide) ?_
    refine lv_icmp_ne (tgt := 26) S.1 S.2.1 dX6_type_20 (by decide) (fun c_4 => ?_) (fun c_4 => ?_)
    · skip
      have c_4N : ¬ L = 60 := fun z => c_4 ((nI_eq (a := L) (b := 60) (by omega) (by omega)).mpr z)
      refine lv_aload_n S.1 S.2.1 dX6_type_26 rfl (lv_at hl 0 rfl) ?_
      refine y_get S hw (C := RX6) (T := TX6) (N := 13) i_X6_type_X6 0 rfl rfl 4 (by decide) f_X6_type_19 rfl dX6_type_27 ?_
      refine lv_aload_n S.1 S.2.1 dX6_type_30 rfl (lv_at hl 0 rfl) ?_
      refine y_get S hw (C := RX6) (T := TX6) (N := 13) i_X6_type_X6 0 rfl rfl 5 (by decide) f_X6_type_153 rfl dX6_type_31 ?_
      refine y_top (y := (nI L)) (hL) ?_
      refine lv_iload_n S.1 S.2.1 dX6_type_34 rfl (lv_at hl 1 rfl) ?_
      refine y_iast S hw 4 (k := L) rfl (by omega) (Nat.le_of_ble_eq_true rfl) dX6_type_35 (ws' := [((q 0), .inr (6, [.ref (q 1), .ref (q 2), .ref (q 3), .int (u 3 0), .ref (q 4), .int (u 5 0), .ref (q 5), .int (u 7 0), .int (u 8 0), .int (u 9 0), .int (u 10 0), .int (u 11 0), .ref (q 6)])), ((q 1), .inl (cI, 162, .inl (u 0))), ((q 2), .inl (cI, 162, .inl (u 1))), ((q 3), .inl (cI, 648, .inl (u 2))), ((q 4), .inl (cI, 60, .inl (upd (u 4) L x))), ((q 5), .inl (cI, 3, .inl (u 6))), ((q 6), .inl (cI, 3, .inl (u 12)))]) rfl (fun H locs hw => ?_)
      refine lv_aload_n S.1 S.2.1 dX6_type_36 rfl (lv_at hl 0 rfl) ?_
      refine lv_dup S.1 S.2.1 dX6_type_37 rfl ?_
      refine y_get S hw (C := RX6) (T := TX6) (N := 13) i_X6_type_X6 0 rfl rfl 5 (by decide) f_X6_type_153 rfl dX6_type_38 ?_
      refine y_top (y := (nI L)) (hL) ?_
      refine lv_iconst (v := 1) S.1 S.2.1 dX6_type_41 (by decide) ?_
      refine y_iaddN S L 1 dX6_type_42 ?_
      refine y_put S hw (C := RX6) (T := TX6) (N := 13) i_X6_type_X6 tyX6_ok nmX6 0 rfl rfl 5 (by decide) f_X6_type_153 (by decide +kernel) rfl rfl (Nat.le_of_ble_eq_true rfl) dX6_type_43 (ws' := [((q 0), .inr (6, [.ref (q 1), .ref (q 2), .ref (q 3), .int (u 3 0), .ref (q 4), .int (nI (L + 1)), .ref (q 5), .int (u 7 0), .int (u 8 0), .int (u 9 0), .int (u 10 0), .int (u 11 0), .ref (q 6)])), ((q 1), .inl (cI, 162, .inl (u 0))), ((q 2), .inl (cI, 162, .inl (u 1))), ((q 3), .inl (cI, 648, .inl (u 2))), ((q 4), .inl (cI, 60, .inl (upd (u 4) L x))), ((q 5), .inl (cI, 3, .inl (u 6))), ((q 6), .inl (cI, 3, .inl (u 12)))]) rfl (fun H locs hw => ?_)
      refine lv_aload_n S.1 S.2.1 dX6_type_46 rfl (lv_at hl 0 rfl) ?_
      refine y_get S hw (C := RX6) (T := TX6) (N := 13) i_X6_type_X6 0 rfl rfl 5 (by decide) f_X6_type_153 rfl dX6_type_47 ?_
      exact ret _ _ _ _ _ (by rw [show mTypeU u x L = (va_up (va_up u 4 (upd (u 4) L x)) 5 (fun _ => (nI (L + 1)))) from by rw [mTypeU, if_neg c_3, if_pos c_4N]]; exact hw) (by unfold mTypeR; first | rw [if_neg c_3, if_pos c_4N] | rw [if_neg c_3, if_neg (not_not_intro c_4N)]) dX6_type_50
    · skip
      have c_4N : L = 60 := (nI_eq (a := L) (b := 60) (by omega) (by omega)).mp c_4
      refine lv_ldc (v := (-2000003)) S.1 S.2.1 S.2.2.2.1 (S.2.2.2.2 _ k_X6_type_88) dX6_type_23 ?_
      exact ret _ _ _ _ _ (by rw [show mTypeU u x L = u from by rw [mTypeU, if_neg c_3, if_neg (not_not_intro c_4N)]]; exact hw) (by unfold mTypeR; first | rw [if_neg c_3, if_pos c_4N] | rw [if_neg c_3, if_neg (not_not_intro c_4N)]) dX6_type_25
  · skip
    refine lv_ldc (v := (-2000001)) S.1 S.2.1 S.2.2.2.1 (S.2.2.2.2 _ k_X6_type_69) dX6_type_11 ?_
    exact ret _ _ _ _ _ (by rw [show mTypeU u x L = u from by rw [mTypeU, if_pos c_3]]; exact hw) (by unfold mTypeR; rw [if_pos c_3]) dX6_type_13

theorem i_X6_clearText_X6 : ∀ w ∈ u_ws RX6 TX6 13, w ∈ wsX6_clearText := by decide +kernel
theorem f_X6_clearText_153 : Cond.fieldLink RX6 153 "ChargeLinesModel" "length" "I" ∈ wsX6_clearText := by decide +kernel
set_option maxHeartbeats 4000000 in
set_option maxRecDepth 100000 in
/-- Model.clearText -/
theorem c_X6_clearText (l : Launch) (D : va_G) (cI cC cL : ClassId) (q : Nat → Nat) (u : U) : y_MI l yX6_clearText wsX6_clearText 0 0 D cI cC cL [.ref (q 0)] (cMd cI q u) (u 5 0) (fun v : U => cMd cI q v) (va_up u 5 (fun _ => 0)) := by
  refine y_startI (cc := cX6_clearText) (maxL := 2) (ret := some .int) (by decide +kernel) rfl (Nat.le_of_ble_eq_true rfl) ⟨_, rfl, fun x _ => rfl⟩ (fun h => by cases h) ?_
  intro p e s mm args below meth c A QQ ls S hw ret hl
  have S : CallFix p mm c cX6_clearText 2 s args wsX6_clearText RX6 := S
  have hw : y_W D cI cC cL A s s.heap [] [((q 0), .inr (6, [.ref (q 1), .ref (q 2), .ref (q 3), .int (u 3 0), .ref (q 4), .int (u 5 0), .ref (q 5), .int (u 7 0), .int (u 8 0), .int (u 9 0), .int (u 10 0), .int (u 11 0), .ref (q 6)])), ((q 1), .inl (cI, 162, .inl (u 0))), ((q 2), .inl (cI, 162, .inl (u 1))), ((q 3), .inl (cI, 648, .inl (u 2))), ((q 4), .inl (cI, 60, .inl (u 4))), ((q 5), .inl (cI, 3, .inl (u 6))), ((q 6), .inl (cI, 3, .inl (u 12)))] := hw
  have hl : lv_has ls 2 [(0, .ref (q 0))] := hl
  refine lv_aload_n S.1 S.2.1 dX6_clearText_0 rfl (lv_at hl 0 rfl) ?_
  refine y_get S hw (C := RX6) (T := TX6) (N := 13) i_X6_clearText_X6 0 rfl rfl 5 (by decide) f_X6_clearText_153 rfl dX6_clearText_1 ?_
  refine lv_istore_n (lv' := [(1, .int (u 5 0)), (0, .ref (q 0))]) S.1 S.2.1 dX6_clearText_4 rfl hl (by decide) rfl (fun ls hl => ?_)
  refine lv_aload_n S.1 S.2.1 dX6_clearText_5 rfl (lv_at hl 1 rfl) ?_
  refine lv_iconst (v := 0) S.1 S.2.1 dX6_clearText_6 (by decide) ?_
  refine y_put S hw (C := RX6) (T := TX6) (N := 13) i_X6_clearText_X6 tyX6_ok nmX6 0 rfl rfl 5 (by decide) f_X6_clearText_153 (by decide +kernel) rfl rfl (Nat.le_of_ble_eq_true rfl) dX6_clearText_7 (ws' := [((q 0), .inr (6, [.ref (q 1), .ref (q 2), .ref (q 3), .int (u 3 0), .ref (q 4), .int 0, .ref (q 5), .int (u 7 0), .int (u 8 0), .int (u 9 0), .int (u 10 0), .int (u 11 0), .ref (q 6)])), ((q 1), .inl (cI, 162, .inl (u 0))), ((q 2), .inl (cI, 162, .inl (u 1))), ((q 3), .inl (cI, 648, .inl (u 2))), ((q 4), .inl (cI, 60, .inl (u 4))), ((q 5), .inl (cI, 3, .inl (u 6))), ((q 6), .inl (cI, 3, .inl (u 12)))]) rfl (fun H locs hw => ?_)
  refine lv_iload_n S.1 S.2.1 dX6_clearText_10 rfl (lv_at hl 0 rfl) ?_
  exact ret _ _ _ _ _ (by exact hw) (by rfl) dX6_clearText_11
