theorem i_X6_tries_X6 : ∀ w ∈ u_ws RX6 TX6 13, w ∈ wsX6_tries := by decide +kernel
theorem f_X6_tries_13 : Cond.fieldLink RX6 13 "ChargeLinesModel" "trial" "[I" ∈ wsX6_tries := by decide +kernel
theorem f_X6_tries_7 : Cond.fieldLink RX6 7 "ChargeLinesModel" "s" "[I" ∈ wsX6_tries := by decide +kernel
set_option maxHeartbeats 4000000 in
set_option maxRecDepth 100000 in
/-- Model.tries -/
theorem c_X6_tries (l : Launch) (D : va_G) (cI cC cL : ClassId) (q : Nat → Nat) (u : U) (z : Int32) (n : Nat) (hn : u 0 0 = nI n) (h10 : n ≤ 10) : y_MV l yX6_tries wsX6_tries 0 0 D cI cC cL [.ref (q 0), .int z] (cMd cI q u) (fun v : U => cMd cI q v) (va_up u 1 (mTry (u 0) n z)) := by
  refine y_startV (cc := cX6_tries) (maxL := 3) (by decide) rfl (Nat.le_of_ble_eq_true rfl) ?_
  intro p e s mm args below meth c A QQ ls S hw ret hl
  have S : CallFix p mm c cX6_tries 3 s args wsX6_tries RX6 := S
  have hw : y_W D cI cC cL A s s.heap [] [((q 0), .inr (6, [.ref (q 1), .ref (q 2), .ref (q 3), .int (u 3 0), .ref (q 4), .int (u 5 0), .ref (q 5), .int (u 7 0), .int (u 8 0), .int (u 9 0), .int (u 10 0), .int (u 11 0), .ref (q 6)])), ((q 1), .inl (cI, 162, .inl (u 0))), ((q 2), .inl (cI, 162, .inl (u 1))), ((q 3), .inl (cI, 648, .inl (u 2))), ((q 4), .inl (cI, 60, .inl (u 4))), ((q 5), .inl (cI, 3, .inl (u 6))), ((q 6), .inl (cI, 3, .inl (u 12)))] := hw
  have hl : lv_has ls 3 [(0, .ref (q 0)), (1, .int z)] := hl
  refine lv_iconst (v := 0) S.1 S.2.1 dX6_tries_0 (by decide) ?_
  refine lv_istore_n (lv' := [(2, .int 0), (0, .ref (q 0)), (1, .int z)]) S.1 S.2.1 dX6_tries_1 rfl hl (by decide) rfl (fun ls hl => ?_)
  have lp2 : ∀ (fuel : Nat) (i : Nat) (g : V1), (i ≤ 162) → (g = mPut (u 1) (u 0) 0 0 i) → (162 - i) < fuel → ∀ (H : Heap) (locs : List Loc) (ls : Array Slot), y_W D cI cC cL A s H locs [((q 0), .inr (6, [.ref (q 1), .ref (q 2), .ref (q 3), .int (u 3 0), .ref (q 4), .int (u 5 0), .ref (q 5), .int (u 7 0), .int (u 8 0), .int (u 9 0), .int (u 10 0), .int (u 11 0), .ref (q 6)])), ((q 1), .inl (cI, 162, .inl (u 0))), ((q 2), .inl (cI, 162, .inl g)), ((q 3), .inl (cI, 648, .inl (u 2))), ((q 4), .inl (cI, 60, .inl (u 4))), ((q 5), .inl (cI, 3, .inl (u 6))), ((q 6), .inl (cI, 3, .inl (u 12)))] → lv_has ls 3 [(0, .ref (q 0)), (1, .int z), (2, .int (nI i))] → W p l e (y_R 0 0) s mm args below meth c H locs 0 0 QQ (F0 mm 2 ls []) := by
    intro fuel
    induction fuel with
    | zero =>
      intro i g hi hg hfu
      exact absurd hfu (Nat.not_lt_zero _)
    | succ fuel ih2 =>
      intro i g hi hg hfu H locs ls hw hl
      refine lv_iload_n S.1 S.2.1 dX6_tries_2 rfl (lv_at hl 2 rfl) ?_
      refine lv_sipush (v := 162) S.1 S.2.1 dX6_tries_3 (by decide) ?_
      refine lv_icmp_ge (tgt := 27) S.1 S.2.1 dX6_tries_6 (by decide) (fun c_1 => ?_) (fun c_1 => ?_)
      · skip
        have c_1N : 162 ≤ i := (nI_leI (a := 162) (b := i) (by omega) (by omega)).mp c_1
        have hw : y_W D cI cC cL A s H locs [((q 0), .inr (6, [.ref (q 1), .ref (q 2), .ref (q 3), .int (u 3 0), .ref (q 4), .int (u 5 0), .ref (q 5), .int (u 7 0), .int (u 8 0), .int (u 9 0), .int (u 10 0), .int (u 11 0), .ref (q 6)])), ((q 1), .inl (cI, 162, .inl (u 0))), ((q 2), .inl (cI, 162, .inl (u 0))), ((q 3), .inl (cI, 648, .inl (u 2))), ((q 4), .inl (cI, 60, .inl (u 4))), ((q 5), .inl (cI, 3, .inl (u 6))), ((q 6), .inl (cI, 3, .inl (u 12)))] := hw.cong 2 (u 0) rfl (fun k hk => by rw [hg, mPut_at, if_pos (by omega), Nat.zero_add, Nat.sub_zero]) rfl
        refine lv_aload_n S.1 S.2.1 dX6_tries_27 rfl (lv_at hl 0 rfl) ?_
        refine y_get S hw (C := RX6) (T := TX6) (N := 13) i_X6_tries_X6 0 rfl rfl 1 (by decide) f_X6_tries_13 rfl dX6_tries_28 ?_
        refine lv_bipush (v := 49) S.1 S.2.1 dX6_tries_31 (by decide) ?_
        refine lv_iconst (v := 0) S.1 S.2.1 dX6_tries_33 (by decide) ?_
        refine y_iast S hw 2 (k := 49) rfl (by omega) (Nat.le_of_ble_eq_true rfl) dX6_tries_34 (ws' := [((q 0), .inr (6, [.ref (q 1), .ref (q 2), .ref (q 3), .int (u 3 0), .ref (q 4), .int (u 5 0), .ref (q 5), .int (u 7 0), .int (u 8 0), .int (u 9 0), .int (u 10 0), .int (u 11 0), .ref (q 6)])), ((q 1), .inl (cI, 162, .inl (u 0))), ((q 2), .inl (cI, 162, .inl (upd (u 0) 49 0))), ((q 3), .inl (cI, 648, .inl (u 2))), ((q 4), .inl (cI, 60, .inl (u 4))), ((q 5), .inl (cI, 3, .inl (u 6))), ((q 6), .inl (cI, 3, .inl (u 12)))]) rfl (fun H locs hw => ?_)
        refine lv_iconst (v := 0) S.1 S.2.1 dX6_tries_35 (by decide) ?_
        refine lv_istore_n (lv' := [(2, .int 0), (0, .ref (q 0)), (1, .int z)]) S.1 S.2.1 dX6_tries_36 rfl hl (by decide) rfl (fun ls hl => ?_)
        have lp37 : ∀ (fuel : Nat) (i : Nat) (g : V1), (i ≤ n) → (g = mFil (upd (u 0) 49 0) 10 0 i) → (z = 0 → i = 0) → (n - i) < fuel → ∀ (H : Heap) (locs : List Loc) (ls : Array Slot), y_W D cI cC cL A s H locs [((q 0), .inr (6, [.ref (q 1), .ref (q 2), .ref (q 3), .int (u 3 0), .ref (q 4), .int (u 5 0), .ref (q 5), .int (u 7 0), .int (u 8 0), .int (u 9 0), .int (u 10 0), .int (u 11 0), .ref (q 6)])), ((q 1), .inl (cI, 162, .inl (u 0))), ((q 2), .inl (cI, 162, .inl g)), ((q 3), .inl (cI, 648, .inl (u 2))), ((q 4), .inl (cI, 60, .inl (u 4))), ((q 5), .inl (cI, 3, .inl (u 6))), ((q 6), .inl (cI, 3, .inl (u 12)))] → lv_has ls 3 [(0, .ref (q 0)), (1, .int z), (2, .int (nI i))] → W p l e (y_R 0 0) s mm args below meth c H locs 0 0 QQ (F0 mm 37 ls []) := by
          intro fuel
          induction fuel with
          | zero =>
            intro i g hi hg hz hfu
            exact absurd hfu (Nat.not_lt_zero _)
          | succ fuel ih37 =>
            intro i g hi hg hz hfu H locs ls hw hl
            refine lv_iload_n S.1 S.2.1 dX6_tries_37 rfl (lv_at hl 2 rfl) ?_
            refine lv_aload_n S.1 S.2.1 dX6_tries_38 rfl (lv_at hl 0 rfl) ?_
            refine y_get S hw (C := RX6) (T := TX6) (N := 13) i_X6_tries_X6 0 rfl rfl 0 (by decide) f_X6_tries_7 rfl dX6_tries_39 ?_
            refine lv_iconst (v := 0) S.1 S.2.1 dX6_tries_42 (by decide) ?_
            refine y_iald S hw 1 (k := 0) rfl (by omega) (Nat.le_of_ble_eq_true rfl) dX6_tries_43 ?_
            refine y_top (y := (nI n)) (hn) ?_
            refine lv_icmp_ge (tgt := 67) S.1 S.2.1 dX6_tries_44 (by decide) (fun c_2 => ?_) (fun c_2 => ?_)
            · skip
              have c_2N : n ≤ i := (nI_leI (a := n) (b := i) (by omega) (by omega)).mp c_2
              exact ret _ _ _ _ (by rw [show mTry (u 0) n z = g from by unfold mTry; split; (rename_i h9; rw [hg, hz h9]; rfl); rw [hg, show i = n from by omega]]; exact hw) dX6_tries_67
            · skip
              have c_2N : ¬ n ≤ i := fun z => c_2 ((nI_leI (a := n) (b := i) (by omega) (by omega)).mpr z)
              refine lv_iload_n S.1 S.2.1 dX6_tries_47 rfl (lv_at hl 1 rfl) ?_
              refine lv_if_eq (tgt := 67) S.1 S.2.1 dX6_tries_48 (by decide) (fun c_3 => ?_) (fun c_3 => ?_)
              · skip
                exact ret _ _ _ _ (by rw [show mTry (u 0) n z = g from by rw [mTry, if_pos c_3, hg, hz c_3]; rfl]; exact hw) dX6_tries_67
              · skip
                refine lv_aload_n S.1 S.2.1 dX6_tries_51 rfl (lv_at hl 0 rfl) ?_
                refine y_get S hw (C := RX6) (T := TX6) (N := 13) i_X6_tries_X6 0 rfl rfl 1 (by decide) f_X6_tries_13 rfl dX6_tries_52 ?_
                refine lv_bipush (v := 10) S.1 S.2.1 dX6_tries_55 (by decide) ?_
                refine lv_iload_n S.1 S.2.1 dX6_tries_57 rfl (lv_at hl 2 rfl) ?_
                refine y_iaddN S 10 i dX6_tries_58 ?_
                refine lv_iconst (v := 0) S.1 S.2.1 dX6_tries_59 (by decide) ?_
                refine y_iast S hw 2 (k := (10 + i)) rfl (by omega) (Nat.le_of_ble_eq_true rfl) dX6_tries_60 (ws' := [((q 0), .inr (6, [.ref (q 1), .ref (q 2), .ref (q 3), .int (u 3 0), .ref (q 4), .int (u 5 0), .ref (q 5), .int (u 7 0), .int (u 8 0), .int (u 9 0), .int (u 10 0), .int (u 11 0), .ref (q 6)])), ((q 1), .inl (cI, 162, .inl (u 0))), ((q 2), .inl (cI, 162, .inl (upd g (10 + i) 0))), ((q 3), .inl (cI, 648, .inl (u 2))), ((q 4), .inl (cI, 60, .inl (u 4))), ((q 5), .inl (cI, 3, .inl (u 6))), ((q 6), .inl (cI, 3, .inl (u 12)))]) rfl (fun H locs hw => ?_)
                refine lv_iinc (v := (nI (i + 1))) (lv' := [(2, .int (nI (i + 1))), (0, .ref (q 0)), (1, .int z)]) S.1 S.2.1 dX6_tries_61 hl (k := 2) rfl (by first | exact nI_1 _ | exact nI_add _ _) (by decide) rfl (fun ls hl => ?_)
                refine lv_goto (tgt := 37) S.1 S.2.1 dX6_tries_64 (by decide) ?_
                exact ih37 (i + 1) (upd g (10 + i) 0) (by omega) (by rw [hg]; rfl) (fun h9 => absurd h9 c_3) (by omega) _ _ ls hw (lv_sub hl [1, 2, 0] rfl)
        exact lp37 ((n - 0) + 1) 0 (upd (u 0) 49 0) (Nat.zero_le _) (rfl) (fun _ => rfl) (Nat.lt_succ_self _) _ _ ls hw (lv_sub hl [1, 2, 0] rfl)
      · skip
        have c_1N : ¬ 162 ≤ i := fun z => c_1 ((nI_leI (a := 162) (b := i) (by omega) (by omega)).mpr z)
        refine lv_aload_n S.1 S.2.1 dX6_tries_9 rfl (lv_at hl 0 rfl) ?_
        refine y_get S hw (C := RX6) (T := TX6) (N := 13) i_X6_tries_X6 0 rfl rfl 1 (by decide) f_X6_tries_13 rfl dX6_tries_10 ?_
        refine lv_iload_n S.1 S.2.1 dX6_tries_13 rfl (lv_at hl 2 rfl) ?_
        refine lv_aload_n S.1 S.2.1 dX6_tries_14 rfl (lv_at hl 0 rfl) ?_
        refine y_get S hw (C := RX6) (T := TX6) (N := 13) i_X6_tries_X6 0 rfl rfl 0 (by decide) f_X6_tries_7 rfl dX6_tries_15 ?_
        refine lv_iload_n S.1 S.2.1 dX6_tries_18 rfl (lv_at hl 2 rfl) ?_
        refine y_iald S hw 1 (k := i) rfl (by omega) (Nat.le_of_ble_eq_true rfl) dX6_tries_19 ?_
        refine y_iast S hw 2 (k := i) rfl (by omega) (Nat.le_of_ble_eq_true rfl) dX6_tries_20 (ws' := [((q 0), .inr (6, [.ref (q 1), .ref (q 2), .ref (q 3), .int (u 3 0), .ref (q 4), .int (u 5 0), .ref (q 5), .int (u 7 0), .int (u 8 0), .int (u 9 0), .int (u 10 0), .int (u 11 0), .ref (q 6)])), ((q 1), .inl (cI, 162, .inl (u 0))), ((q 2), .inl (cI, 162, .inl (upd g i ((u 0) i)))), ((q 3), .inl (cI, 648, .inl (u 2))), ((q 4), .inl (cI, 60, .inl (u 4))), ((q 5), .inl (cI, 3, .inl (u 6))), ((q 6), .inl (cI, 3, .inl (u 12)))]) rfl (fun H locs hw => ?_)
        refine lv_iinc (v := (nI (i + 1))) (lv' := [(2, .int (nI (i + 1))), (0, .ref (q 0)), (1, .int z)]) S.1 S.2.1 dX6_tries_21 hl (k := 2) rfl (by first | exact nI_1 _ | exact nI_add _ _) (by decide) rfl (fun ls hl => ?_)
        refine lv_goto (tgt := 2) S.1 S.2.1 dX6_tries_24 (by decide) ?_
        exact ih2 (i + 1) (upd g i ((u 0) i)) (by omega) (by rw [hg, mPut, Nat.zero_add]) (by omega) _ _ ls hw (lv_sub hl [1, 2, 0] rfl)
  exact lp2 ((162 - 0) + 1) 0 (u 1) (Nat.zero_le _) (rfl) (Nat.lt_succ_self _) _ _ ls hw (lv_sub hl [1, 2, 0] rfl)

theorem i_X6_echoes_X6 : ∀ w ∈ u_ws RX6 TX6 13, w ∈ wsX6_echoes := by decide +kernel
theorem f_X6_echoes_13 : Cond.fieldLink RX6 13 "ChargeLinesModel" "trial" "[I" ∈ wsX6_echoes := by decide +kernel
set_option maxHeartbeats 4000000 in
set_option maxRecDepth 100000 in
/-- Model.echoes -/
theorem c_X6_echoes (l : Launch) (D : va_G) (cI cC cL : ClassId) (q : Nat → Nat) (u : U) (x : Int32) (n k : Nat) (hn : u 1 0 = nI n) (h10 : n ≤ 10) (hk : k ≤ 40) : y_MI l yX6_echoes wsX6_echoes 4 90 D cI cC cL [.ref (q 0), .int x, .int (nI k)] (cMd cI q u) ((mEcho x (u 1) n k).2) (fun v : U => cMd cI q v) (va_up u 1 (mEcho x (u 1) n k).1) := by
  refine y_startI (cc := cX6_echoes) (maxL := 5) (ret := some .int) (by decide +kernel) rfl (Nat.le_of_ble_eq_true rfl) ⟨_, rfl, fun x _ => rfl⟩ (fun h => by cases h) ?_
  intro p e s mm args below meth c A QQ ls S hw ret hl
  have S : CallFix p mm c cX6_echoes 5 s args wsX6_echoes RX6 := S
  have hw : y_W D cI cC cL A s s.heap [] [((q 0), .inr (6, [.ref (q 1), .ref (q 2), .ref (q 3), .int (u 3 0), .ref (q 4), .int (u 5 0), .ref (q 5), .int (u 7 0), .int (u 8 0), .int (u 9 0), .int (u 10 0), .int (u 11 0), .ref (q 6)])), ((q 1), .inl (cI, 162, .inl (u 0))), ((q 2), .inl (cI, 162, .inl (u 1))), ((q 3), .inl (cI, 648, .inl (u 2))), ((q 4), .inl (cI, 60, .inl (u 4))), ((q 5), .inl (cI, 3, .inl (u 6))), ((q 6), .inl (cI, 3, .inl (u 12)))] := hw
  have hl : lv_has ls 5 [(0, .ref (q 0)), (1, .int x), (2, .int (nI k))] := hl
  refine lv_aload_n S.1 S.2.1 dX6_echoes_0 rfl (lv_at hl 0 rfl) ?_
  refine y_get S hw (C := RX6) (T := TX6) (N := 13) i_X6_echoes_X6 0 rfl rfl 1 (by decide) f_X6_echoes_13 rfl dX6_echoes_1 ?_
  refine lv_iload_n S.1 S.2.1 dX6_echoes_4 rfl (lv_at hl 1 rfl) ?_
  refine y_callSI (As := [.ref (q 2), .int x]) (rest := []) S hw hl.1 (c_X6_handsOver l D cI cC cL (q 2) (u 1) x n (hn) (by omega)) (va_cwS 2 S.2.2.2.2 gX6_echoes_X6_handsOver rfl rfl rfl (by decide +kernel) ⟨Nat.le_of_ble_eq_true rfl, Nat.le_of_ble_eq_true rfl⟩) [2] [0, 1, 3, 4, 5, 6] rfl (by decide +kernel) (wr := [((q 0), .inr (6, [.ref (q 1), .ref (q 2), .ref (q 3), .int (u 3 0), .ref (q 4), .int (u 5 0), .ref (q 5), .int (u 7 0), .int (u 8 0), .int (u 9 0), .int (u 10 0), .int (u 11 0), .ref (q 6)])), ((q 1), .inl (cI, 162, .inl (u 0))), ((q 3), .inl (cI, 648, .inl (u 2))), ((q 4), .inl (cI, 60, .inl (u 4))), ((q 5), .inl (cI, 3, .inl (u 6))), ((q 6), .inl (cI, 3, .inl (u 12)))]) rfl (by decide +kernel) (by decide +kernel) rfl (Nat.le_of_ble_eq_true rfl) dX6_echoes_5 rfl ⟨Nat.le_refl _, Nat.le_refl _⟩ (fun H locs v_1 x_2 ev_1 ex_2 hw => ?_)
  have hw : y_W D cI cC cL A s H locs [((q 0), .inr (6, [.ref (q 1), .ref (q 2), .ref (q 3), .int (u 3 0), .ref (q 4), .int (u 5 0), .ref (q 5), .int (u 7 0), .int (u 8 0), .int (u 9 0), .int (u 10 0), .int (u 11 0), .ref (q 6)])), ((q 1), .inl (cI, 162, .inl (u 0))), ((q 3), .inl (cI, 648, .inl (u 2))), ((q 4), .inl (cI, 60, .inl (u 4))), ((q 5), .inl (cI, 3, .inl (u 6))), ((q 6), .inl (cI, 3, .inl (u 12))), ((q 2), .inl (cI, 162, .inl v_1))] := hw
  subst ex_2
  refine lv_istore_n (lv' := [(3, .int ((mHO x (u 1) n).2)), (0, .ref (q 0)), (1, .int x), (2, .int (nI k))]) S.1 S.2.1 dX6_echoes_8 rfl hl (by decide) rfl (fun ls hl => ?_)
  refine lv_iconst (v := 0) S.1 S.2.1 dX6_echoes_9 (by decide) ?_
  refine lv_istore (lv' := [(4, .int 0), (3, .int ((mHO x (u 1) n).2)), (0, .ref (q 0)), (1, .int x), (2, .int (nI k))]) S.1 S.2.1 dX6_echoes_10 hl (by decide) rfl (fun ls hl => ?_)
  have lp12 : ∀ (fuel : Nat) (i : Nat) (w : V1 × Int32), (i ≤ k) → (w = mIt n (mHO x (u 1) n) i) → (w.1 0 = nI n) → (k - i) < fuel → ∀ (H : Heap) (locs : List Loc) (ls : Array Slot), y_W D cI cC cL A s H locs [((q 0), .inr (6, [.ref (q 1), .ref (q 2), .ref (q 3), .int (u 3 0), .ref (q 4), .int (u 5 0), .ref (q 5), .int (u 7 0), .int (u 8 0), .int (u 9 0), .int (u 10 0), .int (u 11 0), .ref (q 6)])), ((q 1), .inl (cI, 162, .inl (u 0))), ((q 3), .inl (cI, 648, .inl (u 2))), ((q 4), .inl (cI, 60, .inl (u 4))), ((q 5), .inl (cI, 3, .inl (u 6))), ((q 6), .inl (cI, 3, .inl (u 12))), ((q 2), .inl (cI, 162, .inl w.1))] → lv_has ls 5 [(0, .ref (q 0)), (1, .int x), (2, .int (nI k)), (3, .int w.2), (4, .int (nI i))] → W p l e (y_R 4 90) s mm args below meth c H locs 0 0 QQ (F0 mm 12 ls []) := by
    intro fuel
    induction fuel with
    | zero =>
      intro i w hi hv h0 hfu
      exact absurd hfu (Nat.not_lt_zero _)
    | succ fuel ih12 =>
      intro i w hi hv h0 hfu H locs ls hw hl
      refine lv_iload S.1 S.2.1 dX6_echoes_12 (lv_at hl 4 rfl) ?_
      refine lv_iload_n S.1 S.2.1 dX6_echoes_14 rfl (lv_at hl 2 rfl) ?_
      refine lv_icmp_ge (tgt := 33) S.1 S.2.1 dX6_echoes_15 (by decide) (fun c_3 => ?_) (fun c_3 => ?_)
      · skip
        have c_3N : k ≤ i := (nI_leI (a := k) (b := i) (by omega) (by omega)).mp c_3
        refine lv_iload_n S.1 S.2.1 dX6_echoes_33 rfl (lv_at hl 3 rfl) ?_
        exact ret _ _ _ _ _ (by rw [mEcho, show k = i from by omega, ← hv]; exact (hw.sub [0, 1, 6, 2, 3, 4, 5] (by decide +kernel) rfl)) (by rw [mEcho, show k = i from by omega, ← hv]) dX6_echoes_34
      · skip
        have c_3N : ¬ k ≤ i := fun z => c_3 ((nI_leI (a := k) (b := i) (by omega) (by omega)).mpr z)
        refine lv_aload_n S.1 S.2.1 dX6_echoes_18 rfl (lv_at hl 0 rfl) ?_
        refine y_get S hw (C := RX6) (T := TX6) (N := 13) i_X6_echoes_X6 0 rfl rfl 1 (by decide) f_X6_echoes_13 rfl dX6_echoes_19 ?_
        refine lv_iconst (v := 0) S.1 S.2.1 dX6_echoes_22 (by decide) ?_
        refine y_callSI (As := [.ref (q 2), .int 0]) (rest := []) S hw hl.1 (c_X6_handsOver l D cI cC cL (q 2) w.1 0 n (h0) (by omega)) (va_cwS 2 S.2.2.2.2 gX6_echoes_X6_handsOver rfl rfl rfl (by decide +kernel) ⟨Nat.le_of_ble_eq_true rfl, Nat.le_of_ble_eq_true rfl⟩) [6] [0, 1, 2, 3, 4, 5] rfl (by decide +kernel) (wr := [((q 0), .inr (6, [.ref (q 1), .ref (q 2), .ref (q 3), .int (u 3 0), .ref (q 4), .int (u 5 0), .ref (q 5), .int (u 7 0), .int (u 8 0), .int (u 9 0), .int (u 10 0), .int (u 11 0), .ref (q 6)])), ((q 1), .inl (cI, 162, .inl (u 0))), ((q 3), .inl (cI, 648, .inl (u 2))), ((q 4), .inl (cI, 60, .inl (u 4))), ((q 5), .inl (cI, 3, .inl (u 6))), ((q 6), .inl (cI, 3, .inl (u 12)))]) rfl (by decide +kernel) (by decide +kernel) rfl (Nat.le_of_ble_eq_true rfl) dX6_echoes_23 rfl ⟨Nat.le_refl _, Nat.le_refl _⟩ (fun H locs v_4 x_5 ev_4 ex_5 hw => ?_)
        have hw : y_W D cI cC cL A s H locs [((q 0), .inr (6, [.ref (q 1), .ref (q 2), .ref (q 3), .int (u 3 0), .ref (q 4), .int (u 5 0), .ref (q 5), .int (u 7 0), .int (u 8 0), .int (u 9 0), .int (u 10 0), .int (u 11 0), .ref (q 6)])), ((q 1), .inl (cI, 162, .inl (u 0))), ((q 3), .inl (cI, 648, .inl (u 2))), ((q 4), .inl (cI, 60, .inl (u 4))), ((q 5), .inl (cI, 3, .inl (u 6))), ((q 6), .inl (cI, 3, .inl (u 12))), ((q 2), .inl (cI, 162, .inl v_4))] := hw
        subst ex_5
        refine lv_istore_n (lv' := [(3, .int ((mHO 0 w.1 n).2)), (0, .ref (q 0)), (1, .int x), (2, .int (nI k)), (4, .int (nI i))]) S.1 S.2.1 dX6_echoes_26 rfl hl (by decide) rfl (fun ls hl => ?_)
        refine lv_iinc (v := (nI (i + 1))) (lv' := [(4, .int (nI (i + 1))), (3, .int ((mHO 0 w.1 n).2)), (0, .ref (q 0)), (1, .int x), (2, .int (nI k))]) S.1 S.2.1 dX6_echoes_27 hl (k := 4) rfl (by first | exact nI_1 _ | exact nI_add _ _) (by decide) rfl (fun ls hl => ?_)
        refine lv_goto (tgt := 12) S.1 S.2.1 dX6_echoes_30 (by decide) ?_
        exact ih12 (i + 1) (v_4, ((mHO 0 w.1 n).2)) (by omega) (by rw [ev_4, hv]; rfl) (by rw [ev_4]; exact mHO_n (by omega) h0) (by omega) _ _ ls hw (lv_sub hl [2, 3, 4, 1, 0] rfl)
  exact lp12 ((k - 0) + 1) 0 (v_1, ((mHO x (u 1) n).2)) (Nat.zero_le _) (by rw [ev_1]; rfl) (by rw [ev_1]; exact mHO_n (by omega) hn) (Nat.lt_succ_self _) _ _ ls hw (lv_sub hl [2, 3, 4, 1, 0] rfl)

theorem k_X6_echo_69 : Cond.constant RX6 69 (-2000001) ∈ wsX6_echo := by decide +kernel
set_option maxHeartbeats 4000000 in
set_option maxRecDepth 100000 in
/-- Model.echo -/
theorem c_X6_echo (l : Launch) (D : va_G) (cI cC cL : ClassId) (q : Nat → Nat) (u : U) (x y : Int32) (n : Nat) (hn : u 0 0 = nI n) (h10 : n ≤ 10) : y_MI l yX6_echo wsX6_echo 5 114 D cI cC cL [.ref (q 0), .int x, .int y] (cMd cI q u) (mEchoR (u 0) x y n) (fun v : U => cMd cI q v) (mEchoU u x y n) := by
  refine y_startI (cc := cX6_echo) (maxL := 3) (ret := some .int) (by decide +kernel) rfl (Nat.le_of_ble_eq_true rfl) ⟨_, rfl, fun x _ => rfl⟩ (fun h => by cases h) ?_
  intro p e s mm args below meth c A QQ ls S hw ret hl
  have S : CallFix p mm c cX6_echo 3 s args wsX6_echo RX6 := S
  have hw : y_W D cI cC cL A s s.heap [] [((q 0), .inr (6, [.ref (q 1), .ref (q 2), .ref (q 3), .int (u 3 0), .ref (q 4), .int (u 5 0), .ref (q 5), .int (u 7 0), .int (u 8 0), .int (u 9 0), .int (u 10 0), .int (u 11 0), .ref (q 6)])), ((q 1), .inl (cI, 162, .inl (u 0))), ((q 2), .inl (cI, 162, .inl (u 1))), ((q 3), .inl (cI, 648, .inl (u 2))), ((q 4), .inl (cI, 60, .inl (u 4))), ((q 5), .inl (cI, 3, .inl (u 6))), ((q 6), .inl (cI, 3, .inl (u 12)))] := hw
  have hl : lv_has ls 3 [(0, .ref (q 0)), (1, .int x), (2, .int y)] := hl
  refine lv_iload_n S.1 S.2.1 dX6_echo_0 rfl (lv_at hl 1 rfl) ?_
  refine lv_iconst (v := 0) S.1 S.2.1 dX6_echo_1 (by decide) ?_
  refine lv_sipush (v := 10000) S.1 S.2.1 dX6_echo_2 (by decide) ?_
  refine y_callSI (As := [.int x, .int 0, .int 10000]) (rest := []) S hw hl.1 (c_X6_in l D cI cC cL x 0 10000) (va_cwS 3 S.2.2.2.2 gX6_echo_X6_in rfl rfl rfl (by decide +kernel) ⟨Nat.le_of_ble_eq_true rfl, Nat.le_of_ble_eq_true rfl⟩) [] [0, 1, 2, 3, 4, 5, 6] rfl (by decide +kernel) (wr := [((q 0), .inr (6, [.ref (q 1), .ref (q 2), .ref (q 3), .int (u 3 0), .ref (q 4), .int (u 5 0), .ref (q 5), .int (u 7 0), .int (u 8 0), .int (u 9 0), .int (u 10 0), .int (u 11 0), .ref (q 6)])), ((q 1), .inl (cI, 162, .inl (u 0))), ((q 2), .inl (cI, 162, .inl (u 1))), ((q 3), .inl (cI, 648, .inl (u 2))), ((q 4), .inl (cI, 60, .inl (u 4))), ((q 5), .inl (cI, 3, .inl (u 6))), ((q 6), .inl (cI, 3, .inl (u 12)))]) rfl (by decide +kernel) (by decide +kernel) rfl (Nat.le_of_ble_eq_true rfl) dX6_echo_5 rfl ⟨Nat.le_refl _, Nat.le_refl _⟩ (fun H locs v_1 x_2 ev_1 ex_2 hw => ?_)
  have hw : y_W D cI cC cL A s H locs [((q 0), .inr (6, [.ref (q 1), .ref (q 2), .ref (q 3), .int (u 3 0), .ref (q 4), .int (u 5 0), .ref (q 5), .int (u 7 0), .int (u 8 0), .int (u 9 0), .int (u 10 0), .int (u 11 0), .ref (q 6)])), ((q 1), .inl (cI, 162, .inl (u 0))), ((q 2), .inl (cI, 162, .inl (u 1))), ((q 3), .inl (cI, 648, .inl (u 2))), ((q 4), .inl (cI, 60, .inl (u 4))), ((q 5), .inl (cI, 3, .inl (u 6))), ((q 6), .inl (cI, 3, .inl (u 12)))] := hw
  subst ex_2
  refine lv_if_eq (tgt := 21) S.1 S.2.1 dX6_echo_8 (by decide) (fun c_3 => ?_) (fun c_3 => ?_)
  · skip
    refine lv_ldc (v := (-2000001)) S.1 S.2.1 S.2.2.2.1 (S.2.2.2.2 _ k_X6_echo_69) dX6_echo_21 ?_
    exact ret _ _ _ _ _ (by rw [show mEchoU u x y n = u from by rw [mEchoU, if_pos c_3]]; exact hw) (by rw [mEchoR, if_pos c_3]) dX6_echo_23
  · skip
    refine lv_iload_n S.1 S.2.1 dX6_echo_11 rfl (lv_at hl 2 rfl) ?_
    refine lv_iconst (v := 1) S.1 S.2.1 dX6_echo_12 (by decide) ?_
    refine lv_bipush (v := 40) S.1 S.2.1 dX6_echo_13 (by decide) ?_
    refine y_callSI (As := [.int y, .int 1, .int 40]) (rest := []) S hw hl.1 (c_X6_in l D cI cC cL y 1 40) (va_cwS 3 S.2.2.2.2 gX6_echo_X6_in rfl rfl rfl (by decide +kernel) ⟨Nat.le_of_ble_eq_true rfl, Nat.le_of_ble_eq_true rfl⟩) [] [0, 1, 2, 3, 4, 5, 6] rfl (by decide +kernel) (wr := [((q 0), .inr (6, [.ref (q 1), .ref (q 2), .ref (q 3), .int (u 3 0), .ref (q 4), .int (u 5 0), .ref (q 5), .int (u 7 0), .int (u 8 0), .int (u 9 0), .int (u 10 0), .int (u 11 0), .ref (q 6)])), ((q 1), .inl (cI, 162, .inl (u 0))), ((q 2), .inl (cI, 162, .inl (u 1))), ((q 3), .inl (cI, 648, .inl (u 2))), ((q 4), .inl (cI, 60, .inl (u 4))), ((q 5), .inl (cI, 3, .inl (u 6))), ((q 6), .inl (cI, 3, .inl (u 12)))]) rfl (by decide +kernel) (by decide +kernel) rfl (Nat.le_of_ble_eq_true rfl) dX6_echo_15 rfl ⟨Nat.le_refl _, Nat.le_refl _⟩ (fun H locs v_4 x_5 ev_4 ex_5 hw => ?_)
    have hw : y_W D cI cC cL A s H locs [((q 0), .inr (6, [.ref (q 1), .ref (q 2), .ref (q 3), .int (u 3 0), .ref (q 4), .int (u 5 0), .ref (q 5), .int (u 7 0), .int (u 8 0), .int (u 9 0), .int (u 10 0), .int (u 11 0), .ref (q 6)])), ((q 1), .inl (cI, 162, .inl (u 0))), ((q 2), .inl (cI, 162, .inl (u 1))), ((q 3), .inl (cI, 648, .inl (u 2))), ((q 4), .inl (cI, 60, .inl (u 4))), ((q 5), .inl (cI, 3, .inl (u 6))), ((q 6), .inl (cI, 3, .inl (u 12)))] := hw
    subst ex_5
    refine lv_if_ne (tgt := 24) S.1 S.2.1 dX6_echo_18 (by decide) (fun c_6 => ?_) (fun c_6 => ?_)
    · skip
      obtain ⟨a, ea, ha1, ha2⟩ := mIn_nat (m := 1) (n := 40) rfl rfl (by omega) (by omega) c_6
      refine lv_aload_n S.1 S.2.1 dX6_echo_24 rfl (lv_at hl 0 rfl) ?_
      refine lv_iconst (v := 1) S.1 S.2.1 dX6_echo_25 (by decide) ?_
      refine y_callV (As := [.int 1]) (rest := []) S hw hl.1 (c_X6_tries l D cI cC cL q u 1 n (hn) (by omega)) (cwV 1 S.2.2.2.2 gX6_echo_X6_tries rfl rfl rfl (by decide +kernel) ⟨Nat.le_of_ble_eq_true rfl, Nat.le_of_ble_eq_true rfl⟩) 0 rfl rfl [0, 1, 2, 3, 4, 5, 6] [] rfl (by decide +kernel) (wr := []) rfl (by decide +kernel) (by decide +kernel) rfl (Nat.le_of_ble_eq_true rfl) dX6_echo_26 rfl ⟨Nat.le_refl _, Nat.le_refl _⟩ (fun H locs v_7 ev_7 hw => ?_)
      subst ev_7
      have hw : y_W D cI cC cL A s H locs [((q 0), .inr (6, [.ref (q 1), .ref (q 2), .ref (q 3), .int (u 3 0), .ref (q 4), .int (u 5 0), .ref (q 5), .int (u 7 0), .int (u 8 0), .int (u 9 0), .int (u 10 0), .int (u 11 0), .ref (q 6)])), ((q 1), .inl (cI, 162, .inl (u 0))), ((q 2), .inl (cI, 162, .inl (mTry (u 0) n 1))), ((q 3), .inl (cI, 648, .inl (u 2))), ((q 4), .inl (cI, 60, .inl (u 4))), ((q 5), .inl (cI, 3, .inl (u 6))), ((q 6), .inl (cI, 3, .inl (u 12)))] := hw
      refine lv_aload_n S.1 S.2.1 dX6_echo_29 rfl (lv_at hl 0 rfl) ?_
      refine lv_iload_n S.1 S.2.1 dX6_echo_30 rfl (lv_at hl 1 rfl) ?_
      refine lv_iload_n S.1 S.2.1 dX6_echo_31 rfl (lv_at hl 2 rfl) ?_
      refine y_top (y := (nI a)) (ea) ?_
      refine y_callI (As := [.int x, .int (nI a)]) (rest := []) S hw hl.1 (c_X6_echoes l D cI cC cL q (va_up u 1 (mTry (u 0) n 1)) x n a (show mTry (u 0) n 1 0 = nI n from (mTry_o (by decide) (by omega) (by omega)).trans hn) (by omega) (by omega)) (cwV 2 S.2.2.2.2 gX6_echo_X6_echoes rfl rfl rfl (by decide +kernel) ⟨Nat.le_of_ble_eq_true rfl, Nat.le_of_ble_eq_true rfl⟩) 0 rfl rfl [0, 1, 2, 3, 4, 5, 6] [] rfl (by decide +kernel) (wr := []) rfl (by decide +kernel) (by decide +kernel) rfl (Nat.le_of_ble_eq_true rfl) dX6_echo_32 rfl ⟨Nat.le_refl _, Nat.le_refl _⟩ (fun H locs v_9 x_10 ev_9 ex_10 hw => ?_)
      subst ev_9
      have hw : y_W D cI cC cL A s H locs [((q 0), .inr (6, [.ref (q 1), .ref (q 2), .ref (q 3), .int (u 3 0), .ref (q 4), .int (u 5 0), .ref (q 5), .int (u 7 0), .int (u 8 0), .int (u 9 0), .int (u 10 0), .int (u 11 0), .ref (q 6)])), ((q 1), .inl (cI, 162, .inl (u 0))), ((q 2), .inl (cI, 162, .inl ((mEcho x (mTry (u 0) n 1) n a).1))), ((q 3), .inl (cI, 648, .inl (u 2))), ((q 4), .inl (cI, 60, .inl (u 4))), ((q 5), .inl (cI, 3, .inl (u 6))), ((q 6), .inl (cI, 3, .inl (u 12)))] := hw
      subst ex_10
      refine y_top (y := (mEcho x (mTry (u 0) n 1) n a).2) rfl ?_
      exact ret _ _ _ _ _ (by rw [show mEchoU u x y n = (va_up u 1 ((mEcho x (mTry (u 0) n 1) n a).1)) from by rw [mEchoU, if_neg c_3, if_neg c_6, ea, nI_clamp (by omega)]]; exact hw) (by rw [mEchoR, if_neg c_3, if_neg c_6, ea, nI_clamp (by omega)]) dX6_echo_35
    · skip
      refine lv_ldc (v := (-2000001)) S.1 S.2.1 S.2.2.2.1 (S.2.2.2.2 _ k_X6_echo_69) dX6_echo_21 ?_
      exact ret _ _ _ _ _ (by rw [show mEchoU u x y n = u from by rw [mEchoU, if_neg c_3, if_pos c_6]]; exact hw) (by rw [mEchoR, if_neg c_3, if_pos c_6]) dX6_echo_23

theorem i_X6_emptyAfter_X6 : ∀ w ∈ u_ws RX6 TX6 13, w ∈ wsX6_emptyAfter := by decide +kernel
theorem f_X6_emptyAfter_13 : Cond.fieldLink RX6 13 "ChargeLinesModel" "trial" "[I" ∈ wsX6_emptyAfter := by decide +kernel
theorem k_X6_emptyAfter_117 : Cond.constant RX6 117 (-2000004) ∈ wsX6_emptyAfter := by decide +kernel
set_option maxHeartbeats 4000000 in
set_option maxRecDepth 100000 in
/-- Model.emptyAfter -/
theorem c_X6_emptyAfter (l : Launch) (D : va_G) (cI cC cL : ClassId) (q : Nat → Nat) (u : U) (n : Nat) (hn : u 0 0 = nI n) (h10 : n ≤ 10) : y_MI l yX6_emptyAfter wsX6_emptyAfter 4 90 D cI cC cL [.ref (q 0)] (cMd cI q u) (mEmpR (u 0) n) (fun v : U => cMd cI q v) (va_up u 1 (mEmp n 400 (mTry (u 0) n 0) 0).1) := by
  refine y_startI (cc := cX6_emptyAfter) (maxL := 2) (ret := some .int) (by decide +kernel) rfl (Nat.le_of_ble_eq_true rfl) ⟨_, rfl, fun x _ => rfl⟩ (fun h => by cases h) ?_
  intro p e s mm args below meth c A QQ ls S hw ret hl
  have S : CallFix p mm c cX6_emptyAfter 2 s args wsX6_emptyAfter RX6 := S
  have hw : y_W D cI cC cL A s s.heap [] [((q 0), .inr (6, [.ref (q 1), .ref (q 2), .ref (q 3), .int (u 3 0), .ref (q 4), .int (u 5 0), .ref (q 5), .int (u 7 0), .int (u 8 0), .int (u 9 0), .int (u 10 0), .int (u 11 0), .ref (q 6)])), ((q 1), .inl (cI, 162, .inl (u 0))), ((q 2), .inl (cI, 162, .inl (u 1))), ((q 3), .inl (cI, 648, .inl (u 2))), ((q 4), .inl (cI, 60, .inl (u 4))), ((q 5), .inl (cI, 3, .inl (u 6))), ((q 6), .inl (cI, 3, .inl (u 12)))] := hw
  have hl : lv_has ls 2 [(0, .ref (q 0))] := hl
  refine lv_aload_n S.1 S.2.1 dX6_emptyAfter_0 rfl (lv_at hl 0 rfl) ?_
  refine lv_iconst (v := 0) S.1 S.2.1 dX6_emptyAfter_1 (by decide) ?_
  refine y_callV (As := [.int 0]) (rest := []) S hw hl.1 (c_X6_tries l D cI cC cL q u 0 n (hn) (by omega)) (cwV 1 S.2.2.2.2 gX6_emptyAfter_X6_tries rfl rfl rfl (by decide +kernel) ⟨Nat.le_of_ble_eq_true rfl, Nat.le_of_ble_eq_true rfl⟩) 0 rfl rfl [0, 1, 2, 3, 4, 5, 6] [] rfl (by decide +kernel) (wr := []) rfl (by decide +kernel) (by decide +kernel) rfl (Nat.le_of_ble_eq_true rfl) dX6_emptyAfter_2 rfl ⟨Nat.le_refl _, Nat.le_refl _⟩ (fun H locs v_1 ev_1 hw => ?_)
  subst ev_1
  have hw : y_W D cI cC cL A s H locs [((q 0), .inr (6, [.ref (q 1), .ref (q 2), .ref (q 3), .int (u 3 0), .ref (q 4), .int (u 5 0), .ref (q 5), .int (u 7 0), .int (u 8 0), .int (u 9 0), .int (u 10 0), .int (u 11 0), .ref (q 6)])), ((q 1), .inl (cI, 162, .inl (u 0))), ((q 2), .inl (cI, 162, .inl (mTry (u 0) n 0))), ((q 3), .inl (cI, 648, .inl (u 2))), ((q 4), .inl (cI, 60, .inl (u 4))), ((q 5), .inl (cI, 3, .inl (u 6))), ((q 6), .inl (cI, 3, .inl (u 12)))] := hw
  refine lv_iconst (v := 0) S.1 S.2.1 dX6_emptyAfter_5 (by decide) ?_
  refine lv_istore_n (lv' := [(1, .int 0), (0, .ref (q 0))]) S.1 S.2.1 dX6_emptyAfter_6 rfl hl (by decide) rfl (fun ls hl => ?_)
  have lp7 : ∀ (fuel : Nat) (i : Nat) (g : V1), (i ≤ 400) → (g 0 = nI n) → (mEmp n (400 - i) g i = mEmp n 400 (mTry (u 0) n 0) 0) → (400 - i) < fuel → ∀ (H : Heap) (locs : List Loc) (ls : Array Slot), y_W D cI cC cL A s H locs [((q 0), .inr (6, [.ref (q 1), .ref (q 2), .ref (q 3), .int (u 3 0), .ref (q 4), .int (u 5 0), .ref (q 5), .int (u 7 0), .int (u 8 0), .int (u 9 0), .int (u 10 0), .int (u 11 0), .ref (q 6)])), ((q 1), .inl (cI, 162, .inl (u 0))), ((q 2), .inl (cI, 162, .inl g)), ((q 3), .inl (cI, 648, .inl (u 2))), ((q 4), .inl (cI, 60, .inl (u 4))), ((q 5), .inl (cI, 3, .inl (u 6))), ((q 6), .inl (cI, 3, .inl (u 12)))] → lv_has ls 2 [(0, .ref (q 0)), (1, .int (nI i))] → W p l e (y_R 4 90) s mm args below meth c H locs 0 0 QQ (F0 mm 7 ls []) := by
    intro fuel
    induction fuel with
    | zero =>
      intro i g hi h0 he hfu
      exact absurd hfu (Nat.not_lt_zero _)
    | succ fuel ih7 =>
      intro i g hi h0 he hfu H locs ls hw hl
      refine lv_iload_n S.1 S.2.1 dX6_emptyAfter_7 rfl (lv_at hl 1 rfl) ?_
      refine lv_sipush (v := 400) S.1 S.2.1 dX6_emptyAfter_8 (by decide) ?_
      refine lv_icmp_ge (tgt := 39) S.1 S.2.1 dX6_emptyAfter_11 (by decide) (fun c_3 => ?_) (fun c_3 => ?_)
      · skip
        have c_3N : 400 ≤ i := (nI_leI (a := 400) (b := i) (by omega) (by omega)).mp c_3
        have hJ : mEmp n 400 (mTry (u 0) n 0) 0 = (g, i) := by rw [← he, show 400 - i = 0 from by omega]; rfl
        refine lv_aload_n S.1 S.2.1 dX6_emptyAfter_39 rfl (lv_at hl 0 rfl) ?_
        refine y_get S hw (C := RX6) (T := TX6) (N := 13) i_X6_emptyAfter_X6 0 rfl rfl 1 (by decide) f_X6_emptyAfter_13 rfl dX6_emptyAfter_40 ?_
        refine y_callSI (As := [.ref (q 2)]) (rest := []) S hw hl.1 (c_X6_inStages l D cI cC cL (q 2) g n (h0) (by omega)) (va_cwS 1 S.2.2.2.2 gX6_emptyAfter_X6_inStages rfl rfl rfl (by decide +kernel) ⟨Nat.le_of_ble_eq_true rfl, Nat.le_of_ble_eq_true rfl⟩) [2] [0, 1, 3, 4, 5, 6] rfl (by decide +kernel) (wr := [((q 0), .inr (6, [.ref (q 1), .ref (q 2), .ref (q 3), .int (u 3 0), .ref (q 4), .int (u 5 0), .ref (q 5), .int (u 7 0), .int (u 8 0), .int (u 9 0), .int (u 10 0), .int (u 11 0), .ref (q 6)])), ((q 1), .inl (cI, 162, .inl (u 0))), ((q 3), .inl (cI, 648, .inl (u 2))), ((q 4), .inl (cI, 60, .inl (u 4))), ((q 5), .inl (cI, 3, .inl (u 6))), ((q 6), .inl (cI, 3, .inl (u 12)))]) rfl (by decide +kernel) (by decide +kernel) rfl (Nat.le_of_ble_eq_true rfl) dX6_emptyAfter_43 rfl ⟨Nat.le_refl _, Nat.le_refl _⟩ (fun H locs v_4 x_5 ev_4 ex_5 hw => ?_)
        have hw : y_W D cI cC cL A s H locs [((q 0), .inr (6, [.ref (q 1), .ref (q 2), .ref (q 3), .int (u 3 0), .ref (q 4), .int (u 5 0), .ref (q 5), .int (u 7 0), .int (u 8 0), .int (u 9 0), .int (u 10 0), .int (u 11 0), .ref (q 6)])), ((q 1), .inl (cI, 162, .inl (u 0))), ((q 3), .inl (cI, 648, .inl (u 2))), ((q 4), .inl (cI, 60, .inl (u 4))), ((q 5), .inl (cI, 3, .inl (u 6))), ((q 6), .inl (cI, 3, .inl (u 12))), ((q 2), .inl (cI, 162, .inl g))] := hw
        subst ex_5
        refine lv_if_le (tgt := 54) S.1 S.2.1 dX6_emptyAfter_46 (by decide) (fun c_6 => ?_) (fun c_6 => ?_)
        · skip
          refine lv_iload_n S.1 S.2.1 dX6_emptyAfter_54 rfl (lv_at hl 1 rfl) ?_
          exact ret _ _ _ _ _ (by rw [hJ]; exact (hw.sub [0, 1, 6, 2, 3, 4, 5] (by decide +kernel) rfl)) (by rw [mEmpR, hJ]; first | exact (if_pos c_6).symm | exact (if_neg c_6).symm) dX6_emptyAfter_55
        · skip
          refine lv_ldc (v := (-2000004)) S.1 S.2.1 S.2.2.2.1 (S.2.2.2.2 _ k_X6_emptyAfter_117) dX6_emptyAfter_49 ?_
          refine lv_goto (tgt := 55) S.1 S.2.1 dX6_emptyAfter_51 (by decide) ?_
          exact ret _ _ _ _ _ (by rw [hJ]; exact (hw.sub [0, 1, 6, 2, 3, 4, 5] (by decide +kernel) rfl)) (by rw [mEmpR, hJ]; first | exact (if_pos c_6).symm | exact (if_neg c_6).symm) dX6_emptyAfter_55
      · skip
        have c_3N : ¬ 400 ≤ i := fun z => c_3 ((nI_leI (a := 400) (b := i) (by omega) (by omega)).mpr z)
        refine lv_aload_n S.1 S.2.1 dX6_emptyAfter_14 rfl (lv_at hl 0 rfl) ?_
        refine y_get S hw (C := RX6) (T := TX6) (N := 13) i_X6_emptyAfter_X6 0 rfl rfl 1 (by decide) f_X6_emptyAfter_13 rfl dX6_emptyAfter_15 ?_
        refine y_callSI (As := [.ref (q 2)]) (rest := []) S hw hl.1 (c_X6_inStages l D cI cC cL (q 2) g n (h0) (by omega)) (va_cwS 1 S.2.2.2.2 gX6_emptyAfter_X6_inStages rfl rfl rfl (by decide +kernel) ⟨Nat.le_of_ble_eq_true rfl, Nat.le_of_ble_eq_true rfl⟩) [2] [0, 1, 3, 4, 5, 6] rfl (by decide +kernel) (wr := [((q 0), .inr (6, [.ref (q 1), .ref (q 2), .ref (q 3), .int (u 3 0), .ref (q 4), .int (u 5 0), .ref (q 5), .int (u 7 0), .int (u 8 0), .int (u 9 0), .int (u 10 0), .int (u 11 0), .ref (q 6)])), ((q 1), .inl (cI, 162, .inl (u 0))), ((q 3), .inl (cI, 648, .inl (u 2))), ((q 4), .inl (cI, 60, .inl (u 4))), ((q 5), .inl (cI, 3, .inl (u 6))), ((q 6), .inl (cI, 3, .inl (u 12)))]) rfl (by decide +kernel) (by decide +kernel) rfl (Nat.le_of_ble_eq_true rfl) dX6_emptyAfter_18 rfl ⟨Nat.le_refl _, Nat.le_refl _⟩ (fun H locs v_7 x_8 ev_7 ex_8 hw => ?_)
        have hw : y_W D cI cC cL A s H locs [((q 0), .inr (6, [.ref (q 1), .ref (q 2), .ref (q 3), .int (u 3 0), .ref (q 4), .int (u 5 0), .ref (q 5), .int (u 7 0), .int (u 8 0), .int (u 9 0), .int (u 10 0), .int (u 11 0), .ref (q 6)])), ((q 1), .inl (cI, 162, .inl (u 0))), ((q 3), .inl (cI, 648, .inl (u 2))), ((q 4), .inl (cI, 60, .inl (u 4))), ((q 5), .inl (cI, 3, .inl (u 6))), ((q 6), .inl (cI, 3, .inl (u 12))), ((q 2), .inl (cI, 162, .inl g))] := hw
        subst ex_8
        refine lv_if_le (tgt := 39) S.1 S.2.1 dX6_emptyAfter_21 (by decide) (fun c_9 => ?_) (fun c_9 => ?_)
        · skip
          have hJ : mEmp n 400 (mTry (u 0) n 0) 0 = (g, i) := by rw [← he, show 400 - i = (399 - i) + 1 from by omega, mEmp, if_pos c_9]
          refine lv_aload_n S.1 S.2.1 dX6_emptyAfter_39 rfl (lv_at hl 0 rfl) ?_
          refine y_get S hw (C := RX6) (T := TX6) (N := 13) i_X6_emptyAfter_X6 0 rfl rfl 1 (by decide) f_X6_emptyAfter_13 rfl dX6_emptyAfter_40 ?_
          refine y_callSI (As := [.ref (q 2)]) (rest := []) S hw hl.1 (c_X6_inStages l D cI cC cL (q 2) g n (h0) (by omega)) (va_cwS 1 S.2.2.2.2 gX6_emptyAfter_X6_inStages rfl rfl rfl (by decide +kernel) ⟨Nat.le_of_ble_eq_true rfl, Nat.le_of_ble_eq_true rfl⟩) [6] [0, 1, 2, 3, 4, 5] rfl (by decide +kernel) (wr := [((q 0), .inr (6, [.ref (q 1), .ref (q 2), .ref (q 3), .int (u 3 0), .ref (q 4), .int (u 5 0), .ref (q 5), .int (u 7 0), .int (u 8 0), .int (u 9 0), .int (u 10 0), .int (u 11 0), .ref (q 6)])), ((q 1), .inl (cI, 162, .inl (u 0))), ((q 3), .inl (cI, 648, .inl (u 2))), ((q 4), .inl (cI, 60, .inl (u 4))), ((q 5), .inl (cI, 3, .inl (u 6))), ((q 6), .inl (cI, 3, .inl (u 12)))]) rfl (by decide +kernel) (by decide +kernel) rfl (Nat.le_of_ble_eq_true rfl) dX6_emptyAfter_43 rfl ⟨Nat.le_refl _, Nat.le_refl _⟩ (fun H locs v_10 x_11 ev_10 ex_11 hw => ?_)
          have hw : y_W D cI cC cL A s H locs [((q 0), .inr (6, [.ref (q 1), .ref (q 2), .ref (q 3), .int (u 3 0), .ref (q 4), .int (u 5 0), .ref (q 5), .int (u 7 0), .int (u 8 0), .int (u 9 0), .int (u 10 0), .int (u 11 0), .ref (q 6)])), ((q 1), .inl (cI, 162, .inl (u 0))), ((q 3), .inl (cI, 648, .inl (u 2))), ((q 4), .inl (cI, 60, .inl (u 4))), ((q 5), .inl (cI, 3, .inl (u 6))), ((q 6), .inl (cI, 3, .inl (u 12))), ((q 2), .inl (cI, 162, .inl g))] := hw
          subst ex_11
          refine lv_if_le (tgt := 54) S.1 S.2.1 dX6_emptyAfter_46 (by decide) (fun c_12 => ?_) (fun c_12 => ?_)
          · skip
            refine lv_iload_n S.1 S.2.1 dX6_emptyAfter_54 rfl (lv_at hl 1 rfl) ?_
            exact ret _ _ _ _ _ (by rw [hJ]; exact (hw.sub [0, 1, 6, 2, 3, 4, 5] (by decide +kernel) rfl)) (by rw [mEmpR, hJ]; first | exact (if_pos c_12).symm | exact (if_neg c_12).symm) dX6_emptyAfter_55
          · skip
            exact absurd c_9 c_12
        · skip
          refine lv_aload_n S.1 S.2.1 dX6_emptyAfter_24 rfl (lv_at hl 0 rfl) ?_
          refine y_get S hw (C := RX6) (T := TX6) (N := 13) i_X6_emptyAfter_X6 0 rfl rfl 1 (by decide) f_X6_emptyAfter_13 rfl dX6_emptyAfter_25 ?_
          refine lv_iconst (v := 0) S.1 S.2.1 dX6_emptyAfter_28 (by decide) ?_
          refine y_callSI (As := [.ref (q 2), .int 0]) (rest := []) S hw hl.1 (c_X6_handsOver l D cI cC cL (q 2) g 0 n (h0) (by omega)) (va_cwS 2 S.2.2.2.2 gX6_emptyAfter_X6_handsOver rfl rfl rfl (by decide +kernel) ⟨Nat.le_of_ble_eq_true rfl, Nat.le_of_ble_eq_true rfl⟩) [6] [0, 1, 2, 3, 4, 5] rfl (by decide +kernel) (wr := [((q 0), .inr (6, [.ref (q 1), .ref (q 2), .ref (q 3), .int (u 3 0), .ref (q 4), .int (u 5 0), .ref (q 5), .int (u 7 0), .int (u 8 0), .int (u 9 0), .int (u 10 0), .int (u 11 0), .ref (q 6)])), ((q 1), .inl (cI, 162, .inl (u 0))), ((q 3), .inl (cI, 648, .inl (u 2))), ((q 4), .inl (cI, 60, .inl (u 4))), ((q 5), .inl (cI, 3, .inl (u 6))), ((q 6), .inl (cI, 3, .inl (u 12)))]) rfl (by decide +kernel) (by decide +kernel) rfl (Nat.le_of_ble_eq_true rfl) dX6_emptyAfter_29 rfl ⟨Nat.le_refl _, Nat.le_refl _⟩ (fun H locs v_13 x_14 ev_13 ex_14 hw => ?_)
          have hw : y_W D cI cC cL A s H locs [((q 0), .inr (6, [.ref (q 1), .ref (q 2), .ref (q 3), .int (u 3 0), .ref (q 4), .int (u 5 0), .ref (q 5), .int (u 7 0), .int (u 8 0), .int (u 9 0), .int (u 10 0), .int (u 11 0), .ref (q 6)])), ((q 1), .inl (cI, 162, .inl (u 0))), ((q 3), .inl (cI, 648, .inl (u 2))), ((q 4), .inl (cI, 60, .inl (u 4))), ((q 5), .inl (cI, 3, .inl (u 6))), ((q 6), .inl (cI, 3, .inl (u 12))), ((q 2), .inl (cI, 162, .inl v_13))] := hw
          subst ex_14
          refine lv_pop S.1 S.2.1 dX6_emptyAfter_32 rfl ?_
          refine lv_iinc (v := (nI (i + 1))) (lv' := [(1, .int (nI (i + 1))), (0, .ref (q 0))]) S.1 S.2.1 dX6_emptyAfter_33 hl (k := 1) rfl (by first | exact nI_1 _ | exact nI_add _ _) (by decide) rfl (fun ls hl => ?_)
          refine lv_goto (tgt := 7) S.1 S.2.1 dX6_emptyAfter_36 (by decide) ?_
          exact ih7 (i + 1) v_13 (by omega) (by rw [ev_13]; exact mHO_n (by omega) h0) (by rw [ev_13, ← he, show 400 - i = (400 - (i + 1)) + 1 from by omega]; (conv => rhs; rw [mEmp, if_neg c_9])) (by omega) _ _ ls (hw.sub [0, 1, 6, 2, 3, 4, 5] (by decide +kernel) rfl) (lv_sub hl [1, 0] rfl)
  exact lp7 ((400 - 0) + 1) 0 (mTry (u 0) n 0) (Nat.zero_le _) ((mTry_o (by decide) (by omega) (by omega)).trans hn) (rfl) (Nat.lt_succ_self _) _ _ ls hw (lv_sub hl [1, 0] rfl)

theorem i_X6_isSafe_X6 : ∀ w ∈ u_ws RX6 TX6 13, w ∈ wsX6_isSafe := by decide +kernel
theorem f_X6_isSafe_13 : Cond.fieldLink RX6 13 "ChargeLinesModel" "trial" "[I" ∈ wsX6_isSafe := by decide +kernel
set_option maxHeartbeats 4000000 in
set_option maxRecDepth 100000 in
/-- Model.isSafe -/
theorem c_X6_isSafe (l : Launch) (D : va_G) (cI cC cL : ClassId) (q : Nat → Nat) (u : U) (x : Int32) (n : Nat) (hn : u 0 0 = nI n) (h10 : n ≤ 10) : y_MI l yX6_isSafe wsX6_isSafe 4 90 D cI cC cL [.ref (q 0), .int x] (cMd cI q u) (if ¬ mSfS x (u 0) n 40 49 = 0 then 0 else 1) (fun v : U => cMd cI q v) (va_up u 1 (mSfS x (u 0) n 40)) := by
  refine y_startI (cc := cX6_isSafe) (maxL := 3) (ret := some .boolean) (by decide +kernel) rfl (Nat.le_of_ble_eq_true rfl) ⟨_, rfl, fun x h => by rcases h rfl with rfl | rfl <;> rfl⟩ (fun _ => y_b10) ?_
  intro p e s mm args below meth c A QQ ls S hw ret hl
  have S : CallFix p mm c cX6_isSafe 3 s args wsX6_isSafe RX6 := S
  have hw : y_W D cI cC cL A s s.heap [] [((q 0), .inr (6, [.ref (q 1), .ref (q 2), .ref (q 3), .int (u 3 0), .ref (q 4), .int (u 5 0), .ref (q 5), .int (u 7 0), .int (u 8 0), .int (u 9 0), .int (u 10 0), .int (u 11 0), .ref (q 6)])), ((q 1), .inl (cI, 162, .inl (u 0))), ((q 2), .inl (cI, 162, .inl (u 1))), ((q 3), .inl (cI, 648, .inl (u 2))), ((q 4), .inl (cI, 60, .inl (u 4))), ((q 5), .inl (cI, 3, .inl (u 6))), ((q 6), .inl (cI, 3, .inl (u 12)))] := hw
  have hl : lv_has ls 3 [(0, .ref (q 0)), (1, .int x)] := hl
  refine lv_aload_n S.1 S.2.1 dX6_isSafe_0 rfl (lv_at hl 0 rfl) ?_
  refine lv_iconst (v := 1) S.1 S.2.1 dX6_isSafe_1 (by decide) ?_
  refine y_callV (As := [.int 1]) (rest := []) S hw hl.1 (c_X6_tries l D cI cC cL q u 1 n (hn) (by omega)) (cwV 1 S.2.2.2.2 gX6_isSafe_X6_tries rfl rfl rfl (by decide +kernel) ⟨Nat.le_of_ble_eq_true rfl, Nat.le_of_ble_eq_true rfl⟩) 0 rfl rfl [0, 1, 2, 3, 4, 5, 6] [] rfl (by decide +kernel) (wr := []) rfl (by decide +kernel) (by decide +kernel) rfl (Nat.le_of_ble_eq_true rfl) dX6_isSafe_2 rfl ⟨Nat.le_refl _, Nat.le_refl _⟩ (fun H locs v_1 ev_1 hw => ?_)
  subst ev_1
  have hw : y_W D cI cC cL A s H locs [((q 0), .inr (6, [.ref (q 1), .ref (q 2), .ref (q 3), .int (u 3 0), .ref (q 4), .int (u 5 0), .ref (q 5), .int (u 7 0), .int (u 8 0), .int (u 9 0), .int (u 10 0), .int (u 11 0), .ref (q 6)])), ((q 1), .inl (cI, 162, .inl (u 0))), ((q 2), .inl (cI, 162, .inl (mTry (u 0) n 1))), ((q 3), .inl (cI, 648, .inl (u 2))), ((q 4), .inl (cI, 60, .inl (u 4))), ((q 5), .inl (cI, 3, .inl (u 6))), ((q 6), .inl (cI, 3, .inl (u 12)))] := hw
  refine lv_iconst (v := 0) S.1 S.2.1 dX6_isSafe_5 (by decide) ?_
  refine lv_istore_n (lv' := [(2, .int 0), (0, .ref (q 0)), (1, .int x)]) S.1 S.2.1 dX6_isSafe_6 rfl hl (by decide) rfl (fun ls hl => ?_)
  have lp7 : ∀ (fuel : Nat) (i : Nat) (g : V1), (i ≤ 40) → (g = mSfS x (u 0) n i) → (40 - i) < fuel → ∀ (H : Heap) (locs : List Loc) (ls : Array Slot), y_W D cI cC cL A s H locs [((q 0), .inr (6, [.ref (q 1), .ref (q 2), .ref (q 3), .int (u 3 0), .ref (q 4), .int (u 5 0), .ref (q 5), .int (u 7 0), .int (u 8 0), .int (u 9 0), .int (u 10 0), .int (u 11 0), .ref (q 6)])), ((q 1), .inl (cI, 162, .inl (u 0))), ((q 2), .inl (cI, 162, .inl g)), ((q 3), .inl (cI, 648, .inl (u 2))), ((q 4), .inl (cI, 60, .inl (u 4))), ((q 5), .inl (cI, 3, .inl (u 6))), ((q 6), .inl (cI, 3, .inl (u 12)))] → lv_has ls 3 [(0, .ref (q 0)), (1, .int x), (2, .int (nI i))] → W p l e (y_R 4 90) s mm args below meth c H locs 0 0 QQ (F0 mm 7 ls []) := by
    intro fuel
    induction fuel with
    | zero =>
      intro i g hi hg hfu
      exact absurd hfu (Nat.not_lt_zero _)
    | succ fuel ih7 =>
      intro i g hi hg hfu H locs ls hw hl
      refine lv_iload_n S.1 S.2.1 dX6_isSafe_7 rfl (lv_at hl 2 rfl) ?_
      refine lv_bipush (v := 40) S.1 S.2.1 dX6_isSafe_8 (by decide) ?_
      refine lv_icmp_ge (tgt := 28) S.1 S.2.1 dX6_isSafe_10 (by decide) (fun c_3 => ?_) (fun c_3 => ?_)
      · skip
        have c_3N : 40 ≤ i := (nI_leI (a := 40) (b := i) (by omega) (by omega)).mp c_3
        refine lv_aload_n S.1 S.2.1 dX6_isSafe_28 rfl (lv_at hl 0 rfl) ?_
        refine y_get S hw (C := RX6) (T := TX6) (N := 13) i_X6_isSafe_X6 0 rfl rfl 1 (by decide) f_X6_isSafe_13 rfl dX6_isSafe_29 ?_
        refine lv_bipush (v := 49) S.1 S.2.1 dX6_isSafe_32 (by decide) ?_
        refine y_iald S hw 2 (k := 49) rfl (by omega) (Nat.le_of_ble_eq_true rfl) dX6_isSafe_34 ?_
        refine lv_if_ne (tgt := 42) S.1 S.2.1 dX6_isSafe_35 (by decide) (fun c_4 => ?_) (fun c_4 => ?_)
        · skip
          refine lv_iconst (v := 0) S.1 S.2.1 dX6_isSafe_42 (by decide) ?_
          exact ret _ _ _ _ _ (by have e4 : i = 40 := (by omega); rw [e4] at hg; rw [← hg]; exact hw) (by have e4 : i = 40 := (by omega); rw [e4] at hg; rw [← hg]; first | exact (if_pos c_4).symm | exact (if_neg (not_not_intro c_4)).symm) dX6_isSafe_43
        · skip
          refine lv_iconst (v := 1) S.1 S.2.1 dX6_isSafe_38 (by decide) ?_
          refine lv_goto (tgt := 43) S.1 S.2.1 dX6_isSafe_39 (by decide) ?_
          exact ret _ _ _ _ _ (by have e4 : i = 40 := (by omega); rw [e4] at hg; rw [← hg]; exact hw) (by have e4 : i = 40 := (by omega); rw [e4] at hg; rw [← hg]; first | exact (if_pos c_4).symm | exact (if_neg (not_not_intro c_4)).symm) dX6_isSafe_43
      · skip
        have c_3N : ¬ 40 ≤ i := fun z => c_3 ((nI_leI (a := 40) (b := i) (by omega) (by omega)).mpr z)
        refine lv_aload_n S.1 S.2.1 dX6_isSafe_13 rfl (lv_at hl 0 rfl) ?_
        refine y_get S hw (C := RX6) (T := TX6) (N := 13) i_X6_isSafe_X6 0 rfl rfl 1 (by decide) f_X6_isSafe_13 rfl dX6_isSafe_14 ?_
        refine lv_iload_n S.1 S.2.1 dX6_isSafe_17 rfl (lv_at hl 1 rfl) ?_
        refine y_callSI (As := [.ref (q 2), .int x]) (rest := []) S hw hl.1 (c_X6_handsOver l D cI cC cL (q 2) g x n (by rw [hg]; exact mSfS_n (by omega) hn i) (by omega)) (va_cwS 2 S.2.2.2.2 gX6_isSafe_X6_handsOver rfl rfl rfl (by decide +kernel) ⟨Nat.le_of_ble_eq_true rfl, Nat.le_of_ble_eq_true rfl⟩) [2] [0, 1, 3, 4, 5, 6] rfl (by decide +kernel) (wr := [((q 0), .inr (6, [.ref (q 1), .ref (q 2), .ref (q 3), .int (u 3 0), .ref (q 4), .int (u 5 0), .ref (q 5), .int (u 7 0), .int (u 8 0), .int (u 9 0), .int (u 10 0), .int (u 11 0), .ref (q 6)])), ((q 1), .inl (cI, 162, .inl (u 0))), ((q 3), .inl (cI, 648, .inl (u 2))), ((q 4), .inl (cI, 60, .inl (u 4))), ((q 5), .inl (cI, 3, .inl (u 6))), ((q 6), .inl (cI, 3, .inl (u 12)))]) rfl (by decide +kernel) (by decide +kernel) rfl (Nat.le_of_ble_eq_true rfl) dX6_isSafe_18 rfl ⟨Nat.le_refl _, Nat.le_refl _⟩ (fun H locs v_5 x_6 ev_5 ex_6 hw => ?_)
        have hw : y_W D cI cC cL A s H locs [((q 0), .inr (6, [.ref (q 1), .ref (q 2), .ref (q 3), .int (u 3 0), .ref (q 4), .int (u 5 0), .ref (q 5), .int (u 7 0), .int (u 8 0), .int (u 9 0), .int (u 10 0), .int (u 11 0), .ref (q 6)])), ((q 1), .inl (cI, 162, .inl (u 0))), ((q 3), .inl (cI, 648, .inl (u 2))), ((q 4), .inl (cI, 60, .inl (u 4))), ((q 5), .inl (cI, 3, .inl (u 6))), ((q 6), .inl (cI, 3, .inl (u 12))), ((q 2), .inl (cI, 162, .inl v_5))] := hw
        subst ex_6
        refine lv_pop S.1 S.2.1 dX6_isSafe_21 rfl ?_
        refine lv_iinc (v := (nI (i + 1))) (lv' := [(2, .int (nI (i + 1))), (0, .ref (q 0)), (1, .int x)]) S.1 S.2.1 dX6_isSafe_22 hl (k := 2) rfl (by first | exact nI_1 _ | exact nI_add _ _) (by decide) rfl (fun ls hl => ?_)
        refine lv_goto (tgt := 7) S.1 S.2.1 dX6_isSafe_25 (by decide) ?_
        exact ih7 (i + 1) v_5 (by omega) (by rw [ev_5, hg]; rfl) (by omega) _ _ ls (hw.sub [0, 1, 6, 2, 3, 4, 5] (by decide +kernel) rfl) (lv_sub hl [1, 2, 0] rfl)
  exact lp7 ((40 - 0) + 1) 0 (mTry (u 0) n 1) (Nat.zero_le _) (rfl) (Nat.lt_succ_self _) _ _ ls hw (lv_sub hl [1, 2, 0] rfl)

set_option maxHeartbeats 4000000 in
set_option maxRecDepth 100000 in
/-- Model.safe -/
theorem c_X6_safe (l : Launch) (D : va_G) (cI cC cL : ClassId) (q : Nat → Nat) (u : U) (n : Nat) (hn : u 0 0 = nI n) (h10 : n ≤ 10) : y_MI l yX6_safe wsX6_safe 5 112 D cI cC cL [.ref (q 0)] (cMd cI q u) (nI (mSf (u 0) n 10001 0 10000 (u 1)).1) (fun v : U => cMd cI q v) (va_up u 1 (mSf (u 0) n 10001 0 10000 (u 1)).2) := by
  refine y_startI (cc := cX6_safe) (maxL := 4) (ret := some .int) (by decide +kernel) rfl (Nat.le_of_ble_eq_true rfl) ⟨_, rfl, fun x _ => rfl⟩ (fun h => by cases h) ?_
  intro p e s mm args below meth c A QQ ls S hw ret hl
  have S : CallFix p mm c cX6_safe 4 s args wsX6_safe RX6 := S
  have hw : y_W D cI cC cL A s s.heap [] [((q 0), .inr (6, [.ref (q 1), .ref (q 2), .ref (q 3), .int (u 3 0), .ref (q 4), .int (u 5 0), .ref (q 5), .int (u 7 0), .int (u 8 0), .int (u 9 0), .int (u 10 0), .int (u 11 0), .ref (q 6)])), ((q 1), .inl (cI, 162, .inl (u 0))), ((q 2), .inl (cI, 162, .inl (u 1))), ((q 3), .inl (cI, 648, .inl (u 2))), ((q 4), .inl (cI, 60, .inl (u 4))), ((q 5), .inl (cI, 3, .inl (u 6))), ((q 6), .inl (cI, 3, .inl (u 12)))] := hw
  have hl : lv_has ls 4 [(0, .ref (q 0))] := hl
  refine lv_iconst (v := 0) S.1 S.2.1 dX6_safe_0 (by decide) ?_
  refine lv_istore_n (lv' := [(1, .int 0), (0, .ref (q 0))]) S.1 S.2.1 dX6_safe_1 rfl hl (by decide) rfl (fun ls hl => ?_)
  refine lv_sipush (v := 10000) S.1 S.2.1 dX6_safe_2 (by decide) ?_
  refine lv_istore_n (lv' := [(2, .int 10000), (1, .int 0), (0, .ref (q 0))]) S.1 S.2.1 dX6_safe_5 rfl hl (by decide) rfl (fun ls hl => ?_)
  have lp6 : ∀ (fuel : Nat) (k : Nat) (lo : Nat) (hi : Nat) (g : V1), (hi < lo + k) → (hi ≤ 10000 ∧ lo ≤ hi) → (mSf (u 0) n k lo hi g = mSf (u 0) n 10001 0 10000 (u 1)) → (hi - lo) < fuel → ∀ (H : Heap) (locs : List Loc) (ls : Array Slot), y_W D cI cC cL A s H locs [((q 0), .inr (6, [.ref (q 1), .ref (q 2), .ref (q 3), .int (u 3 0), .ref (q 4), .int (u 5 0), .ref (q 5), .int (u 7 0), .int (u 8 0), .int (u 9 0), .int (u 10 0), .int (u 11 0), .ref (q 6)])), ((q 1), .inl (cI, 162, .inl (u 0))), ((q 2), .inl (cI, 162, .inl g)), ((q 3), .inl (cI, 648, .inl (u 2))), ((q 4), .inl (cI, 60, .inl (u 4))), ((q 5), .inl (cI, 3, .inl (u 6))), ((q 6), .inl (cI, 3, .inl (u 12)))] → lv_has ls 4 [(0, .ref (q 0)), (1, .int (nI lo)), (2, .int (nI hi))] → W p l e (y_R 5 112) s mm args below meth c H locs 0 0 QQ (F0 mm 6 ls []) := by
    intro fuel
    induction fuel with
    | zero =>
      intro k lo hi g hk h4 he hfu
      exact absurd hfu (Nat.not_lt_zero _)
    | succ fuel ih6 =>
      intro k lo hi g hk h4 he hfu H locs ls hw hl
      refine lv_iload_n S.1 S.2.1 dX6_safe_6 rfl (lv_at hl 1 rfl) ?_
      refine lv_iload_n S.1 S.2.1 dX6_safe_7 rfl (lv_at hl 2 rfl) ?_
      refine lv_icmp_ge (tgt := 39) S.1 S.2.1 dX6_safe_8 (by decide) (fun c_1 => ?_) (fun c_1 => ?_)
      · skip
        have c_1N : hi ≤ lo := (nI_leI (a := hi) (b := lo) (by omega) (by omega)).mp c_1
        have hJ : mSf (u 0) n 10001 0 10000 (u 1) = (lo, g) := by rw [← he, show k = (k - 1) + 1 from by omega, mSf, if_pos c_1N]
        refine lv_iload_n S.1 S.2.1 dX6_safe_39 rfl (lv_at hl 1 rfl) ?_
        exact ret _ _ _ _ _ (by rw [hJ]; exact hw) (by rw [hJ]) dX6_safe_40
      · skip
        have c_1N : ¬ hi ≤ lo := fun z => c_1 ((nI_leI (a := hi) (b := lo) (by omega) (by omega)).mpr z)
        refine lv_iload_n S.1 S.2.1 dX6_safe_11 rfl (lv_at hl 1 rfl) ?_
        refine lv_iload_n S.1 S.2.1 dX6_safe_12 rfl (lv_at hl 2 rfl) ?_
        refine y_iaddN S lo hi dX6_safe_13 ?_
        refine lv_iconst (v := 1) S.1 S.2.1 dX6_safe_14 (by decide) ?_
        refine y_iaddN S (lo + hi) 1 dX6_safe_15 ?_
        refine lv_iconst (v := 2) S.1 S.2.1 dX6_safe_16 (by decide) ?_
        refine lv_idiv S.1 S.2.1 dX6_safe_17 (by decide) ?_
        refine y_top (y := (nI (((lo + hi) + 1) / 2))) (pk_div (d := 2) (by omega) (by decide) (by decide)) ?_
        refine lv_istore_n (lv' := [(3, .int (nI (((lo + hi) + 1) / 2))), (0, .ref (q 0)), (1, .int (nI lo)), (2, .int (nI hi))]) S.1 S.2.1 dX6_safe_18 rfl hl (by decide) rfl (fun ls hl => ?_)
        refine lv_aload_n S.1 S.2.1 dX6_safe_19 rfl (lv_at hl 1 rfl) ?_
        refine lv_iload_n S.1 S.2.1 dX6_safe_20 rfl (lv_at hl 0 rfl) ?_
        refine y_callI (As := [.int (nI (((lo + hi) + 1) / 2))]) (rest := []) S hw hl.1 (c_X6_isSafe l D cI cC cL q (va_up u 1 g) (nI (((lo + hi) + 1) / 2)) n (hn) (by omega)) (cwV 1 S.2.2.2.2 gX6_safe_X6_isSafe rfl rfl rfl (by decide +kernel) ⟨Nat.le_of_ble_eq_true rfl, Nat.le_of_ble_eq_true rfl⟩) 0 rfl rfl [0, 1, 2, 3, 4, 5, 6] [] rfl (by decide +kernel) (wr := []) rfl (by decide +kernel) (by decide +kernel) rfl (Nat.le_of_ble_eq_true rfl) dX6_safe_21 rfl ⟨Nat.le_refl _, Nat.le_refl _⟩ (fun H locs v_2 x_3 ev_2 ex_3 hw => ?_)
        subst ev_2
        have hw : y_W D cI cC cL A s H locs [((q 0), .inr (6, [.ref (q 1), .ref (q 2), .ref (q 3), .int (u 3 0), .ref (q 4), .int (u 5 0), .ref (q 5), .int (u 7 0), .int (u 8 0), .int (u 9 0), .int (u 10 0), .int (u 11 0), .ref (q 6)])), ((q 1), .inl (cI, 162, .inl (u 0))), ((q 2), .inl (cI, 162, .inl (mSfS (nI (((lo + hi) + 1) / 2)) (u 0) n 40))), ((q 3), .inl (cI, 648, .inl (u 2))), ((q 4), .inl (cI, 60, .inl (u 4))), ((q 5), .inl (cI, 3, .inl (u 6))), ((q 6), .inl (cI, 3, .inl (u 12)))] := hw
        subst ex_3
        refine y_top (y := (if ¬ mSfS (nI (((lo + hi) + 1) / 2)) (u 0) n 40 49 = 0 then (0 : Int32) else 1)) rfl ?_
        refine lv_if_eq (tgt := 32) S.1 S.2.1 dX6_safe_24 (by decide) (fun c_4 => ?_) (fun c_4 => ?_)
        · skip
          refine lv_iload_n S.1 S.2.1 dX6_safe_32 rfl (lv_at hl 0 rfl) ?_
          refine lv_iconst (v := 1) S.1 S.2.1 dX6_safe_33 (by decide) ?_
          refine y_isubN S (((lo + hi) + 1) / 2) 1 (by omega) dX6_safe_34 ?_
          refine lv_istore_n (lv' := [(2, .int (nI ((((lo + hi) + 1) / 2) - 1))), (3, .int (nI (((lo + hi) + 1) / 2))), (0, .ref (q 0)), (1, .int (nI lo))]) S.1 S.2.1 dX6_safe_35 rfl hl (by decide) rfl (fun ls hl => ?_)
          refine lv_goto (tgt := 6) S.1 S.2.1 dX6_safe_36 (by decide) ?_
          exact ih6 (k - 1) lo ((((lo + hi) + 1) / 2) - 1) (mSfS (nI (((lo + hi) + 1) / 2)) (u 0) n 40) (by omega) (by omega) (by rw [← he, show k = (k - 1) + 1 from by omega]; (conv => rhs; rw [mSf, if_neg c_1N, if_pos c_4]); simp only [Nat.add_sub_cancel]) (by omega) _ _ ls hw (lv_sub hl [2, 3, 0] rfl)
        · skip
          refine lv_iload_n S.1 S.2.1 dX6_safe_27 rfl (lv_at hl 0 rfl) ?_
          refine lv_istore_n (lv' := [(1, .int (nI (((lo + hi) + 1) / 2))), (3, .int (nI (((lo + hi) + 1) / 2))), (0, .ref (q 0)), (2, .int (nI hi))]) S.1 S.2.1 dX6_safe_28 rfl hl (by decide) rfl (fun ls hl => ?_)
          refine lv_goto (tgt := 36) S.1 S.2.1 dX6_safe_29 (by decide) ?_
          refine lv_goto (tgt := 6) S.1 S.2.1 dX6_safe_36 (by decide) ?_
          exact ih6 (k - 1) (((lo + hi) + 1) / 2) hi (mSfS (nI (((lo + hi) + 1) / 2)) (u 0) n 40) (by omega) (by omega) (by rw [← he, show k = (k - 1) + 1 from by omega]; (conv => rhs; rw [mSf, if_neg c_1N, if_neg c_4]); simp only [Nat.add_sub_cancel]) (by omega) _ _ ls hw (lv_sub hl [2, 0, 3] rfl)
  exact lp6 ((10000 - 0) + 1) 10001 0 10000 (u 1) (by omega) (by omega) (rfl) (Nat.lt_succ_self _) _ _ ls hw (lv_sub hl [2, 1, 0] rfl)

theorem i_X6_worn_X6 : ∀ w ∈ u_ws RX6 TX6 13, w ∈ wsX6_worn := by decide +kernel
theorem f_X6_worn_7 : Cond.fieldLink RX6 7 "ChargeLinesModel" "s" "[I" ∈ wsX6_worn := by decide +kernel
theorem f_X6_worn_13 : Cond.fieldLink RX6 13 "ChargeLinesModel" "trial" "[I" ∈ wsX6_worn := by decide +kernel
theorem k_X6_worn_69 : Cond.constant RX6 69 (-2000001) ∈ wsX6_worn := by decide +kernel
set_option maxHeartbeats 4000000 in
set_option maxRecDepth 100000 in
/-- Model.worn -/
theorem c_X6_worn (l : Launch) (D : va_G) (cI cC cL : ClassId) (q : Nat → Nat) (u : U) (x : Int32) (n : Nat) (hn : u 0 0 = nI n) (h10 : n ≤ 10) : y_MI l yX6_worn wsX6_worn 5 114 D cI cC cL [.ref (q 0), .int x] (cMd cI q u) (mWornR (u 0) x n) (fun v : U => cMd cI q v) (mWornU u x n) := by
  refine y_startI (cc := cX6_worn) (maxL := 6) (ret := some .int) (by decide +kernel) rfl (Nat.le_of_ble_eq_true rfl) ⟨_, rfl, fun x _ => rfl⟩ (fun h => by cases h) ?_
  intro p e s mm args below meth c A QQ ls S hw ret hl
  have S : CallFix p mm c cX6_worn 6 s args wsX6_worn RX6 := S
  have hw : y_W D cI cC cL A s s.heap [] [((q 0), .inr (6, [.ref (q 1), .ref (q 2), .ref (q 3), .int (u 3 0), .ref (q 4), .int (u 5 0), .ref (q 5), .int (u 7 0), .int (u 8 0), .int (u 9 0), .int (u 10 0), .int (u 11 0), .ref (q 6)])), ((q 1), .inl (cI, 162, .inl (u 0))), ((q 2), .inl (cI, 162, .inl (u 1))), ((q 3), .inl (cI, 648, .inl (u 2))), ((q 4), .inl (cI, 60, .inl (u 4))), ((q 5), .inl (cI, 3, .inl (u 6))), ((q 6), .inl (cI, 3, .inl (u 12)))] := hw
  have hl : lv_has ls 6 [(0, .ref (q 0)), (1, .int x)] := hl
  refine lv_iload_n S.1 S.2.1 dX6_worn_0 rfl (lv_at hl 1 rfl) ?_
  refine lv_iconst (v := 0) S.1 S.2.1 dX6_worn_1 (by decide) ?_
  refine lv_iconst (v := 1) S.1 S.2.1 dX6_worn_2 (by decide) ?_
  refine y_callSI (As := [.int x, .int 0, .int 1]) (rest := []) S hw hl.1 (c_X6_in l D cI cC cL x 0 1) (va_cwS 3 S.2.2.2.2 gX6_worn_X6_in rfl rfl rfl (by decide +kernel) ⟨Nat.le_of_ble_eq_true rfl, Nat.le_of_ble_eq_true rfl⟩) [] [0, 1, 2, 3, 4, 5, 6] rfl (by decide +kernel) (wr := [((q 0), .inr (6, [.ref (q 1), .ref (q 2), .ref (q 3), .int (u 3 0), .ref (q 4), .int (u 5 0), .ref (q 5), .int (u 7 0), .int (u 8 0), .int (u 9 0), .int (u 10 0), .int (u 11 0), .ref (q 6)])), ((q 1), .inl (cI, 162, .inl (u 0))), ((q 2), .inl (cI, 162, .inl (u 1))), ((q 3), .inl (cI, 648, .inl (u 2))), ((q 4), .inl (cI, 60, .inl (u 4))), ((q 5), .inl (cI, 3, .inl (u 6))), ((q 6), .inl (cI, 3, .inl (u 12)))]) rfl (by decide +kernel) (by decide +kernel) rfl (Nat.le_of_ble_eq_true rfl) dX6_worn_3 rfl ⟨Nat.le_refl _, Nat.le_refl _⟩ (fun H locs v_1 x_2 ev_1 ex_2 hw => ?_)
  have hw : y_W D cI cC cL A s H locs [((q 0), .inr (6, [.ref (q 1), .ref (q 2), .ref (q 3), .int (u 3 0), .ref (q 4), .int (u 5 0), .ref (q 5), .int (u 7 0), .int (u 8 0), .int (u 9 0), .int (u 10 0), .int (u 11 0), .ref (q 6)])), ((q 1), .inl (cI, 162, .inl (u 0))), ((q 2), .inl (cI, 162, .inl (u 1))), ((q 3), .inl (cI, 648, .inl (u 2))), ((q 4), .inl (cI, 60, .inl (u 4))), ((q 5), .inl (cI, 3, .inl (u 6))), ((q 6), .inl (cI, 3, .inl (u 12)))] := hw
  subst ex_2
  refine lv_if_ne (tgt := 12) S.1 S.2.1 dX6_worn_6 (by decide) (fun c_3 => ?_) (fun c_3 => ?_)
  · skip
    refine lv_iconst (v := 0) S.1 S.2.1 dX6_worn_12 (by decide) ?_
    refine lv_istore_n (lv' := [(2, .int 0), (0, .ref (q 0)), (1, .int x)]) S.1 S.2.1 dX6_worn_13 rfl hl (by decide) rfl (fun ls hl => ?_)
    refine lv_iconst (v := (-1)) S.1 S.2.1 dX6_worn_14 (by decide) ?_
    refine lv_istore_n (lv' := [(3, .int (-1)), (2, .int 0), (0, .ref (q 0)), (1, .int x)]) S.1 S.2.1 dX6_worn_15 rfl hl (by decide) rfl (fun ls hl => ?_)
    refine lv_iconst (v := 0) S.1 S.2.1 dX6_worn_16 (by decide) ?_
    refine lv_istore (lv' := [(4, .int 0), (3, .int (-1)), (2, .int 0), (0, .ref (q 0)), (1, .int x)]) S.1 S.2.1 dX6_worn_17 hl (by decide) rfl (fun ls hl => ?_)
    have lp19 : ∀ (fuel : Nat) (i : Nat) (z1 : Int32) (z2 : Int32) (g : V1), (i ≤ n) → ((z1, z2) = mWl (u 0) n i) → (g = mWt (u 0) (u 1) n i) → (n - i) < fuel → ∀ (H : Heap) (locs : List Loc) (ls : Array Slot), y_W D cI cC cL A s H locs [((q 0), .inr (6, [.ref (q 1), .ref (q 2), .ref (q 3), .int (u 3 0), .ref (q 4), .int (u 5 0), .ref (q 5), .int (u 7 0), .int (u 8 0), .int (u 9 0), .int (u 10 0), .int (u 11 0), .ref (q 6)])), ((q 1), .inl (cI, 162, .inl (u 0))), ((q 2), .inl (cI, 162, .inl g)), ((q 3), .inl (cI, 648, .inl (u 2))), ((q 4), .inl (cI, 60, .inl (u 4))), ((q 5), .inl (cI, 3, .inl (u 6))), ((q 6), .inl (cI, 3, .inl (u 12)))] → lv_has ls 6 [(0, .ref (q 0)), (1, .int x), (2, .int z1), (3, .int z2), (4, .int (nI i))] → W p l e (y_R 5 114) s mm args below meth c H locs 0 0 QQ (F0 mm 19 ls []) := by
      intro fuel
      induction fuel with
      | zero =>
        intro i z1 z2 g hi hz hg hfu
        exact absurd hfu (Nat.not_lt_zero _)
      | succ fuel ih19 =>
        intro i z1 z2 g hi hz hg hfu H locs ls hw hl
        refine lv_iload S.1 S.2.1 dX6_worn_19 (lv_at hl 4 rfl) ?_
        refine lv_aload_n S.1 S.2.1 dX6_worn_21 rfl (lv_at hl 0 rfl) ?_
        refine y_get S hw (C := RX6) (T := TX6) (N := 13) i_X6_worn_X6 0 rfl rfl 0 (by decide) f_X6_worn_7 rfl dX6_worn_22 ?_
        refine lv_iconst (v := 0) S.1 S.2.1 dX6_worn_25 (by decide) ?_
        refine y_iald S hw 1 (k := 0) rfl (by omega) (Nat.le_of_ble_eq_true rfl) dX6_worn_26 ?_
        refine y_top (y := (nI n)) (hn) ?_
        refine lv_icmp_ge (tgt := 104) S.1 S.2.1 dX6_worn_27 (by decide) (fun c_4 => ?_) (fun c_4 => ?_)
        · skip
          have c_4N : n ≤ i := (nI_leI (a := n) (b := i) (by omega) (by omega)).mp c_4
          refine lv_iload_n S.1 S.2.1 dX6_worn_104 rfl (lv_at hl 1 rfl) ?_
          refine lv_if_ne (tgt := 112) S.1 S.2.1 dX6_worn_105 (by decide) (fun c_5 => ?_) (fun c_5 => ?_)
          · skip
            refine lv_iload_n S.1 S.2.1 dX6_worn_112 rfl (lv_at hl 3 rfl) ?_
            exact ret _ _ _ _ _ (by have e4 : i = n := (by omega); rw [e4] at hg; rw [show mWornU u x n = va_up u 1 g from by rw [mWornU, if_neg c_3, hg]]; exact hw) (by have e4 : i = n := (by omega); rw [e4] at hz; rw [mWornR, if_neg c_3, ← hz]; first | rw [if_pos c_5] | rw [if_neg (not_not_intro c_5)]) dX6_worn_113
          · skip
            refine lv_iload_n S.1 S.2.1 dX6_worn_108 rfl (lv_at hl 2 rfl) ?_
            refine lv_goto (tgt := 113) S.1 S.2.1 dX6_worn_109 (by decide) ?_
            exact ret _ _ _ _ _ (by have e4 : i = n := (by omega); rw [e4] at hg; rw [show mWornU u x n = va_up u 1 g from by rw [mWornU, if_neg c_3, hg]]; exact hw) (by have e4 : i = n := (by omega); rw [e4] at hz; rw [mWornR, if_neg c_3, ← hz]; first | rw [if_pos c_5] | rw [if_neg (not_not_intro c_5)]) dX6_worn_113
        · skip
          have c_4N : ¬ n ≤ i := fun z => c_4 ((nI_leI (a := n) (b := i) (by omega) (by omega)).mpr z)
          refine lv_aload_n S.1 S.2.1 dX6_worn_30 rfl (lv_at hl 0 rfl) ?_
          refine lv_iconst (v := 1) S.1 S.2.1 dX6_worn_31 (by decide) ?_
          refine y_callV (As := [.int 1]) (rest := []) S hw hl.1 (c_X6_tries l D cI cC cL q (va_up u 1 g) 1 n (hn) (by omega)) (cwV 1 S.2.2.2.2 gX6_worn_X6_tries rfl rfl rfl (by decide +kernel) ⟨Nat.le_of_ble_eq_true rfl, Nat.le_of_ble_eq_true rfl⟩) 0 rfl rfl [0, 1, 2, 3, 4, 5, 6] [] rfl (by decide +kernel) (wr := []) rfl (by decide +kernel) (by decide +kernel) rfl (Nat.le_of_ble_eq_true rfl) dX6_worn_32 rfl ⟨Nat.le_refl _, Nat.le_refl _⟩ (fun H locs v_6 ev_6 hw => ?_)
          subst ev_6
          have hw : y_W D cI cC cL A s H locs [((q 0), .inr (6, [.ref (q 1), .ref (q 2), .ref (q 3), .int (u 3 0), .ref (q 4), .int (u 5 0), .ref (q 5), .int (u 7 0), .int (u 8 0), .int (u 9 0), .int (u 10 0), .int (u 11 0), .ref (q 6)])), ((q 1), .inl (cI, 162, .inl (u 0))), ((q 2), .inl (cI, 162, .inl (mTry (u 0) n 1))), ((q 3), .inl (cI, 648, .inl (u 2))), ((q 4), .inl (cI, 60, .inl (u 4))), ((q 5), .inl (cI, 3, .inl (u 6))), ((q 6), .inl (cI, 3, .inl (u 12)))] := hw
          refine lv_aload_n S.1 S.2.1 dX6_worn_35 rfl (lv_at hl 0 rfl) ?_
          refine y_get S hw (C := RX6) (T := TX6) (N := 13) i_X6_worn_X6 0 rfl rfl 1 (by decide) f_X6_worn_13 rfl dX6_worn_36 ?_
          refine lv_bipush (v := 20) S.1 S.2.1 dX6_worn_39 (by decide) ?_
          refine lv_iload S.1 S.2.1 dX6_worn_41 (lv_at hl 4 rfl) ?_
          refine y_iaddN S 20 i dX6_worn_43 ?_
          refine lv_iconst (v := 0) S.1 S.2.1 dX6_worn_44 (by decide) ?_
          refine y_iast S hw 2 (k := (20 + i)) rfl (by omega) (Nat.le_of_ble_eq_true rfl) dX6_worn_45 (ws' := [((q 0), .inr (6, [.ref (q 1), .ref (q 2), .ref (q 3), .int (u 3 0), .ref (q 4), .int (u 5 0), .ref (q 5), .int (u 7 0), .int (u 8 0), .int (u 9 0), .int (u 10 0), .int (u 11 0), .ref (q 6)])), ((q 1), .inl (cI, 162, .inl (u 0))), ((q 2), .inl (cI, 162, .inl (upd (mTry (u 0) n 1) (20 + i) 0))), ((q 3), .inl (cI, 648, .inl (u 2))), ((q 4), .inl (cI, 60, .inl (u 4))), ((q 5), .inl (cI, 3, .inl (u 6))), ((q 6), .inl (cI, 3, .inl (u 12)))]) rfl (fun H locs hw => ?_)
          refine lv_aload_n S.1 S.2.1 dX6_worn_46 rfl (lv_at hl 0 rfl) ?_
          refine y_get S hw (C := RX6) (T := TX6) (N := 13) i_X6_worn_X6 0 rfl rfl 1 (by decide) f_X6_worn_13 rfl dX6_worn_47 ?_
          refine lv_bipush (v := 30) S.1 S.2.1 dX6_worn_50 (by decide) ?_
          refine lv_iload S.1 S.2.1 dX6_worn_52 (lv_at hl 4 rfl) ?_
          refine y_iaddN S 30 i dX6_worn_54 ?_
          refine lv_iconst (v := 0) S.1 S.2.1 dX6_worn_55 (by decide) ?_
          refine y_iast S hw 2 (k := (30 + i)) rfl (by omega) (Nat.le_of_ble_eq_true rfl) dX6_worn_56 (ws' := [((q 0), .inr (6, [.ref (q 1), .ref (q 2), .ref (q 3), .int (u 3 0), .ref (q 4), .int (u 5 0), .ref (q 5), .int (u 7 0), .int (u 8 0), .int (u 9 0), .int (u 10 0), .int (u 11 0), .ref (q 6)])), ((q 1), .inl (cI, 162, .inl (u 0))), ((q 2), .inl (cI, 162, .inl (upd (upd (mTry (u 0) n 1) (20 + i) 0) (30 + i) 0))), ((q 3), .inl (cI, 648, .inl (u 2))), ((q 4), .inl (cI, 60, .inl (u 4))), ((q 5), .inl (cI, 3, .inl (u 6))), ((q 6), .inl (cI, 3, .inl (u 12)))]) rfl (fun H locs hw => ?_)
          refine lv_aload_n S.1 S.2.1 dX6_worn_57 rfl (lv_at hl 0 rfl) ?_
          refine lv_sipush (v := 10000) S.1 S.2.1 dX6_worn_58 (by decide) ?_
          refine lv_aload_n S.1 S.2.1 dX6_worn_61 rfl (lv_at hl 0 rfl) ?_
          refine y_get S hw (C := RX6) (T := TX6) (N := 13) i_X6_worn_X6 0 rfl rfl 0 (by decide) f_X6_worn_7 rfl dX6_worn_62 ?_
          refine lv_iconst (v := 0) S.1 S.2.1 dX6_worn_65 (by decide) ?_
          refine y_iald S hw 1 (k := 0) rfl (by omega) (Nat.le_of_ble_eq_true rfl) dX6_worn_66 ?_
          refine y_top (y := (nI n)) (hn) ?_
          refine y_callI (As := [.int 10000, .int (nI n)]) (rest := []) S hw hl.1 (c_X6_echoes l D cI cC cL q (va_up u 1 (upd (upd (mTry (u 0) n 1) (20 + i) 0) (30 + i) 0)) 10000 n n (show upd (upd (mTry (u 0) n 1) (20 + i) 0) (30 + i) 0 0 = nI n from (pk_un (by omega)).trans ((pk_un (by omega)).trans ((mTry_o (by decide) (by omega) (by omega)).trans hn))) (by omega) (by omega)) (cwV 2 S.2.2.2.2 gX6_worn_X6_echoes rfl rfl rfl (by decide +kernel) ⟨Nat.le_of_ble_eq_true rfl, Nat.le_of_ble_eq_true rfl⟩) 0 rfl rfl [0, 1, 2, 3, 4, 5, 6] [] rfl (by decide +kernel) (wr := []) rfl (by decide +kernel) (by decide +kernel) rfl (Nat.le_of_ble_eq_true rfl) dX6_worn_67 rfl ⟨Nat.le_refl _, Nat.le_refl _⟩ (fun H locs v_8 x_9 ev_8 ex_9 hw => ?_)
          subst ev_8
          have hw : y_W D cI cC cL A s H locs [((q 0), .inr (6, [.ref (q 1), .ref (q 2), .ref (q 3), .int (u 3 0), .ref (q 4), .int (u 5 0), .ref (q 5), .int (u 7 0), .int (u 8 0), .int (u 9 0), .int (u 10 0), .int (u 11 0), .ref (q 6)])), ((q 1), .inl (cI, 162, .inl (u 0))), ((q 2), .inl (cI, 162, .inl ((mEcho 10000 (upd (upd (mTry (u 0) n 1) (20 + i) 0) (30 + i) 0) n n).1))), ((q 3), .inl (cI, 648, .inl (u 2))), ((q 4), .inl (cI, 60, .inl (u 4))), ((q 5), .inl (cI, 3, .inl (u 6))), ((q 6), .inl (cI, 3, .inl (u 12)))] := hw
          subst ex_9
          refine y_top (y := (mEcho 10000 (upd (upd (mTry (u 0) n 1) (20 + i) 0) (30 + i) 0) n n).2) rfl ?_
          refine lv_istore (lv' := [(5, .int ((mEcho 10000 (upd (upd (mTry (u 0) n 1) (20 + i) 0) (30 + i) 0) n n).2)), (0, .ref (q 0)), (1, .int x), (2, .int z1), (3, .int z2), (4, .int (nI i))]) S.1 S.2.1 dX6_worn_70 hl (by decide) rfl (fun ls hl => ?_)
          refine lv_iload S.1 S.2.1 dX6_worn_72 (lv_at hl 0 rfl) ?_
          refine lv_iload_n S.1 S.2.1 dX6_worn_74 rfl (lv_at hl 4 rfl) ?_
          refine lv_icmp_le (tgt := 83) S.1 S.2.1 dX6_worn_75 (by decide) (fun c_10 => ?_) (fun c_10 => ?_)
          · skip
            refine lv_iload_n S.1 S.2.1 dX6_worn_83 rfl (lv_at hl 3 rfl) ?_
            refine lv_istore_n (lv' := [(2, .int z1), (5, .int ((mEcho 10000 (upd (upd (mTry (u 0) n 1) (20 + i) 0) (30 + i) 0) n n).2)), (0, .ref (q 0)), (1, .int x), (3, .int z2), (4, .int (nI i))]) S.1 S.2.1 dX6_worn_84 rfl hl (by decide) rfl (fun ls hl => ?_)
            refine lv_iload S.1 S.2.1 dX6_worn_85 (lv_at hl 1 rfl) ?_
            refine lv_iload_n S.1 S.2.1 dX6_worn_87 rfl (lv_at hl 4 rfl) ?_
            refine lv_icmp_le (tgt := 96) S.1 S.2.1 dX6_worn_88 (by decide) (fun c_11 => ?_) (fun c_11 => ?_)
            · skip
              refine lv_iload_n S.1 S.2.1 dX6_worn_96 rfl (lv_at hl 4 rfl) ?_
              refine lv_istore_n (lv' := [(3, .int z2), (2, .int z1), (5, .int ((mEcho 10000 (upd (upd (mTry (u 0) n 1) (20 + i) 0) (30 + i) 0) n n).2)), (0, .ref (q 0)), (1, .int x), (4, .int (nI i))]) S.1 S.2.1 dX6_worn_97 rfl hl (by decide) rfl (fun ls hl => ?_)
              refine lv_iinc (v := (nI (i + 1))) (lv' := [(4, .int (nI (i + 1))), (3, .int z2), (2, .int z1), (5, .int ((mEcho 10000 (upd (upd (mTry (u 0) n 1) (20 + i) 0) (30 + i) 0) n n).2)), (0, .ref (q 0)), (1, .int x)]) S.1 S.2.1 dX6_worn_98 hl (k := 5) rfl (by first | exact nI_1 _ | exact nI_add _ _) (by decide) rfl (fun ls hl => ?_)
              refine lv_goto (tgt := 19) S.1 S.2.1 dX6_worn_101 (by decide) ?_
              exact ih19 (i + 1) z1 z2 ((mEcho 10000 (upd (upd (mTry (u 0) n 1) (20 + i) 0) (30 + i) 0) n n).1) (by omega) (by rw [mWl, ← hz]; simp only [mWo, c_11, ↓reduceIte]) (rfl) (by omega) _ _ ls hw (lv_sub hl [4, 5, 2, 1, 0] rfl)
            · skip
              exact absurd c_10 c_11
          · skip
            refine lv_iload S.1 S.2.1 dX6_worn_78 (lv_at hl 5 rfl) ?_
            refine lv_goto (tgt := 84) S.1 S.2.1 dX6_worn_80 (by decide) ?_
            refine lv_istore_n (lv' := [(2, .int (nI i)), (5, .int ((mEcho 10000 (upd (upd (mTry (u 0) n 1) (20 + i) 0) (30 + i) 0) n n).2)), (0, .ref (q 0)), (1, .int x), (3, .int z2), (4, .int (nI i))]) S.1 S.2.1 dX6_worn_84 rfl hl (by decide) rfl (fun ls hl => ?_)
            refine lv_iload S.1 S.2.1 dX6_worn_85 (lv_at hl 1 rfl) ?_
            refine lv_iload_n S.1 S.2.1 dX6_worn_87 rfl (lv_at hl 4 rfl) ?_
            refine lv_icmp_le (tgt := 96) S.1 S.2.1 dX6_worn_88 (by decide) (fun c_12 => ?_) (fun c_12 => ?_)
            · skip
              exact absurd c_12 c_10
            · skip
              refine lv_iload S.1 S.2.1 dX6_worn_91 (lv_at hl 1 rfl) ?_
              refine lv_goto (tgt := 97) S.1 S.2.1 dX6_worn_93 (by decide) ?_
              refine lv_istore_n (lv' := [(3, .int ((mEcho 10000 (upd (upd (mTry (u 0) n 1) (20 + i) 0) (30 + i) 0) n n).2)), (2, .int (nI i)), (5, .int ((mEcho 10000 (upd (upd (mTry (u 0) n 1) (20 + i) 0) (30 + i) 0) n n).2)), (0, .ref (q 0)), (1, .int x), (4, .int (nI i))]) S.1 S.2.1 dX6_worn_97 rfl hl (by decide) rfl (fun ls hl => ?_)
              refine lv_iinc (v := (nI (i + 1))) (lv' := [(4, .int (nI (i + 1))), (3, .int ((mEcho 10000 (upd (upd (mTry (u 0) n 1) (20 + i) 0) (30 + i) 0) n n).2)), (2, .int (nI i)), (5, .int ((mEcho 10000 (upd (upd (mTry (u 0) n 1) (20 + i) 0) (30 + i) 0) n n).2)), (0, .ref (q 0)), (1, .int x)]) S.1 S.2.1 dX6_worn_98 hl (k := 5) rfl (by first | exact nI_1 _ | exact nI_add _ _) (by decide) rfl (fun ls hl => ?_)
              refine lv_goto (tgt := 19) S.1 S.2.1 dX6_worn_101 (by decide) ?_
              exact ih19 (i + 1) (nI i) ((mEcho 10000 (upd (upd (mTry (u 0) n 1) (20 + i) 0) (30 + i) 0) n n).2) ((mEcho 10000 (upd (upd (mTry (u 0) n 1) (20 + i) 0) (30 + i) 0) n n).1) (by omega) (by rw [mWl, ← hz]; simp only [mWo, c_12, ↓reduceIte]) (rfl) (by omega) _ _ ls hw (lv_sub hl [4, 5, 2, 1, 0] rfl)
    exact lp19 ((n - 0) + 1) 0 0 (-1) (u 1) (Nat.zero_le _) (rfl) (rfl) (Nat.lt_succ_self _) _ _ ls hw (lv_sub hl [3, 4, 2, 1, 0] rfl)
  · skip
    refine lv_ldc (v := (-2000001)) S.1 S.2.1 S.2.2.2.1 (S.2.2.2.2 _ k_X6_worn_69) dX6_worn_9 ?_
    exact ret _ _ _ _ _ (by rw [show mWornU u x n = u from by rw [mWornU, if_pos c_3]]; exact hw) (by rw [mWornR, if_pos c_3]) dX6_worn_11

theorem i_X6_count_X6 : ∀ w ∈ u_ws RX6 TX6 13, w ∈ wsX6_count := by decide +kernel
theorem f_X6_count_7 : Cond.fieldLink RX6 7 "ChargeLinesModel" "s" "[I" ∈ wsX6_count := by decide +kernel
theorem f_X6_count_31 : Cond.fieldLink RX6 31 "ChargeLinesModel" "saved" "I" ∈ wsX6_count := by decide +kernel
theorem f_X6_count_153 : Cond.fieldLink RX6 153 "ChargeLinesModel" "length" "I" ∈ wsX6_count := by decide +kernel
theorem k_X6_count_69 : Cond.constant RX6 69 (-2000001) ∈ wsX6_count := by decide +kernel
set_option maxHeartbeats 4000000 in
set_option maxRecDepth 100000 in
/-- Model.count -/
theorem c_X6_count (l : Launch) (D : va_G) (cI cC cL : ClassId) (q : Nat → Nat) (u : U) (x : Int32) : y_MI l yX6_count wsX6_count 1 22 D cI cC cL [.ref (q 0), .int x] (cMd cI q u) (mCountR u x) (fun _ : Unit => cMd cI q u) () := by
  refine y_startI (cc := cX6_count) (maxL := 2) (ret := some .int) (by decide +kernel) rfl (Nat.le_of_ble_eq_true rfl) ⟨_, rfl, fun x _ => rfl⟩ (fun h => by cases h) ?_
  intro p e s mm args below meth c A QQ ls S hw ret hl
  have S : CallFix p mm c cX6_count 2 s args wsX6_count RX6 := S
  have hw : y_W D cI cC cL A s s.heap [] [((q 0), .inr (6, [.ref (q 1), .ref (q 2), .ref (q 3), .int (u 3 0), .ref (q 4), .int (u 5 0), .ref (q 5), .int (u 7 0), .int (u 8 0), .int (u 9 0), .int (u 10 0), .int (u 11 0), .ref (q 6)])), ((q 1), .inl (cI, 162, .inl (u 0))), ((q 2), .inl (cI, 162, .inl (u 1))), ((q 3), .inl (cI, 648, .inl (u 2))), ((q 4), .inl (cI, 60, .inl (u 4))), ((q 5), .inl (cI, 3, .inl (u 6))), ((q 6), .inl (cI, 3, .inl (u 12)))] := hw
  have hl : lv_has ls 2 [(0, .ref (q 0)), (1, .int x)] := hl
  refine lv_iload_n S.1 S.2.1 dX6_count_0 rfl (lv_at hl 1 rfl) ?_
  by_cases c_1_0 : x = 0
  · skip
    refine lv_tableIn (tgt := 52) S.1 S.2.1 dX6_count_1 (by rw [c_1_0]; decide) (by rw [c_1_0]; decide) (by rw [c_1_0]; rfl) (by decide) ?_
    refine lv_aload_n S.1 S.2.1 dX6_count_52 rfl (lv_at hl 0 rfl) ?_
    refine y_get S hw (C := RX6) (T := TX6) (N := 13) i_X6_count_X6 0 rfl rfl 0 (by decide) f_X6_count_7 rfl dX6_count_53 ?_
    refine lv_iconst (v := 0) S.1 S.2.1 dX6_count_56 (by decide) ?_
    refine y_iald S hw 1 (k := 0) rfl (by omega) (Nat.le_of_ble_eq_true rfl) dX6_count_57 ?_
    exact ret _ _ _ _ _ (by exact hw) (by unfold mCountR; rw [if_pos c_1_0]) dX6_count_58
  by_cases c_1_1 : x = 1
  · skip
    refine lv_tableIn (tgt := 59) S.1 S.2.1 dX6_count_1 (by rw [c_1_1]; decide) (by rw [c_1_1]; decide) (by rw [c_1_1]; rfl) (by decide) ?_
    refine lv_aload_n S.1 S.2.1 dX6_count_59 rfl (lv_at hl 0 rfl) ?_
    refine y_get S hw (C := RX6) (T := TX6) (N := 13) i_X6_count_X6 0 rfl rfl 0 (by decide) f_X6_count_7 rfl dX6_count_60 ?_
    refine lv_iconst (v := 1) S.1 S.2.1 dX6_count_63 (by decide) ?_
    refine y_iald S hw 1 (k := 1) rfl (by omega) (Nat.le_of_ble_eq_true rfl) dX6_count_64 ?_
    exact ret _ _ _ _ _ (by exact hw) (by unfold mCountR; rw [if_neg c_1_0, if_pos c_1_1]) dX6_count_65
  by_cases c_1_2 : x = 2
  · skip
    refine lv_tableIn (tgt := 66) S.1 S.2.1 dX6_count_1 (by rw [c_1_2]; decide) (by rw [c_1_2]; decide) (by rw [c_1_2]; rfl) (by decide) ?_
    refine lv_aload_n S.1 S.2.1 dX6_count_66 rfl (lv_at hl 0 rfl) ?_
    refine y_get S hw (C := RX6) (T := TX6) (N := 13) i_X6_count_X6 0 rfl rfl 0 (by decide) f_X6_count_7 rfl dX6_count_67 ?_
    refine lv_iconst (v := 4) S.1 S.2.1 dX6_count_70 (by decide) ?_
    refine y_iald S hw 1 (k := 4) rfl (by omega) (Nat.le_of_ble_eq_true rfl) dX6_count_71 ?_
    exact ret _ _ _ _ _ (by exact hw) (by unfold mCountR; rw [if_neg c_1_0, if_neg c_1_1, if_pos c_1_2]) dX6_count_72
  by_cases c_1_3 : x = 3
  · skip
    refine lv_tableIn (tgt := 73) S.1 S.2.1 dX6_count_1 (by rw [c_1_3]; decide) (by rw [c_1_3]; decide) (by rw [c_1_3]; rfl) (by decide) ?_
    refine lv_aload_n S.1 S.2.1 dX6_count_73 rfl (lv_at hl 0 rfl) ?_
    refine y_get S hw (C := RX6) (T := TX6) (N := 13) i_X6_count_X6 0 rfl rfl 0 (by decide) f_X6_count_7 rfl dX6_count_74 ?_
    refine lv_iconst (v := 3) S.1 S.2.1 dX6_count_77 (by decide) ?_
    refine y_iald S hw 1 (k := 3) rfl (by omega) (Nat.le_of_ble_eq_true rfl) dX6_count_78 ?_
    exact ret _ _ _ _ _ (by exact hw) (by unfold mCountR; rw [if_neg c_1_0, if_neg c_1_1, if_neg c_1_2, if_pos c_1_3]) dX6_count_79
  by_cases c_1_4 : x = 4
  · skip
    refine lv_tableIn (tgt := 80) S.1 S.2.1 dX6_count_1 (by rw [c_1_4]; decide) (by rw [c_1_4]; decide) (by rw [c_1_4]; rfl) (by decide) ?_
    refine lv_aload_n S.1 S.2.1 dX6_count_80 rfl (lv_at hl 0 rfl) ?_
    refine y_callI (As := []) (rest := []) S hw hl.1 (c_X6_pairs l D cI cC cL q u) (cwV 0 S.2.2.2.2 gX6_count_X6_pairs rfl rfl rfl (by decide +kernel) ⟨Nat.le_of_ble_eq_true rfl, Nat.le_of_ble_eq_true rfl⟩) 0 rfl rfl [0, 1, 2, 3, 4, 5, 6] [] rfl (by decide +kernel) (wr := []) rfl (by decide +kernel) (by decide +kernel) rfl (Nat.le_of_ble_eq_true rfl) dX6_count_81 rfl ⟨Nat.le_refl _, Nat.le_refl _⟩ (fun H locs v_2 x_3 ev_2 ex_3 hw => ?_)
    have hw : y_W D cI cC cL A s H locs [((q 0), .inr (6, [.ref (q 1), .ref (q 2), .ref (q 3), .int (u 3 0), .ref (q 4), .int (u 5 0), .ref (q 5), .int (u 7 0), .int (u 8 0), .int (u 9 0), .int (u 10 0), .int (u 11 0), .ref (q 6)])), ((q 1), .inl (cI, 162, .inl (u 0))), ((q 2), .inl (cI, 162, .inl (u 1))), ((q 3), .inl (cI, 648, .inl (u 2))), ((q 4), .inl (cI, 60, .inl (u 4))), ((q 5), .inl (cI, 3, .inl (u 6))), ((q 6), .inl (cI, 3, .inl (u 12)))] := hw
    subst ex_3
    exact ret _ _ _ _ _ (by exact hw) (by unfold mCountR; rw [if_neg c_1_0, if_neg c_1_1, if_neg c_1_2, if_neg c_1_3, if_pos c_1_4]) dX6_count_84
  by_cases c_1_5 : x = 5
  · skip
    refine lv_tableIn (tgt := 85) S.1 S.2.1 dX6_count_1 (by rw [c_1_5]; decide) (by rw [c_1_5]; decide) (by rw [c_1_5]; rfl) (by decide) ?_
    refine lv_aload_n S.1 S.2.1 dX6_count_85 rfl (lv_at hl 0 rfl) ?_
    refine y_get S hw (C := RX6) (T := TX6) (N := 13) i_X6_count_X6 0 rfl rfl 0 (by decide) f_X6_count_7 rfl dX6_count_86 ?_
    refine lv_iconst (v := 2) S.1 S.2.1 dX6_count_89 (by decide) ?_
    refine y_iald S hw 1 (k := 2) rfl (by omega) (Nat.le_of_ble_eq_true rfl) dX6_count_90 ?_
    exact ret _ _ _ _ _ (by exact hw) (by unfold mCountR; rw [if_neg c_1_0, if_neg c_1_1, if_neg c_1_2, if_neg c_1_3, if_neg c_1_4, if_pos c_1_5]) dX6_count_91
  by_cases c_1_6 : x = 6
  · skip
    refine lv_tableIn (tgt := 92) S.1 S.2.1 dX6_count_1 (by rw [c_1_6]; decide) (by rw [c_1_6]; decide) (by rw [c_1_6]; rfl) (by decide) ?_
    refine lv_aload_n S.1 S.2.1 dX6_count_92 rfl (lv_at hl 0 rfl) ?_
    refine lv_aload_n S.1 S.2.1 dX6_count_93 rfl (lv_at hl 0 rfl) ?_
    refine y_get S hw (C := RX6) (T := TX6) (N := 13) i_X6_count_X6 0 rfl rfl 0 (by decide) f_X6_count_7 rfl dX6_count_94 ?_
    refine lv_iconst (v := 1) S.1 S.2.1 dX6_count_97 (by decide) ?_
    refine y_iald S hw 1 (k := 1) rfl (by omega) (Nat.le_of_ble_eq_true rfl) dX6_count_98 ?_
    refine y_callI (As := [.int ((u 0) 1)]) (rest := []) S hw hl.1 (c_X6_isDue l D cI cC cL q u ((u 0) 1)) (cwV 1 S.2.2.2.2 gX6_count_X6_isDue rfl rfl rfl (by decide +kernel) ⟨Nat.le_of_ble_eq_true rfl, Nat.le_of_ble_eq_true rfl⟩) 0 rfl rfl [0, 1, 2, 3, 4, 5, 6] [] rfl (by decide +kernel) (wr := []) rfl (by decide +kernel) (by decide +kernel) rfl (Nat.le_of_ble_eq_true rfl) dX6_count_99 rfl ⟨Nat.le_refl _, Nat.le_refl _⟩ (fun H locs v_4 x_5 ev_4 ex_5 hw => ?_)
    have hw : y_W D cI cC cL A s H locs [((q 0), .inr (6, [.ref (q 1), .ref (q 2), .ref (q 3), .int (u 3 0), .ref (q 4), .int (u 5 0), .ref (q 5), .int (u 7 0), .int (u 8 0), .int (u 9 0), .int (u 10 0), .int (u 11 0), .ref (q 6)])), ((q 1), .inl (cI, 162, .inl (u 0))), ((q 2), .inl (cI, 162, .inl (u 1))), ((q 3), .inl (cI, 648, .inl (u 2))), ((q 4), .inl (cI, 60, .inl (u 4))), ((q 5), .inl (cI, 3, .inl (u 6))), ((q 6), .inl (cI, 3, .inl (u 12)))] := hw
    subst ex_5
    refine y_top (y := (mDue ((u 0) 1) (u 0 6))) rfl ?_
    refine lv_if_eq (tgt := 109) S.1 S.2.1 dX6_count_102 (by decide) (fun c_6 => ?_) (fun c_6 => ?_)
    · skip
      refine lv_iconst (v := 0) S.1 S.2.1 dX6_count_109 (by decide) ?_
      exact ret _ _ _ _ _ (by exact hw) (by unfold mCountR; rw [if_neg c_1_0, if_neg c_1_1, if_neg c_1_2, if_neg c_1_3, if_neg c_1_4, if_neg c_1_5, if_pos c_1_6]; first | exact (if_pos c_6).symm | exact (if_neg c_6).symm) dX6_count_110
    · skip
      refine lv_iconst (v := 1) S.1 S.2.1 dX6_count_105 (by decide) ?_
      refine lv_goto (tgt := 110) S.1 S.2.1 dX6_count_106 (by decide) ?_
      exact ret _ _ _ _ _ (by exact hw) (by unfold mCountR; rw [if_neg c_1_0, if_neg c_1_1, if_neg c_1_2, if_neg c_1_3, if_neg c_1_4, if_neg c_1_5, if_pos c_1_6]; first | exact (if_pos c_6).symm | exact (if_neg c_6).symm) dX6_count_110
  by_cases c_1_7 : x = 7
  · skip
    refine lv_tableIn (tgt := 111) S.1 S.2.1 dX6_count_1 (by rw [c_1_7]; decide) (by rw [c_1_7]; decide) (by rw [c_1_7]; rfl) (by decide) ?_
    refine lv_aload_n S.1 S.2.1 dX6_count_111 rfl (lv_at hl 0 rfl) ?_
    refine y_get S hw (C := RX6) (T := TX6) (N := 13) i_X6_count_X6 0 rfl rfl 3 (by decide) f_X6_count_31 rfl dX6_count_112 ?_
    exact ret _ _ _ _ _ (by exact hw) (by unfold mCountR; rw [if_neg c_1_0, if_neg c_1_1, if_neg c_1_2, if_neg c_1_3, if_neg c_1_4, if_neg c_1_5, if_neg c_1_6, if_pos c_1_7]) dX6_count_115
  by_cases c_1_8 : x = 8
  · skip
    refine lv_tableIn (tgt := 116) S.1 S.2.1 dX6_count_1 (by rw [c_1_8]; decide) (by rw [c_1_8]; decide) (by rw [c_1_8]; rfl) (by decide) ?_
    refine lv_aload_n S.1 S.2.1 dX6_count_116 rfl (lv_at hl 0 rfl) ?_
    refine y_get S hw (C := RX6) (T := TX6) (N := 13) i_X6_count_X6 0 rfl rfl 5 (by decide) f_X6_count_153 rfl dX6_count_117 ?_
    exact ret _ _ _ _ _ (by exact hw) (by unfold mCountR; rw [if_neg c_1_0, if_neg c_1_1, if_neg c_1_2, if_neg c_1_3, if_neg c_1_4, if_neg c_1_5, if_neg c_1_6, if_neg c_1_7, if_pos c_1_8]) dX6_count_120
  refine lv_tableOut (tgt := 121) S.1 S.2.1 dX6_count_1 (y_tabOut 0 8 (by decide) (by decide) (fun k h1 h2 => ?_)) (by decide) ?_
  · have hk : k = 0 ∨ k = 1 ∨ k = 2 ∨ k = 3 ∨ k = 4 ∨ k = 5 ∨ k = 6 ∨ k = 7 ∨ k = 8 := by omega
    rcases hk with rfl | rfl | rfl | rfl | rfl | rfl | rfl | rfl | rfl
    · exact c_1_0
    · exact c_1_1
    · exact c_1_2
    · exact c_1_3
    · exact c_1_4
    · exact c_1_5
    · exact c_1_6
    · exact c_1_7
    · exact c_1_8
  refine lv_iload_n S.1 S.2.1 dX6_count_121 rfl (lv_at hl 1 rfl) ?_
  refine lv_bipush (v := 20) S.1 S.2.1 dX6_count_122 (by decide) ?_
  refine lv_bipush (v := 24) S.1 S.2.1 dX6_count_124 (by decide) ?_
  refine y_callSI (As := [.int x, .int 20, .int 24]) (rest := []) S hw hl.1 (c_X6_in l D cI cC cL x 20 24) (va_cwS 3 S.2.2.2.2 gX6_count_X6_in rfl rfl rfl (by decide +kernel) ⟨Nat.le_of_ble_eq_true rfl, Nat.le_of_ble_eq_true rfl⟩) [] [0, 1, 2, 3, 4, 5, 6] rfl (by decide +kernel) (wr := [((q 0), .inr (6, [.ref (q 1), .ref (q 2), .ref (q 3), .int (u 3 0), .ref (q 4), .int (u 5 0), .ref (q 5), .int (u 7 0), .int (u 8 0), .int (u 9 0), .int (u 10 0), .int (u 11 0), .ref (q 6)])), ((q 1), .inl (cI, 162, .inl (u 0))), ((q 2), .inl (cI, 162, .inl (u 1))), ((q 3), .inl (cI, 648, .inl (u 2))), ((q 4), .inl (cI, 60, .inl (u 4))), ((q 5), .inl (cI, 3, .inl (u 6))), ((q 6), .inl (cI, 3, .inl (u 12)))]) rfl (by decide +kernel) (by decide +kernel) rfl (Nat.le_of_ble_eq_true rfl) dX6_count_126 rfl ⟨Nat.le_refl _, Nat.le_refl _⟩ (fun H locs v_7 x_8 ev_7 ex_8 hw => ?_)
  have hw : y_W D cI cC cL A s H locs [((q 0), .inr (6, [.ref (q 1), .ref (q 2), .ref (q 3), .int (u 3 0), .ref (q 4), .int (u 5 0), .ref (q 5), .int (u 7 0), .int (u 8 0), .int (u 9 0), .int (u 10 0), .int (u 11 0), .ref (q 6)])), ((q 1), .inl (cI, 162, .inl (u 0))), ((q 2), .inl (cI, 162, .inl (u 1))), ((q 3), .inl (cI, 648, .inl (u 2))), ((q 4), .inl (cI, 60, .inl (u 4))), ((q 5), .inl (cI, 3, .inl (u 6))), ((q 6), .inl (cI, 3, .inl (u 12)))] := hw
  subst ex_8
  refine lv_if_eq (tgt := 146) S.1 S.2.1 dX6_count_129 (by decide) (fun c_9 => ?_) (fun c_9 => ?_)
  · skip
    refine lv_ldc (v := (-2000001)) S.1 S.2.1 S.2.2.2.1 (S.2.2.2.2 _ k_X6_count_69) dX6_count_146 ?_
    exact ret _ _ _ _ _ (by exact hw) (by unfold mCountR; rw [if_neg c_1_0, if_neg c_1_1, if_neg c_1_2, if_neg c_1_3, if_neg c_1_4, if_neg c_1_5, if_neg c_1_6, if_neg c_1_7, if_neg c_1_8]; rw [if_pos c_9]) dX6_count_148
  · skip
    obtain ⟨a, ea, ha1, ha2⟩ := mIn_nat (m := 20) (n := 24) rfl rfl (by omega) (by omega) c_9
    refine lv_aload_n S.1 S.2.1 dX6_count_132 rfl (lv_at hl 0 rfl) ?_
    refine y_get S hw (C := RX6) (T := TX6) (N := 13) i_X6_count_X6 0 rfl rfl 0 (by decide) f_X6_count_7 rfl dX6_count_133 ?_
    refine lv_iconst (v := 5) S.1 S.2.1 dX6_count_136 (by decide) ?_
    refine lv_iload_n S.1 S.2.1 dX6_count_137 rfl (lv_at hl 1 rfl) ?_
    refine y_top (y := (nI a)) (ea) ?_
    refine y_iaddN S 5 a dX6_count_138 ?_
    refine lv_bipush (v := 20) S.1 S.2.1 dX6_count_139 (by decide) ?_
    refine y_isubN S (5 + a) 20 (by omega) dX6_count_141 ?_
    refine y_iald S hw 1 (k := ((5 + a) - 20)) rfl (by omega) (Nat.le_of_ble_eq_true rfl) dX6_count_142 ?_
    refine lv_goto (tgt := 148) S.1 S.2.1 dX6_count_143 (by decide) ?_
    exact ret _ _ _ _ _ (by exact hw) (by unfold mCountR; rw [if_neg c_1_0, if_neg c_1_1, if_neg c_1_2, if_neg c_1_3, if_neg c_1_4, if_neg c_1_5, if_neg c_1_6, if_neg c_1_7, if_neg c_1_8]; rw [if_neg c_9, ea, nI_clamp (by omega)]) dX6_count_148
