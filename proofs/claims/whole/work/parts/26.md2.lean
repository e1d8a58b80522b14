theorem i_X6_laysRow_X6 : ∀ w ∈ u_ws RX6 TX6 13, w ∈ wsX6_laysRow := by decide +kernel
theorem f_X6_laysRow_93 : Cond.fieldLink RX6 93 "ChargeLinesModel" "rowMany" "I" ∈ wsX6_laysRow := by decide +kernel
theorem f_X6_laysRow_22 : Cond.fieldLink RX6 22 "ChargeLinesModel" "row" "[I" ∈ wsX6_laysRow := by decide +kernel
theorem f_X6_laysRow_7 : Cond.fieldLink RX6 7 "ChargeLinesModel" "s" "[I" ∈ wsX6_laysRow := by decide +kernel
set_option maxHeartbeats 4000000 in
set_option maxRecDepth 100000 in
/-- Model.laysRow -/
theorem c_X6_laysRow (l : Launch) (D : va_G) (cI cC cL : ClassId) (q : Nat → Nat) (u : U) : y_MV l yX6_laysRow wsX6_laysRow 1 23 D cI cC cL [.ref (q 0)] (cMd cI q u) (fun v : U => cMd cI q v) (mRowU u) := by
  refine y_startV (cc := cX6_laysRow) (maxL := 3) (by decide) rfl (Nat.le_of_ble_eq_true rfl) ?_
  intro p e s mm args below meth c A QQ ls S hw ret hl
  have S : CallFix p mm c cX6_laysRow 3 s args wsX6_laysRow RX6 := S
  have hw : y_W D cI cC cL A s s.heap [] [((q 0), .inr (6, [.ref (q 1), .ref (q 2), .ref (q 3), .int (u 3 0), .ref (q 4), .int (u 5 0), .ref (q 5), .int (u 7 0), .int (u 8 0), .int (u 9 0), .int (u 10 0), .int (u 11 0), .ref (q 6)])), ((q 1), .inl (cI, 162, .inl (u 0))), ((q 2), .inl (cI, 162, .inl (u 1))), ((q 3), .inl (cI, 648, .inl (u 2))), ((q 4), .inl (cI, 60, .inl (u 4))), ((q 5), .inl (cI, 3, .inl (u 6))), ((q 6), .inl (cI, 3, .inl (u 12)))] := hw
  have hl : lv_has ls 3 [(0, .ref (q 0))] := hl
  refine lv_aload_n S.1 S.2.1 dX6_laysRow_0 rfl (lv_at hl 0 rfl) ?_
  refine lv_iconst (v := 0) S.1 S.2.1 dX6_laysRow_1 (by decide) ?_
  refine y_put S hw (C := RX6) (T := TX6) (N := 13) i_X6_laysRow_X6 tyX6_ok nmX6 0 rfl rfl 7 (by decide) f_X6_laysRow_93 (by decide +kernel) rfl rfl (Nat.le_of_ble_eq_true rfl) dX6_laysRow_2 (ws' := [((q 0), .inr (6, [.ref (q 1), .ref (q 2), .ref (q 3), .int (u 3 0), .ref (q 4), .int (u 5 0), .ref (q 5), .int 0, .int (u 8 0), .int (u 9 0), .int (u 10 0), .int (u 11 0), .ref (q 6)])), ((q 1), .inl (cI, 162, .inl (u 0))), ((q 2), .inl (cI, 162, .inl (u 1))), ((q 3), .inl (cI, 648, .inl (u 2))), ((q 4), .inl (cI, 60, .inl (u 4))), ((q 5), .inl (cI, 3, .inl (u 6))), ((q 6), .inl (cI, 3, .inl (u 12)))]) rfl (fun H locs hw => ?_)
  refine lv_iconst (v := 0) S.1 S.2.1 dX6_laysRow_5 (by decide) ?_
  refine lv_istore_n (lv' := [(1, .int 0), (0, .ref (q 0))]) S.1 S.2.1 dX6_laysRow_6 rfl hl (by decide) rfl (fun ls hl => ?_)
  have lp7 : ∀ (fuel : Nat) (k : Nat) (m : Nat) (g : V1), (k ≤ 3) → ((g, m) = mRow (u 0) (u 6) k) → (3 - k) < fuel → ∀ (H : Heap) (locs : List Loc) (ls : Array Slot), y_W D cI cC cL A s H locs [((q 0), .inr (6, [.ref (q 1), .ref (q 2), .ref (q 3), .int (u 3 0), .ref (q 4), .int (u 5 0), .ref (q 5), .int (nI m), .int (u 8 0), .int (u 9 0), .int (u 10 0), .int (u 11 0), .ref (q 6)])), ((q 1), .inl (cI, 162, .inl (u 0))), ((q 2), .inl (cI, 162, .inl (u 1))), ((q 3), .inl (cI, 648, .inl (u 2))), ((q 4), .inl (cI, 60, .inl (u 4))), ((q 5), .inl (cI, 3, .inl g)), ((q 6), .inl (cI, 3, .inl (u 12)))] → lv_has ls 3 [(0, .ref (q 0)), (1, .int (nI k))] → W p l e (y_R 1 23) s mm args below meth c H locs 0 0 QQ (F0 mm 7 ls []) := by
    intro fuel
    induction fuel with
    | zero =>
      intro k m g hk hv hfu
      exact absurd hfu (Nat.not_lt_zero _)
    | succ fuel ih7 =>
      intro k m g hk hv hfu H locs ls hw hl
      have hro : okRow (u 0) g m k := by have := mRow_ok (u 0) (u 6) k (by omega); rw [← hv] at this; exact this
      have hm3 : m ≤ k := hro.1
      refine lv_iload_n S.1 S.2.1 dX6_laysRow_7 rfl (lv_at hl 1 rfl) ?_
      refine lv_iconst (v := 3) S.1 S.2.1 dX6_laysRow_8 (by decide) ?_
      refine lv_icmp_ge (tgt := 100) S.1 S.2.1 dX6_laysRow_9 (by decide) (fun c_1 => ?_) (fun c_1 => ?_)
      · skip
        have c_1N : 3 ≤ k := (nI_leI (a := 3) (b := k) (by omega) (by omega)).mp c_1
        exact ret _ _ _ _ (by have e3 : k = 3 := (by omega); rw [e3] at hv; unfold mRowU; rw [← hv]; exact hw) dX6_laysRow_100
      · skip
        have c_1N : ¬ 3 ≤ k := fun z => c_1 ((nI_leI (a := 3) (b := k) (by omega) (by omega)).mpr z)
        refine lv_aload_n S.1 S.2.1 dX6_laysRow_12 rfl (lv_at hl 0 rfl) ?_
        refine lv_iload_n S.1 S.2.1 dX6_laysRow_13 rfl (lv_at hl 1 rfl) ?_
        refine y_callI (As := [.int (nI k)]) (rest := []) S hw hl.1 (c_X6_counts l D cI cC cL q (va_up (va_up u 6 g) 7 (fun _ => (nI m))) k (by omega)) (cwV 1 S.2.2.2.2 gX6_laysRow_X6_counts rfl rfl rfl (by decide +kernel) ⟨Nat.le_of_ble_eq_true rfl, Nat.le_of_ble_eq_true rfl⟩) 0 rfl rfl [0, 1, 2, 3, 4, 5, 6] [] rfl (by decide +kernel) (wr := []) rfl (by decide +kernel) (by decide +kernel) rfl (Nat.le_of_ble_eq_true rfl) dX6_laysRow_14 rfl ⟨Nat.le_refl _, Nat.le_refl _⟩ (fun H locs v_2 x_3 ev_2 ex_3 hw => ?_)
        have hw : y_W D cI cC cL A s H locs [((q 0), .inr (6, [.ref (q 1), .ref (q 2), .ref (q 3), .int (u 3 0), .ref (q 4), .int (u 5 0), .ref (q 5), .int (nI m), .int (u 8 0), .int (u 9 0), .int (u 10 0), .int (u 11 0), .ref (q 6)])), ((q 1), .inl (cI, 162, .inl (u 0))), ((q 2), .inl (cI, 162, .inl (u 1))), ((q 3), .inl (cI, 648, .inl (u 2))), ((q 4), .inl (cI, 60, .inl (u 4))), ((q 5), .inl (cI, 3, .inl g)), ((q 6), .inl (cI, 3, .inl (u 12)))] := hw
        subst ex_3
        refine y_top (y := (mSame (u 0) k k)) rfl ?_
        refine lv_if_eq (tgt := 94) S.1 S.2.1 dX6_laysRow_17 (by decide) (fun c_4 => ?_) (fun c_4 => ?_)
        · skip
          refine lv_iinc (v := (nI (k + 1))) (lv' := [(1, .int (nI (k + 1))), (0, .ref (q 0))]) S.1 S.2.1 dX6_laysRow_94 hl (k := 1) rfl (by first | exact nI_1 _ | exact nI_add _ _) (by decide) rfl (fun ls hl => ?_)
          refine lv_goto (tgt := 7) S.1 S.2.1 dX6_laysRow_97 (by decide) ?_
          exact ih7 (k + 1) m g (by omega) (by rw [mRow, ← hv]; simp only [mRowS, c_4, ↓reduceIte]) (by omega) _ _ ls hw (lv_sub hl [1, 0] rfl)
        · skip
          refine lv_aload_n S.1 S.2.1 dX6_laysRow_20 rfl (lv_at hl 0 rfl) ?_
          refine y_get S hw (C := RX6) (T := TX6) (N := 13) i_X6_laysRow_X6 0 rfl rfl 7 (by decide) f_X6_laysRow_93 rfl dX6_laysRow_21 ?_
          refine lv_istore_n (lv' := [(2, .int (nI m)), (0, .ref (q 0)), (1, .int (nI k))]) S.1 S.2.1 dX6_laysRow_24 rfl hl (by decide) rfl (fun ls hl => ?_)
          have lp25 : ∀ (fuel : Nat) (a : Nat) (g2 : V1), (a ≤ m) → (mSift (u 0) k g2 a = mSift (u 0) k g m) → (∀ i, i < a → g2 i = g i) → a < fuel → ∀ (H : Heap) (locs : List Loc) (ls : Array Slot), y_W D cI cC cL A s H locs [((q 0), .inr (6, [.ref (q 1), .ref (q 2), .ref (q 3), .int (u 3 0), .ref (q 4), .int (u 5 0), .ref (q 5), .int (nI m), .int (u 8 0), .int (u 9 0), .int (u 10 0), .int (u 11 0), .ref (q 6)])), ((q 1), .inl (cI, 162, .inl (u 0))), ((q 2), .inl (cI, 162, .inl (u 1))), ((q 3), .inl (cI, 648, .inl (u 2))), ((q 4), .inl (cI, 60, .inl (u 4))), ((q 5), .inl (cI, 3, .inl g2)), ((q 6), .inl (cI, 3, .inl (u 12)))] → lv_has ls 3 [(0, .ref (q 0)), (1, .int (nI k)), (2, .int (nI a))] → W p l e (y_R 1 23) s mm args below meth c H locs 0 0 QQ (F0 mm 25 ls []) := by
            intro fuel
            induction fuel with
            | zero =>
              intro a g2 ha hsift hval hfu
              exact absurd hfu (Nat.not_lt_zero _)
            | succ fuel ih25 =>
              intro a g2 ha hsift hval hfu H locs ls hw hl
              refine lv_iload_n S.1 S.2.1 dX6_laysRow_25 rfl (lv_at hl 2 rfl) ?_
              refine lv_if_le (tgt := 77) S.1 S.2.1 dX6_laysRow_26 (by decide) (fun c_5 => ?_) (fun c_5 => ?_)
              · skip
                have c_5N : a ≤ 0 := (nI_leI (a := a) (b := 0) (by omega) (by omega)).mp c_5
                have hJ : mSift (u 0) k g m = (g2, a) := by rw [← hsift, show a = 0 from by omega]; rfl
                refine lv_aload_n S.1 S.2.1 dX6_laysRow_77 rfl (lv_at hl 0 rfl) ?_
                refine y_get S hw (C := RX6) (T := TX6) (N := 13) i_X6_laysRow_X6 0 rfl rfl 6 (by decide) f_X6_laysRow_22 rfl dX6_laysRow_78 ?_
                refine lv_iload_n S.1 S.2.1 dX6_laysRow_81 rfl (lv_at hl 2 rfl) ?_
                refine lv_iload_n S.1 S.2.1 dX6_laysRow_82 rfl (lv_at hl 1 rfl) ?_
                refine y_iast S hw 5 (k := a) rfl (by omega) (Nat.le_of_ble_eq_true rfl) dX6_laysRow_83 (ws' := [((q 0), .inr (6, [.ref (q 1), .ref (q 2), .ref (q 3), .int (u 3 0), .ref (q 4), .int (u 5 0), .ref (q 5), .int (nI m), .int (u 8 0), .int (u 9 0), .int (u 10 0), .int (u 11 0), .ref (q 6)])), ((q 1), .inl (cI, 162, .inl (u 0))), ((q 2), .inl (cI, 162, .inl (u 1))), ((q 3), .inl (cI, 648, .inl (u 2))), ((q 4), .inl (cI, 60, .inl (u 4))), ((q 5), .inl (cI, 3, .inl (upd g2 a (nI k)))), ((q 6), .inl (cI, 3, .inl (u 12)))]) rfl (fun H locs hw => ?_)
                refine lv_aload_n S.1 S.2.1 dX6_laysRow_84 rfl (lv_at hl 0 rfl) ?_
                refine lv_dup S.1 S.2.1 dX6_laysRow_85 rfl ?_
                refine y_get S hw (C := RX6) (T := TX6) (N := 13) i_X6_laysRow_X6 0 rfl rfl 7 (by decide) f_X6_laysRow_93 rfl dX6_laysRow_86 ?_
                refine lv_iconst (v := 1) S.1 S.2.1 dX6_laysRow_89 (by decide) ?_
                refine y_iaddN S m 1 dX6_laysRow_90 ?_
                refine y_put S hw (C := RX6) (T := TX6) (N := 13) i_X6_laysRow_X6 tyX6_ok nmX6 0 rfl rfl 7 (by decide) f_X6_laysRow_93 (by decide +kernel) rfl rfl (Nat.le_of_ble_eq_true rfl) dX6_laysRow_91 (ws' := [((q 0), .inr (6, [.ref (q 1), .ref (q 2), .ref (q 3), .int (u 3 0), .ref (q 4), .int (u 5 0), .ref (q 5), .int (nI (m + 1)), .int (u 8 0), .int (u 9 0), .int (u 10 0), .int (u 11 0), .ref (q 6)])), ((q 1), .inl (cI, 162, .inl (u 0))), ((q 2), .inl (cI, 162, .inl (u 1))), ((q 3), .inl (cI, 648, .inl (u 2))), ((q 4), .inl (cI, 60, .inl (u 4))), ((q 5), .inl (cI, 3, .inl (upd g2 a (nI k)))), ((q 6), .inl (cI, 3, .inl (u 12)))]) rfl (fun H locs hw => ?_)
                refine lv_iinc (v := (nI (k + 1))) (lv' := [(1, .int (nI (k + 1))), (0, .ref (q 0)), (2, .int (nI a))]) S.1 S.2.1 dX6_laysRow_94 hl (k := 1) rfl (by first | exact nI_1 _ | exact nI_add _ _) (by decide) rfl (fun ls hl => ?_)
                refine lv_goto (tgt := 7) S.1 S.2.1 dX6_laysRow_97 (by decide) ?_
                exact ih7 (k + 1) (m + 1) (upd g2 a (nI k)) (by omega) (by rw [mRow, ← hv]; simp only [mRowS, c_4, ↓reduceIte, hJ]) (by omega) _ _ ls hw (lv_sub hl [1, 0] rfl)
              · skip
                have c_5N : ¬ a ≤ 0 := fun z => c_5 ((nI_leI (a := a) (b := 0) (by omega) (by omega)).mpr z)
                refine lv_aload_n S.1 S.2.1 dX6_laysRow_29 rfl (lv_at hl 0 rfl) ?_
                refine y_get S hw (C := RX6) (T := TX6) (N := 13) i_X6_laysRow_X6 0 rfl rfl 0 (by decide) f_X6_laysRow_7 rfl dX6_laysRow_30 ?_
                refine lv_bipush (v := 40) S.1 S.2.1 dX6_laysRow_33 (by decide) ?_
                refine lv_aload_n S.1 S.2.1 dX6_laysRow_35 rfl (lv_at hl 0 rfl) ?_
                refine y_get S hw (C := RX6) (T := TX6) (N := 13) i_X6_laysRow_X6 0 rfl rfl 6 (by decide) f_X6_laysRow_22 rfl dX6_laysRow_36 ?_
                refine lv_iload_n S.1 S.2.1 dX6_laysRow_39 rfl (lv_at hl 2 rfl) ?_
                refine lv_iconst (v := 1) S.1 S.2.1 dX6_laysRow_40 (by decide) ?_
                refine y_isubN S a 1 (by omega) dX6_laysRow_41 ?_
                refine y_iald S hw 5 (k := (a - 1)) rfl (by omega) (Nat.le_of_ble_eq_true rfl) dX6_laysRow_42 ?_
                obtain ⟨j1, hj1, ej1, hp1⟩ := hro.2.1 (a - 1) (by omega)
                have ej2 : g2 (a - 1) = nI j1 := by rw [hval _ (by omega)]; exact ej1
                refine y_top (y := (nI j1)) (ej2) ?_
                refine y_iaddN S 40 j1 dX6_laysRow_43 ?_
                refine y_iald S hw 1 (k := (40 + j1)) rfl (by omega) (Nat.le_of_ble_eq_true rfl) dX6_laysRow_44 ?_
                refine lv_aload_n S.1 S.2.1 dX6_laysRow_45 rfl (lv_at hl 0 rfl) ?_
                refine y_get S hw (C := RX6) (T := TX6) (N := 13) i_X6_laysRow_X6 0 rfl rfl 0 (by decide) f_X6_laysRow_7 rfl dX6_laysRow_46 ?_
                refine lv_bipush (v := 40) S.1 S.2.1 dX6_laysRow_49 (by decide) ?_
                refine lv_iload_n S.1 S.2.1 dX6_laysRow_51 rfl (lv_at hl 1 rfl) ?_
                refine y_iaddN S 40 k dX6_laysRow_52 ?_
                refine y_iald S hw 1 (k := (40 + k)) rfl (by omega) (Nat.le_of_ble_eq_true rfl) dX6_laysRow_53 ?_
                refine lv_icmp_le (tgt := 77) S.1 S.2.1 dX6_laysRow_54 (by decide) (fun c_6 => ?_) (fun c_6 => ?_)
                · skip
                  have hJ : mSift (u 0) k g m = (g2, a) := by rw [← hsift]; exact mSift_e (by omega) (by rw [ej2, nI_clamp (by omega)]; exact c_6)
                  refine lv_aload_n S.1 S.2.1 dX6_laysRow_77 rfl (lv_at hl 0 rfl) ?_
                  refine y_get S hw (C := RX6) (T := TX6) (N := 13) i_X6_laysRow_X6 0 rfl rfl 6 (by decide) f_X6_laysRow_22 rfl dX6_laysRow_78 ?_
                  refine lv_iload_n S.1 S.2.1 dX6_laysRow_81 rfl (lv_at hl 2 rfl) ?_
                  refine lv_iload_n S.1 S.2.1 dX6_laysRow_82 rfl (lv_at hl 1 rfl) ?_
                  refine y_iast S hw 5 (k := a) rfl (by omega) (Nat.le_of_ble_eq_true rfl) dX6_laysRow_83 (ws' := [((q 0), .inr (6, [.ref (q 1), .ref (q 2), .ref (q 3), .int (u 3 0), .ref (q 4), .int (u 5 0), .ref (q 5), .int (nI m), .int (u 8 0), .int (u 9 0), .int (u 10 0), .int (u 11 0), .ref (q 6)])), ((q 1), .inl (cI, 162, .inl (u 0))), ((q 2), .inl (cI, 162, .inl (u 1))), ((q 3), .inl (cI, 648, .inl (u 2))), ((q 4), .inl (cI, 60, .inl (u 4))), ((q 5), .inl (cI, 3, .inl (upd g2 a (nI k)))), ((q 6), .inl (cI, 3, .inl (u 12)))]) rfl (fun H locs hw => ?_)
                  refine lv_aload_n S.1 S.2.1 dX6_laysRow_84 rfl (lv_at hl 0 rfl) ?_
                  refine lv_dup S.1 S.2.1 dX6_laysRow_85 rfl ?_
                  refine y_get S hw (C := RX6) (T := TX6) (N := 13) i_X6_laysRow_X6 0 rfl rfl 7 (by decide) f_X6_laysRow_93 rfl dX6_laysRow_86 ?_
                  refine lv_iconst (v := 1) S.1 S.2.1 dX6_laysRow_89 (by decide) ?_
                  refine y_iaddN S m 1 dX6_laysRow_90 ?_
                  refine y_put S hw (C := RX6) (T := TX6) (N := 13) i_X6_laysRow_X6 tyX6_ok nmX6 0 rfl rfl 7 (by decide) f_X6_laysRow_93 (by decide +kernel) rfl rfl (Nat.le_of_ble_eq_true rfl) dX6_laysRow_91 (ws' := [((q 0), .inr (6, [.ref (q 1), .ref (q 2), .ref (q 3), .int (u 3 0), .ref (q 4), .int (u 5 0), .ref (q 5), .int (nI (m + 1)), .int (u 8 0), .int (u 9 0), .int (u 10 0), .int (u 11 0), .ref (q 6)])), ((q 1), .inl (cI, 162, .inl (u 0))), ((q 2), .inl (cI, 162, .inl (u 1))), ((q 3), .inl (cI, 648, .inl (u 2))), ((q 4), .inl (cI, 60, .inl (u 4))), ((q 5), .inl (cI, 3, .inl (upd g2 a (nI k)))), ((q 6), .inl (cI, 3, .inl (u 12)))]) rfl (fun H locs hw => ?_)
                  refine lv_iinc (v := (nI (k + 1))) (lv' := [(1, .int (nI (k + 1))), (0, .ref (q 0)), (2, .int (nI a))]) S.1 S.2.1 dX6_laysRow_94 hl (k := 1) rfl (by first | exact nI_1 _ | exact nI_add _ _) (by decide) rfl (fun ls hl => ?_)
                  refine lv_goto (tgt := 7) S.1 S.2.1 dX6_laysRow_97 (by decide) ?_
                  exact ih7 (k + 1) (m + 1) (upd g2 a (nI k)) (by omega) (by rw [mRow, ← hv]; simp only [mRowS, c_4, ↓reduceIte, hJ]) (by omega) _ _ ls hw (lv_sub hl [1, 0] rfl)
                · skip
                  have hstep := mSift_s (f := u 0) (k := k) (a := a) (g := g2) (by omega) (by rw [ej2, nI_clamp (by omega)]; exact c_6)
                  refine lv_aload_n S.1 S.2.1 dX6_laysRow_57 rfl (lv_at hl 0 rfl) ?_
                  refine y_get S hw (C := RX6) (T := TX6) (N := 13) i_X6_laysRow_X6 0 rfl rfl 6 (by decide) f_X6_laysRow_22 rfl dX6_laysRow_58 ?_
                  refine lv_iload_n S.1 S.2.1 dX6_laysRow_61 rfl (lv_at hl 2 rfl) ?_
                  refine lv_aload_n S.1 S.2.1 dX6_laysRow_62 rfl (lv_at hl 0 rfl) ?_
                  refine y_get S hw (C := RX6) (T := TX6) (N := 13) i_X6_laysRow_X6 0 rfl rfl 6 (by decide) f_X6_laysRow_22 rfl dX6_laysRow_63 ?_
                  refine lv_iload_n S.1 S.2.1 dX6_laysRow_66 rfl (lv_at hl 2 rfl) ?_
                  refine lv_iconst (v := 1) S.1 S.2.1 dX6_laysRow_67 (by decide) ?_
                  refine y_isubN S a 1 (by omega) dX6_laysRow_68 ?_
                  refine y_iald S hw 5 (k := (a - 1)) rfl (by omega) (Nat.le_of_ble_eq_true rfl) dX6_laysRow_69 ?_
                  refine y_iast S hw 5 (k := a) rfl (by omega) (Nat.le_of_ble_eq_true rfl) dX6_laysRow_70 (ws' := [((q 0), .inr (6, [.ref (q 1), .ref (q 2), .ref (q 3), .int (u 3 0), .ref (q 4), .int (u 5 0), .ref (q 5), .int (nI m), .int (u 8 0), .int (u 9 0), .int (u 10 0), .int (u 11 0), .ref (q 6)])), ((q 1), .inl (cI, 162, .inl (u 0))), ((q 2), .inl (cI, 162, .inl (u 1))), ((q 3), .inl (cI, 648, .inl (u 2))), ((q 4), .inl (cI, 60, .inl (u 4))), ((q 5), .inl (cI, 3, .inl (upd g2 a (g2 (a - 1))))), ((q 6), .inl (cI, 3, .inl (u 12)))]) rfl (fun H locs hw => ?_)
                  refine lv_iinc (v := (nI (a - 1))) (lv' := [(2, .int (nI (a - 1))), (0, .ref (q 0)), (1, .int (nI k))]) S.1 S.2.1 dX6_laysRow_71 hl (k := 2) rfl (sb_m1 (by omega)) (by decide) rfl (fun ls hl => ?_)
                  refine lv_goto (tgt := 25) S.1 S.2.1 dX6_laysRow_74 (by decide) ?_
                  exact ih25 (a - 1) (upd g2 a (g2 (a - 1))) (by omega) (by rw [← hsift, hstep, ej2]) (fun i hi => by rw [pk_un (by omega)]; exact hval i (by omega)) (by omega) _ _ ls hw (lv_sub hl [1, 2, 0] rfl)
          exact lp25 (m + 1) m g (Nat.le_refl _) (rfl) (fun _ _ => rfl) (Nat.lt_succ_self _) _ _ ls hw (lv_sub hl [1, 2, 0] rfl)
  exact lp7 ((3 - 0) + 1) 0 0 (u 6) (Nat.zero_le _) (rfl) (Nat.lt_succ_self _) _ _ ls hw (lv_sub hl [1, 0] rfl)

theorem i_X6_mends_X6 : ∀ w ∈ u_ws RX6 TX6 13, w ∈ wsX6_mends := by decide +kernel
theorem f_X6_mends_93 : Cond.fieldLink RX6 93 "ChargeLinesModel" "rowMany" "I" ∈ wsX6_mends := by decide +kernel
theorem f_X6_mends_22 : Cond.fieldLink RX6 22 "ChargeLinesModel" "row" "[I" ∈ wsX6_mends := by decide +kernel
theorem f_X6_mends_7 : Cond.fieldLink RX6 7 "ChargeLinesModel" "s" "[I" ∈ wsX6_mends := by decide +kernel
theorem k_X6_mends_114 : Cond.constantLong RX6 114 (1000000) ∈ wsX6_mends := by decide +kernel
theorem k_X6_mends_116 : Cond.constant RX6 116 (1000000) ∈ wsX6_mends := by decide +kernel
set_option maxHeartbeats 4000000 in
set_option maxRecDepth 100000 in
/-- Model.mends -/
theorem c_X6_mends (l : Launch) (D : va_G) (cI cC cL : ClassId) (q : Nat → Nat) (u : U) (o : Int32) : y_MI l yX6_mends wsX6_mends 2 54 D cI cC cL [.ref (q 0), .int o] (cMd cI q u) (mMend u o) (fun v : U => cMd cI q v) (mRowU u) := by
  refine y_startI (cc := cX6_mends) (maxL := 6) (ret := some .int) (by decide +kernel) rfl (Nat.le_of_ble_eq_true rfl) ⟨_, rfl, fun x _ => rfl⟩ (fun h => by cases h) ?_
  intro p e s mm args below meth c A QQ ls S hw ret hl
  have S : CallFix p mm c cX6_mends 6 s args wsX6_mends RX6 := S
  have hw : y_W D cI cC cL A s s.heap [] [((q 0), .inr (6, [.ref (q 1), .ref (q 2), .ref (q 3), .int (u 3 0), .ref (q 4), .int (u 5 0), .ref (q 5), .int (u 7 0), .int (u 8 0), .int (u 9 0), .int (u 10 0), .int (u 11 0), .ref (q 6)])), ((q 1), .inl (cI, 162, .inl (u 0))), ((q 2), .inl (cI, 162, .inl (u 1))), ((q 3), .inl (cI, 648, .inl (u 2))), ((q 4), .inl (cI, 60, .inl (u 4))), ((q 5), .inl (cI, 3, .inl (u 6))), ((q 6), .inl (cI, 3, .inl (u 12)))] := hw
  have hl : lv_has ls 6 [(0, .ref (q 0)), (1, .int o)] := hl
  refine lv_aload_n S.1 S.2.1 dX6_mends_0 rfl (lv_at hl 0 rfl) ?_
  refine y_callV (As := []) (rest := []) S hw hl.1 (c_X6_laysRow l D cI cC cL q u) (cwV 0 S.2.2.2.2 gX6_mends_X6_laysRow rfl rfl rfl (by decide +kernel) ⟨Nat.le_of_ble_eq_true rfl, Nat.le_of_ble_eq_true rfl⟩) 0 rfl rfl [0, 1, 2, 3, 4, 5, 6] [] rfl (by decide +kernel) (wr := []) rfl (by decide +kernel) (by decide +kernel) rfl (Nat.le_of_ble_eq_true rfl) dX6_mends_1 rfl ⟨Nat.le_refl _, Nat.le_refl _⟩ (fun H locs v_1 ev_1 hw => ?_)
  obtain ⟨g, eg⟩ : ∃ g, g = (mRow (u 0) (u 6) 3).1 := ⟨_, rfl⟩
  obtain ⟨k, ek⟩ : ∃ k, k = (mRow (u 0) (u 6) 3).2 := ⟨_, rfl⟩
  have hro : okRow (u 0) g k 3 := by rw [eg, ek]; exact mRow_ok (u 0) (u 6) 3 (by omega)
  have hk3 : k ≤ 3 := hro.1
  have hw : y_W D cI cC cL A s H locs [((q 0), .inr (6, [.ref (q 1), .ref (q 2), .ref (q 3), .int (u 3 0), .ref (q 4), .int (u 5 0), .ref (q 5), .int (nI k), .int (u 8 0), .int (u 9 0), .int (u 10 0), .int (u 11 0), .ref (q 6)])), ((q 1), .inl (cI, 162, .inl (u 0))), ((q 2), .inl (cI, 162, .inl (u 1))), ((q 3), .inl (cI, 648, .inl (u 2))), ((q 4), .inl (cI, 60, .inl (u 4))), ((q 5), .inl (cI, 3, .inl g)), ((q 6), .inl (cI, 3, .inl (u 12)))] := by subst eg; subst ek; subst ev_1; exact hw
  refine lv_aload_n S.1 S.2.1 dX6_mends_4 rfl (lv_at hl 0 rfl) ?_
  refine y_get S hw (C := RX6) (T := TX6) (N := 13) i_X6_mends_X6 0 rfl rfl 7 (by decide) f_X6_mends_93 rfl dX6_mends_5 ?_
  refine lv_if_ne (tgt := 13) S.1 S.2.1 dX6_mends_8 (by decide) (fun c_3 => ?_) (fun c_3 => ?_)
  · skip
    have c_3N : ¬ k = 0 := fun z => c_3 ((nI_eq (a := k) (b := 0) (by omega) (by omega)).mpr z)
    refine lv_aload_n S.1 S.2.1 dX6_mends_13 rfl (lv_at hl 0 rfl) ?_
    refine y_get S hw (C := RX6) (T := TX6) (N := 13) i_X6_mends_X6 0 rfl rfl 6 (by decide) f_X6_mends_22 rfl dX6_mends_14 ?_
    refine lv_aload_n S.1 S.2.1 dX6_mends_17 rfl (lv_at hl 0 rfl) ?_
    refine y_get S hw (C := RX6) (T := TX6) (N := 13) i_X6_mends_X6 0 rfl rfl 7 (by decide) f_X6_mends_93 rfl dX6_mends_18 ?_
    refine lv_iconst (v := 1) S.1 S.2.1 dX6_mends_21 (by decide) ?_
    refine y_isubN S k 1 (by omega) dX6_mends_22 ?_
    refine y_iald S hw 5 (k := (k - 1)) rfl (by omega) (Nat.le_of_ble_eq_true rfl) dX6_mends_23 ?_
    obtain ⟨jl, hjl, ejl, pjl⟩ := hro.2.1 (k - 1) (by omega)
    refine y_top (y := (nI jl)) (ejl) ?_
    refine lv_istore_n (lv' := [(2, .int (nI jl)), (0, .ref (q 0)), (1, .int o)]) S.1 S.2.1 dX6_mends_24 rfl hl (by decide) rfl (fun ls hl => ?_)
    refine lv_iload_n S.1 S.2.1 dX6_mends_25 rfl (lv_at hl 2 rfl) ?_
    refine lv_aload_n S.1 S.2.1 dX6_mends_26 rfl (lv_at hl 1 rfl) ?_
    refine y_get S hw (C := RX6) (T := TX6) (N := 13) i_X6_mends_X6 0 rfl rfl 0 (by decide) f_X6_mends_7 rfl dX6_mends_27 ?_
    refine lv_bipush (v := 40) S.1 S.2.1 dX6_mends_30 (by decide) ?_
    refine lv_aload_n S.1 S.2.1 dX6_mends_32 rfl (lv_at hl 1 rfl) ?_
    refine y_get S hw (C := RX6) (T := TX6) (N := 13) i_X6_mends_X6 0 rfl rfl 6 (by decide) f_X6_mends_22 rfl dX6_mends_33 ?_
    refine lv_iconst (v := 0) S.1 S.2.1 dX6_mends_36 (by decide) ?_
    refine y_iald S hw 5 (k := 0) rfl (by omega) (Nat.le_of_ble_eq_true rfl) dX6_mends_37 ?_
    obtain ⟨j0, hj0, ej0, pj0⟩ := hro.2.1 0 (by omega)
    refine y_top (y := (nI j0)) (ej0) ?_
    refine y_iaddN S 40 j0 dX6_mends_38 ?_
    refine y_iald S hw 1 (k := (40 + j0)) rfl (by omega) (Nat.le_of_ble_eq_true rfl) dX6_mends_39 ?_
    refine lv_icmp_lt (tgt := 51) S.1 S.2.1 dX6_mends_40 (by decide) (fun c_4 => ?_) (fun c_4 => ?_)
    · skip
      refine lv_aload_n S.1 S.2.1 dX6_mends_51 rfl (lv_at hl 1 rfl) ?_
      refine lv_aload_n S.1 S.2.1 dX6_mends_52 rfl (lv_at hl 1 rfl) ?_
      refine y_get S hw (C := RX6) (T := TX6) (N := 13) i_X6_mends_X6 0 rfl rfl 6 (by decide) f_X6_mends_22 rfl dX6_mends_53 ?_
      refine lv_iconst (v := 0) S.1 S.2.1 dX6_mends_56 (by decide) ?_
      refine y_iald S hw 5 (k := 0) rfl (by omega) (Nat.le_of_ble_eq_true rfl) dX6_mends_57 ?_
      refine y_top (y := (nI j0)) (ej0) ?_
      refine lv_iload_n S.1 S.2.1 dX6_mends_58 rfl (lv_at hl 2 rfl) ?_
      refine y_callL (As := [.int (nI j0), .int o]) (rest := []) S hw hl.1 (c_X6_alone l D cI cC cL q (va_up (va_up u 6 g) 7 (fun _ => (nI k))) j0 o (by omega) (y_nz pj0)) (cwV 2 S.2.2.2.2 gX6_mends_X6_alone rfl rfl rfl (by decide +kernel) ⟨Nat.le_of_ble_eq_true rfl, Nat.le_of_ble_eq_true rfl⟩) 0 rfl rfl [0, 1, 2, 3, 4, 5, 6] [] rfl (by decide +kernel) (wr := []) rfl (by decide +kernel) (by decide +kernel) rfl (Nat.le_of_ble_eq_true rfl) dX6_mends_59 rfl ⟨Nat.le_refl _, Nat.le_refl _⟩ (fun H locs v_5 x_6 ev_5 ex_6 hw => ?_)
      have hw : y_W D cI cC cL A s H locs [((q 0), .inr (6, [.ref (q 1), .ref (q 2), .ref (q 3), .int (u 3 0), .ref (q 4), .int (u 5 0), .ref (q 5), .int (nI k), .int (u 8 0), .int (u 9 0), .int (u 10 0), .int (u 11 0), .ref (q 6)])), ((q 1), .inl (cI, 162, .inl (u 0))), ((q 2), .inl (cI, 162, .inl (u 1))), ((q 3), .inl (cI, 648, .inl (u 2))), ((q 4), .inl (cI, 60, .inl (u 4))), ((q 5), .inl (cI, 3, .inl g)), ((q 6), .inl (cI, 3, .inl (u 12)))] := hw
      subst ex_6
      refine lv_lstore_n (lv' := [(3, .long (mAlone (u 0) j0 o)), (2, .int (nI jl)), (0, .ref (q 0)), (1, .int o)]) S.1 S.2.1 dX6_mends_62 rfl hl (by decide) rfl (fun ls hl => ?_)
      refine lv_goto (tgt := 139) S.1 S.2.1 dX6_mends_63 (by decide) ?_
      refine lv_lload_n S.1 S.2.1 dX6_mends_139 rfl (lv_at hl 0 rfl) ?_
      refine lv_ldc2 (v := 1000000) S.1 S.2.1 S.2.2.2.1 (S.2.2.2.2 _ k_X6_mends_114) dX6_mends_140 ?_
      refine W.lcmp S.1 S.2.1 dX6_mends_143 ?_
      refine lv_if_le (tgt := 152) S.1 S.2.1 dX6_mends_144 (by decide) (fun c_7 => ?_) (fun c_7 => ?_)
      · skip
        refine lv_lload_n S.1 S.2.1 dX6_mends_152 rfl (lv_at hl 0 rfl) ?_
        refine lv_l2i (v := (mAlone (u 0) j0 o).toInt32) S.1 S.2.1 dX6_mends_153 rfl ?_
        exact ret _ _ _ _ _ (by unfold mRowU; rw [← eg, ← ek]; exact hw) (by rw [mMend, ← eg, ← ek]; simp only [mMendR, mCut, Nat.one_ne_zero, c_3, c_4, c_7, c_3N, ej0, ejl, nI_clamp (show j0 < 2 ^ 31 by omega), nI_clamp (show jl < 2 ^ 31 by omega), ↓reduceIte]) dX6_mends_154
      · skip
        refine lv_ldc (v := 1000000) S.1 S.2.1 S.2.2.2.1 (S.2.2.2.2 _ k_X6_mends_116) dX6_mends_147 ?_
        refine lv_goto (tgt := 154) S.1 S.2.1 dX6_mends_149 (by decide) ?_
        exact ret _ _ _ _ _ (by unfold mRowU; rw [← eg, ← ek]; exact hw) (by rw [mMend, ← eg, ← ek]; simp only [mMendR, mCut, Nat.one_ne_zero, c_3, c_4, c_7, c_3N, ej0, ejl, nI_clamp (show j0 < 2 ^ 31 by omega), nI_clamp (show jl < 2 ^ 31 by omega), ↓reduceIte]) dX6_mends_154
    · skip
      refine lv_aload_n S.1 S.2.1 dX6_mends_43 rfl (lv_at hl 1 rfl) ?_
      refine y_get S hw (C := RX6) (T := TX6) (N := 13) i_X6_mends_X6 0 rfl rfl 7 (by decide) f_X6_mends_93 rfl dX6_mends_44 ?_
      refine lv_iconst (v := 1) S.1 S.2.1 dX6_mends_47 (by decide) ?_
      refine lv_icmp_ne (tgt := 66) S.1 S.2.1 dX6_mends_48 (by decide) (fun c_8 => ?_) (fun c_8 => ?_)
      · skip
        have c_8N : ¬ k = 1 := fun z => c_8 ((nI_eq (a := k) (b := 1) (by omega) (by omega)).mpr z)
        refine lv_iload_n S.1 S.2.1 dX6_mends_66 rfl (lv_at hl 2 rfl) ?_
        refine lv_aload_n S.1 S.2.1 dX6_mends_67 rfl (lv_at hl 1 rfl) ?_
        refine y_get S hw (C := RX6) (T := TX6) (N := 13) i_X6_mends_X6 0 rfl rfl 0 (by decide) f_X6_mends_7 rfl dX6_mends_68 ?_
        refine lv_bipush (v := 40) S.1 S.2.1 dX6_mends_71 (by decide) ?_
        refine lv_iload_n S.1 S.2.1 dX6_mends_73 rfl (lv_at hl 0 rfl) ?_
        refine y_iaddN S 40 jl dX6_mends_74 ?_
        refine y_iald S hw 1 (k := (40 + jl)) rfl (by omega) (Nat.le_of_ble_eq_true rfl) dX6_mends_75 ?_
        refine lv_icmp_le (tgt := 89) S.1 S.2.1 dX6_mends_76 (by decide) (fun c_9 => ?_) (fun c_9 => ?_)
        · skip
          refine lv_iconst (v := 1) S.1 S.2.1 dX6_mends_89 (by decide) ?_
          refine lv_istore (lv' := [(5, .int 1), (2, .int (nI jl)), (0, .ref (q 0)), (1, .int o)]) S.1 S.2.1 dX6_mends_90 hl (by decide) rfl (fun ls hl => ?_)
          have lp92 : ∀ (fuel : Nat) (i : Nat), (1 ≤ i) → (i < k) → (mFind (u 0) g o (4 - i) i = mFind (u 0) g o 3 1) → (k - i) < fuel → ∀ (H : Heap) (locs : List Loc) (ls : Array Slot), y_W D cI cC cL A s H locs [((q 0), .inr (6, [.ref (q 1), .ref (q 2), .ref (q 3), .int (u 3 0), .ref (q 4), .int (u 5 0), .ref (q 5), .int (nI k), .int (u 8 0), .int (u 9 0), .int (u 10 0), .int (u 11 0), .ref (q 6)])), ((q 1), .inl (cI, 162, .inl (u 0))), ((q 2), .inl (cI, 162, .inl (u 1))), ((q 3), .inl (cI, 648, .inl (u 2))), ((q 4), .inl (cI, 60, .inl (u 4))), ((q 5), .inl (cI, 3, .inl g)), ((q 6), .inl (cI, 3, .inl (u 12)))] → lv_has ls 6 [(0, .ref (q 0)), (1, .int o), (2, .int (nI jl)), (5, .int (nI i))] → W p l e (y_R 2 54) s mm args below meth c H locs 0 0 QQ (F0 mm 92 ls []) := by
            intro fuel
            induction fuel with
            | zero =>
              intro i hi1 hik hf hfu
              exact absurd hfu (Nat.not_lt_zero _)
            | succ fuel ih92 =>
              intro i hi1 hik hf hfu H locs ls hw hl
              refine lv_iload_n S.1 S.2.1 dX6_mends_92 rfl (lv_at hl 1 rfl) ?_
              refine lv_aload_n S.1 S.2.1 dX6_mends_93 rfl (lv_at hl 0 rfl) ?_
              refine y_get S hw (C := RX6) (T := TX6) (N := 13) i_X6_mends_X6 0 rfl rfl 0 (by decide) f_X6_mends_7 rfl dX6_mends_94 ?_
              refine lv_bipush (v := 40) S.1 S.2.1 dX6_mends_97 (by decide) ?_
              refine lv_aload_n S.1 S.2.1 dX6_mends_99 rfl (lv_at hl 0 rfl) ?_
              refine y_get S hw (C := RX6) (T := TX6) (N := 13) i_X6_mends_X6 0 rfl rfl 6 (by decide) f_X6_mends_22 rfl dX6_mends_100 ?_
              refine lv_iload S.1 S.2.1 dX6_mends_103 (lv_at hl 3 rfl) ?_
              refine y_iald S hw 5 (k := i) rfl (by omega) (Nat.le_of_ble_eq_true rfl) dX6_mends_105 ?_
              obtain ⟨jb, hjb, ejb, pjb⟩ := hro.2.1 i (by omega)
              refine y_top (y := (nI jb)) (ejb) ?_
              refine y_iaddN S 40 jb dX6_mends_106 ?_
              refine y_iald S hw 1 (k := (40 + jb)) rfl (by omega) (Nat.le_of_ble_eq_true rfl) dX6_mends_107 ?_
              refine lv_icmp_le (tgt := 117) S.1 S.2.1 dX6_mends_108 (by decide) (fun c_10 => ?_) (fun c_10 => ?_)
              · skip
                have hJ : mFind (u 0) g o 3 1 = i := by rw [← hf, show 4 - i = (3 - i) + 1 from by omega, mFind, ejb, nI_clamp (by omega), if_pos c_10]
                refine lv_aload_n S.1 S.2.1 dX6_mends_117 rfl (lv_at hl 0 rfl) ?_
                refine lv_aload_n S.1 S.2.1 dX6_mends_118 rfl (lv_at hl 0 rfl) ?_
                refine y_get S hw (C := RX6) (T := TX6) (N := 13) i_X6_mends_X6 0 rfl rfl 6 (by decide) f_X6_mends_22 rfl dX6_mends_119 ?_
                refine lv_iload S.1 S.2.1 dX6_mends_122 (lv_at hl 3 rfl) ?_
                refine lv_iconst (v := 1) S.1 S.2.1 dX6_mends_124 (by decide) ?_
                refine y_isubN S i 1 (by omega) dX6_mends_125 ?_
                refine y_iald S hw 5 (k := (i - 1)) rfl (by omega) (Nat.le_of_ble_eq_true rfl) dX6_mends_126 ?_
                obtain ⟨ja, hja, eja, pja⟩ := hro.2.1 (i - 1) (by omega)
                refine y_top (y := (nI ja)) (eja) ?_
                refine lv_aload_n S.1 S.2.1 dX6_mends_127 rfl (lv_at hl 0 rfl) ?_
                refine y_get S hw (C := RX6) (T := TX6) (N := 13) i_X6_mends_X6 0 rfl rfl 6 (by decide) f_X6_mends_22 rfl dX6_mends_128 ?_
                refine lv_iload S.1 S.2.1 dX6_mends_131 (lv_at hl 3 rfl) ?_
                refine y_iald S hw 5 (k := i) rfl (by omega) (Nat.le_of_ble_eq_true rfl) dX6_mends_133 ?_
                refine y_top (y := (nI jb)) (ejb) ?_
                refine lv_iload_n S.1 S.2.1 dX6_mends_134 rfl (lv_at hl 1 rfl) ?_
                refine y_callL (As := [.int (nI ja), .int (nI jb), .int o]) (rest := []) S hw hl.1 (c_X6_between l D cI cC cL q (va_up (va_up u 6 g) 7 (fun _ => (nI k))) ja jb o (by omega) (by omega) (by have h9 := hro.2.2 (i - 1) i (by omega) hik; rw [eja, ejb, nI_clamp (by omega), nI_clamp (by omega)] at h9; exact y_s64 h9)) (cwV 3 S.2.2.2.2 gX6_mends_X6_between rfl rfl rfl (by decide +kernel) ⟨Nat.le_of_ble_eq_true rfl, Nat.le_of_ble_eq_true rfl⟩) 0 rfl rfl [0, 1, 2, 3, 4, 5, 6] [] rfl (by decide +kernel) (wr := []) rfl (by decide +kernel) (by decide +kernel) rfl (Nat.le_of_ble_eq_true rfl) dX6_mends_135 rfl ⟨Nat.le_refl _, Nat.le_refl _⟩ (fun H locs v_11 x_12 ev_11 ex_12 hw => ?_)
                have hw : y_W D cI cC cL A s H locs [((q 0), .inr (6, [.ref (q 1), .ref (q 2), .ref (q 3), .int (u 3 0), .ref (q 4), .int (u 5 0), .ref (q 5), .int (nI k), .int (u 8 0), .int (u 9 0), .int (u 10 0), .int (u 11 0), .ref (q 6)])), ((q 1), .inl (cI, 162, .inl (u 0))), ((q 2), .inl (cI, 162, .inl (u 1))), ((q 3), .inl (cI, 648, .inl (u 2))), ((q 4), .inl (cI, 60, .inl (u 4))), ((q 5), .inl (cI, 3, .inl g)), ((q 6), .inl (cI, 3, .inl (u 12)))] := hw
                subst ex_12
                refine lv_lstore_n (lv' := [(3, .long (mBetw (u 0) ja jb o)), (0, .ref (q 0)), (1, .int o), (2, .int (nI jl)), (5, .int (nI i))]) S.1 S.2.1 dX6_mends_138 rfl hl (by decide) rfl (fun ls hl => ?_)
                refine lv_lload_n S.1 S.2.1 dX6_mends_139 rfl (lv_at hl 0 rfl) ?_
                refine lv_ldc2 (v := 1000000) S.1 S.2.1 S.2.2.2.1 (S.2.2.2.2 _ k_X6_mends_114) dX6_mends_140 ?_
                refine W.lcmp S.1 S.2.1 dX6_mends_143 ?_
                refine lv_if_le (tgt := 152) S.1 S.2.1 dX6_mends_144 (by decide) (fun c_13 => ?_) (fun c_13 => ?_)
                · skip
                  refine lv_lload_n S.1 S.2.1 dX6_mends_152 rfl (lv_at hl 0 rfl) ?_
                  refine lv_l2i (v := (mBetw (u 0) ja jb o).toInt32) S.1 S.2.1 dX6_mends_153 rfl ?_
                  exact ret _ _ _ _ _ (by unfold mRowU; rw [← eg, ← ek]; exact hw) (by rw [mMend, ← eg, ← ek]; simp only [mMendR, mCut, Nat.one_ne_zero, c_3, c_4, c_8, c_9, c_10, c_13, c_3N, c_8N, ej0, ejl, eja, ejb, nI_clamp (show j0 < 2 ^ 31 by omega), nI_clamp (show jl < 2 ^ 31 by omega), nI_clamp (show ja < 2 ^ 31 by omega), nI_clamp (show jb < 2 ^ 31 by omega), hJ, ↓reduceIte]) dX6_mends_154
                · skip
                  refine lv_ldc (v := 1000000) S.1 S.2.1 S.2.2.2.1 (S.2.2.2.2 _ k_X6_mends_116) dX6_mends_147 ?_
                  refine lv_goto (tgt := 154) S.1 S.2.1 dX6_mends_149 (by decide) ?_
                  exact ret _ _ _ _ _ (by unfold mRowU; rw [← eg, ← ek]; exact hw) (by rw [mMend, ← eg, ← ek]; simp only [mMendR, mCut, Nat.one_ne_zero, c_3, c_4, c_8, c_9, c_10, c_13, c_3N, c_8N, ej0, ejl, eja, ejb, nI_clamp (show j0 < 2 ^ 31 by omega), nI_clamp (show jl < 2 ^ 31 by omega), nI_clamp (show ja < 2 ^ 31 by omega), nI_clamp (show jb < 2 ^ 31 by omega), hJ, ↓reduceIte]) dX6_mends_154
              · skip
                refine lv_iinc (v := (nI (i + 1))) (lv' := [(5, .int (nI (i + 1))), (0, .ref (q 0)), (1, .int o), (2, .int (nI jl))]) S.1 S.2.1 dX6_mends_111 hl (k := 3) rfl (by first | exact nI_1 _ | exact nI_add _ _) (by decide) rfl (fun ls hl => ?_)
                refine lv_goto (tgt := 92) S.1 S.2.1 dX6_mends_114 (by decide) ?_
                exact ih92 (i + 1) (by omega) (by
                    rcases Nat.lt_or_ge (i + 1) k with q | q
                    · exact q
                    · exact absurd (show o ≤ u 0 (40 + jb) from by rw [show jb = jl from by have := ejb; rw [show i = k - 1 from by omega, ejl] at this; exact ((nI_eq (by omega) (by omega)).mp this).symm]; exact c_9) c_10) (by
                    rw [← hf, show 4 - i = (4 - (i + 1)) + 1 from by omega]
                    conv => rhs; rw [mFind, ejb, nI_clamp (show jb < 2 ^ 31 by omega), if_neg c_10]) (by omega) _ _ ls hw (lv_sub hl [1, 2, 3, 0] rfl)
          exact lp92 ((k - 1) + 1) 1 (Nat.le_refl _) (by omega) (rfl) (Nat.lt_succ_self _) _ _ ls hw (lv_sub hl [2, 3, 1, 0] rfl)
        · skip
          refine lv_aload_n S.1 S.2.1 dX6_mends_79 rfl (lv_at hl 1 rfl) ?_
          refine lv_iload_n S.1 S.2.1 dX6_mends_80 rfl (lv_at hl 0 rfl) ?_
          refine lv_iload_n S.1 S.2.1 dX6_mends_81 rfl (lv_at hl 2 rfl) ?_
          refine y_callL (As := [.int (nI jl), .int o]) (rest := []) S hw hl.1 (c_X6_alone l D cI cC cL q (va_up (va_up u 6 g) 7 (fun _ => (nI k))) jl o (by omega) (y_nz pjl)) (cwV 2 S.2.2.2.2 gX6_mends_X6_alone rfl rfl rfl (by decide +kernel) ⟨Nat.le_of_ble_eq_true rfl, Nat.le_of_ble_eq_true rfl⟩) 0 rfl rfl [0, 1, 2, 3, 4, 5, 6] [] rfl (by decide +kernel) (wr := []) rfl (by decide +kernel) (by decide +kernel) rfl (Nat.le_of_ble_eq_true rfl) dX6_mends_82 rfl ⟨Nat.le_refl _, Nat.le_refl _⟩ (fun H locs v_14 x_15 ev_14 ex_15 hw => ?_)
          have hw : y_W D cI cC cL A s H locs [((q 0), .inr (6, [.ref (q 1), .ref (q 2), .ref (q 3), .int (u 3 0), .ref (q 4), .int (u 5 0), .ref (q 5), .int (nI k), .int (u 8 0), .int (u 9 0), .int (u 10 0), .int (u 11 0), .ref (q 6)])), ((q 1), .inl (cI, 162, .inl (u 0))), ((q 2), .inl (cI, 162, .inl (u 1))), ((q 3), .inl (cI, 648, .inl (u 2))), ((q 4), .inl (cI, 60, .inl (u 4))), ((q 5), .inl (cI, 3, .inl g)), ((q 6), .inl (cI, 3, .inl (u 12)))] := hw
          subst ex_15
          refine lv_lstore_n (lv' := [(3, .long (mAlone (u 0) jl o)), (2, .int (nI jl)), (0, .ref (q 0)), (1, .int o)]) S.1 S.2.1 dX6_mends_85 rfl hl (by decide) rfl (fun ls hl => ?_)
          refine lv_goto (tgt := 139) S.1 S.2.1 dX6_mends_86 (by decide) ?_
          refine lv_lload_n S.1 S.2.1 dX6_mends_139 rfl (lv_at hl 0 rfl) ?_
          refine lv_ldc2 (v := 1000000) S.1 S.2.1 S.2.2.2.1 (S.2.2.2.2 _ k_X6_mends_114) dX6_mends_140 ?_
          refine W.lcmp S.1 S.2.1 dX6_mends_143 ?_
          refine lv_if_le (tgt := 152) S.1 S.2.1 dX6_mends_144 (by decide) (fun c_16 => ?_) (fun c_16 => ?_)
          · skip
            refine lv_lload_n S.1 S.2.1 dX6_mends_152 rfl (lv_at hl 0 rfl) ?_
            refine lv_l2i (v := (mAlone (u 0) jl o).toInt32) S.1 S.2.1 dX6_mends_153 rfl ?_
            exact ret _ _ _ _ _ (by unfold mRowU; rw [← eg, ← ek]; exact hw) (by rw [mMend, ← eg, ← ek]; simp only [mMendR, mCut, Nat.one_ne_zero, c_3, c_4, c_8, c_9, c_16, c_3N, c_8N, ej0, ejl, nI_clamp (show j0 < 2 ^ 31 by omega), nI_clamp (show jl < 2 ^ 31 by omega), ↓reduceIte]) dX6_mends_154
          · skip
            refine lv_ldc (v := 1000000) S.1 S.2.1 S.2.2.2.1 (S.2.2.2.2 _ k_X6_mends_116) dX6_mends_147 ?_
            refine lv_goto (tgt := 154) S.1 S.2.1 dX6_mends_149 (by decide) ?_
            exact ret _ _ _ _ _ (by unfold mRowU; rw [← eg, ← ek]; exact hw) (by rw [mMend, ← eg, ← ek]; simp only [mMendR, mCut, Nat.one_ne_zero, c_3, c_4, c_8, c_9, c_16, c_3N, c_8N, ej0, ejl, nI_clamp (show j0 < 2 ^ 31 by omega), nI_clamp (show jl < 2 ^ 31 by omega), ↓reduceIte]) dX6_mends_154
      · skip
        have c_8N : k = 1 := (nI_eq (a := k) (b := 1) (by omega) (by omega)).mp c_8
        refine lv_aload_n S.1 S.2.1 dX6_mends_51 rfl (lv_at hl 1 rfl) ?_
        refine lv_aload_n S.1 S.2.1 dX6_mends_52 rfl (lv_at hl 1 rfl) ?_
        refine y_get S hw (C := RX6) (T := TX6) (N := 13) i_X6_mends_X6 0 rfl rfl 6 (by decide) f_X6_mends_22 rfl dX6_mends_53 ?_
        refine lv_iconst (v := 0) S.1 S.2.1 dX6_mends_56 (by decide) ?_
        refine y_iald S hw 5 (k := 0) rfl (by omega) (Nat.le_of_ble_eq_true rfl) dX6_mends_57 ?_
        refine y_top (y := (nI j0)) (ej0) ?_
        refine lv_iload_n S.1 S.2.1 dX6_mends_58 rfl (lv_at hl 2 rfl) ?_
        refine y_callL (As := [.int (nI j0), .int o]) (rest := []) S hw hl.1 (c_X6_alone l D cI cC cL q (va_up (va_up u 6 g) 7 (fun _ => (nI k))) j0 o (by omega) (y_nz pj0)) (cwV 2 S.2.2.2.2 gX6_mends_X6_alone rfl rfl rfl (by decide +kernel) ⟨Nat.le_of_ble_eq_true rfl, Nat.le_of_ble_eq_true rfl⟩) 0 rfl rfl [0, 1, 2, 3, 4, 5, 6] [] rfl (by decide +kernel) (wr := []) rfl (by decide +kernel) (by decide +kernel) rfl (Nat.le_of_ble_eq_true rfl) dX6_mends_59 rfl ⟨Nat.le_refl _, Nat.le_refl _⟩ (fun H locs v_17 x_18 ev_17 ex_18 hw => ?_)
        have hw : y_W D cI cC cL A s H locs [((q 0), .inr (6, [.ref (q 1), .ref (q 2), .ref (q 3), .int (u 3 0), .ref (q 4), .int (u 5 0), .ref (q 5), .int (nI k), .int (u 8 0), .int (u 9 0), .int (u 10 0), .int (u 11 0), .ref (q 6)])), ((q 1), .inl (cI, 162, .inl (u 0))), ((q 2), .inl (cI, 162, .inl (u 1))), ((q 3), .inl (cI, 648, .inl (u 2))), ((q 4), .inl (cI, 60, .inl (u 4))), ((q 5), .inl (cI, 3, .inl g)), ((q 6), .inl (cI, 3, .inl (u 12)))] := hw
        subst ex_18
        refine lv_lstore_n (lv' := [(3, .long (mAlone (u 0) j0 o)), (2, .int (nI jl)), (0, .ref (q 0)), (1, .int o)]) S.1 S.2.1 dX6_mends_62 rfl hl (by decide) rfl (fun ls hl => ?_)
        refine lv_goto (tgt := 139) S.1 S.2.1 dX6_mends_63 (by decide) ?_
        refine lv_lload_n S.1 S.2.1 dX6_mends_139 rfl (lv_at hl 0 rfl) ?_
        refine lv_ldc2 (v := 1000000) S.1 S.2.1 S.2.2.2.1 (S.2.2.2.2 _ k_X6_mends_114) dX6_mends_140 ?_
        refine W.lcmp S.1 S.2.1 dX6_mends_143 ?_
        refine lv_if_le (tgt := 152) S.1 S.2.1 dX6_mends_144 (by decide) (fun c_19 => ?_) (fun c_19 => ?_)
        · skip
          refine lv_lload_n S.1 S.2.1 dX6_mends_152 rfl (lv_at hl 0 rfl) ?_
          refine lv_l2i (v := (mAlone (u 0) j0 o).toInt32) S.1 S.2.1 dX6_mends_153 rfl ?_
          exact ret _ _ _ _ _ (by unfold mRowU; rw [← eg, ← ek]; exact hw) (by rw [mMend, ← eg, ← ek]; simp only [mMendR, mCut, Nat.one_ne_zero, c_3, c_4, c_8, c_19, c_3N, c_8N, ej0, ejl, nI_clamp (show j0 < 2 ^ 31 by omega), nI_clamp (show jl < 2 ^ 31 by omega), ↓reduceIte]) dX6_mends_154
        · skip
          refine lv_ldc (v := 1000000) S.1 S.2.1 S.2.2.2.1 (S.2.2.2.2 _ k_X6_mends_116) dX6_mends_147 ?_
          refine lv_goto (tgt := 154) S.1 S.2.1 dX6_mends_149 (by decide) ?_
          exact ret _ _ _ _ _ (by unfold mRowU; rw [← eg, ← ek]; exact hw) (by rw [mMend, ← eg, ← ek]; simp only [mMendR, mCut, Nat.one_ne_zero, c_3, c_4, c_8, c_19, c_3N, c_8N, ej0, ejl, nI_clamp (show j0 < 2 ^ 31 by omega), nI_clamp (show jl < 2 ^ 31 by omega), ↓reduceIte]) dX6_mends_154
  · skip
    have c_3N : k = 0 := (nI_eq (a := k) (b := 0) (by omega) (by omega)).mp c_3
    refine lv_iconst (v := (-1)) S.1 S.2.1 dX6_mends_11 (by decide) ?_
    exact ret _ _ _ _ _ (by unfold mRowU; rw [← eg, ← ek]; exact hw) (by rw [mMend, ← eg, ← ek]; simp only [mMendR, mCut, Nat.one_ne_zero, c_3, c_3N, ↓reduceIte]) dX6_mends_12

theorem i_X6_comes_X6 : ∀ w ∈ u_ws RX6 TX6 13, w ∈ wsX6_comes := by decide +kernel
theorem f_X6_comes_7 : Cond.fieldLink RX6 7 "ChargeLinesModel" "s" "[I" ∈ wsX6_comes := by decide +kernel
set_option maxHeartbeats 4000000 in
set_option maxRecDepth 100000 in
/-- Model.comes -/
theorem c_X6_comes (l : Launch) (D : va_G) (cI cC cL : ClassId) (q : Nat → Nat) (u : U) (hh x w o : Int32) (kp : Nat) (hk : u 0 4 = nI kp) (hk16 : kp ≤ 16) (hw0 : okr w) : y_MV l yX6_comes wsX6_comes 3 79 D cI cC cL [.ref (q 0), .int hh, .int x, .int w, .int o] (cMd cI q u) (fun v : U => cMd cI q v) (mCome u hh x w o kp) := by
  refine y_startV (cc := cX6_comes) (maxL := 6) (by decide) rfl (Nat.le_of_ble_eq_true rfl) ?_
  intro p e s mm args below meth c A QQ ls S hw ret hl
  have S : CallFix p mm c cX6_comes 6 s args wsX6_comes RX6 := S
  have hw : y_W D cI cC cL A s s.heap [] [((q 0), .inr (6, [.ref (q 1), .ref (q 2), .ref (q 3), .int (u 3 0), .ref (q 4), .int (u 5 0), .ref (q 5), .int (u 7 0), .int (u 8 0), .int (u 9 0), .int (u 10 0), .int (u 11 0), .ref (q 6)])), ((q 1), .inl (cI, 162, .inl (u 0))), ((q 2), .inl (cI, 162, .inl (u 1))), ((q 3), .inl (cI, 648, .inl (u 2))), ((q 4), .inl (cI, 60, .inl (u 4))), ((q 5), .inl (cI, 3, .inl (u 6))), ((q 6), .inl (cI, 3, .inl (u 12)))] := hw
  have hl : lv_has ls 6 [(0, .ref (q 0)), (1, .int hh), (2, .int x), (3, .int w), (4, .int o)] := hl
  refine lv_iload_n S.1 S.2.1 dX6_comes_0 rfl (lv_at hl 3 rfl) ?_
  refine lv_if_lt (tgt := 25) S.1 S.2.1 dX6_comes_1 (by decide) (fun c_1 => ?_) (fun c_1 => ?_)
  · skip
    refine lv_aload_n S.1 S.2.1 dX6_comes_25 rfl (lv_at hl 0 rfl) ?_
    refine y_get S hw (C := RX6) (T := TX6) (N := 13) i_X6_comes_X6 0 rfl rfl 0 (by decide) f_X6_comes_7 rfl dX6_comes_26 ?_
    refine lv_iconst (v := 4) S.1 S.2.1 dX6_comes_29 (by decide) ?_
    refine y_iald S hw 1 (k := 4) rfl (by omega) (Nat.le_of_ble_eq_true rfl) dX6_comes_30 ?_
    refine y_top (y := (nI kp)) (hk) ?_
    refine lv_bipush (v := 16) S.1 S.2.1 dX6_comes_31 (by decide) ?_
    refine lv_icmp_ne (tgt := 80) S.1 S.2.1 dX6_comes_33 (by decide) (fun c_2 => ?_) (fun c_2 => ?_)
    · skip
      have c_2N : ¬ kp = 16 := fun z => c_2 ((nI_eq (a := kp) (b := 16) (by omega) (by omega)).mpr z)
      have hC1 : mC1 (u 0) w x o = (u 0) := by rw [mC1, if_pos c_1]
      have hC2 : mC2 (mC1 (u 0) w x o) kp = (u 0) := by rw [mC2, if_neg c_2N, hC1]
      have hKq : mKq kp = kp := by rw [mKq, if_neg c_2N]
      have hF4 : (u 0) 4 = nI kp := by exact hk
      refine lv_bipush (v := 82) S.1 S.2.1 dX6_comes_80 (by decide) ?_
      refine lv_iconst (v := 5) S.1 S.2.1 dX6_comes_82 (by decide) ?_
      refine lv_aload_n S.1 S.2.1 dX6_comes_83 rfl (lv_at hl 0 rfl) ?_
      refine y_get S hw (C := RX6) (T := TX6) (N := 13) i_X6_comes_X6 0 rfl rfl 0 (by decide) f_X6_comes_7 rfl dX6_comes_84 ?_
      refine lv_iconst (v := 4) S.1 S.2.1 dX6_comes_87 (by decide) ?_
      refine y_iald S hw 1 (k := 4) rfl (by omega) (Nat.le_of_ble_eq_true rfl) dX6_comes_88 ?_
      refine y_top (y := (nI kp)) (hk) ?_
      refine y_imulN S 5 kp dX6_comes_89 ?_
      refine y_iaddN S 82 (5 * kp) dX6_comes_90 ?_
      refine lv_istore (lv' := [(5, .int (nI (82 + (5 * kp)))), (0, .ref (q 0)), (1, .int hh), (2, .int x), (3, .int w), (4, .int o)]) S.1 S.2.1 dX6_comes_91 hl (by decide) rfl (fun ls hl => ?_)
      refine lv_aload_n S.1 S.2.1 dX6_comes_93 rfl (lv_at hl 1 rfl) ?_
      refine y_get S hw (C := RX6) (T := TX6) (N := 13) i_X6_comes_X6 0 rfl rfl 0 (by decide) f_X6_comes_7 rfl dX6_comes_94 ?_
      refine lv_iload S.1 S.2.1 dX6_comes_97 (lv_at hl 0 rfl) ?_
      refine lv_iconst (v := 0) S.1 S.2.1 dX6_comes_99 (by decide) ?_
      refine y_iaddN S (82 + (5 * kp)) 0 dX6_comes_100 ?_
      refine lv_iload_n S.1 S.2.1 dX6_comes_101 rfl (lv_at hl 2 rfl) ?_
      refine y_iast S hw 1 (k := ((82 + (5 * kp)) + 0)) rfl (by omega) (Nat.le_of_ble_eq_true rfl) dX6_comes_102 (ws' := [((q 0), .inr (6, [.ref (q 1), .ref (q 2), .ref (q 3), .int (u 3 0), .ref (q 4), .int (u 5 0), .ref (q 5), .int (u 7 0), .int (u 8 0), .int (u 9 0), .int (u 10 0), .int (u 11 0), .ref (q 6)])), ((q 1), .inl (cI, 162, .inl (upd (u 0) ((82 + (5 * kp)) + 0) hh))), ((q 2), .inl (cI, 162, .inl (u 1))), ((q 3), .inl (cI, 648, .inl (u 2))), ((q 4), .inl (cI, 60, .inl (u 4))), ((q 5), .inl (cI, 3, .inl (u 6))), ((q 6), .inl (cI, 3, .inl (u 12)))]) rfl (fun H locs hw => ?_)
      refine lv_aload_n S.1 S.2.1 dX6_comes_103 rfl (lv_at hl 1 rfl) ?_
      refine y_get S hw (C := RX6) (T := TX6) (N := 13) i_X6_comes_X6 0 rfl rfl 0 (by decide) f_X6_comes_7 rfl dX6_comes_104 ?_
      refine lv_iload S.1 S.2.1 dX6_comes_107 (lv_at hl 0 rfl) ?_
      refine lv_iconst (v := 1) S.1 S.2.1 dX6_comes_109 (by decide) ?_
      refine y_iaddN S (82 + (5 * kp)) 1 dX6_comes_110 ?_
      refine lv_iload_n S.1 S.2.1 dX6_comes_111 rfl (lv_at hl 3 rfl) ?_
      refine y_iast S hw 1 (k := ((82 + (5 * kp)) + 1)) rfl (by omega) (Nat.le_of_ble_eq_true rfl) dX6_comes_112 (ws' := [((q 0), .inr (6, [.ref (q 1), .ref (q 2), .ref (q 3), .int (u 3 0), .ref (q 4), .int (u 5 0), .ref (q 5), .int (u 7 0), .int (u 8 0), .int (u 9 0), .int (u 10 0), .int (u 11 0), .ref (q 6)])), ((q 1), .inl (cI, 162, .inl (upd (upd (u 0) ((82 + (5 * kp)) + 0) hh) ((82 + (5 * kp)) + 1) x))), ((q 2), .inl (cI, 162, .inl (u 1))), ((q 3), .inl (cI, 648, .inl (u 2))), ((q 4), .inl (cI, 60, .inl (u 4))), ((q 5), .inl (cI, 3, .inl (u 6))), ((q 6), .inl (cI, 3, .inl (u 12)))]) rfl (fun H locs hw => ?_)
      refine lv_aload_n S.1 S.2.1 dX6_comes_113 rfl (lv_at hl 1 rfl) ?_
      refine y_get S hw (C := RX6) (T := TX6) (N := 13) i_X6_comes_X6 0 rfl rfl 0 (by decide) f_X6_comes_7 rfl dX6_comes_114 ?_
      refine lv_iload S.1 S.2.1 dX6_comes_117 (lv_at hl 0 rfl) ?_
      refine lv_iconst (v := 2) S.1 S.2.1 dX6_comes_119 (by decide) ?_
      refine y_iaddN S (82 + (5 * kp)) 2 dX6_comes_120 ?_
      refine lv_iload S.1 S.2.1 dX6_comes_121 (lv_at hl 5 rfl) ?_
      refine y_iast S hw 1 (k := ((82 + (5 * kp)) + 2)) rfl (by omega) (Nat.le_of_ble_eq_true rfl) dX6_comes_123 (ws' := [((q 0), .inr (6, [.ref (q 1), .ref (q 2), .ref (q 3), .int (u 3 0), .ref (q 4), .int (u 5 0), .ref (q 5), .int (u 7 0), .int (u 8 0), .int (u 9 0), .int (u 10 0), .int (u 11 0), .ref (q 6)])), ((q 1), .inl (cI, 162, .inl (upd (upd (upd (u 0) ((82 + (5 * kp)) + 0) hh) ((82 + (5 * kp)) + 1) x) ((82 + (5 * kp)) + 2) o))), ((q 2), .inl (cI, 162, .inl (u 1))), ((q 3), .inl (cI, 648, .inl (u 2))), ((q 4), .inl (cI, 60, .inl (u 4))), ((q 5), .inl (cI, 3, .inl (u 6))), ((q 6), .inl (cI, 3, .inl (u 12)))]) rfl (fun H locs hw => ?_)
      refine lv_aload_n S.1 S.2.1 dX6_comes_124 rfl (lv_at hl 1 rfl) ?_
      refine y_get S hw (C := RX6) (T := TX6) (N := 13) i_X6_comes_X6 0 rfl rfl 0 (by decide) f_X6_comes_7 rfl dX6_comes_125 ?_
      refine lv_iload S.1 S.2.1 dX6_comes_128 (lv_at hl 0 rfl) ?_
      refine lv_iconst (v := 3) S.1 S.2.1 dX6_comes_130 (by decide) ?_
      refine y_iaddN S (82 + (5 * kp)) 3 dX6_comes_131 ?_
      refine lv_aload_n S.1 S.2.1 dX6_comes_132 rfl (lv_at hl 1 rfl) ?_
      have hX : mC0 u hh x w o kp = (va_up u 0 (upd (upd (upd (u 0) ((82 + (5 * kp)) + 0) hh) ((82 + (5 * kp)) + 1) x) ((82 + (5 * kp)) + 2) o)) := by
        unfold mC0 mC4
        rw [hC2, hKq]
      have hX4 : (upd (upd (upd (u 0) ((82 + (5 * kp)) + 0) hh) ((82 + (5 * kp)) + 1) x) ((82 + (5 * kp)) + 2) o) 4 = nI kp := by rw [pk_un (by omega), pk_un (by omega), pk_un (by omega)]; exact hF4
      refine lv_iload S.1 S.2.1 dX6_comes_133 (lv_at hl 5 rfl) ?_
      refine y_callI (As := [.int o]) (rest := [.int (nI ((82 + (5 * kp)) + 3)), .ref (q 1)]) S hw hl.1 (c_X6_mends l D cI cC cL q (va_up u 0 (upd (upd (upd (u 0) ((82 + (5 * kp)) + 0) hh) ((82 + (5 * kp)) + 1) x) ((82 + (5 * kp)) + 2) o)) o) (cwV 1 S.2.2.2.2 gX6_comes_X6_mends rfl rfl rfl (by decide +kernel) ⟨Nat.le_of_ble_eq_true rfl, Nat.le_of_ble_eq_true rfl⟩) 0 rfl rfl [0, 1, 2, 3, 4, 5, 6] [] rfl (by decide +kernel) (wr := []) rfl (by decide +kernel) (by decide +kernel) rfl (Nat.le_of_ble_eq_true rfl) dX6_comes_135 rfl ⟨Nat.le_refl _, Nat.le_refl _⟩ (fun H locs v_3 x_4 ev_3 ex_4 hw => ?_)
      have hw : y_W D cI cC cL A s H locs [((q 0), .inr (6, [.ref (q 1), .ref (q 2), .ref (q 3), .int (v_3 3 0), .ref (q 4), .int (v_3 5 0), .ref (q 5), .int (v_3 7 0), .int (v_3 8 0), .int (v_3 9 0), .int (v_3 10 0), .int (v_3 11 0), .ref (q 6)])), ((q 1), .inl (cI, 162, .inl (v_3 0))), ((q 2), .inl (cI, 162, .inl (v_3 1))), ((q 3), .inl (cI, 648, .inl (v_3 2))), ((q 4), .inl (cI, 60, .inl (v_3 4))), ((q 5), .inl (cI, 3, .inl (v_3 6))), ((q 6), .inl (cI, 3, .inl (v_3 12)))] := hw
      subst ex_4
      refine y_iast S hw 1 (k := ((82 + (5 * kp)) + 3)) rfl (by omega) (Nat.le_of_ble_eq_true rfl) dX6_comes_138 (ws' := [((q 0), .inr (6, [.ref (q 1), .ref (q 2), .ref (q 3), .int (v_3 3 0), .ref (q 4), .int (v_3 5 0), .ref (q 5), .int (v_3 7 0), .int (v_3 8 0), .int (v_3 9 0), .int (v_3 10 0), .int (v_3 11 0), .ref (q 6)])), ((q 1), .inl (cI, 162, .inl (upd (v_3 0) ((82 + (5 * kp)) + 3) (mMend (va_up u 0 (upd (upd (upd (u 0) ((82 + (5 * kp)) + 0) hh) ((82 + (5 * kp)) + 1) x) ((82 + (5 * kp)) + 2) o)) o)))), ((q 2), .inl (cI, 162, .inl (v_3 1))), ((q 3), .inl (cI, 648, .inl (v_3 2))), ((q 4), .inl (cI, 60, .inl (v_3 4))), ((q 5), .inl (cI, 3, .inl (v_3 6))), ((q 6), .inl (cI, 3, .inl (v_3 12)))]) rfl (fun H locs hw => ?_)
      refine lv_aload_n S.1 S.2.1 dX6_comes_139 rfl (lv_at hl 1 rfl) ?_
      refine y_get S hw (C := RX6) (T := TX6) (N := 13) i_X6_comes_X6 0 rfl rfl 0 (by decide) f_X6_comes_7 rfl dX6_comes_140 ?_
      refine lv_iload S.1 S.2.1 dX6_comes_143 (lv_at hl 0 rfl) ?_
      refine lv_iconst (v := 4) S.1 S.2.1 dX6_comes_145 (by decide) ?_
      refine y_iaddN S (82 + (5 * kp)) 4 dX6_comes_146 ?_
      refine lv_iload_n S.1 S.2.1 dX6_comes_147 rfl (lv_at hl 4 rfl) ?_
      refine lv_if_lt (tgt := 155) S.1 S.2.1 dX6_comes_148 (by decide) (fun c_5 => ?_) (fun c_5 => ?_)
      · skip
        refine lv_iconst (v := 0) S.1 S.2.1 dX6_comes_155 (by decide) ?_
        refine y_iast S hw 1 (k := ((82 + (5 * kp)) + 4)) rfl (by omega) (Nat.le_of_ble_eq_true rfl) dX6_comes_156 (ws' := [((q 0), .inr (6, [.ref (q 1), .ref (q 2), .ref (q 3), .int (v_3 3 0), .ref (q 4), .int (v_3 5 0), .ref (q 5), .int (v_3 7 0), .int (v_3 8 0), .int (v_3 9 0), .int (v_3 10 0), .int (v_3 11 0), .ref (q 6)])), ((q 1), .inl (cI, 162, .inl (upd (upd (v_3 0) ((82 + (5 * kp)) + 3) (mMend (va_up u 0 (upd (upd (upd (u 0) ((82 + (5 * kp)) + 0) hh) ((82 + (5 * kp)) + 1) x) ((82 + (5 * kp)) + 2) o)) o)) ((82 + (5 * kp)) + 4) 0))), ((q 2), .inl (cI, 162, .inl (v_3 1))), ((q 3), .inl (cI, 648, .inl (v_3 2))), ((q 4), .inl (cI, 60, .inl (v_3 4))), ((q 5), .inl (cI, 3, .inl (v_3 6))), ((q 6), .inl (cI, 3, .inl (v_3 12)))]) rfl (fun H locs hw => ?_)
        refine lv_aload_n S.1 S.2.1 dX6_comes_157 rfl (lv_at hl 1 rfl) ?_
        refine y_get S hw (C := RX6) (T := TX6) (N := 13) i_X6_comes_X6 0 rfl rfl 0 (by decide) f_X6_comes_7 rfl dX6_comes_158 ?_
        refine lv_iconst (v := 4) S.1 S.2.1 dX6_comes_161 (by decide) ?_
        refine lv_dup2_11 S.1 S.2.1 dX6_comes_162 rfl rfl ?_
        refine y_iald S hw 1 (k := 4) rfl (by omega) (Nat.le_of_ble_eq_true rfl) dX6_comes_163 ?_
        refine y_top (y := ((upd (v_3 0) ((82 + (5 * kp)) + 3) (mMend (va_up u 0 (upd (upd (upd (u 0) ((82 + (5 * kp)) + 0) hh) ((82 + (5 * kp)) + 1) x) ((82 + (5 * kp)) + 2) o)) o)) 4)) (pk_un (by omega)) ?_
        refine y_top (y := ((v_3 0) 4)) (pk_un (by omega)) ?_
        refine y_top (y := (nI kp)) (by rw [ev_3]; exact hX4) ?_
        refine lv_iconst (v := 1) S.1 S.2.1 dX6_comes_164 (by decide) ?_
        refine y_iaddN S kp 1 dX6_comes_165 ?_
        refine y_iast S hw 1 (k := 4) rfl (by omega) (Nat.le_of_ble_eq_true rfl) dX6_comes_166 (ws' := [((q 0), .inr (6, [.ref (q 1), .ref (q 2), .ref (q 3), .int (v_3 3 0), .ref (q 4), .int (v_3 5 0), .ref (q 5), .int (v_3 7 0), .int (v_3 8 0), .int (v_3 9 0), .int (v_3 10 0), .int (v_3 11 0), .ref (q 6)])), ((q 1), .inl (cI, 162, .inl (upd (upd (upd (v_3 0) ((82 + (5 * kp)) + 3) (mMend (va_up u 0 (upd (upd (upd (u 0) ((82 + (5 * kp)) + 0) hh) ((82 + (5 * kp)) + 1) x) ((82 + (5 * kp)) + 2) o)) o)) ((82 + (5 * kp)) + 4) 0) 4 (nI (kp + 1))))), ((q 2), .inl (cI, 162, .inl (v_3 1))), ((q 3), .inl (cI, 648, .inl (v_3 2))), ((q 4), .inl (cI, 60, .inl (v_3 4))), ((q 5), .inl (cI, 3, .inl (v_3 6))), ((q 6), .inl (cI, 3, .inl (v_3 12)))]) rfl (fun H locs hw => ?_)
        exact ret _ _ _ _ (by rw [show mCome u hh x w o kp = (va_up v_3 0 (upd (upd (upd (v_3 0) ((82 + (5 * kp)) + 3) (mMend (va_up u 0 (upd (upd (upd (u 0) ((82 + (5 * kp)) + 0) hh) ((82 + (5 * kp)) + 1) x) ((82 + (5 * kp)) + 2) o)) o)) ((82 + (5 * kp)) + 4) 0) 4 (nI (kp + 1)))) from by rw [mCome, hX, ev_3]; unfold mC7; rw [hKq, if_pos c_1]; rfl]; exact hw) dX6_comes_167
      · skip
        exact absurd c_1 c_5
    · skip
      have c_2N : kp = 16 := (nI_eq (a := kp) (b := 16) (by omega) (by omega)).mp c_2
      refine lv_bipush (v := 82) S.1 S.2.1 dX6_comes_36 (by decide) ?_
      refine lv_istore (lv' := [(5, .int 82), (0, .ref (q 0)), (1, .int hh), (2, .int x), (3, .int w), (4, .int o)]) S.1 S.2.1 dX6_comes_38 hl (by decide) rfl (fun ls hl => ?_)
      have lp40 : ∀ (fuel : Nat) (i : Nat) (gg : V1), (i ≤ 75) → (gg = mDown (u 0) 82 5 i) → (gg 4 = nI kp) → (75 - i) < fuel → ∀ (H : Heap) (locs : List Loc) (ls : Array Slot), y_W D cI cC cL A s H locs [((q 0), .inr (6, [.ref (q 1), .ref (q 2), .ref (q 3), .int (u 3 0), .ref (q 4), .int (u 5 0), .ref (q 5), .int (u 7 0), .int (u 8 0), .int (u 9 0), .int (u 10 0), .int (u 11 0), .ref (q 6)])), ((q 1), .inl (cI, 162, .inl gg)), ((q 2), .inl (cI, 162, .inl (u 1))), ((q 3), .inl (cI, 648, .inl (u 2))), ((q 4), .inl (cI, 60, .inl (u 4))), ((q 5), .inl (cI, 3, .inl (u 6))), ((q 6), .inl (cI, 3, .inl (u 12)))] → lv_has ls 6 [(0, .ref (q 0)), (1, .int hh), (2, .int x), (3, .int w), (4, .int o), (5, .int (nI (82 + i)))] → W p l e (y_R 3 79) s mm args below meth c H locs 0 0 QQ (F0 mm 40 ls []) := by
        intro fuel
        induction fuel with
        | zero =>
          intro i gg hi hg h4 hfu
          exact absurd hfu (Nat.not_lt_zero _)
        | succ fuel ih40 =>
          intro i gg hi hg h4 hfu H locs ls hw hl
          refine lv_iload S.1 S.2.1 dX6_comes_40 (lv_at hl 5 rfl) ?_
          refine lv_sipush (v := 157) S.1 S.2.1 dX6_comes_42 (by decide) ?_
          refine lv_icmp_ge (tgt := 70) S.1 S.2.1 dX6_comes_45 (by decide) (fun c_6 => ?_) (fun c_6 => ?_)
          · skip
            have c_6N : 157 ≤ (82 + i) := (nI_leI (a := 157) (b := (82 + i)) (by omega) (by omega)).mp c_6
            refine lv_aload_n S.1 S.2.1 dX6_comes_70 rfl (lv_at hl 0 rfl) ?_
            refine y_get S hw (C := RX6) (T := TX6) (N := 13) i_X6_comes_X6 0 rfl rfl 0 (by decide) f_X6_comes_7 rfl dX6_comes_71 ?_
            refine lv_iconst (v := 4) S.1 S.2.1 dX6_comes_74 (by decide) ?_
            refine lv_dup2_11 S.1 S.2.1 dX6_comes_75 rfl rfl ?_
            refine y_iald S hw 1 (k := 4) rfl (by omega) (Nat.le_of_ble_eq_true rfl) dX6_comes_76 ?_
            refine y_top (y := (nI kp)) (h4) ?_
            refine lv_iconst (v := 1) S.1 S.2.1 dX6_comes_77 (by decide) ?_
            refine y_isubN S kp 1 (by omega) dX6_comes_78 ?_
            refine y_iast S hw 1 (k := 4) rfl (by omega) (Nat.le_of_ble_eq_true rfl) dX6_comes_79 (ws' := [((q 0), .inr (6, [.ref (q 1), .ref (q 2), .ref (q 3), .int (u 3 0), .ref (q 4), .int (u 5 0), .ref (q 5), .int (u 7 0), .int (u 8 0), .int (u 9 0), .int (u 10 0), .int (u 11 0), .ref (q 6)])), ((q 1), .inl (cI, 162, .inl (upd gg 4 (nI (kp - 1))))), ((q 2), .inl (cI, 162, .inl (u 1))), ((q 3), .inl (cI, 648, .inl (u 2))), ((q 4), .inl (cI, 60, .inl (u 4))), ((q 5), .inl (cI, 3, .inl (u 6))), ((q 6), .inl (cI, 3, .inl (u 12)))]) rfl (fun H locs hw => ?_)
            have hC1 : mC1 (u 0) w x o = (u 0) := by rw [mC1, if_pos c_1]
            have hC2 : mC2 (mC1 (u 0) w x o) kp = (upd gg 4 (nI (kp - 1))) := by rw [mC2, if_pos c_2N, hg, show i = 75 from by omega, hC1]
            have hKq : mKq kp = (kp - 1) := by rw [mKq, if_pos c_2N]
            have hF4 : (upd gg 4 (nI (kp - 1))) 4 = nI (kp - 1) := by exact pk_us
            refine lv_bipush (v := 82) S.1 S.2.1 dX6_comes_80 (by decide) ?_
            refine lv_iconst (v := 5) S.1 S.2.1 dX6_comes_82 (by decide) ?_
            refine lv_aload_n S.1 S.2.1 dX6_comes_83 rfl (lv_at hl 0 rfl) ?_
            refine y_get S hw (C := RX6) (T := TX6) (N := 13) i_X6_comes_X6 0 rfl rfl 0 (by decide) f_X6_comes_7 rfl dX6_comes_84 ?_
            refine lv_iconst (v := 4) S.1 S.2.1 dX6_comes_87 (by decide) ?_
            refine y_iald S hw 1 (k := 4) rfl (by omega) (Nat.le_of_ble_eq_true rfl) dX6_comes_88 ?_
            refine y_top (y := (nI (kp - 1))) pk_us ?_
            refine y_imulN S 5 (kp - 1) dX6_comes_89 ?_
            refine y_iaddN S 82 (5 * (kp - 1)) dX6_comes_90 ?_
            refine lv_istore (lv' := [(5, .int (nI (82 + (5 * (kp - 1))))), (0, .ref (q 0)), (1, .int hh), (2, .int x), (3, .int w), (4, .int o)]) S.1 S.2.1 dX6_comes_91 hl (by decide) rfl (fun ls hl => ?_)
            refine lv_aload_n S.1 S.2.1 dX6_comes_93 rfl (lv_at hl 1 rfl) ?_
            refine y_get S hw (C := RX6) (T := TX6) (N := 13) i_X6_comes_X6 0 rfl rfl 0 (by decide) f_X6_comes_7 rfl dX6_comes_94 ?_
            refine lv_iload S.1 S.2.1 dX6_comes_97 (lv_at hl 0 rfl) ?_
            refine lv_iconst (v := 0) S.1 S.2.1 dX6_comes_99 (by decide) ?_
            refine y_iaddN S (82 + (5 * (kp - 1))) 0 dX6_comes_100 ?_
            refine lv_iload_n S.1 S.2.1 dX6_comes_101 rfl (lv_at hl 2 rfl) ?_
            refine y_iast S hw 1 (k := ((82 + (5 * (kp - 1))) + 0)) rfl (by omega) (Nat.le_of_ble_eq_true rfl) dX6_comes_102 (ws' := [((q 0), .inr (6, [.ref (q 1), .ref (q 2), .ref (q 3), .int (u 3 0), .ref (q 4), .int (u 5 0), .ref (q 5), .int (u 7 0), .int (u 8 0), .int (u 9 0), .int (u 10 0), .int (u 11 0), .ref (q 6)])), ((q 1), .inl (cI, 162, .inl (upd (upd gg 4 (nI (kp - 1))) ((82 + (5 * (kp - 1))) + 0) hh))), ((q 2), .inl (cI, 162, .inl (u 1))), ((q 3), .inl (cI, 648, .inl (u 2))), ((q 4), .inl (cI, 60, .inl (u 4))), ((q 5), .inl (cI, 3, .inl (u 6))), ((q 6), .inl (cI, 3, .inl (u 12)))]) rfl (fun H locs hw => ?_)
            refine lv_aload_n S.1 S.2.1 dX6_comes_103 rfl (lv_at hl 1 rfl) ?_
            refine y_get S hw (C := RX6) (T := TX6) (N := 13) i_X6_comes_X6 0 rfl rfl 0 (by decide) f_X6_comes_7 rfl dX6_comes_104 ?_
            refine lv_iload S.1 S.2.1 dX6_comes_107 (lv_at hl 0 rfl) ?_
            refine lv_iconst (v := 1) S.1 S.2.1 dX6_comes_109 (by decide) ?_
            refine y_iaddN S (82 + (5 * (kp - 1))) 1 dX6_comes_110 ?_
            refine lv_iload_n S.1 S.2.1 dX6_comes_111 rfl (lv_at hl 3 rfl) ?_
            refine y_iast S hw 1 (k := ((82 + (5 * (kp - 1))) + 1)) rfl (by omega) (Nat.le_of_ble_eq_true rfl) dX6_comes_112 (ws' := [((q 0), .inr (6, [.ref (q 1), .ref (q 2), .ref (q 3), .int (u 3 0), .ref (q 4), .int (u 5 0), .ref (q 5), .int (u 7 0), .int (u 8 0), .int (u 9 0), .int (u 10 0), .int (u 11 0), .ref (q 6)])), ((q 1), .inl (cI, 162, .inl (upd (upd (upd gg 4 (nI (kp - 1))) ((82 + (5 * (kp - 1))) + 0) hh) ((82 + (5 * (kp - 1))) + 1) x))), ((q 2), .inl (cI, 162, .inl (u 1))), ((q 3), .inl (cI, 648, .inl (u 2))), ((q 4), .inl (cI, 60, .inl (u 4))), ((q 5), .inl (cI, 3, .inl (u 6))), ((q 6), .inl (cI, 3, .inl (u 12)))]) rfl (fun H locs hw => ?_)
            refine lv_aload_n S.1 S.2.1 dX6_comes_113 rfl (lv_at hl 1 rfl) ?_
            refine y_get S hw (C := RX6) (T := TX6) (N := 13) i_X6_comes_X6 0 rfl rfl 0 (by decide) f_X6_comes_7 rfl dX6_comes_114 ?_
            refine lv_iload S.1 S.2.1 dX6_comes_117 (lv_at hl 0 rfl) ?_
            refine lv_iconst (v := 2) S.1 S.2.1 dX6_comes_119 (by decide) ?_
            refine y_iaddN S (82 + (5 * (kp - 1))) 2 dX6_comes_120 ?_
            refine lv_iload S.1 S.2.1 dX6_comes_121 (lv_at hl 5 rfl) ?_
            refine y_iast S hw 1 (k := ((82 + (5 * (kp - 1))) + 2)) rfl (by omega) (Nat.le_of_ble_eq_true rfl) dX6_comes_123 (ws' := [((q 0), .inr (6, [.ref (q 1), .ref (q 2), .ref (q 3), .int (u 3 0), .ref (q 4), .int (u 5 0), .ref (q 5), .int (u 7 0), .int (u 8 0), .int (u 9 0), .int (u 10 0), .int (u 11 0), .ref (q 6)])), ((q 1), .inl (cI, 162, .inl (upd (upd (upd (upd gg 4 (nI (kp - 1))) ((82 + (5 * (kp - 1))) + 0) hh) ((82 + (5 * (kp - 1))) + 1) x) ((82 + (5 * (kp - 1))) + 2) o))), ((q 2), .inl (cI, 162, .inl (u 1))), ((q 3), .inl (cI, 648, .inl (u 2))), ((q 4), .inl (cI, 60, .inl (u 4))), ((q 5), .inl (cI, 3, .inl (u 6))), ((q 6), .inl (cI, 3, .inl (u 12)))]) rfl (fun H locs hw => ?_)
            refine lv_aload_n S.1 S.2.1 dX6_comes_124 rfl (lv_at hl 1 rfl) ?_
            refine y_get S hw (C := RX6) (T := TX6) (N := 13) i_X6_comes_X6 0 rfl rfl 0 (by decide) f_X6_comes_7 rfl dX6_comes_125 ?_
            refine lv_iload S.1 S.2.1 dX6_comes_128 (lv_at hl 0 rfl) ?_
            refine lv_iconst (v := 3) S.1 S.2.1 dX6_comes_130 (by decide) ?_
            refine y_iaddN S (82 + (5 * (kp - 1))) 3 dX6_comes_131 ?_
            refine lv_aload_n S.1 S.2.1 dX6_comes_132 rfl (lv_at hl 1 rfl) ?_
            have hX : mC0 u hh x w o kp = (va_up u 0 (upd (upd (upd (upd gg 4 (nI (kp - 1))) ((82 + (5 * (kp - 1))) + 0) hh) ((82 + (5 * (kp - 1))) + 1) x) ((82 + (5 * (kp - 1))) + 2) o)) := by
              unfold mC0 mC4
              rw [hC2, hKq]
            have hX4 : (upd (upd (upd (upd gg 4 (nI (kp - 1))) ((82 + (5 * (kp - 1))) + 0) hh) ((82 + (5 * (kp - 1))) + 1) x) ((82 + (5 * (kp - 1))) + 2) o) 4 = nI (kp - 1) := by rw [pk_un (by omega), pk_un (by omega), pk_un (by omega)]; exact hF4
            refine lv_iload S.1 S.2.1 dX6_comes_133 (lv_at hl 5 rfl) ?_
            refine y_callI (As := [.int o]) (rest := [.int (nI ((82 + (5 * (kp - 1))) + 3)), .ref (q 1)]) S hw hl.1 (c_X6_mends l D cI cC cL q (va_up u 0 (upd (upd (upd (upd gg 4 (nI (kp - 1))) ((82 + (5 * (kp - 1))) + 0) hh) ((82 + (5 * (kp - 1))) + 1) x) ((82 + (5 * (kp - 1))) + 2) o)) o) (cwV 1 S.2.2.2.2 gX6_comes_X6_mends rfl rfl rfl (by decide +kernel) ⟨Nat.le_of_ble_eq_true rfl, Nat.le_of_ble_eq_true rfl⟩) 0 rfl rfl [0, 1, 2, 3, 4, 5, 6] [] rfl (by decide +kernel) (wr := []) rfl (by decide +kernel) (by decide +kernel) rfl (Nat.le_of_ble_eq_true rfl) dX6_comes_135 rfl ⟨Nat.le_refl _, Nat.le_refl _⟩ (fun H locs v_7 x_8 ev_7 ex_8 hw => ?_)
            have hw : y_W D cI cC cL A s H locs [((q 0), .inr (6, [.ref (q 1), .ref (q 2), .ref (q 3), .int (v_7 3 0), .ref (q 4), .int (v_7 5 0), .ref (q 5), .int (v_7 7 0), .int (v_7 8 0), .int (v_7 9 0), .int (v_7 10 0), .int (v_7 11 0), .ref (q 6)])), ((q 1), .inl (cI, 162, .inl (v_7 0))), ((q 2), .inl (cI, 162, .inl (v_7 1))), ((q 3), .inl (cI, 648, .inl (v_7 2))), ((q 4), .inl (cI, 60, .inl (v_7 4))), ((q 5), .inl (cI, 3, .inl (v_7 6))), ((q 6), .inl (cI, 3, .inl (v_7 12)))] := hw
            subst ex_8
            refine y_iast S hw 1 (k := ((82 + (5 * (kp - 1))) + 3)) rfl (by omega) (Nat.le_of_ble_eq_true rfl) dX6_comes_138 (ws' := [((q 0), .inr (6, [.ref (q 1), .ref (q 2), .ref (q 3), .int (v_7 3 0), .ref (q 4), .int (v_7 5 0), .ref (q 5), .int (v_7 7 0), .int (v_7 8 0), .int (v_7 9 0), .int (v_7 10 0), .int (v_7 11 0), .ref (q 6)])), ((q 1), .inl (cI, 162, .inl (upd (v_7 0) ((82 + (5 * (kp - 1))) + 3) (mMend (va_up u 0 (upd (upd (upd (upd gg 4 (nI (kp - 1))) ((82 + (5 * (kp - 1))) + 0) hh) ((82 + (5 * (kp - 1))) + 1) x) ((82 + (5 * (kp - 1))) + 2) o)) o)))), ((q 2), .inl (cI, 162, .inl (v_7 1))), ((q 3), .inl (cI, 648, .inl (v_7 2))), ((q 4), .inl (cI, 60, .inl (v_7 4))), ((q 5), .inl (cI, 3, .inl (v_7 6))), ((q 6), .inl (cI, 3, .inl (v_7 12)))]) rfl (fun H locs hw => ?_)
            refine lv_aload_n S.1 S.2.1 dX6_comes_139 rfl (lv_at hl 1 rfl) ?_
            refine y_get S hw (C := RX6) (T := TX6) (N := 13) i_X6_comes_X6 0 rfl rfl 0 (by decide) f_X6_comes_7 rfl dX6_comes_140 ?_
            refine lv_iload S.1 S.2.1 dX6_comes_143 (lv_at hl 0 rfl) ?_
            refine lv_iconst (v := 4) S.1 S.2.1 dX6_comes_145 (by decide) ?_
            refine y_iaddN S (82 + (5 * (kp - 1))) 4 dX6_comes_146 ?_
            refine lv_iload_n S.1 S.2.1 dX6_comes_147 rfl (lv_at hl 4 rfl) ?_
            refine lv_if_lt (tgt := 155) S.1 S.2.1 dX6_comes_148 (by decide) (fun c_9 => ?_) (fun c_9 => ?_)
            · skip
              refine lv_iconst (v := 0) S.1 S.2.1 dX6_comes_155 (by decide) ?_
              refine y_iast S hw 1 (k := ((82 + (5 * (kp - 1))) + 4)) rfl (by omega) (Nat.le_of_ble_eq_true rfl) dX6_comes_156 (ws' := [((q 0), .inr (6, [.ref (q 1), .ref (q 2), .ref (q 3), .int (v_7 3 0), .ref (q 4), .int (v_7 5 0), .ref (q 5), .int (v_7 7 0), .int (v_7 8 0), .int (v_7 9 0), .int (v_7 10 0), .int (v_7 11 0), .ref (q 6)])), ((q 1), .inl (cI, 162, .inl (upd (upd (v_7 0) ((82 + (5 * (kp - 1))) + 3) (mMend (va_up u 0 (upd (upd (upd (upd gg 4 (nI (kp - 1))) ((82 + (5 * (kp - 1))) + 0) hh) ((82 + (5 * (kp - 1))) + 1) x) ((82 + (5 * (kp - 1))) + 2) o)) o)) ((82 + (5 * (kp - 1))) + 4) 0))), ((q 2), .inl (cI, 162, .inl (v_7 1))), ((q 3), .inl (cI, 648, .inl (v_7 2))), ((q 4), .inl (cI, 60, .inl (v_7 4))), ((q 5), .inl (cI, 3, .inl (v_7 6))), ((q 6), .inl (cI, 3, .inl (v_7 12)))]) rfl (fun H locs hw => ?_)
              refine lv_aload_n S.1 S.2.1 dX6_comes_157 rfl (lv_at hl 1 rfl) ?_
              refine y_get S hw (C := RX6) (T := TX6) (N := 13) i_X6_comes_X6 0 rfl rfl 0 (by decide) f_X6_comes_7 rfl dX6_comes_158 ?_
              refine lv_iconst (v := 4) S.1 S.2.1 dX6_comes_161 (by decide) ?_
              refine lv_dup2_11 S.1 S.2.1 dX6_comes_162 rfl rfl ?_
              refine y_iald S hw 1 (k := 4) rfl (by omega) (Nat.le_of_ble_eq_true rfl) dX6_comes_163 ?_
              refine y_top (y := ((upd (v_7 0) ((82 + (5 * (kp - 1))) + 3) (mMend (va_up u 0 (upd (upd (upd (upd gg 4 (nI (kp - 1))) ((82 + (5 * (kp - 1))) + 0) hh) ((82 + (5 * (kp - 1))) + 1) x) ((82 + (5 * (kp - 1))) + 2) o)) o)) 4)) (pk_un (by omega)) ?_
              refine y_top (y := ((v_7 0) 4)) (pk_un (by omega)) ?_
              refine y_top (y := (nI (kp - 1))) (by rw [ev_7]; exact hX4) ?_
              refine lv_iconst (v := 1) S.1 S.2.1 dX6_comes_164 (by decide) ?_
              refine y_iaddN S (kp - 1) 1 dX6_comes_165 ?_
              refine y_iast S hw 1 (k := 4) rfl (by omega) (Nat.le_of_ble_eq_true rfl) dX6_comes_166 (ws' := [((q 0), .inr (6, [.ref (q 1), .ref (q 2), .ref (q 3), .int (v_7 3 0), .ref (q 4), .int (v_7 5 0), .ref (q 5), .int (v_7 7 0), .int (v_7 8 0), .int (v_7 9 0), .int (v_7 10 0), .int (v_7 11 0), .ref (q 6)])), ((q 1), .inl (cI, 162, .inl (upd (upd (upd (v_7 0) ((82 + (5 * (kp - 1))) + 3) (mMend (va_up u 0 (upd (upd (upd (upd gg 4 (nI (kp - 1))) ((82 + (5 * (kp - 1))) + 0) hh) ((82 + (5 * (kp - 1))) + 1) x) ((82 + (5 * (kp - 1))) + 2) o)) o)) ((82 + (5 * (kp - 1))) + 4) 0) 4 (nI ((kp - 1) + 1))))), ((q 2), .inl (cI, 162, .inl (v_7 1))), ((q 3), .inl (cI, 648, .inl (v_7 2))), ((q 4), .inl (cI, 60, .inl (v_7 4))), ((q 5), .inl (cI, 3, .inl (v_7 6))), ((q 6), .inl (cI, 3, .inl (v_7 12)))]) rfl (fun H locs hw => ?_)
              exact ret _ _ _ _ (by rw [show mCome u hh x w o kp = (va_up v_7 0 (upd (upd (upd (v_7 0) ((82 + (5 * (kp - 1))) + 3) (mMend (va_up u 0 (upd (upd (upd (upd gg 4 (nI (kp - 1))) ((82 + (5 * (kp - 1))) + 0) hh) ((82 + (5 * (kp - 1))) + 1) x) ((82 + (5 * (kp - 1))) + 2) o)) o)) ((82 + (5 * (kp - 1))) + 4) 0) 4 (nI ((kp - 1) + 1)))) from by rw [mCome, hX, ev_7]; unfold mC7; rw [hKq, if_pos c_1]; rfl]; exact hw) dX6_comes_167
            · skip
              exact absurd c_1 c_9
          · skip
            have c_6N : ¬ 157 ≤ (82 + i) := fun z => c_6 ((nI_leI (a := 157) (b := (82 + i)) (by omega) (by omega)).mpr z)
            refine lv_aload_n S.1 S.2.1 dX6_comes_48 rfl (lv_at hl 0 rfl) ?_
            refine y_get S hw (C := RX6) (T := TX6) (N := 13) i_X6_comes_X6 0 rfl rfl 0 (by decide) f_X6_comes_7 rfl dX6_comes_49 ?_
            refine lv_iload S.1 S.2.1 dX6_comes_52 (lv_at hl 5 rfl) ?_
            refine lv_aload_n S.1 S.2.1 dX6_comes_54 rfl (lv_at hl 0 rfl) ?_
            refine y_get S hw (C := RX6) (T := TX6) (N := 13) i_X6_comes_X6 0 rfl rfl 0 (by decide) f_X6_comes_7 rfl dX6_comes_55 ?_
            refine lv_iload S.1 S.2.1 dX6_comes_58 (lv_at hl 5 rfl) ?_
            refine lv_iconst (v := 5) S.1 S.2.1 dX6_comes_60 (by decide) ?_
            refine y_iaddN S (82 + i) 5 dX6_comes_61 ?_
            refine y_iald S hw 1 (k := ((82 + i) + 5)) rfl (by omega) (Nat.le_of_ble_eq_true rfl) dX6_comes_62 ?_
            refine y_iast S hw 1 (k := (82 + i)) rfl (by omega) (Nat.le_of_ble_eq_true rfl) dX6_comes_63 (ws' := [((q 0), .inr (6, [.ref (q 1), .ref (q 2), .ref (q 3), .int (u 3 0), .ref (q 4), .int (u 5 0), .ref (q 5), .int (u 7 0), .int (u 8 0), .int (u 9 0), .int (u 10 0), .int (u 11 0), .ref (q 6)])), ((q 1), .inl (cI, 162, .inl (upd gg (82 + i) (gg ((82 + i) + 5))))), ((q 2), .inl (cI, 162, .inl (u 1))), ((q 3), .inl (cI, 648, .inl (u 2))), ((q 4), .inl (cI, 60, .inl (u 4))), ((q 5), .inl (cI, 3, .inl (u 6))), ((q 6), .inl (cI, 3, .inl (u 12)))]) rfl (fun H locs hw => ?_)
            refine lv_iinc (v := (nI ((82 + i) + 1))) (lv' := [(5, .int (nI ((82 + i) + 1))), (0, .ref (q 0)), (1, .int hh), (2, .int x), (3, .int w), (4, .int o)]) S.1 S.2.1 dX6_comes_64 hl (k := 5) rfl (by first | exact nI_1 _ | exact nI_add _ _) (by decide) rfl (fun ls hl => ?_)
            refine lv_goto (tgt := 40) S.1 S.2.1 dX6_comes_67 (by decide) ?_
            exact ih40 (i + 1) (upd gg (82 + i) (gg ((82 + i) + 5))) (by omega) (by rw [hg]; rfl) (by rw [pk_un (by omega)]; exact h4) (by omega) _ _ ls hw (lv_sub hl [1, 2, 3, 4, 5, 0] rfl)
      exact lp40 ((75 - 0) + 1) 0 (u 0) (Nat.zero_le _) (rfl) (by first | exact hk | (rw [pk_un (by omega), pk_un (by omega)]; exact hk)) (Nat.lt_succ_self _) _ _ ls hw (lv_sub hl [1, 2, 3, 4, 5, 0] rfl)
  · skip
    obtain ⟨jw, hjw, ejw⟩ : ∃ j, j < 3 ∧ w = nI j := (hw0.resolve_left (fun z => by rw [z] at c_1; exact absurd c_1 (by decide)))
    refine lv_aload_n S.1 S.2.1 dX6_comes_4 rfl (lv_at hl 0 rfl) ?_
    refine y_get S hw (C := RX6) (T := TX6) (N := 13) i_X6_comes_X6 0 rfl rfl 0 (by decide) f_X6_comes_7 rfl dX6_comes_5 ?_
    refine lv_bipush (v := 40) S.1 S.2.1 dX6_comes_8 (by decide) ?_
    refine lv_iload_n S.1 S.2.1 dX6_comes_10 rfl (lv_at hl 3 rfl) ?_
    refine y_top (y := (nI jw)) (ejw) ?_
    refine y_iaddN S 40 jw dX6_comes_11 ?_
    refine lv_iload S.1 S.2.1 dX6_comes_12 (lv_at hl 4 rfl) ?_
    refine y_iast S hw 1 (k := (40 + jw)) rfl (by omega) (Nat.le_of_ble_eq_true rfl) dX6_comes_14 (ws' := [((q 0), .inr (6, [.ref (q 1), .ref (q 2), .ref (q 3), .int (u 3 0), .ref (q 4), .int (u 5 0), .ref (q 5), .int (u 7 0), .int (u 8 0), .int (u 9 0), .int (u 10 0), .int (u 11 0), .ref (q 6)])), ((q 1), .inl (cI, 162, .inl (upd (u 0) (40 + jw) o))), ((q 2), .inl (cI, 162, .inl (u 1))), ((q 3), .inl (cI, 648, .inl (u 2))), ((q 4), .inl (cI, 60, .inl (u 4))), ((q 5), .inl (cI, 3, .inl (u 6))), ((q 6), .inl (cI, 3, .inl (u 12)))]) rfl (fun H locs hw => ?_)
    refine lv_aload_n S.1 S.2.1 dX6_comes_15 rfl (lv_at hl 0 rfl) ?_
    refine y_get S hw (C := RX6) (T := TX6) (N := 13) i_X6_comes_X6 0 rfl rfl 0 (by decide) f_X6_comes_7 rfl dX6_comes_16 ?_
    refine lv_bipush (v := 43) S.1 S.2.1 dX6_comes_19 (by decide) ?_
    refine lv_iload_n S.1 S.2.1 dX6_comes_21 rfl (lv_at hl 3 rfl) ?_
    refine y_top (y := (nI jw)) (ejw) ?_
    refine y_iaddN S 43 jw dX6_comes_22 ?_
    refine lv_iload_n S.1 S.2.1 dX6_comes_23 rfl (lv_at hl 2 rfl) ?_
    refine y_iast S hw 1 (k := (43 + jw)) rfl (by omega) (Nat.le_of_ble_eq_true rfl) dX6_comes_24 (ws' := [((q 0), .inr (6, [.ref (q 1), .ref (q 2), .ref (q 3), .int (u 3 0), .ref (q 4), .int (u 5 0), .ref (q 5), .int (u 7 0), .int (u 8 0), .int (u 9 0), .int (u 10 0), .int (u 11 0), .ref (q 6)])), ((q 1), .inl (cI, 162, .inl (upd (upd (u 0) (40 + jw) o) (43 + jw) x))), ((q 2), .inl (cI, 162, .inl (u 1))), ((q 3), .inl (cI, 648, .inl (u 2))), ((q 4), .inl (cI, 60, .inl (u 4))), ((q 5), .inl (cI, 3, .inl (u 6))), ((q 6), .inl (cI, 3, .inl (u 12)))]) rfl (fun H locs hw => ?_)
    refine lv_aload_n S.1 S.2.1 dX6_comes_25 rfl (lv_at hl 0 rfl) ?_
    refine y_get S hw (C := RX6) (T := TX6) (N := 13) i_X6_comes_X6 0 rfl rfl 0 (by decide) f_X6_comes_7 rfl dX6_comes_26 ?_
    refine lv_iconst (v := 4) S.1 S.2.1 dX6_comes_29 (by decide) ?_
    refine y_iald S hw 1 (k := 4) rfl (by omega) (Nat.le_of_ble_eq_true rfl) dX6_comes_30 ?_
    refine y_top (y := ((upd (u 0) (40 + jw) o) 4)) (pk_un (by omega)) ?_
    refine y_top (y := ((u 0) 4)) (pk_un (by omega)) ?_
    refine y_top (y := (nI kp)) (hk) ?_
    refine lv_bipush (v := 16) S.1 S.2.1 dX6_comes_31 (by decide) ?_
    refine lv_icmp_ne (tgt := 80) S.1 S.2.1 dX6_comes_33 (by decide) (fun c_10 => ?_) (fun c_10 => ?_)
    · skip
      have c_10N : ¬ kp = 16 := fun z => c_10 ((nI_eq (a := kp) (b := 16) (by omega) (by omega)).mpr z)
      have hC1 : mC1 (u 0) w x o = (upd (upd (u 0) (40 + jw) o) (43 + jw) x) := by rw [mC1, if_neg c_1, ejw, nI_clamp (show jw < 2 ^ 31 by omega)]
      have hC2 : mC2 (mC1 (u 0) w x o) kp = (upd (upd (u 0) (40 + jw) o) (43 + jw) x) := by rw [mC2, if_neg c_10N, hC1]
      have hKq : mKq kp = kp := by rw [mKq, if_neg c_10N]
      have hF4 : (upd (upd (u 0) (40 + jw) o) (43 + jw) x) 4 = nI kp := by rw [pk_un (by omega), pk_un (by omega)]; exact hk
      refine lv_bipush (v := 82) S.1 S.2.1 dX6_comes_80 (by decide) ?_
      refine lv_iconst (v := 5) S.1 S.2.1 dX6_comes_82 (by decide) ?_
      refine lv_aload_n S.1 S.2.1 dX6_comes_83 rfl (lv_at hl 0 rfl) ?_
      refine y_get S hw (C := RX6) (T := TX6) (N := 13) i_X6_comes_X6 0 rfl rfl 0 (by decide) f_X6_comes_7 rfl dX6_comes_84 ?_
      refine lv_iconst (v := 4) S.1 S.2.1 dX6_comes_87 (by decide) ?_
      refine y_iald S hw 1 (k := 4) rfl (by omega) (Nat.le_of_ble_eq_true rfl) dX6_comes_88 ?_
      refine y_top (y := ((upd (u 0) (40 + jw) o) 4)) (pk_un (by omega)) ?_
      refine y_top (y := ((u 0) 4)) (pk_un (by omega)) ?_
      refine y_top (y := (nI kp)) (hk) ?_
      refine y_imulN S 5 kp dX6_comes_89 ?_
      refine y_iaddN S 82 (5 * kp) dX6_comes_90 ?_
      refine lv_istore (lv' := [(5, .int (nI (82 + (5 * kp)))), (0, .ref (q 0)), (1, .int hh), (2, .int x), (3, .int w), (4, .int o)]) S.1 S.2.1 dX6_comes_91 hl (by decide) rfl (fun ls hl => ?_)
      refine lv_aload_n S.1 S.2.1 dX6_comes_93 rfl (lv_at hl 1 rfl) ?_
      refine y_get S hw (C := RX6) (T := TX6) (N := 13) i_X6_comes_X6 0 rfl rfl 0 (by decide) f_X6_comes_7 rfl dX6_comes_94 ?_
      refine lv_iload S.1 S.2.1 dX6_comes_97 (lv_at hl 0 rfl) ?_
      refine lv_iconst (v := 0) S.1 S.2.1 dX6_comes_99 (by decide) ?_
      refine y_iaddN S (82 + (5 * kp)) 0 dX6_comes_100 ?_
      refine lv_iload_n S.1 S.2.1 dX6_comes_101 rfl (lv_at hl 2 rfl) ?_
      refine y_iast S hw 1 (k := ((82 + (5 * kp)) + 0)) rfl (by omega) (Nat.le_of_ble_eq_true rfl) dX6_comes_102 (ws' := [((q 0), .inr (6, [.ref (q 1), .ref (q 2), .ref (q 3), .int (u 3 0), .ref (q 4), .int (u 5 0), .ref (q 5), .int (u 7 0), .int (u 8 0), .int (u 9 0), .int (u 10 0), .int (u 11 0), .ref (q 6)])), ((q 1), .inl (cI, 162, .inl (upd (upd (upd (u 0) (40 + jw) o) (43 + jw) x) ((82 + (5 * kp)) + 0) hh))), ((q 2), .inl (cI, 162, .inl (u 1))), ((q 3), .inl (cI, 648, .inl (u 2))), ((q 4), .inl (cI, 60, .inl (u 4))), ((q 5), .inl (cI, 3, .inl (u 6))), ((q 6), .inl (cI, 3, .inl (u 12)))]) rfl (fun H locs hw => ?_)
      refine lv_aload_n S.1 S.2.1 dX6_comes_103 rfl (lv_at hl 1 rfl) ?_
      refine y_get S hw (C := RX6) (T := TX6) (N := 13) i_X6_comes_X6 0 rfl rfl 0 (by decide) f_X6_comes_7 rfl dX6_comes_104 ?_
      refine lv_iload S.1 S.2.1 dX6_comes_107 (lv_at hl 0 rfl) ?_
      refine lv_iconst (v := 1) S.1 S.2.1 dX6_comes_109 (by decide) ?_
      refine y_iaddN S (82 + (5 * kp)) 1 dX6_comes_110 ?_
      refine lv_iload_n S.1 S.2.1 dX6_comes_111 rfl (lv_at hl 3 rfl) ?_
      refine y_iast S hw 1 (k := ((82 + (5 * kp)) + 1)) rfl (by omega) (Nat.le_of_ble_eq_true rfl) dX6_comes_112 (ws' := [((q 0), .inr (6, [.ref (q 1), .ref (q 2), .ref (q 3), .int (u 3 0), .ref (q 4), .int (u 5 0), .ref (q 5), .int (u 7 0), .int (u 8 0), .int (u 9 0), .int (u 10 0), .int (u 11 0), .ref (q 6)])), ((q 1), .inl (cI, 162, .inl (upd (upd (upd (upd (u 0) (40 + jw) o) (43 + jw) x) ((82 + (5 * kp)) + 0) hh) ((82 + (5 * kp)) + 1) x))), ((q 2), .inl (cI, 162, .inl (u 1))), ((q 3), .inl (cI, 648, .inl (u 2))), ((q 4), .inl (cI, 60, .inl (u 4))), ((q 5), .inl (cI, 3, .inl (u 6))), ((q 6), .inl (cI, 3, .inl (u 12)))]) rfl (fun H locs hw => ?_)
      refine lv_aload_n S.1 S.2.1 dX6_comes_113 rfl (lv_at hl 1 rfl) ?_
      refine y_get S hw (C := RX6) (T := TX6) (N := 13) i_X6_comes_X6 0 rfl rfl 0 (by decide) f_X6_comes_7 rfl dX6_comes_114 ?_
      refine lv_iload S.1 S.2.1 dX6_comes_117 (lv_at hl 0 rfl) ?_
      refine lv_iconst (v := 2) S.1 S.2.1 dX6_comes_119 (by decide) ?_
      refine y_iaddN S (82 + (5 * kp)) 2 dX6_comes_120 ?_
      refine lv_iload S.1 S.2.1 dX6_comes_121 (lv_at hl 5 rfl) ?_
      refine y_iast S hw 1 (k := ((82 + (5 * kp)) + 2)) rfl (by omega) (Nat.le_of_ble_eq_true rfl) dX6_comes_123 (ws' := [((q 0), .inr (6, [.ref (q 1), .ref (q 2), .ref (q 3), .int (u 3 0), .ref (q 4), .int (u 5 0), .ref (q 5), .int (u 7 0), .int (u 8 0), .int (u 9 0), .int (u 10 0), .int (u 11 0), .ref (q 6)])), ((q 1), .inl (cI, 162, .inl (upd (upd (upd (upd (upd (u 0) (40 + jw) o) (43 + jw) x) ((82 + (5 * kp)) + 0) hh) ((82 + (5 * kp)) + 1) x) ((82 + (5 * kp)) + 2) o))), ((q 2), .inl (cI, 162, .inl (u 1))), ((q 3), .inl (cI, 648, .inl (u 2))), ((q 4), .inl (cI, 60, .inl (u 4))), ((q 5), .inl (cI, 3, .inl (u 6))), ((q 6), .inl (cI, 3, .inl (u 12)))]) rfl (fun H locs hw => ?_)
      refine lv_aload_n S.1 S.2.1 dX6_comes_124 rfl (lv_at hl 1 rfl) ?_
      refine y_get S hw (C := RX6) (T := TX6) (N := 13) i_X6_comes_X6 0 rfl rfl 0 (by decide) f_X6_comes_7 rfl dX6_comes_125 ?_
      refine lv_iload S.1 S.2.1 dX6_comes_128 (lv_at hl 0 rfl) ?_
      refine lv_iconst (v := 3) S.1 S.2.1 dX6_comes_130 (by decide) ?_
      refine y_iaddN S (82 + (5 * kp)) 3 dX6_comes_131 ?_
      refine lv_aload_n S.1 S.2.1 dX6_comes_132 rfl (lv_at hl 1 rfl) ?_
      have hX : mC0 u hh x w o kp = (va_up u 0 (upd (upd (upd (upd (upd (u 0) (40 + jw) o) (43 + jw) x) ((82 + (5 * kp)) + 0) hh) ((82 + (5 * kp)) + 1) x) ((82 + (5 * kp)) + 2) o)) := by
        unfold mC0 mC4
        rw [hC2, hKq]
      have hX4 : (upd (upd (upd (upd (upd (u 0) (40 + jw) o) (43 + jw) x) ((82 + (5 * kp)) + 0) hh) ((82 + (5 * kp)) + 1) x) ((82 + (5 * kp)) + 2) o) 4 = nI kp := by rw [pk_un (by omega), pk_un (by omega), pk_un (by omega)]; exact hF4
      refine lv_iload S.1 S.2.1 dX6_comes_133 (lv_at hl 5 rfl) ?_
      refine y_callI (As := [.int o]) (rest := [.int (nI ((82 + (5 * kp)) + 3)), .ref (q 1)]) S hw hl.1 (c_X6_mends l D cI cC cL q (va_up u 0 (upd (upd (upd (upd (upd (u 0) (40 + jw) o) (43 + jw) x) ((82 + (5 * kp)) + 0) hh) ((82 + (5 * kp)) + 1) x) ((82 + (5 * kp)) + 2) o)) o) (cwV 1 S.2.2.2.2 gX6_comes_X6_mends rfl rfl rfl (by decide +kernel) ⟨Nat.le_of_ble_eq_true rfl, Nat.le_of_ble_eq_true rfl⟩) 0 rfl rfl [0, 1, 2, 3, 4, 5, 6] [] rfl (by decide +kernel) (wr := []) rfl (by decide +kernel) (by decide +kernel) rfl (Nat.le_of_ble_eq_true rfl) dX6_comes_135 rfl ⟨Nat.le_refl _, Nat.le_refl _⟩ (fun H locs v_11 x_12 ev_11 ex_12 hw => ?_)
      have hw : y_W D cI cC cL A s H locs [((q 0), .inr (6, [.ref (q 1), .ref (q 2), .ref (q 3), .int (v_11 3 0), .ref (q 4), .int (v_11 5 0), .ref (q 5), .int (v_11 7 0), .int (v_11 8 0), .int (v_11 9 0), .int (v_11 10 0), .int (v_11 11 0), .ref (q 6)])), ((q 1), .inl (cI, 162, .inl (v_11 0))), ((q 2), .inl (cI, 162, .inl (v_11 1))), ((q 3), .inl (cI, 648, .inl (v_11 2))), ((q 4), .inl (cI, 60, .inl (v_11 4))), ((q 5), .inl (cI, 3, .inl (v_11 6))), ((q 6), .inl (cI, 3, .inl (v_11 12)))] := hw
      subst ex_12
      refine y_iast S hw 1 (k := ((82 + (5 * kp)) + 3)) rfl (by omega) (Nat.le_of_ble_eq_true rfl) dX6_comes_138 (ws' := [((q 0), .inr (6, [.ref (q 1), .ref (q 2), .ref (q 3), .int (v_11 3 0), .ref (q 4), .int (v_11 5 0), .ref (q 5), .int (v_11 7 0), .int (v_11 8 0), .int (v_11 9 0), .int (v_11 10 0), .int (v_11 11 0), .ref (q 6)])), ((q 1), .inl (cI, 162, .inl (upd (v_11 0) ((82 + (5 * kp)) + 3) (mMend (va_up u 0 (upd (upd (upd (upd (upd (u 0) (40 + jw) o) (43 + jw) x) ((82 + (5 * kp)) + 0) hh) ((82 + (5 * kp)) + 1) x) ((82 + (5 * kp)) + 2) o)) o)))), ((q 2), .inl (cI, 162, .inl (v_11 1))), ((q 3), .inl (cI, 648, .inl (v_11 2))), ((q 4), .inl (cI, 60, .inl (v_11 4))), ((q 5), .inl (cI, 3, .inl (v_11 6))), ((q 6), .inl (cI, 3, .inl (v_11 12)))]) rfl (fun H locs hw => ?_)
      refine lv_aload_n S.1 S.2.1 dX6_comes_139 rfl (lv_at hl 1 rfl) ?_
      refine y_get S hw (C := RX6) (T := TX6) (N := 13) i_X6_comes_X6 0 rfl rfl 0 (by decide) f_X6_comes_7 rfl dX6_comes_140 ?_
      refine lv_iload S.1 S.2.1 dX6_comes_143 (lv_at hl 0 rfl) ?_
      refine lv_iconst (v := 4) S.1 S.2.1 dX6_comes_145 (by decide) ?_
      refine y_iaddN S (82 + (5 * kp)) 4 dX6_comes_146 ?_
      refine lv_iload_n S.1 S.2.1 dX6_comes_147 rfl (lv_at hl 4 rfl) ?_
      refine y_top (y := (nI jw)) (ejw) ?_
      refine lv_if_lt (tgt := 155) S.1 S.2.1 dX6_comes_148 (by decide) (fun c_13 => ?_) (fun c_13 => ?_)
      · skip
        have c_13N : jw < 0 := (nI_ltI (a := jw) (b := 0) (by omega) (by omega)).mp c_13
        exact absurd c_13N (Nat.not_lt_zero _)
      · skip
        have c_13N : ¬ jw < 0 := fun z => c_13 ((nI_ltI (a := jw) (b := 0) (by omega) (by omega)).mpr z)
        refine lv_iconst (v := 1) S.1 S.2.1 dX6_comes_151 (by decide) ?_
        refine lv_goto (tgt := 156) S.1 S.2.1 dX6_comes_152 (by decide) ?_
        refine y_iast S hw 1 (k := ((82 + (5 * kp)) + 4)) rfl (by omega) (Nat.le_of_ble_eq_true rfl) dX6_comes_156 (ws' := [((q 0), .inr (6, [.ref (q 1), .ref (q 2), .ref (q 3), .int (v_11 3 0), .ref (q 4), .int (v_11 5 0), .ref (q 5), .int (v_11 7 0), .int (v_11 8 0), .int (v_11 9 0), .int (v_11 10 0), .int (v_11 11 0), .ref (q 6)])), ((q 1), .inl (cI, 162, .inl (upd (upd (v_11 0) ((82 + (5 * kp)) + 3) (mMend (va_up u 0 (upd (upd (upd (upd (upd (u 0) (40 + jw) o) (43 + jw) x) ((82 + (5 * kp)) + 0) hh) ((82 + (5 * kp)) + 1) x) ((82 + (5 * kp)) + 2) o)) o)) ((82 + (5 * kp)) + 4) 1))), ((q 2), .inl (cI, 162, .inl (v_11 1))), ((q 3), .inl (cI, 648, .inl (v_11 2))), ((q 4), .inl (cI, 60, .inl (v_11 4))), ((q 5), .inl (cI, 3, .inl (v_11 6))), ((q 6), .inl (cI, 3, .inl (v_11 12)))]) rfl (fun H locs hw => ?_)
        refine lv_aload_n S.1 S.2.1 dX6_comes_157 rfl (lv_at hl 1 rfl) ?_
        refine y_get S hw (C := RX6) (T := TX6) (N := 13) i_X6_comes_X6 0 rfl rfl 0 (by decide) f_X6_comes_7 rfl dX6_comes_158 ?_
        refine lv_iconst (v := 4) S.1 S.2.1 dX6_comes_161 (by decide) ?_
        refine lv_dup2_11 S.1 S.2.1 dX6_comes_162 rfl rfl ?_
        refine y_iald S hw 1 (k := 4) rfl (by omega) (Nat.le_of_ble_eq_true rfl) dX6_comes_163 ?_
        refine y_top (y := ((upd (v_11 0) ((82 + (5 * kp)) + 3) (mMend (va_up u 0 (upd (upd (upd (upd (upd (u 0) (40 + jw) o) (43 + jw) x) ((82 + (5 * kp)) + 0) hh) ((82 + (5 * kp)) + 1) x) ((82 + (5 * kp)) + 2) o)) o)) 4)) (pk_un (by omega)) ?_
        refine y_top (y := ((v_11 0) 4)) (pk_un (by omega)) ?_
        refine y_top (y := (nI kp)) (by rw [ev_11]; exact hX4) ?_
        refine lv_iconst (v := 1) S.1 S.2.1 dX6_comes_164 (by decide) ?_
        refine y_iaddN S kp 1 dX6_comes_165 ?_
        refine y_iast S hw 1 (k := 4) rfl (by omega) (Nat.le_of_ble_eq_true rfl) dX6_comes_166 (ws' := [((q 0), .inr (6, [.ref (q 1), .ref (q 2), .ref (q 3), .int (v_11 3 0), .ref (q 4), .int (v_11 5 0), .ref (q 5), .int (v_11 7 0), .int (v_11 8 0), .int (v_11 9 0), .int (v_11 10 0), .int (v_11 11 0), .ref (q 6)])), ((q 1), .inl (cI, 162, .inl (upd (upd (upd (v_11 0) ((82 + (5 * kp)) + 3) (mMend (va_up u 0 (upd (upd (upd (upd (upd (u 0) (40 + jw) o) (43 + jw) x) ((82 + (5 * kp)) + 0) hh) ((82 + (5 * kp)) + 1) x) ((82 + (5 * kp)) + 2) o)) o)) ((82 + (5 * kp)) + 4) 1) 4 (nI (kp + 1))))), ((q 2), .inl (cI, 162, .inl (v_11 1))), ((q 3), .inl (cI, 648, .inl (v_11 2))), ((q 4), .inl (cI, 60, .inl (v_11 4))), ((q 5), .inl (cI, 3, .inl (v_11 6))), ((q 6), .inl (cI, 3, .inl (v_11 12)))]) rfl (fun H locs hw => ?_)
        exact ret _ _ _ _ (by rw [show mCome u hh x w o kp = (va_up v_11 0 (upd (upd (upd (v_11 0) ((82 + (5 * kp)) + 3) (mMend (va_up u 0 (upd (upd (upd (upd (upd (u 0) (40 + jw) o) (43 + jw) x) ((82 + (5 * kp)) + 0) hh) ((82 + (5 * kp)) + 1) x) ((82 + (5 * kp)) + 2) o)) o)) ((82 + (5 * kp)) + 4) 1) 4 (nI (kp + 1)))) from by rw [mCome, hX, ev_11]; unfold mC7; rw [hKq, if_neg c_1]; rfl]; exact hw) dX6_comes_167
    · skip
      have c_10N : kp = 16 := (nI_eq (a := kp) (b := 16) (by omega) (by omega)).mp c_10
      refine lv_bipush (v := 82) S.1 S.2.1 dX6_comes_36 (by decide) ?_
      refine lv_istore (lv' := [(5, .int 82), (0, .ref (q 0)), (1, .int hh), (2, .int x), (3, .int w), (4, .int o)]) S.1 S.2.1 dX6_comes_38 hl (by decide) rfl (fun ls hl => ?_)
      have lp40 : ∀ (fuel : Nat) (i : Nat) (gg : V1), (i ≤ 75) → (gg = mDown (upd (upd (u 0) (40 + jw) o) (43 + jw) x) 82 5 i) → (gg 4 = nI kp) → (75 - i) < fuel → ∀ (H : Heap) (locs : List Loc) (ls : Array Slot), y_W D cI cC cL A s H locs [((q 0), .inr (6, [.ref (q 1), .ref (q 2), .ref (q 3), .int (u 3 0), .ref (q 4), .int (u 5 0), .ref (q 5), .int (u 7 0), .int (u 8 0), .int (u 9 0), .int (u 10 0), .int (u 11 0), .ref (q 6)])), ((q 1), .inl (cI, 162, .inl gg)), ((q 2), .inl (cI, 162, .inl (u 1))), ((q 3), .inl (cI, 648, .inl (u 2))), ((q 4), .inl (cI, 60, .inl (u 4))), ((q 5), .inl (cI, 3, .inl (u 6))), ((q 6), .inl (cI, 3, .inl (u 12)))] → lv_has ls 6 [(0, .ref (q 0)), (1, .int hh), (2, .int x), (3, .int w), (4, .int o), (5, .int (nI (82 + i)))] → W p l e (y_R 3 79) s mm args below meth c H locs 0 0 QQ (F0 mm 40 ls []) := by
        intro fuel
        induction fuel with
        | zero =>
          intro i gg hi hg h4 hfu
          exact absurd hfu (Nat.not_lt_zero _)
        | succ fuel ih40 =>
          intro i gg hi hg h4 hfu H locs ls hw hl
          refine lv_iload S.1 S.2.1 dX6_comes_40 (lv_at hl 5 rfl) ?_
          refine lv_sipush (v := 157) S.1 S.2.1 dX6_comes_42 (by decide) ?_
          refine lv_icmp_ge (tgt := 70) S.1 S.2.1 dX6_comes_45 (by decide) (fun c_14 => ?_) (fun c_14 => ?_)
          · skip
            have c_14N : 157 ≤ (82 + i) := (nI_leI (a := 157) (b := (82 + i)) (by omega) (by omega)).mp c_14
            refine lv_aload_n S.1 S.2.1 dX6_comes_70 rfl (lv_at hl 0 rfl) ?_
            refine y_get S hw (C := RX6) (T := TX6) (N := 13) i_X6_comes_X6 0 rfl rfl 0 (by decide) f_X6_comes_7 rfl dX6_comes_71 ?_
            refine lv_iconst (v := 4) S.1 S.2.1 dX6_comes_74 (by decide) ?_
            refine lv_dup2_11 S.1 S.2.1 dX6_comes_75 rfl rfl ?_
            refine y_iald S hw 1 (k := 4) rfl (by omega) (Nat.le_of_ble_eq_true rfl) dX6_comes_76 ?_
            refine y_top (y := (nI kp)) (h4) ?_
            refine lv_iconst (v := 1) S.1 S.2.1 dX6_comes_77 (by decide) ?_
            refine y_isubN S kp 1 (by omega) dX6_comes_78 ?_
            refine y_iast S hw 1 (k := 4) rfl (by omega) (Nat.le_of_ble_eq_true rfl) dX6_comes_79 (ws' := [((q 0), .inr (6, [.ref (q 1), .ref (q 2), .ref (q 3), .int (u 3 0), .ref (q 4), .int (u 5 0), .ref (q 5), .int (u 7 0), .int (u 8 0), .int (u 9 0), .int (u 10 0), .int (u 11 0), .ref (q 6)])), ((q 1), .inl (cI, 162, .inl (upd gg 4 (nI (kp - 1))))), ((q 2), .inl (cI, 162, .inl (u 1))), ((q 3), .inl (cI, 648, .inl (u 2))), ((q 4), .inl (cI, 60, .inl (u 4))), ((q 5), .inl (cI, 3, .inl (u 6))), ((q 6), .inl (cI, 3, .inl (u 12)))]) rfl (fun H locs hw => ?_)
            have hC1 : mC1 (u 0) w x o = (upd (upd (u 0) (40 + jw) o) (43 + jw) x) := by rw [mC1, if_neg c_1, ejw, nI_clamp (show jw < 2 ^ 31 by omega)]
            have hC2 : mC2 (mC1 (u 0) w x o) kp = (upd gg 4 (nI (kp - 1))) := by rw [mC2, if_pos c_10N, hg, show i = 75 from by omega, hC1]
            have hKq : mKq kp = (kp - 1) := by rw [mKq, if_pos c_10N]
            have hF4 : (upd gg 4 (nI (kp - 1))) 4 = nI (kp - 1) := by exact pk_us
            refine lv_bipush (v := 82) S.1 S.2.1 dX6_comes_80 (by decide) ?_
            refine lv_iconst (v := 5) S.1 S.2.1 dX6_comes_82 (by decide) ?_
            refine lv_aload_n S.1 S.2.1 dX6_comes_83 rfl (lv_at hl 0 rfl) ?_
            refine y_get S hw (C := RX6) (T := TX6) (N := 13) i_X6_comes_X6 0 rfl rfl 0 (by decide) f_X6_comes_7 rfl dX6_comes_84 ?_
            refine lv_iconst (v := 4) S.1 S.2.1 dX6_comes_87 (by decide) ?_
            refine y_iald S hw 1 (k := 4) rfl (by omega) (Nat.le_of_ble_eq_true rfl) dX6_comes_88 ?_
            refine y_top (y := (nI (kp - 1))) pk_us ?_
            refine y_imulN S 5 (kp - 1) dX6_comes_89 ?_
            refine y_iaddN S 82 (5 * (kp - 1)) dX6_comes_90 ?_
            refine lv_istore (lv' := [(5, .int (nI (82 + (5 * (kp - 1))))), (0, .ref (q 0)), (1, .int hh), (2, .int x), (3, .int w), (4, .int o)]) S.1 S.2.1 dX6_comes_91 hl (by decide) rfl (fun ls hl => ?_)
            refine lv_aload_n S.1 S.2.1 dX6_comes_93 rfl (lv_at hl 1 rfl) ?_
            refine y_get S hw (C := RX6) (T := TX6) (N := 13) i_X6_comes_X6 0 rfl rfl 0 (by decide) f_X6_comes_7 rfl dX6_comes_94 ?_
            refine lv_iload S.1 S.2.1 dX6_comes_97 (lv_at hl 0 rfl) ?_
            refine lv_iconst (v := 0) S.1 S.2.1 dX6_comes_99 (by decide) ?_
            refine y_iaddN S (82 + (5 * (kp - 1))) 0 dX6_comes_100 ?_
            refine lv_iload_n S.1 S.2.1 dX6_comes_101 rfl (lv_at hl 2 rfl) ?_
            refine y_iast S hw 1 (k := ((82 + (5 * (kp - 1))) + 0)) rfl (by omega) (Nat.le_of_ble_eq_true rfl) dX6_comes_102 (ws' := [((q 0), .inr (6, [.ref (q 1), .ref (q 2), .ref (q 3), .int (u 3 0), .ref (q 4), .int (u 5 0), .ref (q 5), .int (u 7 0), .int (u 8 0), .int (u 9 0), .int (u 10 0), .int (u 11 0), .ref (q 6)])), ((q 1), .inl (cI, 162, .inl (upd (upd gg 4 (nI (kp - 1))) ((82 + (5 * (kp - 1))) + 0) hh))), ((q 2), .inl (cI, 162, .inl (u 1))), ((q 3), .inl (cI, 648, .inl (u 2))), ((q 4), .inl (cI, 60, .inl (u 4))), ((q 5), .inl (cI, 3, .inl (u 6))), ((q 6), .inl (cI, 3, .inl (u 12)))]) rfl (fun H locs hw => ?_)
            refine lv_aload_n S.1 S.2.1 dX6_comes_103 rfl (lv_at hl 1 rfl) ?_
            refine y_get S hw (C := RX6) (T := TX6) (N := 13) i_X6_comes_X6 0 rfl rfl 0 (by decide) f_X6_comes_7 rfl dX6_comes_104 ?_
            refine lv_iload S.1 S.2.1 dX6_comes_107 (lv_at hl 0 rfl) ?_
            refine lv_iconst (v := 1) S.1 S.2.1 dX6_comes_109 (by decide) ?_
            refine y_iaddN S (82 + (5 * (kp - 1))) 1 dX6_comes_110 ?_
            refine lv_iload_n S.1 S.2.1 dX6_comes_111 rfl (lv_at hl 3 rfl) ?_
            refine y_iast S hw 1 (k := ((82 + (5 * (kp - 1))) + 1)) rfl (by omega) (Nat.le_of_ble_eq_true rfl) dX6_comes_112 (ws' := [((q 0), .inr (6, [.ref (q 1), .ref (q 2), .ref (q 3), .int (u 3 0), .ref (q 4), .int (u 5 0), .ref (q 5), .int (u 7 0), .int (u 8 0), .int (u 9 0), .int (u 10 0), .int (u 11 0), .ref (q 6)])), ((q 1), .inl (cI, 162, .inl (upd (upd (upd gg 4 (nI (kp - 1))) ((82 + (5 * (kp - 1))) + 0) hh) ((82 + (5 * (kp - 1))) + 1) x))), ((q 2), .inl (cI, 162, .inl (u 1))), ((q 3), .inl (cI, 648, .inl (u 2))), ((q 4), .inl (cI, 60, .inl (u 4))), ((q 5), .inl (cI, 3, .inl (u 6))), ((q 6), .inl (cI, 3, .inl (u 12)))]) rfl (fun H locs hw => ?_)
            refine lv_aload_n S.1 S.2.1 dX6_comes_113 rfl (lv_at hl 1 rfl) ?_
            refine y_get S hw (C := RX6) (T := TX6) (N := 13) i_X6_comes_X6 0 rfl rfl 0 (by decide) f_X6_comes_7 rfl dX6_comes_114 ?_
            refine lv_iload S.1 S.2.1 dX6_comes_117 (lv_at hl 0 rfl) ?_
            refine lv_iconst (v := 2) S.1 S.2.1 dX6_comes_119 (by decide) ?_
            refine y_iaddN S (82 + (5 * (kp - 1))) 2 dX6_comes_120 ?_
            refine lv_iload S.1 S.2.1 dX6_comes_121 (lv_at hl 5 rfl) ?_
            refine y_iast S hw 1 (k := ((82 + (5 * (kp - 1))) + 2)) rfl (by omega) (Nat.le_of_ble_eq_true rfl) dX6_comes_123 (ws' := [((q 0), .inr (6, [.ref (q 1), .ref (q 2), .ref (q 3), .int (u 3 0), .ref (q 4), .int (u 5 0), .ref (q 5), .int (u 7 0), .int (u 8 0), .int (u 9 0), .int (u 10 0), .int (u 11 0), .ref (q 6)])), ((q 1), .inl (cI, 162, .inl (upd (upd (upd (upd gg 4 (nI (kp - 1))) ((82 + (5 * (kp - 1))) + 0) hh) ((82 + (5 * (kp - 1))) + 1) x) ((82 + (5 * (kp - 1))) + 2) o))), ((q 2), .inl (cI, 162, .inl (u 1))), ((q 3), .inl (cI, 648, .inl (u 2))), ((q 4), .inl (cI, 60, .inl (u 4))), ((q 5), .inl (cI, 3, .inl (u 6))), ((q 6), .inl (cI, 3, .inl (u 12)))]) rfl (fun H locs hw => ?_)
            refine lv_aload_n S.1 S.2.1 dX6_comes_124 rfl (lv_at hl 1 rfl) ?_
            refine y_get S hw (C := RX6) (T := TX6) (N := 13) i_X6_comes_X6 0 rfl rfl 0 (by decide) f_X6_comes_7 rfl dX6_comes_125 ?_
            refine lv_iload S.1 S.2.1 dX6_comes_128 (lv_at hl 0 rfl) ?_
            refine lv_iconst (v := 3) S.1 S.2.1 dX6_comes_130 (by decide) ?_
            refine y_iaddN S (82 + (5 * (kp - 1))) 3 dX6_comes_131 ?_
            refine lv_aload_n S.1 S.2.1 dX6_comes_132 rfl (lv_at hl 1 rfl) ?_
            have hX : mC0 u hh x w o kp = (va_up u 0 (upd (upd (upd (upd gg 4 (nI (kp - 1))) ((82 + (5 * (kp - 1))) + 0) hh) ((82 + (5 * (kp - 1))) + 1) x) ((82 + (5 * (kp - 1))) + 2) o)) := by
              unfold mC0 mC4
              rw [hC2, hKq]
            have hX4 : (upd (upd (upd (upd gg 4 (nI (kp - 1))) ((82 + (5 * (kp - 1))) + 0) hh) ((82 + (5 * (kp - 1))) + 1) x) ((82 + (5 * (kp - 1))) + 2) o) 4 = nI (kp - 1) := by rw [pk_un (by omega), pk_un (by omega), pk_un (by omega)]; exact hF4
            refine lv_iload S.1 S.2.1 dX6_comes_133 (lv_at hl 5 rfl) ?_
            refine y_callI (As := [.int o]) (rest := [.int (nI ((82 + (5 * (kp - 1))) + 3)), .ref (q 1)]) S hw hl.1 (c_X6_mends l D cI cC cL q (va_up u 0 (upd (upd (upd (upd gg 4 (nI (kp - 1))) ((82 + (5 * (kp - 1))) + 0) hh) ((82 + (5 * (kp - 1))) + 1) x) ((82 + (5 * (kp - 1))) + 2) o)) o) (cwV 1 S.2.2.2.2 gX6_comes_X6_mends rfl rfl rfl (by decide +kernel) ⟨Nat.le_of_ble_eq_true rfl, Nat.le_of_ble_eq_true rfl⟩) 0 rfl rfl [0, 1, 2, 3, 4, 5, 6] [] rfl (by decide +kernel) (wr := []) rfl (by decide +kernel) (by decide +kernel) rfl (Nat.le_of_ble_eq_true rfl) dX6_comes_135 rfl ⟨Nat.le_refl _, Nat.le_refl _⟩ (fun H locs v_15 x_16 ev_15 ex_16 hw => ?_)
            have hw : y_W D cI cC cL A s H locs [((q 0), .inr (6, [.ref (q 1), .ref (q 2), .ref (q 3), .int (v_15 3 0), .ref (q 4), .int (v_15 5 0), .ref (q 5), .int (v_15 7 0), .int (v_15 8 0), .int (v_15 9 0), .int (v_15 10 0), .int (v_15 11 0), .ref (q 6)])), ((q 1), .inl (cI, 162, .inl (v_15 0))), ((q 2), .inl (cI, 162, .inl (v_15 1))), ((q 3), .inl (cI, 648, .inl (v_15 2))), ((q 4), .inl (cI, 60, .inl (v_15 4))), ((q 5), .inl (cI, 3, .inl (v_15 6))), ((q 6), .inl (cI, 3, .inl (v_15 12)))] := hw
            subst ex_16
            refine y_iast S hw 1 (k := ((82 + (5 * (kp - 1))) + 3)) rfl (by omega) (Nat.le_of_ble_eq_true rfl) dX6_comes_138 (ws' := [((q 0), .inr (6, [.ref (q 1), .ref (q 2), .ref (q 3), .int (v_15 3 0), .ref (q 4), .int (v_15 5 0), .ref (q 5), .int (v_15 7 0), .int (v_15 8 0), .int (v_15 9 0), .int (v_15 10 0), .int (v_15 11 0), .ref (q 6)])), ((q 1), .inl (cI, 162, .inl (upd (v_15 0) ((82 + (5 * (kp - 1))) + 3) (mMend (va_up u 0 (upd (upd (upd (upd gg 4 (nI (kp - 1))) ((82 + (5 * (kp - 1))) + 0) hh) ((82 + (5 * (kp - 1))) + 1) x) ((82 + (5 * (kp - 1))) + 2) o)) o)))), ((q 2), .inl (cI, 162, .inl (v_15 1))), ((q 3), .inl (cI, 648, .inl (v_15 2))), ((q 4), .inl (cI, 60, .inl (v_15 4))), ((q 5), .inl (cI, 3, .inl (v_15 6))), ((q 6), .inl (cI, 3, .inl (v_15 12)))]) rfl (fun H locs hw => ?_)
            refine lv_aload_n S.1 S.2.1 dX6_comes_139 rfl (lv_at hl 1 rfl) ?_
            refine y_get S hw (C := RX6) (T := TX6) (N := 13) i_X6_comes_X6 0 rfl rfl 0 (by decide) f_X6_comes_7 rfl dX6_comes_140 ?_
            refine lv_iload S.1 S.2.1 dX6_comes_143 (lv_at hl 0 rfl) ?_
            refine lv_iconst (v := 4) S.1 S.2.1 dX6_comes_145 (by decide) ?_
            refine y_iaddN S (82 + (5 * (kp - 1))) 4 dX6_comes_146 ?_
            refine lv_iload_n S.1 S.2.1 dX6_comes_147 rfl (lv_at hl 4 rfl) ?_
            refine y_top (y := (nI jw)) (ejw) ?_
            refine lv_if_lt (tgt := 155) S.1 S.2.1 dX6_comes_148 (by decide) (fun c_17 => ?_) (fun c_17 => ?_)
            · skip
              have c_17N : jw < 0 := (nI_ltI (a := jw) (b := 0) (by omega) (by omega)).mp c_17
              exact absurd c_17N (Nat.not_lt_zero _)
            · skip
              have c_17N : ¬ jw < 0 := fun z => c_17 ((nI_ltI (a := jw) (b := 0) (by omega) (by omega)).mpr z)
              refine lv_iconst (v := 1) S.1 S.2.1 dX6_comes_151 (by decide) ?_
              refine lv_goto (tgt := 156) S.1 S.2.1 dX6_comes_152 (by decide) ?_
              refine y_iast S hw 1 (k := ((82 + (5 * (kp - 1))) + 4)) rfl (by omega) (Nat.le_of_ble_eq_true rfl) dX6_comes_156 (ws' := [((q 0), .inr (6, [.ref (q 1), .ref (q 2), .ref (q 3), .int (v_15 3 0), .ref (q 4), .int (v_15 5 0), .ref (q 5), .int (v_15 7 0), .int (v_15 8 0), .int (v_15 9 0), .int (v_15 10 0), .int (v_15 11 0), .ref (q 6)])), ((q 1), .inl (cI, 162, .inl (upd (upd (v_15 0) ((82 + (5 * (kp - 1))) + 3) (mMend (va_up u 0 (upd (upd (upd (upd gg 4 (nI (kp - 1))) ((82 + (5 * (kp - 1))) + 0) hh) ((82 + (5 * (kp - 1))) + 1) x) ((82 + (5 * (kp - 1))) + 2) o)) o)) ((82 + (5 * (kp - 1))) + 4) 1))), ((q 2), .inl (cI, 162, .inl (v_15 1))), ((q 3), .inl (cI, 648, .inl (v_15 2))), ((q 4), .inl (cI, 60, .inl (v_15 4))), ((q 5), .inl (cI, 3, .inl (v_15 6))), ((q 6), .inl (cI, 3, .inl (v_15 12)))]) rfl (fun H locs hw => ?_)
              refine lv_aload_n S.1 S.2.1 dX6_comes_157 rfl (lv_at hl 1 rfl) ?_
              refine y_get S hw (C := RX6) (T := TX6) (N := 13) i_X6_comes_X6 0 rfl rfl 0 (by decide) f_X6_comes_7 rfl dX6_comes_158 ?_
              refine lv_iconst (v := 4) S.1 S.2.1 dX6_comes_161 (by decide) ?_
              refine lv_dup2_11 S.1 S.2.1 dX6_comes_162 rfl rfl ?_
              refine y_iald S hw 1 (k := 4) rfl (by omega) (Nat.le_of_ble_eq_true rfl) dX6_comes_163 ?_
              refine y_top (y := ((upd (v_15 0) ((82 + (5 * (kp - 1))) + 3) (mMend (va_up u 0 (upd (upd (upd (upd gg 4 (nI (kp - 1))) ((82 + (5 * (kp - 1))) + 0) hh) ((82 + (5 * (kp - 1))) + 1) x) ((82 + (5 * (kp - 1))) + 2) o)) o)) 4)) (pk_un (by omega)) ?_
              refine y_top (y := ((v_15 0) 4)) (pk_un (by omega)) ?_
              refine y_top (y := (nI (kp - 1))) (by rw [ev_15]; exact hX4) ?_
              refine lv_iconst (v := 1) S.1 S.2.1 dX6_comes_164 (by decide) ?_
              refine y_iaddN S (kp - 1) 1 dX6_comes_165 ?_
              refine y_iast S hw 1 (k := 4) rfl (by omega) (Nat.le_of_ble_eq_true rfl) dX6_comes_166 (ws' := [((q 0), .inr (6, [.ref (q 1), .ref (q 2), .ref (q 3), .int (v_15 3 0), .ref (q 4), .int (v_15 5 0), .ref (q 5), .int (v_15 7 0), .int (v_15 8 0), .int (v_15 9 0), .int (v_15 10 0), .int (v_15 11 0), .ref (q 6)])), ((q 1), .inl (cI, 162, .inl (upd (upd (upd (v_15 0) ((82 + (5 * (kp - 1))) + 3) (mMend (va_up u 0 (upd (upd (upd (upd gg 4 (nI (kp - 1))) ((82 + (5 * (kp - 1))) + 0) hh) ((82 + (5 * (kp - 1))) + 1) x) ((82 + (5 * (kp - 1))) + 2) o)) o)) ((82 + (5 * (kp - 1))) + 4) 1) 4 (nI ((kp - 1) + 1))))), ((q 2), .inl (cI, 162, .inl (v_15 1))), ((q 3), .inl (cI, 648, .inl (v_15 2))), ((q 4), .inl (cI, 60, .inl (v_15 4))), ((q 5), .inl (cI, 3, .inl (v_15 6))), ((q 6), .inl (cI, 3, .inl (v_15 12)))]) rfl (fun H locs hw => ?_)
              exact ret _ _ _ _ (by rw [show mCome u hh x w o kp = (va_up v_15 0 (upd (upd (upd (v_15 0) ((82 + (5 * (kp - 1))) + 3) (mMend (va_up u 0 (upd (upd (upd (upd gg 4 (nI (kp - 1))) ((82 + (5 * (kp - 1))) + 0) hh) ((82 + (5 * (kp - 1))) + 1) x) ((82 + (5 * (kp - 1))) + 2) o)) o)) ((82 + (5 * (kp - 1))) + 4) 1) 4 (nI ((kp - 1) + 1)))) from by rw [mCome, hX, ev_15]; unfold mC7; rw [hKq, if_neg c_1]; rfl]; exact hw) dX6_comes_167
          · skip
            have c_14N : ¬ 157 ≤ (82 + i) := fun z => c_14 ((nI_leI (a := 157) (b := (82 + i)) (by omega) (by omega)).mpr z)
            refine lv_aload_n S.1 S.2.1 dX6_comes_48 rfl (lv_at hl 0 rfl) ?_
            refine y_get S hw (C := RX6) (T := TX6) (N := 13) i_X6_comes_X6 0 rfl rfl 0 (by decide) f_X6_comes_7 rfl dX6_comes_49 ?_
            refine lv_iload S.1 S.2.1 dX6_comes_52 (lv_at hl 5 rfl) ?_
            refine lv_aload_n S.1 S.2.1 dX6_comes_54 rfl (lv_at hl 0 rfl) ?_
            refine y_get S hw (C := RX6) (T := TX6) (N := 13) i_X6_comes_X6 0 rfl rfl 0 (by decide) f_X6_comes_7 rfl dX6_comes_55 ?_
            refine lv_iload S.1 S.2.1 dX6_comes_58 (lv_at hl 5 rfl) ?_
            refine lv_iconst (v := 5) S.1 S.2.1 dX6_comes_60 (by decide) ?_
            refine y_iaddN S (82 + i) 5 dX6_comes_61 ?_
            refine y_iald S hw 1 (k := ((82 + i) + 5)) rfl (by omega) (Nat.le_of_ble_eq_true rfl) dX6_comes_62 ?_
            refine y_iast S hw 1 (k := (82 + i)) rfl (by omega) (Nat.le_of_ble_eq_true rfl) dX6_comes_63 (ws' := [((q 0), .inr (6, [.ref (q 1), .ref (q 2), .ref (q 3), .int (u 3 0), .ref (q 4), .int (u 5 0), .ref (q 5), .int (u 7 0), .int (u 8 0), .int (u 9 0), .int (u 10 0), .int (u 11 0), .ref (q 6)])), ((q 1), .inl (cI, 162, .inl (upd gg (82 + i) (gg ((82 + i) + 5))))), ((q 2), .inl (cI, 162, .inl (u 1))), ((q 3), .inl (cI, 648, .inl (u 2))), ((q 4), .inl (cI, 60, .inl (u 4))), ((q 5), .inl (cI, 3, .inl (u 6))), ((q 6), .inl (cI, 3, .inl (u 12)))]) rfl (fun H locs hw => ?_)
            refine lv_iinc (v := (nI ((82 + i) + 1))) (lv' := [(5, .int (nI ((82 + i) + 1))), (0, .ref (q 0)), (1, .int hh), (2, .int x), (3, .int w), (4, .int o)]) S.1 S.2.1 dX6_comes_64 hl (k := 5) rfl (by first | exact nI_1 _ | exact nI_add _ _) (by decide) rfl (fun ls hl => ?_)
            refine lv_goto (tgt := 40) S.1 S.2.1 dX6_comes_67 (by decide) ?_
            exact ih40 (i + 1) (upd gg (82 + i) (gg ((82 + i) + 5))) (by omega) (by rw [hg]; rfl) (by rw [pk_un (by omega)]; exact h4) (by omega) _ _ ls hw (lv_sub hl [1, 2, 3, 4, 5, 0] rfl)
      exact lp40 ((75 - 0) + 1) 0 (upd (upd (u 0) (40 + jw) o) (43 + jw) x) (Nat.zero_le _) (rfl) (by first | exact hk | (rw [pk_un (by omega), pk_un (by omega)]; exact hk)) (Nat.lt_succ_self _) _ _ ls hw (lv_sub hl [1, 2, 3, 4, 5, 0] rfl)
