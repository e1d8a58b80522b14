set_option maxHeartbeats 4000000 in
set_option maxRecDepth 100000 in
/-- Float.isNaN -/
theorem c_Jxf58ca_isNaN_12338 (l : Launch) (D : va_G) (cI cC cL : ClassId) (x : UInt32) : y_MI l yJxf58ca_isNaN_12338 wsJxf58ca_isNaN_12338 0 0 D cI cC cL [.float x] [] (fNaN x) (fun _ : Unit => []) () := by
  refine y_startIF (cc := cJxf58ca_isNaN_12338) (maxL := 1) (ret := some .boolean) (by decide +kernel) rfl (Nat.le_of_ble_eq_true rfl) ⟨_, rfl, fun x h => by rcases h rfl with rfl | rfl <;> rfl⟩ (fun _ => fNaN_01) ?_
  intro p e s mm args below meth c A QQ ls S hw ret hl
  have S : CallFix p mm c cJxf58ca_isNaN_12338 1 s args wsJxf58ca_isNaN_12338 RJxf58ca := S
  have hw : y_W D cI cC cL A s s.heap [] [] := hw
  have hl : lv_has ls 1 [(0, .float x)] := hl
  refine lv_fload_n S.1 S.2.1 dJxf58ca_isNaN_12338_0 rfl (lv_at hl 0 rfl) ?_
  refine lv_fload_n S.1 S.2.1 dJxf58ca_isNaN_12338_1 rfl (lv_at hl 0 rfl) ?_
  refine lv_fcmp S.1 S.2.1 dJxf58ca_isNaN_12338_2 ?_
  refine lv_if_eq (tgt := 10) S.1 S.2.1 dJxf58ca_isNaN_12338_3 (by decide) (fun c_1 => ?_) (fun c_1 => ?_)
  · skip
    refine lv_iconst (v := 0) S.1 S.2.1 dJxf58ca_isNaN_12338_10 (by decide) ?_
    exact ret _ _ _ _ _ (by exact hw) (by unfold fNaN; first | rw [if_pos c_1] | rw [if_neg c_1]) dJxf58ca_isNaN_12338_11
  · skip
    refine lv_iconst (v := 1) S.1 S.2.1 dJxf58ca_isNaN_12338_6 (by decide) ?_
    refine lv_goto (tgt := 11) S.1 S.2.1 dJxf58ca_isNaN_12338_7 (by decide) ?_
    exact ret _ _ _ _ _ (by exact hw) (by unfold fNaN; first | rw [if_pos c_1] | rw [if_neg c_1]) dJxf58ca_isNaN_12338_11

theorem k_Jxf58ca_floatToIntBits_5c35a_77 : Cond.constant RJxf58ca 77 (2143289344) ∈ wsJxf58ca_floatToIntBits_5c35a := by decide +kernel
theorem w_Jxf58ca_floatToIntBits_5c35a_rb74_0 : Cond.methodLink RJxf58ca 74 ⟨"java/lang/Float", "floatToRawIntBits", "(F)I"⟩ ∈ wsJxf58ca_floatToIntBits_5c35a := by decide +kernel
theorem w_Jxf58ca_floatToIntBits_5c35a_rb74_1 : Cond.native ⟨"java/lang/Float", "floatToRawIntBits", "(F)I"⟩ ∈ wsJxf58ca_floatToIntBits_5c35a := by decide +kernel
theorem w_Jxf58ca_floatToIntBits_5c35a_rb74_2 : Cond.static ⟨"java/lang/Float", "floatToRawIntBits", "(F)I"⟩ ∈ wsJxf58ca_floatToIntBits_5c35a := by decide +kernel
theorem w_Jxf58ca_floatToIntBits_5c35a_rb74_3 : Cond.initialized "java/lang/Float" ∈ wsJxf58ca_floatToIntBits_5c35a := by decide +kernel
set_option maxHeartbeats 4000000 in
set_option maxRecDepth 100000 in
/-- Float.floatToIntBits -/
theorem c_Jxf58ca_floatToIntBits_5c35a (l : Launch) (D : va_G) (cI cC cL : ClassId) (x : UInt32) : y_MI l yJxf58ca_floatToIntBits_5c35a wsJxf58ca_floatToIntBits_5c35a 1 20 D cI cC cL [.float x] [] (fBits x) (fun _ : Unit => []) () := by
  refine y_startIF (cc := cJxf58ca_floatToIntBits_5c35a) (maxL := 1) (ret := some .int) (by decide +kernel) rfl (Nat.le_of_ble_eq_true rfl) ⟨_, rfl, fun x _ => rfl⟩ (fun h => by cases h) ?_
  intro p e s mm args below meth c A QQ ls S hw ret hl
  have S : CallFix p mm c cJxf58ca_floatToIntBits_5c35a 1 s args wsJxf58ca_floatToIntBits_5c35a RJxf58ca := S
  have hw : y_W D cI cC cL A s s.heap [] [] := hw
  have hl : lv_has ls 1 [(0, .float x)] := hl
  refine lv_fload_n S.1 S.2.1 dJxf58ca_floatToIntBits_5c35a_0 rfl (lv_at hl 0 rfl) ?_
  refine y_callSI (As := [.float x]) (rest := []) S hw hl.1 (c_Jxf58ca_isNaN_12338 l D cI cC cL x) (va_cwS 1 S.2.2.2.2 gJxf58ca_floatToIntBits_5c35a_Jxf58ca_isNaN_12338 rfl rfl rfl (by decide +kernel) ⟨Nat.le_of_ble_eq_true rfl, Nat.le_of_ble_eq_true rfl⟩) [] [] rfl (by decide +kernel) (wr := []) rfl (by decide +kernel) (by decide +kernel) rfl (Nat.le_of_ble_eq_true rfl) dJxf58ca_floatToIntBits_5c35a_1 rfl ⟨Nat.le_refl _, Nat.le_refl _⟩ (fun H locs v_1 x_2 ev_1 ex_2 hw => ?_)
  have hw : y_W D cI cC cL A s H locs [] := hw
  subst ex_2
  refine lv_if_ne (tgt := 12) S.1 S.2.1 dJxf58ca_floatToIntBits_5c35a_4 (by decide) (fun c_3 => ?_) (fun c_3 => ?_)
  · skip
    refine lv_ldc (v := 2143289344) S.1 S.2.1 S.2.2.2.1 (S.2.2.2.2 _ k_Jxf58ca_floatToIntBits_5c35a_77) dJxf58ca_floatToIntBits_5c35a_12 ?_
    exact ret _ _ _ _ _ (by exact hw) (by unfold fBits; first | rw [if_pos c_3] | rw [if_neg c_3]) dJxf58ca_floatToIntBits_5c35a_14
  · skip
    refine lv_fload_n S.1 S.2.1 dJxf58ca_floatToIntBits_5c35a_7 rfl (lv_at hl 0 rfl) ?_
    refine vn_f2i S.1 S.2.1 (by rw [S.2.2.1, hl.1]) S.2.2.2.1 (S.2.2.2.2 _ w_Jxf58ca_floatToIntBits_5c35a_rb74_0) (S.2.2.2.2 _ w_Jxf58ca_floatToIntBits_5c35a_rb74_1) (S.2.2.2.2 _ w_Jxf58ca_floatToIntBits_5c35a_rb74_2) (S.2.2.2.2 _ w_Jxf58ca_floatToIntBits_5c35a_rb74_3) (b := x) (rest := []) (Nat.le_of_ble_eq_true rfl) (Nat.le_of_ble_eq_true rfl) dJxf58ca_floatToIntBits_5c35a_8 ?_
    exact ret _ _ _ _ _ (by exact hw) (by unfold fBits; first | rw [if_pos c_3] | rw [if_neg c_3]) dJxf58ca_floatToIntBits_5c35a_11

theorem i_X6_errors_X6 : ∀ w ∈ u_ws RX6 TX6 13, w ∈ wsX6_errors := by decide +kernel
theorem f_X6_errors_7 : Cond.fieldLink RX6 7 "ChargeLinesModel" "s" "[I" ∈ wsX6_errors := by decide +kernel
theorem k_X6_errors_128 : Cond.constant RX6 128 (100000000) ∈ wsX6_errors := by decide +kernel
theorem k_X6_errors_117 : Cond.constant RX6 117 (-2000004) ∈ wsX6_errors := by decide +kernel
theorem k_X6_errors_69 : Cond.constant RX6 69 (-2000001) ∈ wsX6_errors := by decide +kernel
set_option maxHeartbeats 4000000 in
set_option maxRecDepth 100000 in
/-- Model.errors -/
theorem c_X6_errors (l : Launch) (D : va_G) (cI cC cL : ClassId) (q : Nat → Nat) (u : U) (x : Int32) (k : Nat) (hk : u 0 4 = nI k) (hk16 : k ≤ 16) (hfd : ¬ nI (mErN (u 0) k) = 0 → vf_n32 (mErF (u 0) k)) : y_MI l yX6_errors wsX6_errors 2 43 D cI cC cL [.ref (q 0), .int x] (cMd cI q u) (mErsR (u 0) x k) (fun _ : Unit => cMd cI q u) () := by
  refine y_startI (cc := cX6_errors) (maxL := 7) (ret := some .int) (by decide +kernel) rfl (Nat.le_of_ble_eq_true rfl) ⟨_, rfl, fun x _ => rfl⟩ (fun h => by cases h) ?_
  intro p e s mm args below meth c A QQ ls S hw ret hl
  have S : CallFix p mm c cX6_errors 7 s args wsX6_errors RX6 := S
  have hw : y_W D cI cC cL A s s.heap [] [((q 0), .inr (6, [.ref (q 1), .ref (q 2), .ref (q 3), .int (u 3 0), .ref (q 4), .int (u 5 0), .ref (q 5), .int (u 7 0), .int (u 8 0), .int (u 9 0), .int (u 10 0), .int (u 11 0), .ref (q 6)])), ((q 1), .inl (cI, 162, .inl (u 0))), ((q 2), .inl (cI, 162, .inl (u 1))), ((q 3), .inl (cI, 648, .inl (u 2))), ((q 4), .inl (cI, 60, .inl (u 4))), ((q 5), .inl (cI, 3, .inl (u 6))), ((q 6), .inl (cI, 3, .inl (u 12)))] := hw
  have hl : lv_has ls 7 [(0, .ref (q 0)), (1, .int x)] := hl
  refine lv_iload_n S.1 S.2.1 dX6_errors_0 rfl (lv_at hl 1 rfl) ?_
  refine lv_iconst (v := 0) S.1 S.2.1 dX6_errors_1 (by decide) ?_
  refine lv_iconst (v := 3) S.1 S.2.1 dX6_errors_2 (by decide) ?_
  refine y_callSI (As := [.int x, .int 0, .int 3]) (rest := []) S hw hl.1 (c_X6_in l D cI cC cL x 0 3) (va_cwS 3 S.2.2.2.2 gX6_errors_X6_in rfl rfl rfl (by decide +kernel) ⟨Nat.le_of_ble_eq_true rfl, Nat.le_of_ble_eq_true rfl⟩) [] [0, 1, 2, 3, 4, 5, 6] rfl (by decide +kernel) (wr := [((q 0), .inr (6, [.ref (q 1), .ref (q 2), .ref (q 3), .int (u 3 0), .ref (q 4), .int (u 5 0), .ref (q 5), .int (u 7 0), .int (u 8 0), .int (u 9 0), .int (u 10 0), .int (u 11 0), .ref (q 6)])), ((q 1), .inl (cI, 162, .inl (u 0))), ((q 2), .inl (cI, 162, .inl (u 1))), ((q 3), .inl (cI, 648, .inl (u 2))), ((q 4), .inl (cI, 60, .inl (u 4))), ((q 5), .inl (cI, 3, .inl (u 6))), ((q 6), .inl (cI, 3, .inl (u 12)))]) rfl (by decide +kernel) (by decide +kernel) rfl (Nat.le_of_ble_eq_true rfl) dX6_errors_3 rfl ⟨Nat.le_refl _, Nat.le_refl _⟩ (fun H locs v_1 x_2 ev_1 ex_2 hw => ?_)
  have hw : y_W D cI cC cL A s H locs [((q 0), .inr (6, [.ref (q 1), .ref (q 2), .ref (q 3), .int (u 3 0), .ref (q 4), .int (u 5 0), .ref (q 5), .int (u 7 0), .int (u 8 0), .int (u 9 0), .int (u 10 0), .int (u 11 0), .ref (q 6)])), ((q 1), .inl (cI, 162, .inl (u 0))), ((q 2), .inl (cI, 162, .inl (u 1))), ((q 3), .inl (cI, 648, .inl (u 2))), ((q 4), .inl (cI, 60, .inl (u 4))), ((q 5), .inl (cI, 3, .inl (u 6))), ((q 6), .inl (cI, 3, .inl (u 12)))] := hw
  subst ex_2
  refine lv_if_ne (tgt := 12) S.1 S.2.1 dX6_errors_6 (by decide) (fun c_3 => ?_) (fun c_3 => ?_)
  · skip
    refine lv_iconst (v := 0) S.1 S.2.1 dX6_errors_12 (by decide) ?_
    refine lv_istore_n (lv' := [(2, .int 0), (0, .ref (q 0)), (1, .int x)]) S.1 S.2.1 dX6_errors_13 rfl hl (by decide) rfl (fun ls hl => ?_)
    refine lv_iconst (v := 0) S.1 S.2.1 dX6_errors_14 (by decide) ?_
    refine lv_istore_n (lv' := [(3, .int 0), (2, .int 0), (0, .ref (q 0)), (1, .int x)]) S.1 S.2.1 dX6_errors_15 rfl hl (by decide) rfl (fun ls hl => ?_)
    refine lv_iconst (v := 0) S.1 S.2.1 dX6_errors_16 (by decide) ?_
    refine lv_istore (lv' := [(4, .int 0), (3, .int 0), (2, .int 0), (0, .ref (q 0)), (1, .int x)]) S.1 S.2.1 dX6_errors_17 hl (by decide) rfl (fun ls hl => ?_)
    refine lv_iconst (v := 0) S.1 S.2.1 dX6_errors_19 (by decide) ?_
    refine lv_istore (lv' := [(5, .int 0), (4, .int 0), (3, .int 0), (2, .int 0), (0, .ref (q 0)), (1, .int x)]) S.1 S.2.1 dX6_errors_20 hl (by decide) rfl (fun ls hl => ?_)
    refine lv_iconst (v := 0) S.1 S.2.1 dX6_errors_22 (by decide) ?_
    refine lv_istore (lv' := [(6, .int 0), (5, .int 0), (4, .int 0), (3, .int 0), (2, .int 0), (0, .ref (q 0)), (1, .int x)]) S.1 S.2.1 dX6_errors_23 hl (by decide) rfl (fun ls hl => ?_)
    have lp25 : ∀ (fuel : Nat) (i : Nat) (c1 : Nat) (z3 : Int32) (z4 : Int32) (z5 : Int32), (i ≤ k) → (c1 ≤ i) → (c1 = mErN (u 0) i) → (z3 = mErG (u 0) i) → (z4 = mErS (u 0) i) → (z5 = mErZ (u 0) i) → (k - i) < fuel → ∀ (H : Heap) (locs : List Loc) (ls : Array Slot), y_W D cI cC cL A s H locs [((q 0), .inr (6, [.ref (q 1), .ref (q 2), .ref (q 3), .int (u 3 0), .ref (q 4), .int (u 5 0), .ref (q 5), .int (u 7 0), .int (u 8 0), .int (u 9 0), .int (u 10 0), .int (u 11 0), .ref (q 6)])), ((q 1), .inl (cI, 162, .inl (u 0))), ((q 2), .inl (cI, 162, .inl (u 1))), ((q 3), .inl (cI, 648, .inl (u 2))), ((q 4), .inl (cI, 60, .inl (u 4))), ((q 5), .inl (cI, 3, .inl (u 6))), ((q 6), .inl (cI, 3, .inl (u 12)))] → lv_has ls 7 [(0, .ref (q 0)), (1, .int x), (2, .int (nI c1)), (3, .int z3), (4, .int z4), (5, .int z5), (6, .int (nI i))] → W p l e (y_R 2 43) s mm args below meth c H locs 0 0 QQ (F0 mm 25 ls []) := by
      intro fuel
      induction fuel with
      | zero =>
        intro i c1 z3 z4 z5 hi hc1i hc1 hz3 hz4 hz5 hfu
        exact absurd hfu (Nat.not_lt_zero _)
      | succ fuel ih25 =>
        intro i c1 z3 z4 z5 hi hc1i hc1 hz3 hz4 hz5 hfu H locs ls hw hl
        refine lv_iload S.1 S.2.1 dX6_errors_25 (lv_at hl 6 rfl) ?_
        refine lv_aload_n S.1 S.2.1 dX6_errors_27 rfl (lv_at hl 0 rfl) ?_
        refine y_get S hw (C := RX6) (T := TX6) (N := 13) i_X6_errors_X6 0 rfl rfl 0 (by decide) f_X6_errors_7 rfl dX6_errors_28 ?_
        refine lv_iconst (v := 4) S.1 S.2.1 dX6_errors_31 (by decide) ?_
        refine y_iald S hw 1 (k := 4) rfl (by omega) (Nat.le_of_ble_eq_true rfl) dX6_errors_32 ?_
        refine y_top (y := (nI k)) (hk) ?_
        refine lv_icmp_ge (tgt := 107) S.1 S.2.1 dX6_errors_33 (by decide) (fun c_4 => ?_) (fun c_4 => ?_)
        · skip
          have c_4N : k ≤ i := (nI_leI (a := k) (b := i) (by omega) (by omega)).mp c_4
          have hik : i = k := (by omega)
          refine lv_iload_n S.1 S.2.1 dX6_errors_107 rfl (lv_at hl 1 rfl) ?_
          refine lv_if_ne (tgt := 113) S.1 S.2.1 dX6_errors_108 (by decide) (fun c_5 => ?_) (fun c_5 => ?_)
          · skip
            refine lv_iload_n S.1 S.2.1 dX6_errors_113 rfl (lv_at hl 2 rfl) ?_
            refine lv_if_ne (tgt := 120) S.1 S.2.1 dX6_errors_114 (by decide) (fun c_6 => ?_) (fun c_6 => ?_)
            · skip
              have c_6N : ¬ c1 = 0 := fun z => c_6 ((nI_eq (a := c1) (b := 0) (by omega) (by omega)).mpr z)
              have HN := c_6
              refine lv_iload_n S.1 S.2.1 dX6_errors_120 rfl (lv_at hl 1 rfl) ?_
              refine lv_iconst (v := 1) S.1 S.2.1 dX6_errors_121 (by decide) ?_
              refine lv_icmp_ne (tgt := 129) S.1 S.2.1 dX6_errors_122 (by decide) (fun c_7 => ?_) (fun c_7 => ?_)
              · skip
                refine lv_iload_n S.1 S.2.1 dX6_errors_129 rfl (lv_at hl 1 rfl) ?_
                refine lv_iconst (v := 2) S.1 S.2.1 dX6_errors_130 (by decide) ?_
                refine lv_icmp_ne (tgt := 142) S.1 S.2.1 dX6_errors_131 (by decide) (fun c_8 => ?_) (fun c_8 => ?_)
                · skip
                  refine lv_iload S.1 S.2.1 dX6_errors_142 (lv_at hl 5 rfl) ?_
                  refine lv_i2f S.1 S.2.1 dX6_errors_144 ?_
                  refine lv_iload_n S.1 S.2.1 dX6_errors_145 rfl (lv_at hl 2 rfl) ?_
                  refine lv_i2f S.1 S.2.1 dX6_errors_146 ?_
                  refine lv_fdiv S.1 S.2.1 dX6_errors_147 (show vf_n32 (FP.fdiv (FP.i2f z5) (FP.i2f (nI c1))) from by rw [hz5, hc1, hik]; exact hfd (by rw [← hik, ← hc1]; exact HN)) ?_
                  refine y_callSI (As := [.float (FP.fdiv (FP.i2f z5) (FP.i2f (nI c1)))]) (rest := []) S hw hl.1 (c_Jxf58ca_floatToIntBits_5c35a l D cI cC cL (FP.fdiv (FP.i2f z5) (FP.i2f (nI c1)))) (va_cwS 1 S.2.2.2.2 gX6_errors_Jxf58ca_floatToIntBits_5c35a rfl rfl rfl (by decide +kernel) ⟨Nat.le_of_ble_eq_true rfl, Nat.le_of_ble_eq_true rfl⟩) [] [0, 1, 2, 3, 4, 5, 6] rfl (by decide +kernel) (wr := [((q 0), .inr (6, [.ref (q 1), .ref (q 2), .ref (q 3), .int (u 3 0), .ref (q 4), .int (u 5 0), .ref (q 5), .int (u 7 0), .int (u 8 0), .int (u 9 0), .int (u 10 0), .int (u 11 0), .ref (q 6)])), ((q 1), .inl (cI, 162, .inl (u 0))), ((q 2), .inl (cI, 162, .inl (u 1))), ((q 3), .inl (cI, 648, .inl (u 2))), ((q 4), .inl (cI, 60, .inl (u 4))), ((q 5), .inl (cI, 3, .inl (u 6))), ((q 6), .inl (cI, 3, .inl (u 12)))]) rfl (by decide +kernel) (by decide +kernel) rfl (Nat.le_of_ble_eq_true rfl) dX6_errors_148 rfl ⟨Nat.le_refl _, Nat.le_refl _⟩ (fun H locs v_9 x_10 ev_9 ex_10 hw => ?_)
                  have hw : y_W D cI cC cL A s H locs [((q 0), .inr (6, [.ref (q 1), .ref (q 2), .ref (q 3), .int (u 3 0), .ref (q 4), .int (u 5 0), .ref (q 5), .int (u 7 0), .int (u 8 0), .int (u 9 0), .int (u 10 0), .int (u 11 0), .ref (q 6)])), ((q 1), .inl (cI, 162, .inl (u 0))), ((q 2), .inl (cI, 162, .inl (u 1))), ((q 3), .inl (cI, 648, .inl (u 2))), ((q 4), .inl (cI, 60, .inl (u 4))), ((q 5), .inl (cI, 3, .inl (u 6))), ((q 6), .inl (cI, 3, .inl (u 12)))] := hw
                  subst ex_10
                  exact ret _ _ _ _ _ (by exact hw) (by unfold mErsR; rw [hik] at hc1 hz3 hz4 hz5; unfold mErF; rw [← hc1, ← hz3, ← hz4, ← hz5]; rw [if_neg c_3, if_pos c_5, if_pos c_6, if_pos c_7, if_pos c_8]) dX6_errors_151
                · skip
                  refine lv_iload S.1 S.2.1 dX6_errors_134 (lv_at hl 4 rfl) ?_
                  refine lv_ldc (v := 100000000) S.1 S.2.1 S.2.2.2.1 (S.2.2.2.2 _ k_X6_errors_128) dX6_errors_136 ?_
                  refine lv_iadd S.1 S.2.1 dX6_errors_138 ?_
                  refine lv_goto (tgt := 151) S.1 S.2.1 dX6_errors_139 (by decide) ?_
                  exact ret _ _ _ _ _ (by exact hw) (by unfold mErsR; rw [hik] at hc1 hz3 hz4 hz5; unfold mErF; rw [← hc1, ← hz3, ← hz4, ← hz5]; rw [if_neg c_3, if_pos c_5, if_pos c_6, if_pos c_7, if_neg (not_not_intro c_8)]) dX6_errors_151
              · skip
                refine lv_iload_n S.1 S.2.1 dX6_errors_125 rfl (lv_at hl 3 rfl) ?_
                refine lv_goto (tgt := 151) S.1 S.2.1 dX6_errors_126 (by decide) ?_
                exact ret _ _ _ _ _ (by exact hw) (by unfold mErsR; rw [hik] at hc1 hz3 hz4 hz5; unfold mErF; rw [← hc1, ← hz3, ← hz4, ← hz5]; rw [if_neg c_3, if_pos c_5, if_pos c_6, if_neg (not_not_intro c_7)]) dX6_errors_151
            · skip
              have c_6N : c1 = 0 := (nI_eq (a := c1) (b := 0) (by omega) (by omega)).mp c_6
              refine lv_ldc (v := (-2000004)) S.1 S.2.1 S.2.2.2.1 (S.2.2.2.2 _ k_X6_errors_117) dX6_errors_117 ?_
              exact ret _ _ _ _ _ (by exact hw) (by unfold mErsR; rw [hik] at hc1 hz3 hz4 hz5; unfold mErF; rw [← hc1, ← hz3, ← hz4, ← hz5]; rw [if_neg c_3, if_pos c_5, if_neg (not_not_intro c_6)]) dX6_errors_119
          · skip
            refine lv_iload_n S.1 S.2.1 dX6_errors_111 rfl (lv_at hl 2 rfl) ?_
            exact ret _ _ _ _ _ (by exact hw) (by unfold mErsR; rw [hik] at hc1 hz3 hz4 hz5; unfold mErF; rw [← hc1, ← hz3, ← hz4, ← hz5]; rw [if_neg c_3, if_neg (not_not_intro c_5)]) dX6_errors_112
        · skip
          have c_4N : ¬ k ≤ i := fun z => c_4 ((nI_leI (a := k) (b := i) (by omega) (by omega)).mpr z)
          refine lv_aload_n S.1 S.2.1 dX6_errors_36 rfl (lv_at hl 0 rfl) ?_
          refine lv_iload S.1 S.2.1 dX6_errors_37 (lv_at hl 6 rfl) ?_
          refine lv_iconst (v := 4) S.1 S.2.1 dX6_errors_39 (by decide) ?_
          refine y_callI (As := [.int (nI i), .int 4]) (rest := []) S hw hl.1 (c_X6_of l D cI cC cL q u i 4 (by omega) (by omega)) (cwV 2 S.2.2.2.2 gX6_errors_X6_of rfl rfl rfl (by decide +kernel) ⟨Nat.le_of_ble_eq_true rfl, Nat.le_of_ble_eq_true rfl⟩) 0 rfl rfl [0, 1, 2, 3, 4, 5, 6] [] rfl (by decide +kernel) (wr := []) rfl (by decide +kernel) (by decide +kernel) rfl (Nat.le_of_ble_eq_true rfl) dX6_errors_40 rfl ⟨Nat.le_refl _, Nat.le_refl _⟩ (fun H locs v_11 x_12 ev_11 ex_12 hw => ?_)
          have hw : y_W D cI cC cL A s H locs [((q 0), .inr (6, [.ref (q 1), .ref (q 2), .ref (q 3), .int (u 3 0), .ref (q 4), .int (u 5 0), .ref (q 5), .int (u 7 0), .int (u 8 0), .int (u 9 0), .int (u 10 0), .int (u 11 0), .ref (q 6)])), ((q 1), .inl (cI, 162, .inl (u 0))), ((q 2), .inl (cI, 162, .inl (u 1))), ((q 3), .inl (cI, 648, .inl (u 2))), ((q 4), .inl (cI, 60, .inl (u 4))), ((q 5), .inl (cI, 3, .inl (u 6))), ((q 6), .inl (cI, 3, .inl (u 12)))] := hw
          subst ex_12
          refine y_top (y := ((u 0) (82 + 5 * i + 4))) rfl ?_
          refine lv_if_ne (tgt := 101) S.1 S.2.1 dX6_errors_43 (by decide) (fun c_13 => ?_) (fun c_13 => ?_)
          · skip
            refine lv_iinc (v := (nI (i + 1))) (lv' := [(6, .int (nI (i + 1))), (0, .ref (q 0)), (1, .int x), (2, .int (nI c1)), (3, .int z3), (4, .int z4), (5, .int z5)]) S.1 S.2.1 dX6_errors_101 hl (k := 6) rfl (by first | exact nI_1 _ | exact nI_add _ _) (by decide) rfl (fun ls hl => ?_)
            refine lv_goto (tgt := 25) S.1 S.2.1 dX6_errors_104 (by decide) ?_
            exact ih25 (i + 1) c1 z3 z4 z5 (by omega) (by omega) (by rw [hc1, mErN, if_neg c_13]) (by rw [hz3, mErG, if_neg c_13]) (by rw [hz4, mErS, if_neg c_13]) (by rw [hz5, mErZ, if_neg c_13]) (by omega) _ _ ls hw (lv_sub hl [1, 2, 3, 4, 5, 6, 0] rfl)
          · skip
            have hof := c_13
            refine lv_iinc (v := (nI (c1 + 1))) (lv' := [(2, .int (nI (c1 + 1))), (0, .ref (q 0)), (1, .int x), (3, .int z3), (4, .int z4), (5, .int z5), (6, .int (nI i))]) S.1 S.2.1 dX6_errors_46 hl (k := 2) rfl (by first | exact nI_1 _ | exact nI_add _ _) (by decide) rfl (fun ls hl => ?_)
            refine lv_iload S.1 S.2.1 dX6_errors_49 (lv_at hl 4 rfl) ?_
            refine lv_aload_n S.1 S.2.1 dX6_errors_51 rfl (lv_at hl 1 rfl) ?_
            refine lv_iload S.1 S.2.1 dX6_errors_52 (lv_at hl 6 rfl) ?_
            refine y_callI (As := [.int (nI i)]) (rest := [.int z4]) S hw hl.1 (c_X6_error l D cI cC cL q u i (by omega)) (cwV 1 S.2.2.2.2 gX6_errors_X6_error rfl rfl rfl (by decide +kernel) ⟨Nat.le_of_ble_eq_true rfl, Nat.le_of_ble_eq_true rfl⟩) 0 rfl rfl [0, 1, 2, 3, 4, 5, 6] [] rfl (by decide +kernel) (wr := []) rfl (by decide +kernel) (by decide +kernel) rfl (Nat.le_of_ble_eq_true rfl) dX6_errors_54 rfl ⟨Nat.le_refl _, Nat.le_refl _⟩ (fun H locs v_14 x_15 ev_14 ex_15 hw => ?_)
            have hw : y_W D cI cC cL A s H locs [((q 0), .inr (6, [.ref (q 1), .ref (q 2), .ref (q 3), .int (u 3 0), .ref (q 4), .int (u 5 0), .ref (q 5), .int (u 7 0), .int (u 8 0), .int (u 9 0), .int (u 10 0), .int (u 11 0), .ref (q 6)])), ((q 1), .inl (cI, 162, .inl (u 0))), ((q 2), .inl (cI, 162, .inl (u 1))), ((q 3), .inl (cI, 648, .inl (u 2))), ((q 4), .inl (cI, 60, .inl (u 4))), ((q 5), .inl (cI, 3, .inl (u 6))), ((q 6), .inl (cI, 3, .inl (u 12)))] := hw
            subst ex_15
            refine y_top (y := (mErr (u 0) i)) rfl ?_
            refine lv_iadd S.1 S.2.1 dX6_errors_57 ?_
            refine lv_istore (lv' := [(4, .int (z4 + (mErr (u 0) i))), (2, .int (nI (c1 + 1))), (0, .ref (q 0)), (1, .int x), (3, .int z3), (5, .int z5), (6, .int (nI i))]) S.1 S.2.1 dX6_errors_58 hl (by decide) rfl (fun ls hl => ?_)
            refine lv_iload S.1 S.2.1 dX6_errors_60 (lv_at hl 5 rfl) ?_
            refine lv_aload_n S.1 S.2.1 dX6_errors_62 rfl (lv_at hl 2 rfl) ?_
            refine lv_iload S.1 S.2.1 dX6_errors_63 (lv_at hl 6 rfl) ?_
            refine y_callI (As := [.int (nI i)]) (rest := [.int z5]) S hw hl.1 (c_X6_error l D cI cC cL q u i (by omega)) (cwV 1 S.2.2.2.2 gX6_errors_X6_error rfl rfl rfl (by decide +kernel) ⟨Nat.le_of_ble_eq_true rfl, Nat.le_of_ble_eq_true rfl⟩) 0 rfl rfl [0, 1, 2, 3, 4, 5, 6] [] rfl (by decide +kernel) (wr := []) rfl (by decide +kernel) (by decide +kernel) rfl (Nat.le_of_ble_eq_true rfl) dX6_errors_65 rfl ⟨Nat.le_refl _, Nat.le_refl _⟩ (fun H locs v_16 x_17 ev_16 ex_17 hw => ?_)
            have hw : y_W D cI cC cL A s H locs [((q 0), .inr (6, [.ref (q 1), .ref (q 2), .ref (q 3), .int (u 3 0), .ref (q 4), .int (u 5 0), .ref (q 5), .int (u 7 0), .int (u 8 0), .int (u 9 0), .int (u 10 0), .int (u 11 0), .ref (q 6)])), ((q 1), .inl (cI, 162, .inl (u 0))), ((q 2), .inl (cI, 162, .inl (u 1))), ((q 3), .inl (cI, 648, .inl (u 2))), ((q 4), .inl (cI, 60, .inl (u 4))), ((q 5), .inl (cI, 3, .inl (u 6))), ((q 6), .inl (cI, 3, .inl (u 12)))] := hw
            subst ex_17
            refine y_top (y := (mErr (u 0) i)) rfl ?_
            refine y_callSI (As := [.int (mErr (u 0) i)]) (rest := [.int z5]) S hw hl.1 (c_X6_size l D cI cC cL (mErr (u 0) i)) (va_cwS 1 S.2.2.2.2 gX6_errors_X6_size rfl rfl rfl (by decide +kernel) ⟨Nat.le_of_ble_eq_true rfl, Nat.le_of_ble_eq_true rfl⟩) [] [0, 1, 2, 3, 4, 5, 6] rfl (by decide +kernel) (wr := [((q 0), .inr (6, [.ref (q 1), .ref (q 2), .ref (q 3), .int (u 3 0), .ref (q 4), .int (u 5 0), .ref (q 5), .int (u 7 0), .int (u 8 0), .int (u 9 0), .int (u 10 0), .int (u 11 0), .ref (q 6)])), ((q 1), .inl (cI, 162, .inl (u 0))), ((q 2), .inl (cI, 162, .inl (u 1))), ((q 3), .inl (cI, 648, .inl (u 2))), ((q 4), .inl (cI, 60, .inl (u 4))), ((q 5), .inl (cI, 3, .inl (u 6))), ((q 6), .inl (cI, 3, .inl (u 12)))]) rfl (by decide +kernel) (by decide +kernel) rfl (Nat.le_of_ble_eq_true rfl) dX6_errors_68 rfl ⟨Nat.le_refl _, Nat.le_refl _⟩ (fun H locs v_18 x_19 ev_18 ex_19 hw => ?_)
            have hw : y_W D cI cC cL A s H locs [((q 0), .inr (6, [.ref (q 1), .ref (q 2), .ref (q 3), .int (u 3 0), .ref (q 4), .int (u 5 0), .ref (q 5), .int (u 7 0), .int (u 8 0), .int (u 9 0), .int (u 10 0), .int (u 11 0), .ref (q 6)])), ((q 1), .inl (cI, 162, .inl (u 0))), ((q 2), .inl (cI, 162, .inl (u 1))), ((q 3), .inl (cI, 648, .inl (u 2))), ((q 4), .inl (cI, 60, .inl (u 4))), ((q 5), .inl (cI, 3, .inl (u 6))), ((q 6), .inl (cI, 3, .inl (u 12)))] := hw
            subst ex_19
            refine lv_iadd S.1 S.2.1 dX6_errors_71 ?_
            refine lv_istore (lv' := [(5, .int (z5 + (mSize (mErr (u 0) i)))), (4, .int (z4 + (mErr (u 0) i))), (2, .int (nI (c1 + 1))), (0, .ref (q 0)), (1, .int x), (3, .int z3), (6, .int (nI i))]) S.1 S.2.1 dX6_errors_72 hl (by decide) rfl (fun ls hl => ?_)
            refine lv_aload_n S.1 S.2.1 dX6_errors_74 rfl (lv_at hl 3 rfl) ?_
            refine lv_iload S.1 S.2.1 dX6_errors_75 (lv_at hl 6 rfl) ?_
            refine y_callI (As := [.int (nI i)]) (rest := []) S hw hl.1 (c_X6_error l D cI cC cL q u i (by omega)) (cwV 1 S.2.2.2.2 gX6_errors_X6_error rfl rfl rfl (by decide +kernel) ⟨Nat.le_of_ble_eq_true rfl, Nat.le_of_ble_eq_true rfl⟩) 0 rfl rfl [0, 1, 2, 3, 4, 5, 6] [] rfl (by decide +kernel) (wr := []) rfl (by decide +kernel) (by decide +kernel) rfl (Nat.le_of_ble_eq_true rfl) dX6_errors_77 rfl ⟨Nat.le_refl _, Nat.le_refl _⟩ (fun H locs v_20 x_21 ev_20 ex_21 hw => ?_)
            have hw : y_W D cI cC cL A s H locs [((q 0), .inr (6, [.ref (q 1), .ref (q 2), .ref (q 3), .int (u 3 0), .ref (q 4), .int (u 5 0), .ref (q 5), .int (u 7 0), .int (u 8 0), .int (u 9 0), .int (u 10 0), .int (u 11 0), .ref (q 6)])), ((q 1), .inl (cI, 162, .inl (u 0))), ((q 2), .inl (cI, 162, .inl (u 1))), ((q 3), .inl (cI, 648, .inl (u 2))), ((q 4), .inl (cI, 60, .inl (u 4))), ((q 5), .inl (cI, 3, .inl (u 6))), ((q 6), .inl (cI, 3, .inl (u 12)))] := hw
            subst ex_21
            refine y_top (y := (mErr (u 0) i)) rfl ?_
            refine y_callSI (As := [.int (mErr (u 0) i)]) (rest := []) S hw hl.1 (c_X6_size l D cI cC cL (mErr (u 0) i)) (va_cwS 1 S.2.2.2.2 gX6_errors_X6_size rfl rfl rfl (by decide +kernel) ⟨Nat.le_of_ble_eq_true rfl, Nat.le_of_ble_eq_true rfl⟩) [] [0, 1, 2, 3, 4, 5, 6] rfl (by decide +kernel) (wr := [((q 0), .inr (6, [.ref (q 1), .ref (q 2), .ref (q 3), .int (u 3 0), .ref (q 4), .int (u 5 0), .ref (q 5), .int (u 7 0), .int (u 8 0), .int (u 9 0), .int (u 10 0), .int (u 11 0), .ref (q 6)])), ((q 1), .inl (cI, 162, .inl (u 0))), ((q 2), .inl (cI, 162, .inl (u 1))), ((q 3), .inl (cI, 648, .inl (u 2))), ((q 4), .inl (cI, 60, .inl (u 4))), ((q 5), .inl (cI, 3, .inl (u 6))), ((q 6), .inl (cI, 3, .inl (u 12)))]) rfl (by decide +kernel) (by decide +kernel) rfl (Nat.le_of_ble_eq_true rfl) dX6_errors_80 rfl ⟨Nat.le_refl _, Nat.le_refl _⟩ (fun H locs v_22 x_23 ev_22 ex_23 hw => ?_)
            have hw : y_W D cI cC cL A s H locs [((q 0), .inr (6, [.ref (q 1), .ref (q 2), .ref (q 3), .int (u 3 0), .ref (q 4), .int (u 5 0), .ref (q 5), .int (u 7 0), .int (u 8 0), .int (u 9 0), .int (u 10 0), .int (u 11 0), .ref (q 6)])), ((q 1), .inl (cI, 162, .inl (u 0))), ((q 2), .inl (cI, 162, .inl (u 1))), ((q 3), .inl (cI, 648, .inl (u 2))), ((q 4), .inl (cI, 60, .inl (u 4))), ((q 5), .inl (cI, 3, .inl (u 6))), ((q 6), .inl (cI, 3, .inl (u 12)))] := hw
            subst ex_23
            refine lv_iload_n S.1 S.2.1 dX6_errors_83 rfl (lv_at hl 5 rfl) ?_
            refine lv_icmp_le (tgt := 99) S.1 S.2.1 dX6_errors_84 (by decide) (fun c_24 => ?_) (fun c_24 => ?_)
            · skip
              refine lv_iload_n S.1 S.2.1 dX6_errors_99 rfl (lv_at hl 5 rfl) ?_
              refine lv_istore_n (lv' := [(3, .int z3), (5, .int (z5 + (mSize (mErr (u 0) i)))), (4, .int (z4 + (mErr (u 0) i))), (2, .int (nI (c1 + 1))), (0, .ref (q 0)), (1, .int x), (6, .int (nI i))]) S.1 S.2.1 dX6_errors_100 rfl hl (by decide) rfl (fun ls hl => ?_)
              refine lv_iinc (v := (nI (i + 1))) (lv' := [(6, .int (nI (i + 1))), (3, .int z3), (5, .int (z5 + (mSize (mErr (u 0) i)))), (4, .int (z4 + (mErr (u 0) i))), (2, .int (nI (c1 + 1))), (0, .ref (q 0)), (1, .int x)]) S.1 S.2.1 dX6_errors_101 hl (k := 6) rfl (by first | exact nI_1 _ | exact nI_add _ _) (by decide) rfl (fun ls hl => ?_)
              refine lv_goto (tgt := 25) S.1 S.2.1 dX6_errors_104 (by decide) ?_
              exact ih25 (i + 1) (c1 + 1) z3 (z4 + (mErr (u 0) i)) (z5 + (mSize (mErr (u 0) i))) (by omega) (by omega) (by rw [hc1, mErN, if_pos hof]) (by rw [mErG, if_pos hof, if_pos (by rw [← hz3]; exact c_24)]; exact hz3) (by rw [hz4, mErS, if_pos hof]) (by rw [hz5, mErZ, if_pos hof]) (by omega) _ _ ls hw (lv_sub hl [5, 6, 4, 1, 3, 2, 0] rfl)
            · skip
              refine lv_aload_n S.1 S.2.1 dX6_errors_87 rfl (lv_at hl 3 rfl) ?_
              refine lv_iload S.1 S.2.1 dX6_errors_88 (lv_at hl 6 rfl) ?_
              refine y_callI (As := [.int (nI i)]) (rest := []) S hw hl.1 (c_X6_error l D cI cC cL q u i (by omega)) (cwV 1 S.2.2.2.2 gX6_errors_X6_error rfl rfl rfl (by decide +kernel) ⟨Nat.le_of_ble_eq_true rfl, Nat.le_of_ble_eq_true rfl⟩) 0 rfl rfl [0, 1, 2, 3, 4, 5, 6] [] rfl (by decide +kernel) (wr := []) rfl (by decide +kernel) (by decide +kernel) rfl (Nat.le_of_ble_eq_true rfl) dX6_errors_90 rfl ⟨Nat.le_refl _, Nat.le_refl _⟩ (fun H locs v_25 x_26 ev_25 ex_26 hw => ?_)
              have hw : y_W D cI cC cL A s H locs [((q 0), .inr (6, [.ref (q 1), .ref (q 2), .ref (q 3), .int (u 3 0), .ref (q 4), .int (u 5 0), .ref (q 5), .int (u 7 0), .int (u 8 0), .int (u 9 0), .int (u 10 0), .int (u 11 0), .ref (q 6)])), ((q 1), .inl (cI, 162, .inl (u 0))), ((q 2), .inl (cI, 162, .inl (u 1))), ((q 3), .inl (cI, 648, .inl (u 2))), ((q 4), .inl (cI, 60, .inl (u 4))), ((q 5), .inl (cI, 3, .inl (u 6))), ((q 6), .inl (cI, 3, .inl (u 12)))] := hw
              subst ex_26
              refine y_top (y := (mErr (u 0) i)) rfl ?_
              refine y_callSI (As := [.int (mErr (u 0) i)]) (rest := []) S hw hl.1 (c_X6_size l D cI cC cL (mErr (u 0) i)) (va_cwS 1 S.2.2.2.2 gX6_errors_X6_size rfl rfl rfl (by decide +kernel) ⟨Nat.le_of_ble_eq_true rfl, Nat.le_of_ble_eq_true rfl⟩) [] [0, 1, 2, 3, 4, 5, 6] rfl (by decide +kernel) (wr := [((q 0), .inr (6, [.ref (q 1), .ref (q 2), .ref (q 3), .int (u 3 0), .ref (q 4), .int (u 5 0), .ref (q 5), .int (u 7 0), .int (u 8 0), .int (u 9 0), .int (u 10 0), .int (u 11 0), .ref (q 6)])), ((q 1), .inl (cI, 162, .inl (u 0))), ((q 2), .inl (cI, 162, .inl (u 1))), ((q 3), .inl (cI, 648, .inl (u 2))), ((q 4), .inl (cI, 60, .inl (u 4))), ((q 5), .inl (cI, 3, .inl (u 6))), ((q 6), .inl (cI, 3, .inl (u 12)))]) rfl (by decide +kernel) (by decide +kernel) rfl (Nat.le_of_ble_eq_true rfl) dX6_errors_93 rfl ⟨Nat.le_refl _, Nat.le_refl _⟩ (fun H locs v_27 x_28 ev_27 ex_28 hw => ?_)
              have hw : y_W D cI cC cL A s H locs [((q 0), .inr (6, [.ref (q 1), .ref (q 2), .ref (q 3), .int (u 3 0), .ref (q 4), .int (u 5 0), .ref (q 5), .int (u 7 0), .int (u 8 0), .int (u 9 0), .int (u 10 0), .int (u 11 0), .ref (q 6)])), ((q 1), .inl (cI, 162, .inl (u 0))), ((q 2), .inl (cI, 162, .inl (u 1))), ((q 3), .inl (cI, 648, .inl (u 2))), ((q 4), .inl (cI, 60, .inl (u 4))), ((q 5), .inl (cI, 3, .inl (u 6))), ((q 6), .inl (cI, 3, .inl (u 12)))] := hw
              subst ex_28
              refine lv_goto (tgt := 100) S.1 S.2.1 dX6_errors_96 (by decide) ?_
              refine lv_istore_n (lv' := [(3, .int (mSize (mErr (u 0) i))), (5, .int (z5 + (mSize (mErr (u 0) i)))), (4, .int (z4 + (mErr (u 0) i))), (2, .int (nI (c1 + 1))), (0, .ref (q 0)), (1, .int x), (6, .int (nI i))]) S.1 S.2.1 dX6_errors_100 rfl hl (by decide) rfl (fun ls hl => ?_)
              refine lv_iinc (v := (nI (i + 1))) (lv' := [(6, .int (nI (i + 1))), (3, .int (mSize (mErr (u 0) i))), (5, .int (z5 + (mSize (mErr (u 0) i)))), (4, .int (z4 + (mErr (u 0) i))), (2, .int (nI (c1 + 1))), (0, .ref (q 0)), (1, .int x)]) S.1 S.2.1 dX6_errors_101 hl (k := 6) rfl (by first | exact nI_1 _ | exact nI_add _ _) (by decide) rfl (fun ls hl => ?_)
              refine lv_goto (tgt := 25) S.1 S.2.1 dX6_errors_104 (by decide) ?_
              exact ih25 (i + 1) (c1 + 1) (mSize (mErr (u 0) i)) (z4 + (mErr (u 0) i)) (z5 + (mSize (mErr (u 0) i))) (by omega) (by omega) (by rw [hc1, mErN, if_pos hof]) (by rw [mErG, if_pos hof, if_neg (by rw [← hz3]; exact c_24)]) (by rw [hz4, mErS, if_pos hof]) (by rw [hz5, mErZ, if_pos hof]) (by omega) _ _ ls hw (lv_sub hl [5, 6, 4, 1, 3, 2, 0] rfl)
    exact lp25 ((k - 0) + 1) 0 0 0 0 0 (Nat.zero_le _) (Nat.le_refl 0) (rfl) (rfl) (rfl) (rfl) (Nat.lt_succ_self _) _ _ ls hw (lv_sub hl [5, 6, 4, 3, 2, 1, 0] rfl)
  · skip
    refine lv_ldc (v := (-2000001)) S.1 S.2.1 S.2.2.2.1 (S.2.2.2.2 _ k_X6_errors_69) dX6_errors_9 ?_
    exact ret _ _ _ _ _ (by exact hw) (by unfold mErsR; rw [if_pos c_3]) dX6_errors_11
