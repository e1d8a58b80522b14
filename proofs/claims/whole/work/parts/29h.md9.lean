theorem i_X6_play_X6 : ∀ w ∈ u_ws RX6 TX6 13, w ∈ wsX6_play := by decide +kernel
theorem f_X6_play_153 : Cond.fieldLink RX6 153 "ChargeLinesModel" "length" "I" ∈ wsX6_play := by decide +kernel
theorem f_X6_play_156 : Cond.fieldLink RX6 156 "ChargeLinesModel" "at" "I" ∈ wsX6_play := by decide +kernel
theorem f_X6_play_159 : Cond.fieldLink RX6 159 "ChargeLinesModel" "sort" "I" ∈ wsX6_play := by decide +kernel
theorem f_X6_play_25 : Cond.fieldLink RX6 25 "ChargeLinesModel" "told" "[I" ∈ wsX6_play := by decide +kernel
theorem k_X6_play_88 : Cond.constant RX6 88 (-2000003) ∈ wsX6_play := by decide +kernel
theorem f_X6_play_19 : Cond.fieldLink RX6 19 "ChargeLinesModel" "text" "[I" ∈ wsX6_play := by decide +kernel
theorem k_X6_play_35 : Cond.constant RX6 35 (-2000002) ∈ wsX6_play := by decide +kernel
set_option maxHeartbeats 4000000 in
set_option maxRecDepth 100000 in
/-- Model.play -/
theorem c_X6_play (l : Launch) (D : va_G) (cI cC cL : ClassId) (q : Nat → Nat) (u : U) (n B : Nat) (hv : mOk (u 0) n B) (h10 : n ≤ 10) (h1n : 1 ≤ n) (hB : B ≤ 2000) (k : Nat) (hs : u 3 0 = nI k) (hk4 : k ≤ 4) (L : Nat) (hL : u 5 0 = nI L) (hL2 : L ≤ 60) : y_MI l yX6_play wsX6_play 6 151 D cI cC cL [.ref (q 0)] (cMd cI q u) (mPlayR u L) (fun v : U => cMd cI q v) (mPlayU u L n k) := by
  refine y_startI (cc := cX6_play) (maxL := 5) (ret := some .int) (by decide +kernel) rfl (Nat.le_of_ble_eq_true rfl) ⟨_, rfl, fun x _ => rfl⟩ (fun h => by cases h) ?_
  intro p e s mm args below meth c A QQ ls S hw ret hl
  have S : CallFix p mm c cX6_play 5 s args wsX6_play RX6 := S
  have hw : y_W D cI cC cL A s s.heap [] [((q 0), .inr (6, [.ref (q 1), .ref (q 2), .ref (q 3), .int (u 3 0), .ref (q 4), .int (u 5 0), .ref (q 5), .int (u 7 0), .int (u 8 0), .int (u 9 0), .int (u 10 0), .int (u 11 0), .ref (q 6)])), ((q 1), .inl (cI, 162, .inl (u 0))), ((q 2), .inl (cI, 162, .inl (u 1))), ((q 3), .inl (cI, 648, .inl (u 2))), ((q 4), .inl (cI, 60, .inl (u 4))), ((q 5), .inl (cI, 3, .inl (u 6))), ((q 6), .inl (cI, 3, .inl (u 12)))] := hw
  have hl : lv_has ls 5 [(0, .ref (q 0))] := hl
  refine lv_aload_n S.1 S.2.1 dX6_play_0 rfl (lv_at hl 0 rfl) ?_
  refine y_callI (As := []) (rest := []) S hw hl.1 (c_X6_position l D cI cC cL q u L (hL) (by omega)) (cwV 0 S.2.2.2.2 gX6_play_X6_position rfl rfl rfl (by decide +kernel) ⟨Nat.le_of_ble_eq_true rfl, Nat.le_of_ble_eq_true rfl⟩) 0 rfl rfl [0, 1, 2, 3, 4, 5, 6] [] rfl (by decide +kernel) (wr := []) rfl (by decide +kernel) (by decide +kernel) rfl (Nat.le_of_ble_eq_true rfl) dX6_play_1 rfl ⟨Nat.le_refl _, Nat.le_refl _⟩ (fun H locs v_1 x_2 ev_1 ex_2 hw => ?_)
  have hw : y_W D cI cC cL A s H locs [((q 0), .inr (6, [.ref (q 1), .ref (q 2), .ref (q 3), .int (v_1 3 0), .ref (q 4), .int (v_1 5 0), .ref (q 5), .int (v_1 7 0), .int (v_1 8 0), .int (v_1 9 0), .int (v_1 10 0), .int (v_1 11 0), .ref (q 6)])), ((q 1), .inl (cI, 162, .inl (v_1 0))), ((q 2), .inl (cI, 162, .inl (v_1 1))), ((q 3), .inl (cI, 648, .inl (v_1 2))), ((q 4), .inl (cI, 60, .inl (v_1 4))), ((q 5), .inl (cI, 3, .inl (v_1 6))), ((q 6), .inl (cI, 3, .inl (v_1 12)))] := hw
  subst ex_2
  refine y_top (y := (mScan L 61 (va_up u 8 (fun _ => 0)) 0).2) rfl ?_
  have eS : v_1 = mScU u L := ev_1
  have hv0 : v_1 0 = u 0 := by rw [eS]; exact mScan_o L 61 (va_up u 8 (fun _ => 0)) 0 0 (by decide) (by decide) (by decide) (by decide) (by decide)
  have hv3 : v_1 3 = u 3 := by rw [eS]; exact mScan_o L 61 (va_up u 8 (fun _ => 0)) 0 3 (by decide) (by decide) (by decide) (by decide) (by decide)
  have hv4 : v_1 4 = u 4 := by rw [eS]; exact mScan_o L 61 (va_up u 8 (fun _ => 0)) 0 4 (by decide) (by decide) (by decide) (by decide) (by decide)
  have hv5 : v_1 5 = u 5 := by rw [eS]; exact mScan_o L 61 (va_up u 8 (fun _ => 0)) 0 5 (by decide) (by decide) (by decide) (by decide) (by decide)
  have hL5 : v_1 5 0 = nI L := by rw [hv5]; exact hL
  have hs3 : v_1 3 0 = nI k := by rw [hv3]; exact hs
  refine y_top (y := (mScR u L)) (rfl) ?_
  refine lv_iconst (v := (-1)) S.1 S.2.1 dX6_play_4 (by decide) ?_
  refine lv_icmp_eq (tgt := 11) S.1 S.2.1 dX6_play_5 (by decide) (fun c_3 => ?_) (fun c_3 => ?_)
  · skip
    refine lv_iconst (v := 0) S.1 S.2.1 dX6_play_11 (by decide) ?_
    refine lv_istore_n (lv' := [(1, .int 0), (0, .ref (q 0))]) S.1 S.2.1 dX6_play_12 rfl hl (by decide) rfl (fun ls hl => ?_)
    refine lv_iconst (v := 0) S.1 S.2.1 dX6_play_13 (by decide) ?_
    refine lv_istore_n (lv' := [(2, .int 0), (1, .int 0), (0, .ref (q 0))]) S.1 S.2.1 dX6_play_14 rfl hl (by decide) rfl (fun ls hl => ?_)
    refine lv_iconst (v := 0) S.1 S.2.1 dX6_play_15 (by decide) ?_
    refine lv_istore_n (lv' := [(3, .int 0), (2, .int 0), (1, .int 0), (0, .ref (q 0))]) S.1 S.2.1 dX6_play_16 rfl hl (by decide) rfl (fun ls hl => ?_)
    have lp17 : ∀ (fuel : Nat) (i : Nat) (c1 : Nat) (c2 : Nat), (i ≤ L) → (c1 = pCn (u 4) 59 0 i) → (c2 = pCn (u 4) 115 0 i) → (c2 ≤ i) → (L - i) < fuel → ∀ (H : Heap) (locs : List Loc) (ls : Array Slot), y_W D cI cC cL A s H locs [((q 0), .inr (6, [.ref (q 1), .ref (q 2), .ref (q 3), .int (v_1 3 0), .ref (q 4), .int (v_1 5 0), .ref (q 5), .int (v_1 7 0), .int (v_1 8 0), .int (v_1 9 0), .int (v_1 10 0), .int (v_1 11 0), .ref (q 6)])), ((q 1), .inl (cI, 162, .inl (v_1 0))), ((q 2), .inl (cI, 162, .inl (v_1 1))), ((q 3), .inl (cI, 648, .inl (v_1 2))), ((q 4), .inl (cI, 60, .inl (v_1 4))), ((q 5), .inl (cI, 3, .inl (v_1 6))), ((q 6), .inl (cI, 3, .inl (v_1 12)))] → lv_has ls 5 [(0, .ref (q 0)), (1, .int (nI c1)), (2, .int (nI c2)), (3, .int (nI i))] → W p l e (y_R 6 151) s mm args below meth c H locs 0 0 QQ (F0 mm 17 ls []) := by
      intro fuel
      induction fuel with
      | zero =>
        intro i c1 c2 hi hc1 hc2 hc2i hfu
        exact absurd hfu (Nat.not_lt_zero _)
      | succ fuel ih17 =>
        intro i c1 c2 hi hc1 hc2 hc2i hfu H locs ls hw hl
        refine lv_iload_n S.1 S.2.1 dX6_play_17 rfl (lv_at hl 3 rfl) ?_
        refine lv_aload_n S.1 S.2.1 dX6_play_18 rfl (lv_at hl 0 rfl) ?_
        refine y_get S hw (C := RX6) (T := TX6) (N := 13) i_X6_play_X6 0 rfl rfl 5 (by decide) f_X6_play_153 rfl dX6_play_19 ?_
        refine y_top (y := (nI L)) (hL5) ?_
        refine lv_icmp_ge (tgt := 69) S.1 S.2.1 dX6_play_22 (by decide) (fun c_4 => ?_) (fun c_4 => ?_)
        · skip
          have c_4N : L ≤ i := (nI_leI (a := L) (b := i) (by omega) (by omega)).mp c_4
          refine lv_aload_n S.1 S.2.1 dX6_play_69 rfl (lv_at hl 0 rfl) ?_
          refine lv_iload_n S.1 S.2.1 dX6_play_70 rfl (lv_at hl 2 rfl) ?_
          refine y_callI (As := [.int (nI c2)]) (rest := []) S hw hl.1 (c_X6_handedBehind l D cI cC cL q v_1 c2 (by omega)) (cwV 1 S.2.2.2.2 gX6_play_X6_handedBehind rfl rfl rfl (by decide +kernel) ⟨Nat.le_of_ble_eq_true rfl, Nat.le_of_ble_eq_true rfl⟩) 0 rfl rfl [0, 1, 2, 3, 4, 5, 6] [] rfl (by decide +kernel) (wr := []) rfl (by decide +kernel) (by decide +kernel) rfl (Nat.le_of_ble_eq_true rfl) dX6_play_71 rfl ⟨Nat.le_refl _, Nat.le_refl _⟩ (fun H locs v_5 x_6 ev_5 ex_6 hw => ?_)
          have hw : y_W D cI cC cL A s H locs [((q 0), .inr (6, [.ref (q 1), .ref (q 2), .ref (q 3), .int (v_1 3 0), .ref (q 4), .int (v_1 5 0), .ref (q 5), .int (v_1 7 0), .int (v_1 8 0), .int (v_1 9 0), .int (v_1 10 0), .int (v_1 11 0), .ref (q 6)])), ((q 1), .inl (cI, 162, .inl (v_1 0))), ((q 2), .inl (cI, 162, .inl (v_1 1))), ((q 3), .inl (cI, 648, .inl (v_1 2))), ((q 4), .inl (cI, 60, .inl (v_1 4))), ((q 5), .inl (cI, 3, .inl (v_1 6))), ((q 6), .inl (cI, 3, .inl (v_1 12)))] := hw
          subst ex_6
          refine y_top (y := (mHB (u 0 1) (u 0 6) (pCn (u 4) 115 0 L))) (by rw [hv0, hc2, show i = L from by omega]) ?_
          refine lv_sipush (v := 999) S.1 S.2.1 dX6_play_74 (by decide) ?_
          refine lv_icmp_le (tgt := 83) S.1 S.2.1 dX6_play_77 (by decide) (fun c_7 => ?_) (fun c_7 => ?_)
          · skip
            have hle9 : mHB (u 0 1) (u 0 6) (pCn (u 4) 115 0 L) ≤ 999 := c_7
            have hcL : c1 = pCn (u 4) 59 0 L := by rw [hc1, show i = L from by omega]
            have hc60 : c1 ≤ 60 := by have := pCn_le (u 4) 59 0 L; omega
            have hTl : mTl (u 4) L n (pCn (u 4) 59 0 L) 0 (v_1 12) := mScan_Tl hL2 h1n h10 61 (va_up u 8 (fun _ => 0)) 0 (v_1 12) c_3 (by omega) (Nat.zero_le _) hv.1
            refine lv_aload_n S.1 S.2.1 dX6_play_83 rfl (lv_at hl 0 rfl) ?_
            refine y_callV (As := []) (rest := []) S hw hl.1 (c_X6_records2 l D cI cC cL q v_1 k (hs3) (by omega) (c_X6_records l D cI cC cL q v_1 k (hs3) (by omega))) (cwV 0 S.2.2.2.2 gX6_play_X6_records rfl rfl rfl (by decide +kernel) ⟨Nat.le_of_ble_eq_true rfl, Nat.le_of_ble_eq_true rfl⟩) 0 rfl rfl [0, 1, 2, 3, 4, 5, 6] [] rfl (by decide +kernel) (wr := []) rfl (by decide +kernel) (by decide +kernel) rfl (Nat.le_of_ble_eq_true rfl) dX6_play_84 rfl ⟨Nat.le_refl _, Nat.le_refl _⟩ (fun H locs v_8 ev_8 hw => ?_)
            subst ev_8
            have hw : y_W D cI cC cL A s H locs [((q 0), .inr (6, [.ref (q 1), .ref (q 2), .ref (q 3), .int (nI (mRecK k)), .ref (q 4), .int (v_1 5 0), .ref (q 5), .int (v_1 7 0), .int (v_1 8 0), .int (v_1 9 0), .int (v_1 10 0), .int (v_1 11 0), .ref (q 6)])), ((q 1), .inl (cI, 162, .inl (v_1 0))), ((q 2), .inl (cI, 162, .inl (v_1 1))), ((q 3), .inl (cI, 648, .inl (mRecP (v_1 2) (v_1 0) k))), ((q 4), .inl (cI, 60, .inl (v_1 4))), ((q 5), .inl (cI, 3, .inl (v_1 6))), ((q 6), .inl (cI, 3, .inl (v_1 12)))] := hw
            refine lv_aload_n S.1 S.2.1 dX6_play_87 rfl (lv_at hl 0 rfl) ?_
            refine lv_iconst (v := 0) S.1 S.2.1 dX6_play_88 (by decide) ?_
            refine y_put S hw (C := RX6) (T := TX6) (N := 13) i_X6_play_X6 tyX6_ok nmX6 0 rfl rfl 8 (by decide) f_X6_play_156 (by decide +kernel) rfl rfl (Nat.le_of_ble_eq_true rfl) dX6_play_89 (ws' := [((q 0), .inr (6, [.ref (q 1), .ref (q 2), .ref (q 3), .int (nI (mRecK k)), .ref (q 4), .int (v_1 5 0), .ref (q 5), .int (v_1 7 0), .int 0, .int (v_1 9 0), .int (v_1 10 0), .int (v_1 11 0), .ref (q 6)])), ((q 1), .inl (cI, 162, .inl (v_1 0))), ((q 2), .inl (cI, 162, .inl (v_1 1))), ((q 3), .inl (cI, 648, .inl (mRecP (v_1 2) (v_1 0) k))), ((q 4), .inl (cI, 60, .inl (v_1 4))), ((q 5), .inl (cI, 3, .inl (v_1 6))), ((q 6), .inl (cI, 3, .inl (v_1 12)))]) rfl (fun H locs hw => ?_)
            refine lv_iconst (v := 0) S.1 S.2.1 dX6_play_92 (by decide) ?_
            refine lv_istore_n (lv' := [(3, .int 0), (0, .ref (q 0)), (1, .int (nI c1)), (2, .int (nI c2))]) S.1 S.2.1 dX6_play_93 rfl hl (by decide) rfl (fun ls hl => ?_)
            have lp94 : ∀ (fuel : Nat) (i2 : Nat) (a : Nat) (w : U), (i2 ≤ c1) → (w 8 0 = nI a) → (w 5 0 = nI L) → (w 4 = u 4) → (mTl (u 4) L n (c1 - i2) a (w 12)) → (mOk (w 0) n (B + 2 * i2)) → (mPl L n (c1 - i2) w a = mPl L n c1 (va_up (mSv v_1 k) 8 (fun _ => 0)) 0) → (c1 - i2) < fuel → ∀ (H : Heap) (locs : List Loc) (ls : Array Slot), y_W D cI cC cL A s H locs [((q 0), .inr (6, [.ref (q 1), .ref (q 2), .ref (q 3), .int (w 3 0), .ref (q 4), .int (w 5 0), .ref (q 5), .int (w 7 0), .int (w 8 0), .int (w 9 0), .int (w 10 0), .int (w 11 0), .ref (q 6)])), ((q 1), .inl (cI, 162, .inl (w 0))), ((q 2), .inl (cI, 162, .inl (w 1))), ((q 3), .inl (cI, 648, .inl (w 2))), ((q 4), .inl (cI, 60, .inl (w 4))), ((q 5), .inl (cI, 3, .inl (w 6))), ((q 6), .inl (cI, 3, .inl (w 12)))] → lv_has ls 5 [(0, .ref (q 0)), (1, .int (nI c1)), (3, .int (nI i2))] → W p l e (y_R 6 151) s mm args below meth c H locs 0 0 QQ (F0 mm 94 ls []) := by
              intro fuel
              induction fuel with
              | zero =>
                intro i2 a w hi2 hw8 hw5 hw4 hT hO he hfu
                exact absurd hfu (Nat.not_lt_zero _)
              | succ fuel ih94 =>
                intro i2 a w hi2 hw8 hw5 hw4 hT hO he hfu H locs ls hw hl
                refine lv_iload_n S.1 S.2.1 dX6_play_94 rfl (lv_at hl 2 rfl) ?_
                refine lv_iload_n S.1 S.2.1 dX6_play_95 rfl (lv_at hl 1 rfl) ?_
                refine lv_icmp_ge (tgt := 156) S.1 S.2.1 dX6_play_96 (by decide) (fun c_10 => ?_) (fun c_10 => ?_)
                · skip
                  have c_10N : c1 ≤ i2 := (nI_leI (a := c1) (b := i2) (by omega) (by omega)).mp c_10
                  refine lv_iload_n S.1 S.2.1 dX6_play_156 rfl (lv_at hl 1 rfl) ?_
                  exact ret _ _ _ _ _ (by rw [show mPlayU u L n k = w from by unfold mPlayU; rw [if_neg (not_not_intro c_3), if_neg (not_not_intro hle9), ← eS, ← hcL, ← he, show c1 - i2 = 0 from by omega]; rfl]; exact hw) (by unfold mPlayR; rw [if_neg (not_not_intro c_3), if_neg (not_not_intro hle9), ← hcL]) dX6_play_157
                · skip
                  have c_10N : ¬ c1 ≤ i2 := fun z => c_10 ((nI_leI (a := c1) (b := i2) (by omega) (by omega)).mpr z)
                  have hT2 : mTl (u 4) L n ((c1 - (i2 + 1)) + 1) a (w 12) := by rw [show (c1 - (i2 + 1)) + 1 = c1 - i2 from by omega]; exact hT
                  obtain ⟨haL, hle, hb, hT3⟩ := hT2
                  refine lv_aload_n S.1 S.2.1 dX6_play_99 rfl (lv_at hl 0 rfl) ?_
                  refine y_callI (As := []) (rest := []) S hw hl.1 (c_X6_reads l D cI cC cL q w L a hw5 (by omega) (hw8) (haL)) (cwV 0 S.2.2.2.2 gX6_play_X6_reads rfl rfl rfl (by decide +kernel) ⟨Nat.le_of_ble_eq_true rfl, Nat.le_of_ble_eq_true rfl⟩) 0 rfl rfl [0, 1, 2, 3, 4, 5, 6] [] rfl (by decide +kernel) (wr := []) rfl (by decide +kernel) (by decide +kernel) rfl (Nat.le_of_ble_eq_true rfl) dX6_play_100 rfl ⟨Nat.le_refl _, Nat.le_refl _⟩ (fun H locs v_11 x_12 ev_11 ex_12 hw => ?_)
                  have hw : y_W D cI cC cL A s H locs [((q 0), .inr (6, [.ref (q 1), .ref (q 2), .ref (q 3), .int (v_11 3 0), .ref (q 4), .int (v_11 5 0), .ref (q 5), .int (v_11 7 0), .int (v_11 8 0), .int (v_11 9 0), .int (v_11 10 0), .int (v_11 11 0), .ref (q 6)])), ((q 1), .inl (cI, 162, .inl (v_11 0))), ((q 2), .inl (cI, 162, .inl (v_11 1))), ((q 3), .inl (cI, 648, .inl (v_11 2))), ((q 4), .inl (cI, 60, .inl (v_11 4))), ((q 5), .inl (cI, 3, .inl (v_11 6))), ((q 6), .inl (cI, 3, .inl (v_11 12)))] := hw
                  subst ex_12
                  refine y_top (y := (mRdB w L a)) rfl ?_
                  refine lv_istore (lv' := [(4, .int (mRdB w L a)), (0, .ref (q 0)), (1, .int (nI c1)), (3, .int (nI i2))]) S.1 S.2.1 dX6_play_103 hl (by decide) rfl (fun ls hl => ?_)
                  refine lv_aload_n S.1 S.2.1 dX6_play_105 rfl (lv_at hl 1 rfl) ?_
                  refine y_get S hw (C := RX6) (T := TX6) (N := 13) i_X6_play_X6 0 rfl rfl 11 (by decide) f_X6_play_159 rfl dX6_play_106 ?_
                  have hO2 : mOk (v_11 0) n (B + 2 * i2) := by rw [ev_11, mRd_0]; exact hO
                  refine y_top (y := (mSort (u 4) L a)) (by rw [ev_11, mRd_11, hw4]) ?_
                  refine lv_bipush (v := 115) S.1 S.2.1 dX6_play_109 (by decide) ?_
                  refine lv_icmp_ne (tgt := 127) S.1 S.2.1 dX6_play_111 (by decide) (fun c_13 => ?_) (fun c_13 => ?_)
                  · skip
                    obtain ⟨b, hbn, eb⟩ := hb.resolve_left c_13
                    refine lv_aload_n S.1 S.2.1 dX6_play_127 rfl (lv_at hl 1 rfl) ?_
                    refine lv_aload_n S.1 S.2.1 dX6_play_128 rfl (lv_at hl 1 rfl) ?_
                    refine y_get S hw (C := RX6) (T := TX6) (N := 13) i_X6_play_X6 0 rfl rfl 12 (by decide) f_X6_play_25 rfl dX6_play_129 ?_
                    refine lv_iconst (v := 0) S.1 S.2.1 dX6_play_132 (by decide) ?_
                    refine y_iald S hw 6 (k := 0) rfl (by omega) (Nat.le_of_ble_eq_true rfl) dX6_play_133 ?_
                    refine y_top (y := (nI b)) (by rw [ev_11, mRd_12, hw4]; exact eb) ?_
                    refine lv_aload_n S.1 S.2.1 dX6_play_134 rfl (lv_at hl 1 rfl) ?_
                    refine y_get S hw (C := RX6) (T := TX6) (N := 13) i_X6_play_X6 0 rfl rfl 12 (by decide) f_X6_play_25 rfl dX6_play_135 ?_
                    refine lv_iconst (v := 1) S.1 S.2.1 dX6_play_138 (by decide) ?_
                    refine y_iald S hw 6 (k := 1) rfl (by omega) (Nat.le_of_ble_eq_true rfl) dX6_play_139 ?_
                    refine lv_aload_n S.1 S.2.1 dX6_play_140 rfl (lv_at hl 1 rfl) ?_
                    refine y_get S hw (C := RX6) (T := TX6) (N := 13) i_X6_play_X6 0 rfl rfl 12 (by decide) f_X6_play_25 rfl dX6_play_141 ?_
                    refine lv_iconst (v := 2) S.1 S.2.1 dX6_play_144 (by decide) ?_
                    refine y_iald S hw 6 (k := 2) rfl (by omega) (Nat.le_of_ble_eq_true rfl) dX6_play_145 ?_
                    refine y_callI (As := [.int (nI b), .int ((v_11 12) 1), .int ((v_11 12) 2)]) (rest := []) S hw hl.1 (c_X6_shares l D cI cC cL q v_11 b ((v_11 12) 1) ((v_11 12) 2) (by omega)) (cwV 3 S.2.2.2.2 gX6_play_X6_shares rfl rfl rfl (by decide +kernel) ⟨Nat.le_of_ble_eq_true rfl, Nat.le_of_ble_eq_true rfl⟩) 0 rfl rfl [0, 1, 2, 3, 4, 5, 6] [] rfl (by decide +kernel) (wr := []) rfl (by decide +kernel) (by decide +kernel) rfl (Nat.le_of_ble_eq_true rfl) dX6_play_146 rfl ⟨Nat.le_refl _, Nat.le_refl _⟩ (fun H locs v_14 x_15 ev_14 ex_15 hw => ?_)
                    subst ev_14
                    have hw : y_W D cI cC cL A s H locs [((q 0), .inr (6, [.ref (q 1), .ref (q 2), .ref (q 3), .int (v_11 3 0), .ref (q 4), .int (v_11 5 0), .ref (q 5), .int (v_11 7 0), .int (v_11 8 0), .int (v_11 9 0), .int (v_11 10 0), .int (v_11 11 0), .ref (q 6)])), ((q 1), .inl (cI, 162, .inl (upd (upd (v_11 0) (20 + b) ((v_11 12) 1)) (30 + b) ((v_11 12) 2)))), ((q 2), .inl (cI, 162, .inl (v_11 1))), ((q 3), .inl (cI, 648, .inl (v_11 2))), ((q 4), .inl (cI, 60, .inl (v_11 4))), ((q 5), .inl (cI, 3, .inl (v_11 6))), ((q 6), .inl (cI, 3, .inl (v_11 12)))] := hw
                    subst ex_15
                    refine y_top (y := (1000 * (v_11 0) (20 + b) + (v_11 0) (30 + b))) rfl ?_
                    refine lv_pop S.1 S.2.1 dX6_play_149 rfl ?_
                    have hW : (va_up v_11 0 (upd (upd (v_11 0) (20 + b) ((v_11 12) 1)) (30 + b) ((v_11 12) 2))) = mPlS w L a n := by unfold mPlS; rw [hw4, if_neg c_13, eb, nI_clamp (by omega), ev_11, mRd_12, mRd_0, hw4]
                    refine lv_iinc (v := (nI (i2 + 1))) (lv' := [(3, .int (nI (i2 + 1))), (4, .int (mRdB w L a)), (0, .ref (q 0)), (1, .int (nI c1))]) S.1 S.2.1 dX6_play_150 hl (k := 3) rfl (by first | exact nI_1 _ | exact nI_add _ _) (by decide) rfl (fun ls hl => ?_)
                    refine lv_goto (tgt := 94) S.1 S.2.1 dX6_play_153 (by decide) ?_
                    exact ih94 (i2 + 1) ((pForm (u 4) L a (w 12)).1) (va_up v_11 0 (upd (upd (v_11 0) (20 + b) ((v_11 12) 1)) (30 + b) ((v_11 12) 2))) (by omega) (by rw [hW, mPlS_r (by decide) (by decide) (by decide), mRd_8, hw4]) (by rw [hW, mPlS_r (by decide) (by decide) (by decide), mRd_o w L a 5 (by decide) (by decide) (by decide) (by decide) (by decide)]; exact hw5) (by rw [hW, mPlS_r (by decide) (by decide) (by decide), mRd_o w L a 4 (by decide) (by decide) (by decide) (by decide) (by decide)]; exact hw4) (by rw [hW, mPlS_r (by decide) (by decide) (by decide), mRd_12, hw4]; exact hT3) (by rw [hW, show B + 2 * (i2 + 1) = B + 2 * i2 + 2 from by omega]; exact mPlS_Ok h10 hO (by omega) (by rw [hw4]; exact hb)) (by rw [hW, ← he, show c1 - i2 = (c1 - (i2 + 1)) + 1 from by omega, mPl, hw4]) (by omega) _ _ ls hw (lv_sub hl [2, 3, 0] rfl)
                  · skip
                    refine lv_aload_n S.1 S.2.1 dX6_play_114 rfl (lv_at hl 1 rfl) ?_
                    refine lv_aload_n S.1 S.2.1 dX6_play_115 rfl (lv_at hl 1 rfl) ?_
                    refine y_get S hw (C := RX6) (T := TX6) (N := 13) i_X6_play_X6 0 rfl rfl 12 (by decide) f_X6_play_25 rfl dX6_play_116 ?_
                    refine lv_iconst (v := 0) S.1 S.2.1 dX6_play_119 (by decide) ?_
                    refine y_iald S hw 6 (k := 0) rfl (by omega) (Nat.le_of_ble_eq_true rfl) dX6_play_120 ?_
                    refine y_callV (As := [.int ((v_11 12) 0)]) (rest := []) S hw hl.1 (c_X6_gives2 l D cI cC cL q v_11 ((v_11 12) 0) n ((B + 2 * i2)) (hO2) (by omega) (by omega) (fun h kp t r h0 h1 h2 h3 h4 h5 h6 h7 h8 h9 => c_X6_gives l D cI cC cL q v_11 ((v_11 12) 0) n h kp h0 (by omega) h1 h2 h3 h4 h5 t r h6 h7 h8 h9)) (cwV 1 S.2.2.2.2 gX6_play_X6_gives rfl rfl rfl (by decide +kernel) ⟨Nat.le_of_ble_eq_true rfl, Nat.le_of_ble_eq_true rfl⟩) 0 rfl rfl [0, 1, 2, 3, 4, 5, 6] [] rfl (by decide +kernel) (wr := []) rfl (by decide +kernel) (by decide +kernel) rfl (Nat.le_of_ble_eq_true rfl) dX6_play_121 rfl ⟨Nat.le_refl _, Nat.le_refl _⟩ (fun H locs v_16 ev_16 hw => ?_)
                    have hw : y_W D cI cC cL A s H locs [((q 0), .inr (6, [.ref (q 1), .ref (q 2), .ref (q 3), .int (v_16 3 0), .ref (q 4), .int (v_16 5 0), .ref (q 5), .int (v_16 7 0), .int (v_16 8 0), .int (v_16 9 0), .int (v_16 10 0), .int (v_16 11 0), .ref (q 6)])), ((q 1), .inl (cI, 162, .inl (v_16 0))), ((q 2), .inl (cI, 162, .inl (v_16 1))), ((q 3), .inl (cI, 648, .inl (v_16 2))), ((q 4), .inl (cI, 60, .inl (v_16 4))), ((q 5), .inl (cI, 3, .inl (v_16 6))), ((q 6), .inl (cI, 3, .inl (v_16 12)))] := hw
                    refine lv_goto (tgt := 150) S.1 S.2.1 dX6_play_124 (by decide) ?_
                    have hW : v_16 = mPlS w L a n := by rw [ev_16]; unfold mPlS; rw [hw4, if_pos c_13, ev_11, mRd_12, hw4]
                    refine lv_iinc (v := (nI (i2 + 1))) (lv' := [(3, .int (nI (i2 + 1))), (4, .int (mRdB w L a)), (0, .ref (q 0)), (1, .int (nI c1))]) S.1 S.2.1 dX6_play_150 hl (k := 3) rfl (by first | exact nI_1 _ | exact nI_add _ _) (by decide) rfl (fun ls hl => ?_)
                    refine lv_goto (tgt := 94) S.1 S.2.1 dX6_play_153 (by decide) ?_
                    exact ih94 (i2 + 1) ((pForm (u 4) L a (w 12)).1) v_16 (by omega) (by rw [hW, mPlS_r (by decide) (by decide) (by decide), mRd_8, hw4]) (by rw [hW, mPlS_r (by decide) (by decide) (by decide), mRd_o w L a 5 (by decide) (by decide) (by decide) (by decide) (by decide)]; exact hw5) (by rw [hW, mPlS_r (by decide) (by decide) (by decide), mRd_o w L a 4 (by decide) (by decide) (by decide) (by decide) (by decide)]; exact hw4) (by rw [hW, mPlS_r (by decide) (by decide) (by decide), mRd_12, hw4]; exact hT3) (by rw [hW, show B + 2 * (i2 + 1) = B + 2 * i2 + 2 from by omega]; exact mPlS_Ok h10 hO (by omega) (by rw [hw4]; exact hb)) (by rw [hW, ← he, show c1 - i2 = (c1 - (i2 + 1)) + 1 from by omega, mPl, hw4]) (by omega) _ _ ls hw (lv_sub hl [2, 3, 0] rfl)
            exact lp94 ((c1 - 0) + 1) 0 0 (va_up (va_up (va_up v_1 2 (mRecP (v_1 2) (v_1 0) k)) 3 (fun _ => (nI (mRecK k)))) 8 (fun _ => 0)) (Nat.zero_le _) (rfl) (hL5) (hv4) (by rw [hcL]; exact hTl) (by show mOk (v_1 0) n B; rw [hv0]; exact hv) (rfl) (Nat.lt_succ_self _) _ _ ls hw (lv_sub hl [1, 2, 0] rfl)
          · skip
            refine lv_ldc (v := (-2000003)) S.1 S.2.1 S.2.2.2.1 (S.2.2.2.2 _ k_X6_play_88) dX6_play_80 ?_
            exact ret _ _ _ _ _ (by unfold mPlayU; rw [if_neg (not_not_intro c_3), if_pos c_7, ← eS]; exact hw) (by unfold mPlayR; rw [if_neg (not_not_intro c_3), if_pos c_7]) dX6_play_82
        · skip
          have c_4N : ¬ L ≤ i := fun z => c_4 ((nI_leI (a := L) (b := i) (by omega) (by omega)).mpr z)
          refine lv_iload_n S.1 S.2.1 dX6_play_25 rfl (lv_at hl 1 rfl) ?_
          refine lv_aload_n S.1 S.2.1 dX6_play_26 rfl (lv_at hl 0 rfl) ?_
          refine y_get S hw (C := RX6) (T := TX6) (N := 13) i_X6_play_X6 0 rfl rfl 4 (by decide) f_X6_play_19 rfl dX6_play_27 ?_
          refine lv_iload_n S.1 S.2.1 dX6_play_30 rfl (lv_at hl 3 rfl) ?_
          refine y_iald S hw 4 (k := i) rfl (by omega) (Nat.le_of_ble_eq_true rfl) dX6_play_31 ?_
          refine lv_bipush (v := 59) S.1 S.2.1 dX6_play_32 (by decide) ?_
          refine lv_icmp_ne (tgt := 41) S.1 S.2.1 dX6_play_34 (by decide) (fun c_18 => ?_) (fun c_18 => ?_)
          · skip
            refine lv_iconst (v := 0) S.1 S.2.1 dX6_play_41 (by decide) ?_
            refine y_iaddN S c1 0 dX6_play_42 ?_
            refine lv_istore_n (lv' := [(1, .int (nI (c1 + 0))), (0, .ref (q 0)), (2, .int (nI c2)), (3, .int (nI i))]) S.1 S.2.1 dX6_play_43 rfl hl (by decide) rfl (fun ls hl => ?_)
            refine lv_iload_n S.1 S.2.1 dX6_play_44 rfl (lv_at hl 2 rfl) ?_
            refine lv_aload_n S.1 S.2.1 dX6_play_45 rfl (lv_at hl 1 rfl) ?_
            refine y_get S hw (C := RX6) (T := TX6) (N := 13) i_X6_play_X6 0 rfl rfl 4 (by decide) f_X6_play_19 rfl dX6_play_46 ?_
            refine lv_iload_n S.1 S.2.1 dX6_play_49 rfl (lv_at hl 3 rfl) ?_
            refine y_iald S hw 4 (k := i) rfl (by omega) (Nat.le_of_ble_eq_true rfl) dX6_play_50 ?_
            refine lv_bipush (v := 115) S.1 S.2.1 dX6_play_51 (by decide) ?_
            refine lv_icmp_ne (tgt := 60) S.1 S.2.1 dX6_play_53 (by decide) (fun c_19 => ?_) (fun c_19 => ?_)
            · skip
              refine lv_iconst (v := 0) S.1 S.2.1 dX6_play_60 (by decide) ?_
              refine y_iaddN S c2 0 dX6_play_61 ?_
              refine lv_istore_n (lv' := [(2, .int (nI (c2 + 0))), (1, .int (nI (c1 + 0))), (0, .ref (q 0)), (3, .int (nI i))]) S.1 S.2.1 dX6_play_62 rfl hl (by decide) rfl (fun ls hl => ?_)
              refine lv_iinc (v := (nI (i + 1))) (lv' := [(3, .int (nI (i + 1))), (2, .int (nI (c2 + 0))), (1, .int (nI (c1 + 0))), (0, .ref (q 0))]) S.1 S.2.1 dX6_play_63 hl (k := 3) rfl (by first | exact nI_1 _ | exact nI_add _ _) (by decide) rfl (fun ls hl => ?_)
              refine lv_goto (tgt := 17) S.1 S.2.1 dX6_play_66 (by decide) ?_
              exact ih17 (i + 1) (c1 + 0) (c2 + 0) (by omega) (by have e9 : pCn (u 4) 59 0 (i + 1) = pCn (u 4) 59 0 i + (if u 4 (0 + i) = 59 then 1 else 0) := rfl; rw [Nat.zero_add, ← hv4, if_neg c_18, hv4] at e9; omega) (by have e9 : pCn (u 4) 115 0 (i + 1) = pCn (u 4) 115 0 i + (if u 4 (0 + i) = 115 then 1 else 0) := rfl; rw [Nat.zero_add, ← hv4, if_neg c_19, hv4] at e9; omega) (by omega) (by omega) _ _ ls hw (lv_sub hl [3, 2, 1, 0] rfl)
            · skip
              refine lv_iconst (v := 1) S.1 S.2.1 dX6_play_56 (by decide) ?_
              refine lv_goto (tgt := 61) S.1 S.2.1 dX6_play_57 (by decide) ?_
              refine y_iaddN S c2 1 dX6_play_61 ?_
              refine lv_istore_n (lv' := [(2, .int (nI (c2 + 1))), (1, .int (nI (c1 + 0))), (0, .ref (q 0)), (3, .int (nI i))]) S.1 S.2.1 dX6_play_62 rfl hl (by decide) rfl (fun ls hl => ?_)
              refine lv_iinc (v := (nI (i + 1))) (lv' := [(3, .int (nI (i + 1))), (2, .int (nI (c2 + 1))), (1, .int (nI (c1 + 0))), (0, .ref (q 0))]) S.1 S.2.1 dX6_play_63 hl (k := 3) rfl (by first | exact nI_1 _ | exact nI_add _ _) (by decide) rfl (fun ls hl => ?_)
              refine lv_goto (tgt := 17) S.1 S.2.1 dX6_play_66 (by decide) ?_
              exact ih17 (i + 1) (c1 + 0) (c2 + 1) (by omega) (by have e9 : pCn (u 4) 59 0 (i + 1) = pCn (u 4) 59 0 i + (if u 4 (0 + i) = 59 then 1 else 0) := rfl; rw [Nat.zero_add, ← hv4, if_neg c_18, hv4] at e9; omega) (by have e9 : pCn (u 4) 115 0 (i + 1) = pCn (u 4) 115 0 i + (if u 4 (0 + i) = 115 then 1 else 0) := rfl; rw [Nat.zero_add, ← hv4, if_pos c_19, hv4] at e9; omega) (by omega) (by omega) _ _ ls hw (lv_sub hl [3, 2, 1, 0] rfl)
          · skip
            refine lv_iconst (v := 1) S.1 S.2.1 dX6_play_37 (by decide) ?_
            refine lv_goto (tgt := 42) S.1 S.2.1 dX6_play_38 (by decide) ?_
            refine y_iaddN S c1 1 dX6_play_42 ?_
            refine lv_istore_n (lv' := [(1, .int (nI (c1 + 1))), (0, .ref (q 0)), (2, .int (nI c2)), (3, .int (nI i))]) S.1 S.2.1 dX6_play_43 rfl hl (by decide) rfl (fun ls hl => ?_)
            refine lv_iload_n S.1 S.2.1 dX6_play_44 rfl (lv_at hl 2 rfl) ?_
            refine lv_aload_n S.1 S.2.1 dX6_play_45 rfl (lv_at hl 1 rfl) ?_
            refine y_get S hw (C := RX6) (T := TX6) (N := 13) i_X6_play_X6 0 rfl rfl 4 (by decide) f_X6_play_19 rfl dX6_play_46 ?_
            refine lv_iload_n S.1 S.2.1 dX6_play_49 rfl (lv_at hl 3 rfl) ?_
            refine y_iald S hw 4 (k := i) rfl (by omega) (Nat.le_of_ble_eq_true rfl) dX6_play_50 ?_
            refine lv_bipush (v := 115) S.1 S.2.1 dX6_play_51 (by decide) ?_
            refine lv_icmp_ne (tgt := 60) S.1 S.2.1 dX6_play_53 (by decide) (fun c_20 => ?_) (fun c_20 => ?_)
            · skip
              refine lv_iconst (v := 0) S.1 S.2.1 dX6_play_60 (by decide) ?_
              refine y_iaddN S c2 0 dX6_play_61 ?_
              refine lv_istore_n (lv' := [(2, .int (nI (c2 + 0))), (1, .int (nI (c1 + 1))), (0, .ref (q 0)), (3, .int (nI i))]) S.1 S.2.1 dX6_play_62 rfl hl (by decide) rfl (fun ls hl => ?_)
              refine lv_iinc (v := (nI (i + 1))) (lv' := [(3, .int (nI (i + 1))), (2, .int (nI (c2 + 0))), (1, .int (nI (c1 + 1))), (0, .ref (q 0))]) S.1 S.2.1 dX6_play_63 hl (k := 3) rfl (by first | exact nI_1 _ | exact nI_add _ _) (by decide) rfl (fun ls hl => ?_)
              refine lv_goto (tgt := 17) S.1 S.2.1 dX6_play_66 (by decide) ?_
              exact ih17 (i + 1) (c1 + 1) (c2 + 0) (by omega) (by have e9 : pCn (u 4) 59 0 (i + 1) = pCn (u 4) 59 0 i + (if u 4 (0 + i) = 59 then 1 else 0) := rfl; rw [Nat.zero_add, ← hv4, if_pos c_18, hv4] at e9; omega) (by have e9 : pCn (u 4) 115 0 (i + 1) = pCn (u 4) 115 0 i + (if u 4 (0 + i) = 115 then 1 else 0) := rfl; rw [Nat.zero_add, ← hv4, if_neg c_20, hv4] at e9; omega) (by omega) (by omega) _ _ ls hw (lv_sub hl [3, 2, 1, 0] rfl)
            · skip
              refine lv_iconst (v := 1) S.1 S.2.1 dX6_play_56 (by decide) ?_
              refine lv_goto (tgt := 61) S.1 S.2.1 dX6_play_57 (by decide) ?_
              refine y_iaddN S c2 1 dX6_play_61 ?_
              refine lv_istore_n (lv' := [(2, .int (nI (c2 + 1))), (1, .int (nI (c1 + 1))), (0, .ref (q 0)), (3, .int (nI i))]) S.1 S.2.1 dX6_play_62 rfl hl (by decide) rfl (fun ls hl => ?_)
              refine lv_iinc (v := (nI (i + 1))) (lv' := [(3, .int (nI (i + 1))), (2, .int (nI (c2 + 1))), (1, .int (nI (c1 + 1))), (0, .ref (q 0))]) S.1 S.2.1 dX6_play_63 hl (k := 3) rfl (by first | exact nI_1 _ | exact nI_add _ _) (by decide) rfl (fun ls hl => ?_)
              refine lv_goto (tgt := 17) S.1 S.2.1 dX6_play_66 (by decide) ?_
              exact ih17 (i + 1) (c1 + 1) (c2 + 1) (by omega) (by have e9 : pCn (u 4) 59 0 (i + 1) = pCn (u 4) 59 0 i + (if u 4 (0 + i) = 59 then 1 else 0) := rfl; rw [Nat.zero_add, ← hv4, if_pos c_18, hv4] at e9; omega) (by have e9 : pCn (u 4) 115 0 (i + 1) = pCn (u 4) 115 0 i + (if u 4 (0 + i) = 115 then 1 else 0) := rfl; rw [Nat.zero_add, ← hv4, if_pos c_20, hv4] at e9; omega) (by omega) (by omega) _ _ ls hw (lv_sub hl [3, 2, 1, 0] rfl)
    exact lp17 ((L - 0) + 1) 0 0 0 (Nat.zero_le _) (rfl) (rfl) (Nat.le_refl 0) (Nat.lt_succ_self _) _ _ ls hw (lv_sub hl [3, 2, 1, 0] rfl)
  · skip
    refine lv_ldc (v := (-2000002)) S.1 S.2.1 S.2.2.2.1 (S.2.2.2.2 _ k_X6_play_35) dX6_play_8 ?_
    exact ret _ _ _ _ _ (by unfold mPlayU; rw [if_pos c_3, ← eS]; exact hw) (by unfold mPlayR; rw [if_pos c_3]) dX6_play_10
