theorem i_X6_give_X6 : ∀ w ∈ u_ws RX6 TX6 13, w ∈ wsX6_give := by decide +kernel
theorem f_X6_give_7 : Cond.fieldLink RX6 7 "ChargeLinesModel" "s" "[I" ∈ wsX6_give := by decide +kernel
theorem k_X6_give_88 : Cond.constant RX6 88 (-2000003) ∈ wsX6_give := by decide +kernel
theorem k_X6_give_69 : Cond.constant RX6 69 (-2000001) ∈ wsX6_give := by decide +kernel
set_option maxHeartbeats 4000000 in
set_option maxRecDepth 100000 in
/-- Model.give -/
theorem c_X6_give (l : Launch) (D : va_G) (cI cC cL : ClassId) (q : Nat → Nat) (u : U) (x : Int32) (n B : Nat) (hv : mOk (u 0) n B) (h10 : n ≤ 10) (hB : B ≤ 2000) (k : Nat) (hs : u 3 0 = nI k) (hk4 : k ≤ 4) : y_MI l yX6_give wsX6_give 6 151 D cI cC cL [.ref (q 0), .int x] (cMd cI q u) (mGiveR u x) (fun v : U => cMd cI q v) (mGiveU u x n k) := by
  refine y_startI (cc := cX6_give) (maxL := 4) (ret := some .int) (by decide +kernel) rfl (Nat.le_of_ble_eq_true rfl) ⟨_, rfl, fun x _ => rfl⟩ (fun h => by cases h) ?_
  intro p e s mm args below meth c A QQ ls S hw ret hl
  have S : CallFix p mm c cX6_give 4 s args wsX6_give RX6 := S
  have hw : y_W D cI cC cL A s s.heap [] [((q 0), .inr (6, [.ref (q 1), .ref (q 2), .ref (q 3), .int (u 3 0), .ref (q 4), .int (u 5 0), .ref (q 5), .int (u 7 0), .int (u 8 0), .int (u 9 0), .int (u 10 0), .int (u 11 0), .ref (q 6)])), ((q 1), .inl (cI, 162, .inl (u 0))), ((q 2), .inl (cI, 162, .inl (u 1))), ((q 3), .inl (cI, 648, .inl (u 2))), ((q 4), .inl (cI, 60, .inl (u 4))), ((q 5), .inl (cI, 3, .inl (u 6))), ((q 6), .inl (cI, 3, .inl (u 12)))] := hw
  have hl : lv_has ls 4 [(0, .ref (q 0)), (1, .int x)] := hl
  refine lv_iload_n S.1 S.2.1 dX6_give_0 rfl (lv_at hl 1 rfl) ?_
  refine lv_iconst (v := 0) S.1 S.2.1 dX6_give_1 (by decide) ?_
  refine lv_sipush (v := 10000) S.1 S.2.1 dX6_give_2 (by decide) ?_
  refine y_callSI (As := [.int x, .int 0, .int 10000]) (rest := []) S hw hl.1 (c_X6_in l D cI cC cL x 0 10000) (va_cwS 3 S.2.2.2.2 gX6_give_X6_in rfl rfl rfl (by decide +kernel) ⟨Nat.le_of_ble_eq_true rfl, Nat.le_of_ble_eq_true rfl⟩) [] [0, 1, 2, 3, 4, 5, 6] rfl (by decide +kernel) (wr := [((q 0), .inr (6, [.ref (q 1), .ref (q 2), .ref (q 3), .int (u 3 0), .ref (q 4), .int (u 5 0), .ref (q 5), .int (u 7 0), .int (u 8 0), .int (u 9 0), .int (u 10 0), .int (u 11 0), .ref (q 6)])), ((q 1), .inl (cI, 162, .inl (u 0))), ((q 2), .inl (cI, 162, .inl (u 1))), ((q 3), .inl (cI, 648, .inl (u 2))), ((q 4), .inl (cI, 60, .inl (u 4))), ((q 5), .inl (cI, 3, .inl (u 6))), ((q 6), .inl (cI, 3, .inl (u 12)))]) rfl (by decide +kernel) (by decide +kernel) rfl (Nat.le_of_ble_eq_true rfl) dX6_give_5 rfl ⟨Nat.le_refl _, Nat.le_refl _⟩ (fun H locs v_1 x_2 ev_1 ex_2 hw => ?_)
  have hw : y_W D cI cC cL A s H locs [((q 0), .inr (6, [.ref (q 1), .ref (q 2), .ref (q 3), .int (u 3 0), .ref (q 4), .int (u 5 0), .ref (q 5), .int (u 7 0), .int (u 8 0), .int (u 9 0), .int (u 10 0), .int (u 11 0), .ref (q 6)])), ((q 1), .inl (cI, 162, .inl (u 0))), ((q 2), .inl (cI, 162, .inl (u 1))), ((q 3), .inl (cI, 648, .inl (u 2))), ((q 4), .inl (cI, 60, .inl (u 4))), ((q 5), .inl (cI, 3, .inl (u 6))), ((q 6), .inl (cI, 3, .inl (u 12)))] := hw
  subst ex_2
  refine lv_if_ne (tgt := 14) S.1 S.2.1 dX6_give_8 (by decide) (fun c_3 => ?_) (fun c_3 => ?_)
  · skip
    refine lv_aload_n S.1 S.2.1 dX6_give_14 rfl (lv_at hl 0 rfl) ?_
    refine lv_iconst (v := 1) S.1 S.2.1 dX6_give_15 (by decide) ?_
    refine y_callI (As := [.int 1]) (rest := []) S hw hl.1 (c_X6_handedBehind l D cI cC cL q u 1 (by omega)) (cwV 1 S.2.2.2.2 gX6_give_X6_handedBehind rfl rfl rfl (by decide +kernel) ⟨Nat.le_of_ble_eq_true rfl, Nat.le_of_ble_eq_true rfl⟩) 0 rfl rfl [0, 1, 2, 3, 4, 5, 6] [] rfl (by decide +kernel) (wr := []) rfl (by decide +kernel) (by decide +kernel) rfl (Nat.le_of_ble_eq_true rfl) dX6_give_16 rfl ⟨Nat.le_refl _, Nat.le_refl _⟩ (fun H locs v_4 x_5 ev_4 ex_5 hw => ?_)
    have hw : y_W D cI cC cL A s H locs [((q 0), .inr (6, [.ref (q 1), .ref (q 2), .ref (q 3), .int (u 3 0), .ref (q 4), .int (u 5 0), .ref (q 5), .int (u 7 0), .int (u 8 0), .int (u 9 0), .int (u 10 0), .int (u 11 0), .ref (q 6)])), ((q 1), .inl (cI, 162, .inl (u 0))), ((q 2), .inl (cI, 162, .inl (u 1))), ((q 3), .inl (cI, 648, .inl (u 2))), ((q 4), .inl (cI, 60, .inl (u 4))), ((q 5), .inl (cI, 3, .inl (u 6))), ((q 6), .inl (cI, 3, .inl (u 12)))] := hw
    subst ex_5
    refine lv_istore_n (lv' := [(2, .int (mHB (u 0 1) (u 0 6) 1)), (0, .ref (q 0)), (1, .int x)]) S.1 S.2.1 dX6_give_19 rfl hl (by decide) rfl (fun ls hl => ?_)
    refine lv_iload_n S.1 S.2.1 dX6_give_20 rfl (lv_at hl 0 rfl) ?_
    refine lv_sipush (v := 999) S.1 S.2.1 dX6_give_21 (by decide) ?_
    refine lv_icmp_le (tgt := 30) S.1 S.2.1 dX6_give_24 (by decide) (fun c_6 => ?_) (fun c_6 => ?_)
    · skip
      refine lv_iload_n S.1 S.2.1 dX6_give_30 rfl (lv_at hl 0 rfl) ?_
      refine lv_aload_n S.1 S.2.1 dX6_give_31 rfl (lv_at hl 1 rfl) ?_
      refine y_get S hw (C := RX6) (T := TX6) (N := 13) i_X6_give_X6 0 rfl rfl 0 (by decide) f_X6_give_7 rfl dX6_give_32 ?_
      refine lv_iconst (v := 1) S.1 S.2.1 dX6_give_35 (by decide) ?_
      refine y_iald S hw 1 (k := 1) rfl (by omega) (Nat.le_of_ble_eq_true rfl) dX6_give_36 ?_
      refine lv_isub S.1 S.2.1 dX6_give_37 ?_
      refine lv_istore_n (lv' := [(3, .int ((mHB (u 0 1) (u 0 6) 1) - ((u 0) 1))), (2, .int (mHB (u 0 1) (u 0 6) 1)), (0, .ref (q 0)), (1, .int x)]) S.1 S.2.1 dX6_give_38 rfl hl (by decide) rfl (fun ls hl => ?_)
      refine lv_aload_n S.1 S.2.1 dX6_give_39 rfl (lv_at hl 2 rfl) ?_
      refine y_callV (As := []) (rest := []) S hw hl.1 (c_X6_records2 l D cI cC cL q u k (hs) (by omega) (c_X6_records l D cI cC cL q u k (hs) (by omega))) (cwV 0 S.2.2.2.2 gX6_give_X6_records rfl rfl rfl (by decide +kernel) ⟨Nat.le_of_ble_eq_true rfl, Nat.le_of_ble_eq_true rfl⟩) 0 rfl rfl [0, 1, 2, 3, 4, 5, 6] [] rfl (by decide +kernel) (wr := []) rfl (by decide +kernel) (by decide +kernel) rfl (Nat.le_of_ble_eq_true rfl) dX6_give_40 rfl ⟨Nat.le_refl _, Nat.le_refl _⟩ (fun H locs v_7 ev_7 hw => ?_)
      subst ev_7
      have hw : y_W D cI cC cL A s H locs [((q 0), .inr (6, [.ref (q 1), .ref (q 2), .ref (q 3), .int (nI (mRecK k)), .ref (q 4), .int (u 5 0), .ref (q 5), .int (u 7 0), .int (u 8 0), .int (u 9 0), .int (u 10 0), .int (u 11 0), .ref (q 6)])), ((q 1), .inl (cI, 162, .inl (u 0))), ((q 2), .inl (cI, 162, .inl (u 1))), ((q 3), .inl (cI, 648, .inl (mRecP (u 2) (u 0) k))), ((q 4), .inl (cI, 60, .inl (u 4))), ((q 5), .inl (cI, 3, .inl (u 6))), ((q 6), .inl (cI, 3, .inl (u 12)))] := hw
      refine lv_aload_n S.1 S.2.1 dX6_give_43 rfl (lv_at hl 2 rfl) ?_
      refine lv_iload_n S.1 S.2.1 dX6_give_44 rfl (lv_at hl 3 rfl) ?_
      refine y_callV (As := [.int x]) (rest := []) S hw hl.1 (c_X6_gives2 l D cI cC cL q (va_up (va_up u 2 (mRecP (u 2) (u 0) k)) 3 (fun _ => (nI (mRecK k)))) x n (B) (hv) (by omega) (by omega) (fun h kp t r h0 h1 h2 h3 h4 h5 h6 h7 h8 h9 => c_X6_gives l D cI cC cL q (va_up (va_up u 2 (mRecP (u 2) (u 0) k)) 3 (fun _ => (nI (mRecK k)))) x n h kp h0 (by omega) h1 h2 h3 h4 h5 t r h6 h7 h8 h9)) (cwV 1 S.2.2.2.2 gX6_give_X6_gives rfl rfl rfl (by decide +kernel) ⟨Nat.le_of_ble_eq_true rfl, Nat.le_of_ble_eq_true rfl⟩) 0 rfl rfl [0, 1, 2, 3, 4, 5, 6] [] rfl (by decide +kernel) (wr := []) rfl (by decide +kernel) (by decide +kernel) rfl (Nat.le_of_ble_eq_true rfl) dX6_give_45 rfl ⟨Nat.le_refl _, Nat.le_refl _⟩ (fun H locs v_9 ev_9 hw => ?_)
      have hw : y_W D cI cC cL A s H locs [((q 0), .inr (6, [.ref (q 1), .ref (q 2), .ref (q 3), .int (v_9 3 0), .ref (q 4), .int (v_9 5 0), .ref (q 5), .int (v_9 7 0), .int (v_9 8 0), .int (v_9 9 0), .int (v_9 10 0), .int (v_9 11 0), .ref (q 6)])), ((q 1), .inl (cI, 162, .inl (v_9 0))), ((q 2), .inl (cI, 162, .inl (v_9 1))), ((q 3), .inl (cI, 648, .inl (v_9 2))), ((q 4), .inl (cI, 60, .inl (v_9 4))), ((q 5), .inl (cI, 3, .inl (v_9 6))), ((q 6), .inl (cI, 3, .inl (v_9 12)))] := hw
      refine lv_iload_n S.1 S.2.1 dX6_give_48 rfl (lv_at hl 0 rfl) ?_
      exact ret _ _ _ _ _ (by rw [show mGiveU u x n k = v_9 from by rw [ev_9, mGiveU, if_neg c_3, if_pos c_6]; rfl]; exact hw) (by rw [mGiveR, if_neg c_3, if_pos c_6]) dX6_give_49
    · skip
      refine lv_ldc (v := (-2000003)) S.1 S.2.1 S.2.2.2.1 (S.2.2.2.2 _ k_X6_give_88) dX6_give_27 ?_
      exact ret _ _ _ _ _ (by rw [show mGiveU u x n k = u from by rw [mGiveU, if_neg c_3, if_neg c_6]]; exact hw) (by rw [mGiveR, if_neg c_3, if_neg c_6]) dX6_give_29
  · skip
    refine lv_ldc (v := (-2000001)) S.1 S.2.1 S.2.2.2.1 (S.2.2.2.2 _ k_X6_give_69) dX6_give_11 ?_
    exact ret _ _ _ _ _ (by rw [show mGiveU u x n k = u from by rw [mGiveU, if_pos c_3]]; exact hw) (by rw [mGiveR, if_pos c_3]) dX6_give_13

theorem i_X6_idle_X6 : ∀ w ∈ u_ws RX6 TX6 13, w ∈ wsX6_idle := by decide +kernel
theorem f_X6_idle_7 : Cond.fieldLink RX6 7 "ChargeLinesModel" "s" "[I" ∈ wsX6_idle := by decide +kernel
theorem k_X6_idle_88 : Cond.constant RX6 88 (-2000003) ∈ wsX6_idle := by decide +kernel
theorem k_X6_idle_69 : Cond.constant RX6 69 (-2000001) ∈ wsX6_idle := by decide +kernel
set_option maxHeartbeats 4000000 in
set_option maxRecDepth 100000 in
/-- Model.idle -/
theorem c_X6_idle (l : Launch) (D : va_G) (cI cC cL : ClassId) (q : Nat → Nat) (u : U) (x : Int32) (n B : Nat) (hv : mOk (u 0) n B) (h10 : n ≤ 10) (hB : B ≤ 2000) (k : Nat) (hs : u 3 0 = nI k) (hk4 : k ≤ 4) : y_MI l yX6_idle wsX6_idle 6 151 D cI cC cL [.ref (q 0), .int x] (cMd cI q u) (mIdleR u x) (fun v : U => cMd cI q v) (mIdleU u x n k) := by
  refine y_startI (cc := cX6_idle) (maxL := 5) (ret := some .int) (by decide +kernel) rfl (Nat.le_of_ble_eq_true rfl) ⟨_, rfl, fun x _ => rfl⟩ (fun h => by cases h) ?_
  intro p e s mm args below meth c A QQ ls S hw ret hl
  have S : CallFix p mm c cX6_idle 5 s args wsX6_idle RX6 := S
  have hw : y_W D cI cC cL A s s.heap [] [((q 0), .inr (6, [.ref (q 1), .ref (q 2), .ref (q 3), .int (u 3 0), .ref (q 4), .int (u 5 0), .ref (q 5), .int (u 7 0), .int (u 8 0), .int (u 9 0), .int (u 10 0), .int (u 11 0), .ref (q 6)])), ((q 1), .inl (cI, 162, .inl (u 0))), ((q 2), .inl (cI, 162, .inl (u 1))), ((q 3), .inl (cI, 648, .inl (u 2))), ((q 4), .inl (cI, 60, .inl (u 4))), ((q 5), .inl (cI, 3, .inl (u 6))), ((q 6), .inl (cI, 3, .inl (u 12)))] := hw
  have hl : lv_has ls 5 [(0, .ref (q 0)), (1, .int x)] := hl
  refine lv_iload_n S.1 S.2.1 dX6_idle_0 rfl (lv_at hl 1 rfl) ?_
  refine lv_iconst (v := 1) S.1 S.2.1 dX6_idle_1 (by decide) ?_
  refine lv_bipush (v := 40) S.1 S.2.1 dX6_idle_2 (by decide) ?_
  refine y_callSI (As := [.int x, .int 1, .int 40]) (rest := []) S hw hl.1 (c_X6_in l D cI cC cL x 1 40) (va_cwS 3 S.2.2.2.2 gX6_idle_X6_in rfl rfl rfl (by decide +kernel) ⟨Nat.le_of_ble_eq_true rfl, Nat.le_of_ble_eq_true rfl⟩) [] [0, 1, 2, 3, 4, 5, 6] rfl (by decide +kernel) (wr := [((q 0), .inr (6, [.ref (q 1), .ref (q 2), .ref (q 3), .int (u 3 0), .ref (q 4), .int (u 5 0), .ref (q 5), .int (u 7 0), .int (u 8 0), .int (u 9 0), .int (u 10 0), .int (u 11 0), .ref (q 6)])), ((q 1), .inl (cI, 162, .inl (u 0))), ((q 2), .inl (cI, 162, .inl (u 1))), ((q 3), .inl (cI, 648, .inl (u 2))), ((q 4), .inl (cI, 60, .inl (u 4))), ((q 5), .inl (cI, 3, .inl (u 6))), ((q 6), .inl (cI, 3, .inl (u 12)))]) rfl (by decide +kernel) (by decide +kernel) rfl (Nat.le_of_ble_eq_true rfl) dX6_idle_4 rfl ⟨Nat.le_refl _, Nat.le_refl _⟩ (fun H locs v_1 x_2 ev_1 ex_2 hw => ?_)
  have hw : y_W D cI cC cL A s H locs [((q 0), .inr (6, [.ref (q 1), .ref (q 2), .ref (q 3), .int (u 3 0), .ref (q 4), .int (u 5 0), .ref (q 5), .int (u 7 0), .int (u 8 0), .int (u 9 0), .int (u 10 0), .int (u 11 0), .ref (q 6)])), ((q 1), .inl (cI, 162, .inl (u 0))), ((q 2), .inl (cI, 162, .inl (u 1))), ((q 3), .inl (cI, 648, .inl (u 2))), ((q 4), .inl (cI, 60, .inl (u 4))), ((q 5), .inl (cI, 3, .inl (u 6))), ((q 6), .inl (cI, 3, .inl (u 12)))] := hw
  subst ex_2
  refine lv_if_ne (tgt := 13) S.1 S.2.1 dX6_idle_7 (by decide) (fun c_3 => ?_) (fun c_3 => ?_)
  · skip
    obtain ⟨a, ea, ha1, ha2⟩ := mIn_nat (m := 1) (n := 40) rfl rfl (by omega) (by omega) c_3
    refine lv_aload_n S.1 S.2.1 dX6_idle_13 rfl (lv_at hl 0 rfl) ?_
    refine lv_iload_n S.1 S.2.1 dX6_idle_14 rfl (lv_at hl 1 rfl) ?_
    refine y_top (y := (nI a)) (ea) ?_
    refine y_callI (As := [.int (nI a)]) (rest := []) S hw hl.1 (c_X6_handedBehind l D cI cC cL q u a (by omega)) (cwV 1 S.2.2.2.2 gX6_idle_X6_handedBehind rfl rfl rfl (by decide +kernel) ⟨Nat.le_of_ble_eq_true rfl, Nat.le_of_ble_eq_true rfl⟩) 0 rfl rfl [0, 1, 2, 3, 4, 5, 6] [] rfl (by decide +kernel) (wr := []) rfl (by decide +kernel) (by decide +kernel) rfl (Nat.le_of_ble_eq_true rfl) dX6_idle_15 rfl ⟨Nat.le_refl _, Nat.le_refl _⟩ (fun H locs v_4 x_5 ev_4 ex_5 hw => ?_)
    have hw : y_W D cI cC cL A s H locs [((q 0), .inr (6, [.ref (q 1), .ref (q 2), .ref (q 3), .int (u 3 0), .ref (q 4), .int (u 5 0), .ref (q 5), .int (u 7 0), .int (u 8 0), .int (u 9 0), .int (u 10 0), .int (u 11 0), .ref (q 6)])), ((q 1), .inl (cI, 162, .inl (u 0))), ((q 2), .inl (cI, 162, .inl (u 1))), ((q 3), .inl (cI, 648, .inl (u 2))), ((q 4), .inl (cI, 60, .inl (u 4))), ((q 5), .inl (cI, 3, .inl (u 6))), ((q 6), .inl (cI, 3, .inl (u 12)))] := hw
    subst ex_5
    refine lv_istore_n (lv' := [(2, .int (mHB (u 0 1) (u 0 6) a)), (0, .ref (q 0)), (1, .int x)]) S.1 S.2.1 dX6_idle_18 rfl hl (by decide) rfl (fun ls hl => ?_)
    refine lv_iload_n S.1 S.2.1 dX6_idle_19 rfl (lv_at hl 0 rfl) ?_
    refine lv_sipush (v := 999) S.1 S.2.1 dX6_idle_20 (by decide) ?_
    refine lv_icmp_le (tgt := 29) S.1 S.2.1 dX6_idle_23 (by decide) (fun c_6 => ?_) (fun c_6 => ?_)
    · skip
      refine lv_iload_n S.1 S.2.1 dX6_idle_29 rfl (lv_at hl 0 rfl) ?_
      refine lv_aload_n S.1 S.2.1 dX6_idle_30 rfl (lv_at hl 1 rfl) ?_
      refine y_get S hw (C := RX6) (T := TX6) (N := 13) i_X6_idle_X6 0 rfl rfl 0 (by decide) f_X6_idle_7 rfl dX6_idle_31 ?_
      refine lv_iconst (v := 1) S.1 S.2.1 dX6_idle_34 (by decide) ?_
      refine y_iald S hw 1 (k := 1) rfl (by omega) (Nat.le_of_ble_eq_true rfl) dX6_idle_35 ?_
      refine lv_isub S.1 S.2.1 dX6_idle_36 ?_
      refine lv_istore_n (lv' := [(3, .int ((mHB (u 0 1) (u 0 6) a) - ((u 0) 1))), (2, .int (mHB (u 0 1) (u 0 6) a)), (0, .ref (q 0)), (1, .int x)]) S.1 S.2.1 dX6_idle_37 rfl hl (by decide) rfl (fun ls hl => ?_)
      refine lv_aload_n S.1 S.2.1 dX6_idle_38 rfl (lv_at hl 2 rfl) ?_
      refine y_callV (As := []) (rest := []) S hw hl.1 (c_X6_records2 l D cI cC cL q u k (hs) (by omega) (c_X6_records l D cI cC cL q u k (hs) (by omega))) (cwV 0 S.2.2.2.2 gX6_idle_X6_records rfl rfl rfl (by decide +kernel) ⟨Nat.le_of_ble_eq_true rfl, Nat.le_of_ble_eq_true rfl⟩) 0 rfl rfl [0, 1, 2, 3, 4, 5, 6] [] rfl (by decide +kernel) (wr := []) rfl (by decide +kernel) (by decide +kernel) rfl (Nat.le_of_ble_eq_true rfl) dX6_idle_39 rfl ⟨Nat.le_refl _, Nat.le_refl _⟩ (fun H locs v_7 ev_7 hw => ?_)
      subst ev_7
      have hw : y_W D cI cC cL A s H locs [((q 0), .inr (6, [.ref (q 1), .ref (q 2), .ref (q 3), .int (nI (mRecK k)), .ref (q 4), .int (u 5 0), .ref (q 5), .int (u 7 0), .int (u 8 0), .int (u 9 0), .int (u 10 0), .int (u 11 0), .ref (q 6)])), ((q 1), .inl (cI, 162, .inl (u 0))), ((q 2), .inl (cI, 162, .inl (u 1))), ((q 3), .inl (cI, 648, .inl (mRecP (u 2) (u 0) k))), ((q 4), .inl (cI, 60, .inl (u 4))), ((q 5), .inl (cI, 3, .inl (u 6))), ((q 6), .inl (cI, 3, .inl (u 12)))] := hw
      refine lv_iconst (v := 0) S.1 S.2.1 dX6_idle_42 (by decide) ?_
      refine lv_istore (lv' := [(4, .int 0), (3, .int ((mHB (u 0 1) (u 0 6) a) - ((u 0) 1))), (2, .int (mHB (u 0 1) (u 0 6) a)), (0, .ref (q 0)), (1, .int x)]) S.1 S.2.1 dX6_idle_43 hl (by decide) rfl (fun ls hl => ?_)
      have lp45 : ∀ (fuel : Nat) (i : Nat) (w : U), (i ≤ a) → (w = mIdl (mSv u k) n i) → (a - i) < fuel → ∀ (H : Heap) (locs : List Loc) (ls : Array Slot), y_W D cI cC cL A s H locs [((q 0), .inr (6, [.ref (q 1), .ref (q 2), .ref (q 3), .int (w 3 0), .ref (q 4), .int (w 5 0), .ref (q 5), .int (w 7 0), .int (w 8 0), .int (w 9 0), .int (w 10 0), .int (w 11 0), .ref (q 6)])), ((q 1), .inl (cI, 162, .inl (w 0))), ((q 2), .inl (cI, 162, .inl (w 1))), ((q 3), .inl (cI, 648, .inl (w 2))), ((q 4), .inl (cI, 60, .inl (w 4))), ((q 5), .inl (cI, 3, .inl (w 6))), ((q 6), .inl (cI, 3, .inl (w 12)))] → lv_has ls 5 [(0, .ref (q 0)), (1, .int x), (3, .int ((mHB (u 0 1) (u 0 6) a) - ((u 0) 1))), (4, .int (nI i))] → W p l e (y_R 6 151) s mm args below meth c H locs 0 0 QQ (F0 mm 45 ls []) := by
        intro fuel
        induction fuel with
        | zero =>
          intro i w hi hw2 hfu
          exact absurd hfu (Nat.not_lt_zero _)
        | succ fuel ih45 =>
          intro i w hi hw2 hfu H locs ls hw hl
          refine lv_iload S.1 S.2.1 dX6_idle_45 (lv_at hl 3 rfl) ?_
          refine lv_iload_n S.1 S.2.1 dX6_idle_47 rfl (lv_at hl 1 rfl) ?_
          refine y_top (y := (nI a)) (ea) ?_
          refine lv_icmp_ge (tgt := 62) S.1 S.2.1 dX6_idle_48 (by decide) (fun c_9 => ?_) (fun c_9 => ?_)
          · skip
            have c_9N : a ≤ i := (nI_leI (a := a) (b := i) (by omega) (by omega)).mp c_9
            refine lv_iload_n S.1 S.2.1 dX6_idle_62 rfl (lv_at hl 2 rfl) ?_
            exact ret _ _ _ _ _ (by rw [show mIdleU u x n k = w from by rw [hw2, mIdleU, if_neg c_3, ea, nI_clamp (by omega), if_pos c_6, show i = a from by omega]]; exact hw) (by rw [mIdleR, if_neg c_3, ea, nI_clamp (by omega), if_pos c_6]) dX6_idle_63
          · skip
            have c_9N : ¬ a ≤ i := fun z => c_9 ((nI_leI (a := a) (b := i) (by omega) (by omega)).mpr z)
            refine lv_aload_n S.1 S.2.1 dX6_idle_51 rfl (lv_at hl 0 rfl) ?_
            refine lv_iconst (v := 0) S.1 S.2.1 dX6_idle_52 (by decide) ?_
            refine y_callV (As := [.int 0]) (rest := []) S hw hl.1 (c_X6_gives2 l D cI cC cL q w 0 n ((B + 2 * i)) (by rw [hw2]; exact mIdl_Ok (by omega) (show mOk (mSv u k 0) n B from hv) i (by omega)) (by omega) (by omega) (fun h kp t r h0 h1 h2 h3 h4 h5 h6 h7 h8 h9 => c_X6_gives l D cI cC cL q w 0 n h kp h0 (by omega) h1 h2 h3 h4 h5 t r h6 h7 h8 h9)) (cwV 1 S.2.2.2.2 gX6_idle_X6_gives rfl rfl rfl (by decide +kernel) ⟨Nat.le_of_ble_eq_true rfl, Nat.le_of_ble_eq_true rfl⟩) 0 rfl rfl [0, 1, 2, 3, 4, 5, 6] [] rfl (by decide +kernel) (wr := []) rfl (by decide +kernel) (by decide +kernel) rfl (Nat.le_of_ble_eq_true rfl) dX6_idle_53 rfl ⟨Nat.le_refl _, Nat.le_refl _⟩ (fun H locs v_10 ev_10 hw => ?_)
            have hw : y_W D cI cC cL A s H locs [((q 0), .inr (6, [.ref (q 1), .ref (q 2), .ref (q 3), .int (v_10 3 0), .ref (q 4), .int (v_10 5 0), .ref (q 5), .int (v_10 7 0), .int (v_10 8 0), .int (v_10 9 0), .int (v_10 10 0), .int (v_10 11 0), .ref (q 6)])), ((q 1), .inl (cI, 162, .inl (v_10 0))), ((q 2), .inl (cI, 162, .inl (v_10 1))), ((q 3), .inl (cI, 648, .inl (v_10 2))), ((q 4), .inl (cI, 60, .inl (v_10 4))), ((q 5), .inl (cI, 3, .inl (v_10 6))), ((q 6), .inl (cI, 3, .inl (v_10 12)))] := hw
            refine lv_iinc (v := (nI (i + 1))) (lv' := [(4, .int (nI (i + 1))), (0, .ref (q 0)), (1, .int x), (3, .int ((mHB (u 0 1) (u 0 6) a) - ((u 0) 1)))]) S.1 S.2.1 dX6_idle_56 hl (k := 3) rfl (by first | exact nI_1 _ | exact nI_add _ _) (by decide) rfl (fun ls hl => ?_)
            refine lv_goto (tgt := 45) S.1 S.2.1 dX6_idle_59 (by decide) ?_
            exact ih45 (i + 1) v_10 (by omega) (by rw [ev_10, hw2]; rfl) (by omega) _ _ ls hw (lv_sub hl [1, 2, 3, 0] rfl)
      exact lp45 ((a - 0) + 1) 0 (va_up (va_up u 2 (mRecP (u 2) (u 0) k)) 3 (fun _ => (nI (mRecK k)))) (Nat.zero_le _) (rfl) (Nat.lt_succ_self _) _ _ ls hw (lv_sub hl [3, 4, 1, 0] rfl)
    · skip
      refine lv_ldc (v := (-2000003)) S.1 S.2.1 S.2.2.2.1 (S.2.2.2.2 _ k_X6_idle_88) dX6_idle_26 ?_
      exact ret _ _ _ _ _ (by rw [show mIdleU u x n k = u from by rw [mIdleU, if_neg c_3, ea, nI_clamp (by omega), if_neg c_6]]; exact hw) (by rw [mIdleR, if_neg c_3, ea, nI_clamp (by omega), if_neg c_6]) dX6_idle_28
  · skip
    refine lv_ldc (v := (-2000001)) S.1 S.2.1 S.2.2.2.1 (S.2.2.2.2 _ k_X6_idle_69) dX6_idle_10 ?_
    exact ret _ _ _ _ _ (by rw [show mIdleU u x n k = u from by rw [mIdleU, if_pos c_3]]; exact hw) (by rw [mIdleR, if_pos c_3]) dX6_idle_12

theorem i_X6_stageOf_X6 : ∀ w ∈ u_ws RX6 TX6 13, w ∈ wsX6_stageOf := by decide +kernel
theorem f_X6_stageOf_7 : Cond.fieldLink RX6 7 "ChargeLinesModel" "s" "[I" ∈ wsX6_stageOf := by decide +kernel
theorem k_X6_stageOf_69 : Cond.constant RX6 69 (-2000001) ∈ wsX6_stageOf := by decide +kernel
set_option maxHeartbeats 4000000 in
set_option maxRecDepth 100000 in
/-- Model.stageOf -/
theorem c_X6_stageOf (l : Launch) (D : va_G) (cI cC cL : ClassId) (q : Nat → Nat) (u : U) (x y : Int32) (n : Nat) (hn : u 0 0 = nI n) (h10 : n ≤ 10) (hn1 : 1 ≤ n) : y_MI l yX6_stageOf wsX6_stageOf 3 63 D cI cC cL [.ref (q 0), .int x, .int y] (cMd cI q u) (mStageOfR (u 0) x y) (fun _ : Unit => cMd cI q u) () := by
  refine y_startI (cc := cX6_stageOf) (maxL := 3) (ret := some .int) (by decide +kernel) rfl (Nat.le_of_ble_eq_true rfl) ⟨_, rfl, fun x _ => rfl⟩ (fun h => by cases h) ?_
  intro p e s mm args below meth c A QQ ls S hw ret hl
  have S : CallFix p mm c cX6_stageOf 3 s args wsX6_stageOf RX6 := S
  have hw : y_W D cI cC cL A s s.heap [] [((q 0), .inr (6, [.ref (q 1), .ref (q 2), .ref (q 3), .int (u 3 0), .ref (q 4), .int (u 5 0), .ref (q 5), .int (u 7 0), .int (u 8 0), .int (u 9 0), .int (u 10 0), .int (u 11 0), .ref (q 6)])), ((q 1), .inl (cI, 162, .inl (u 0))), ((q 2), .inl (cI, 162, .inl (u 1))), ((q 3), .inl (cI, 648, .inl (u 2))), ((q 4), .inl (cI, 60, .inl (u 4))), ((q 5), .inl (cI, 3, .inl (u 6))), ((q 6), .inl (cI, 3, .inl (u 12)))] := hw
  have hl : lv_has ls 3 [(0, .ref (q 0)), (1, .int x), (2, .int y)] := hl
  refine lv_aload_n S.1 S.2.1 dX6_stageOf_0 rfl (lv_at hl 0 rfl) ?_
  refine lv_iload_n S.1 S.2.1 dX6_stageOf_1 rfl (lv_at hl 1 rfl) ?_
  refine y_callI (As := [.int x]) (rest := []) S hw hl.1 (c_X6_isStage l D cI cC cL q u x) (cwV 1 S.2.2.2.2 gX6_stageOf_X6_isStage rfl rfl rfl (by decide +kernel) ⟨Nat.le_of_ble_eq_true rfl, Nat.le_of_ble_eq_true rfl⟩) 0 rfl rfl [0, 1, 2, 3, 4, 5, 6] [] rfl (by decide +kernel) (wr := []) rfl (by decide +kernel) (by decide +kernel) rfl (Nat.le_of_ble_eq_true rfl) dX6_stageOf_2 rfl ⟨Nat.le_refl _, Nat.le_refl _⟩ (fun H locs v_1 x_2 ev_1 ex_2 hw => ?_)
  have hw : y_W D cI cC cL A s H locs [((q 0), .inr (6, [.ref (q 1), .ref (q 2), .ref (q 3), .int (u 3 0), .ref (q 4), .int (u 5 0), .ref (q 5), .int (u 7 0), .int (u 8 0), .int (u 9 0), .int (u 10 0), .int (u 11 0), .ref (q 6)])), ((q 1), .inl (cI, 162, .inl (u 0))), ((q 2), .inl (cI, 162, .inl (u 1))), ((q 3), .inl (cI, 648, .inl (u 2))), ((q 4), .inl (cI, 60, .inl (u 4))), ((q 5), .inl (cI, 3, .inl (u 6))), ((q 6), .inl (cI, 3, .inl (u 12)))] := hw
  subst ex_2
  refine lv_if_ne (tgt := 11) S.1 S.2.1 dX6_stageOf_5 (by decide) (fun c_3 => ?_) (fun c_3 => ?_)
  · skip
    obtain ⟨a, ea, ha1, ha2⟩ := mIn_nat (m := 0) (n := n - 1) rfl (show u 0 0 - 1 = nI (n - 1) from by rw [hn]; exact pk_sub (by omega)) (by omega) (by omega) c_3
    refine lv_iload_n S.1 S.2.1 dX6_stageOf_11 rfl (lv_at hl 2 rfl) ?_
    by_cases c_4_0 : y = 0
    · skip
      refine lv_tableIn (tgt := 52) S.1 S.2.1 dX6_stageOf_12 (by rw [c_4_0]; decide) (by rw [c_4_0]; decide) (by rw [c_4_0]; rfl) (by decide) ?_
      refine lv_aload_n S.1 S.2.1 dX6_stageOf_52 rfl (lv_at hl 0 rfl) ?_
      refine y_get S hw (C := RX6) (T := TX6) (N := 13) i_X6_stageOf_X6 0 rfl rfl 0 (by decide) f_X6_stageOf_7 rfl dX6_stageOf_53 ?_
      refine lv_bipush (v := 10) S.1 S.2.1 dX6_stageOf_56 (by decide) ?_
      refine lv_iload_n S.1 S.2.1 dX6_stageOf_58 rfl (lv_at hl 1 rfl) ?_
      refine y_top (y := (nI a)) (ea) ?_
      refine y_iaddN S 10 a dX6_stageOf_59 ?_
      refine y_iald S hw 1 (k := (10 + a)) rfl (by omega) (Nat.le_of_ble_eq_true rfl) dX6_stageOf_60 ?_
      exact ret _ _ _ _ _ (by exact hw) (by rw [mStageOfR, if_neg c_3, ea, nI_clamp (by omega)]; rw [if_pos c_4_0]) dX6_stageOf_61
    by_cases c_4_1 : y = 1
    · skip
      refine lv_tableIn (tgt := 62) S.1 S.2.1 dX6_stageOf_12 (by rw [c_4_1]; decide) (by rw [c_4_1]; decide) (by rw [c_4_1]; rfl) (by decide) ?_
      refine lv_aload_n S.1 S.2.1 dX6_stageOf_62 rfl (lv_at hl 0 rfl) ?_
      refine y_get S hw (C := RX6) (T := TX6) (N := 13) i_X6_stageOf_X6 0 rfl rfl 0 (by decide) f_X6_stageOf_7 rfl dX6_stageOf_63 ?_
      refine lv_bipush (v := 20) S.1 S.2.1 dX6_stageOf_66 (by decide) ?_
      refine lv_iload_n S.1 S.2.1 dX6_stageOf_68 rfl (lv_at hl 1 rfl) ?_
      refine y_top (y := (nI a)) (ea) ?_
      refine y_iaddN S 20 a dX6_stageOf_69 ?_
      refine y_iald S hw 1 (k := (20 + a)) rfl (by omega) (Nat.le_of_ble_eq_true rfl) dX6_stageOf_70 ?_
      exact ret _ _ _ _ _ (by exact hw) (by rw [mStageOfR, if_neg c_3, ea, nI_clamp (by omega)]; rw [if_neg c_4_0, if_pos c_4_1]) dX6_stageOf_71
    by_cases c_4_2 : y = 2
    · skip
      refine lv_tableIn (tgt := 72) S.1 S.2.1 dX6_stageOf_12 (by rw [c_4_2]; decide) (by rw [c_4_2]; decide) (by rw [c_4_2]; rfl) (by decide) ?_
      refine lv_aload_n S.1 S.2.1 dX6_stageOf_72 rfl (lv_at hl 0 rfl) ?_
      refine y_get S hw (C := RX6) (T := TX6) (N := 13) i_X6_stageOf_X6 0 rfl rfl 0 (by decide) f_X6_stageOf_7 rfl dX6_stageOf_73 ?_
      refine lv_bipush (v := 30) S.1 S.2.1 dX6_stageOf_76 (by decide) ?_
      refine lv_iload_n S.1 S.2.1 dX6_stageOf_78 rfl (lv_at hl 1 rfl) ?_
      refine y_top (y := (nI a)) (ea) ?_
      refine y_iaddN S 30 a dX6_stageOf_79 ?_
      refine y_iald S hw 1 (k := (30 + a)) rfl (by omega) (Nat.le_of_ble_eq_true rfl) dX6_stageOf_80 ?_
      exact ret _ _ _ _ _ (by exact hw) (by rw [mStageOfR, if_neg c_3, ea, nI_clamp (by omega)]; rw [if_neg c_4_0, if_neg c_4_1, if_pos c_4_2]) dX6_stageOf_81
    by_cases c_4_3 : y = 3
    · skip
      refine lv_tableIn (tgt := 82) S.1 S.2.1 dX6_stageOf_12 (by rw [c_4_3]; decide) (by rw [c_4_3]; decide) (by rw [c_4_3]; rfl) (by decide) ?_
      refine lv_aload_n S.1 S.2.1 dX6_stageOf_82 rfl (lv_at hl 0 rfl) ?_
      refine y_get S hw (C := RX6) (T := TX6) (N := 13) i_X6_stageOf_X6 0 rfl rfl 0 (by decide) f_X6_stageOf_7 rfl dX6_stageOf_83 ?_
      refine lv_iload_n S.1 S.2.1 dX6_stageOf_86 rfl (lv_at hl 1 rfl) ?_
      refine y_top (y := (nI a)) (ea) ?_
      refine y_callSI (As := [.ref (q 1), .int (nI a)]) (rest := []) S hw hl.1 (c_X6_staying l D cI cC cL (q 1) (u 0) a (by omega)) (va_cwS 2 S.2.2.2.2 gX6_stageOf_X6_staying rfl rfl rfl (by decide +kernel) ⟨Nat.le_of_ble_eq_true rfl, Nat.le_of_ble_eq_true rfl⟩) [1] [0, 2, 3, 4, 5, 6] rfl (by decide +kernel) (wr := [((q 0), .inr (6, [.ref (q 1), .ref (q 2), .ref (q 3), .int (u 3 0), .ref (q 4), .int (u 5 0), .ref (q 5), .int (u 7 0), .int (u 8 0), .int (u 9 0), .int (u 10 0), .int (u 11 0), .ref (q 6)])), ((q 2), .inl (cI, 162, .inl (u 1))), ((q 3), .inl (cI, 648, .inl (u 2))), ((q 4), .inl (cI, 60, .inl (u 4))), ((q 5), .inl (cI, 3, .inl (u 6))), ((q 6), .inl (cI, 3, .inl (u 12)))]) rfl (by decide +kernel) (by decide +kernel) rfl (Nat.le_of_ble_eq_true rfl) dX6_stageOf_87 rfl ⟨Nat.le_refl _, Nat.le_refl _⟩ (fun H locs v_5 x_6 ev_5 ex_6 hw => ?_)
      have hw : y_W D cI cC cL A s H locs [((q 0), .inr (6, [.ref (q 1), .ref (q 2), .ref (q 3), .int (u 3 0), .ref (q 4), .int (u 5 0), .ref (q 5), .int (u 7 0), .int (u 8 0), .int (u 9 0), .int (u 10 0), .int (u 11 0), .ref (q 6)])), ((q 2), .inl (cI, 162, .inl (u 1))), ((q 3), .inl (cI, 648, .inl (u 2))), ((q 4), .inl (cI, 60, .inl (u 4))), ((q 5), .inl (cI, 3, .inl (u 6))), ((q 6), .inl (cI, 3, .inl (u 12))), ((q 1), .inl (cI, 162, .inl (u 0)))] := hw
      subst ex_6
      exact ret _ _ _ _ _ (by exact (hw.sub [0, 6, 1, 2, 3, 4, 5] (by decide +kernel) rfl)) (by rw [mStageOfR, if_neg c_3, ea, nI_clamp (by omega)]; rw [if_neg c_4_0, if_neg c_4_1, if_neg c_4_2, if_pos c_4_3]) dX6_stageOf_90
    by_cases c_4_4 : y = 4
    · skip
      refine lv_tableIn (tgt := 91) S.1 S.2.1 dX6_stageOf_12 (by rw [c_4_4]; decide) (by rw [c_4_4]; decide) (by rw [c_4_4]; rfl) (by decide) ?_
      refine lv_aload_n S.1 S.2.1 dX6_stageOf_91 rfl (lv_at hl 0 rfl) ?_
      refine y_get S hw (C := RX6) (T := TX6) (N := 13) i_X6_stageOf_X6 0 rfl rfl 0 (by decide) f_X6_stageOf_7 rfl dX6_stageOf_92 ?_
      refine lv_iload_n S.1 S.2.1 dX6_stageOf_95 rfl (lv_at hl 1 rfl) ?_
      refine y_top (y := (nI a)) (ea) ?_
      refine y_callSI (As := [.ref (q 1), .int (nI a)]) (rest := []) S hw hl.1 (c_X6_leaking l D cI cC cL (q 1) (u 0) a (by omega)) (va_cwS 2 S.2.2.2.2 gX6_stageOf_X6_leaking rfl rfl rfl (by decide +kernel) ⟨Nat.le_of_ble_eq_true rfl, Nat.le_of_ble_eq_true rfl⟩) [1] [0, 2, 3, 4, 5, 6] rfl (by decide +kernel) (wr := [((q 0), .inr (6, [.ref (q 1), .ref (q 2), .ref (q 3), .int (u 3 0), .ref (q 4), .int (u 5 0), .ref (q 5), .int (u 7 0), .int (u 8 0), .int (u 9 0), .int (u 10 0), .int (u 11 0), .ref (q 6)])), ((q 2), .inl (cI, 162, .inl (u 1))), ((q 3), .inl (cI, 648, .inl (u 2))), ((q 4), .inl (cI, 60, .inl (u 4))), ((q 5), .inl (cI, 3, .inl (u 6))), ((q 6), .inl (cI, 3, .inl (u 12)))]) rfl (by decide +kernel) (by decide +kernel) rfl (Nat.le_of_ble_eq_true rfl) dX6_stageOf_96 rfl ⟨Nat.le_refl _, Nat.le_refl _⟩ (fun H locs v_7 x_8 ev_7 ex_8 hw => ?_)
      have hw : y_W D cI cC cL A s H locs [((q 0), .inr (6, [.ref (q 1), .ref (q 2), .ref (q 3), .int (u 3 0), .ref (q 4), .int (u 5 0), .ref (q 5), .int (u 7 0), .int (u 8 0), .int (u 9 0), .int (u 10 0), .int (u 11 0), .ref (q 6)])), ((q 2), .inl (cI, 162, .inl (u 1))), ((q 3), .inl (cI, 648, .inl (u 2))), ((q 4), .inl (cI, 60, .inl (u 4))), ((q 5), .inl (cI, 3, .inl (u 6))), ((q 6), .inl (cI, 3, .inl (u 12))), ((q 1), .inl (cI, 162, .inl (u 0)))] := hw
      subst ex_8
      exact ret _ _ _ _ _ (by exact (hw.sub [0, 6, 1, 2, 3, 4, 5] (by decide +kernel) rfl)) (by rw [mStageOfR, if_neg c_3, ea, nI_clamp (by omega)]; rw [if_neg c_4_0, if_neg c_4_1, if_neg c_4_2, if_neg c_4_3, if_pos c_4_4]) dX6_stageOf_99
    by_cases c_4_5 : y = 5
    · skip
      refine lv_tableIn (tgt := 100) S.1 S.2.1 dX6_stageOf_12 (by rw [c_4_5]; decide) (by rw [c_4_5]; decide) (by rw [c_4_5]; rfl) (by decide) ?_
      refine lv_aload_n S.1 S.2.1 dX6_stageOf_100 rfl (lv_at hl 0 rfl) ?_
      refine y_get S hw (C := RX6) (T := TX6) (N := 13) i_X6_stageOf_X6 0 rfl rfl 0 (by decide) f_X6_stageOf_7 rfl dX6_stageOf_101 ?_
      refine lv_iload_n S.1 S.2.1 dX6_stageOf_104 rfl (lv_at hl 1 rfl) ?_
      refine y_top (y := (nI a)) (ea) ?_
      refine y_callSI (As := [.ref (q 1), .int (nI a)]) (rest := []) S hw hl.1 (c_X6_moving l D cI cC cL (q 1) (u 0) a (by omega)) (va_cwS 2 S.2.2.2.2 gX6_stageOf_X6_moving rfl rfl rfl (by decide +kernel) ⟨Nat.le_of_ble_eq_true rfl, Nat.le_of_ble_eq_true rfl⟩) [1] [0, 2, 3, 4, 5, 6] rfl (by decide +kernel) (wr := [((q 0), .inr (6, [.ref (q 1), .ref (q 2), .ref (q 3), .int (u 3 0), .ref (q 4), .int (u 5 0), .ref (q 5), .int (u 7 0), .int (u 8 0), .int (u 9 0), .int (u 10 0), .int (u 11 0), .ref (q 6)])), ((q 2), .inl (cI, 162, .inl (u 1))), ((q 3), .inl (cI, 648, .inl (u 2))), ((q 4), .inl (cI, 60, .inl (u 4))), ((q 5), .inl (cI, 3, .inl (u 6))), ((q 6), .inl (cI, 3, .inl (u 12)))]) rfl (by decide +kernel) (by decide +kernel) rfl (Nat.le_of_ble_eq_true rfl) dX6_stageOf_105 rfl ⟨Nat.le_refl _, Nat.le_refl _⟩ (fun H locs v_9 x_10 ev_9 ex_10 hw => ?_)
      have hw : y_W D cI cC cL A s H locs [((q 0), .inr (6, [.ref (q 1), .ref (q 2), .ref (q 3), .int (u 3 0), .ref (q 4), .int (u 5 0), .ref (q 5), .int (u 7 0), .int (u 8 0), .int (u 9 0), .int (u 10 0), .int (u 11 0), .ref (q 6)])), ((q 2), .inl (cI, 162, .inl (u 1))), ((q 3), .inl (cI, 648, .inl (u 2))), ((q 4), .inl (cI, 60, .inl (u 4))), ((q 5), .inl (cI, 3, .inl (u 6))), ((q 6), .inl (cI, 3, .inl (u 12))), ((q 1), .inl (cI, 162, .inl (u 0)))] := hw
      subst ex_10
      exact ret _ _ _ _ _ (by exact (hw.sub [0, 6, 1, 2, 3, 4, 5] (by decide +kernel) rfl)) (by rw [mStageOfR, if_neg c_3, ea, nI_clamp (by omega)]; rw [if_neg c_4_0, if_neg c_4_1, if_neg c_4_2, if_neg c_4_3, if_neg c_4_4, if_pos c_4_5]) dX6_stageOf_108
    refine lv_tableOut (tgt := 109) S.1 S.2.1 dX6_stageOf_12 (y_tabOut 0 5 (by decide) (by decide) (fun k h1 h2 => ?_)) (by decide) ?_
    · have hk : k = 0 ∨ k = 1 ∨ k = 2 ∨ k = 3 ∨ k = 4 ∨ k = 5 := by omega
      rcases hk with rfl | rfl | rfl | rfl | rfl | rfl
      · exact c_4_0
      · exact c_4_1
      · exact c_4_2
      · exact c_4_3
      · exact c_4_4
      · exact c_4_5
    refine lv_ldc (v := (-2000001)) S.1 S.2.1 S.2.2.2.1 (S.2.2.2.2 _ k_X6_stageOf_69) dX6_stageOf_109 ?_
    exact ret _ _ _ _ _ (by exact hw) (by rw [mStageOfR, if_neg c_3, ea, nI_clamp (by omega)]; rw [if_neg c_4_0, if_neg c_4_1, if_neg c_4_2, if_neg c_4_3, if_neg c_4_4, if_neg c_4_5]) dX6_stageOf_111
  · skip
    refine lv_ldc (v := (-2000001)) S.1 S.2.1 S.2.2.2.1 (S.2.2.2.2 _ k_X6_stageOf_69) dX6_stageOf_8 ?_
    exact ret _ _ _ _ _ (by exact hw) (by rw [mStageOfR, if_pos c_3]) dX6_stageOf_10

theorem i_X6_of_X6 : ∀ w ∈ u_ws RX6 TX6 13, w ∈ wsX6_of := by decide +kernel
theorem f_X6_of_7 : Cond.fieldLink RX6 7 "ChargeLinesModel" "s" "[I" ∈ wsX6_of := by decide +kernel
set_option maxHeartbeats 4000000 in
set_option maxRecDepth 100000 in
/-- Model.of -/
theorem c_X6_of (l : Launch) (D : va_G) (cI cC cL : ClassId) (q : Nat → Nat) (u : U) (a y : Nat) (ha : a < 16) (hy : y < 5) : y_MI l yX6_of wsX6_of 0 0 D cI cC cL [.ref (q 0), .int (nI a), .int (nI y)] (cMd cI q u) (u 0 (82 + 5 * a + y)) (fun _ : Unit => cMd cI q u) () := by
  refine y_startI (cc := cX6_of) (maxL := 3) (ret := some .int) (by decide +kernel) rfl (Nat.le_of_ble_eq_true rfl) ⟨_, rfl, fun x _ => rfl⟩ (fun h => by cases h) ?_
  intro p e s mm args below meth c A QQ ls S hw ret hl
  have S : CallFix p mm c cX6_of 3 s args wsX6_of RX6 := S
  have hw : y_W D cI cC cL A s s.heap [] [((q 0), .inr (6, [.ref (q 1), .ref (q 2), .ref (q 3), .int (u 3 0), .ref (q 4), .int (u 5 0), .ref (q 5), .int (u 7 0), .int (u 8 0), .int (u 9 0), .int (u 10 0), .int (u 11 0), .ref (q 6)])), ((q 1), .inl (cI, 162, .inl (u 0))), ((q 2), .inl (cI, 162, .inl (u 1))), ((q 3), .inl (cI, 648, .inl (u 2))), ((q 4), .inl (cI, 60, .inl (u 4))), ((q 5), .inl (cI, 3, .inl (u 6))), ((q 6), .inl (cI, 3, .inl (u 12)))] := hw
  have hl : lv_has ls 3 [(0, .ref (q 0)), (1, .int (nI a)), (2, .int (nI y))] := hl
  refine lv_aload_n S.1 S.2.1 dX6_of_0 rfl (lv_at hl 0 rfl) ?_
  refine y_get S hw (C := RX6) (T := TX6) (N := 13) i_X6_of_X6 0 rfl rfl 0 (by decide) f_X6_of_7 rfl dX6_of_1 ?_
  refine lv_bipush (v := 82) S.1 S.2.1 dX6_of_4 (by decide) ?_
  refine lv_iconst (v := 5) S.1 S.2.1 dX6_of_6 (by decide) ?_
  refine lv_iload_n S.1 S.2.1 dX6_of_7 rfl (lv_at hl 1 rfl) ?_
  refine y_imulN S 5 a dX6_of_8 ?_
  refine y_iaddN S 82 (5 * a) dX6_of_9 ?_
  refine lv_iload_n S.1 S.2.1 dX6_of_10 rfl (lv_at hl 2 rfl) ?_
  refine y_iaddN S (82 + (5 * a)) y dX6_of_11 ?_
  refine y_iald S hw 1 (k := ((82 + (5 * a)) + y)) rfl (by omega) (Nat.le_of_ble_eq_true rfl) dX6_of_12 ?_
  exact ret _ _ _ _ _ (by exact hw) (by rfl) dX6_of_13

set_option maxHeartbeats 4000000 in
set_option maxRecDepth 100000 in
/-- Model.error -/
theorem c_X6_error (l : Launch) (D : va_G) (cI cC cL : ClassId) (q : Nat → Nat) (u : U) (a : Nat) (ha : a < 16) : y_MI l yX6_error wsX6_error 1 22 D cI cC cL [.ref (q 0), .int (nI a)] (cMd cI q u) (mErr (u 0) a) (fun _ : Unit => cMd cI q u) () := by
  refine y_startI (cc := cX6_error) (maxL := 2) (ret := some .int) (by decide +kernel) rfl (Nat.le_of_ble_eq_true rfl) ⟨_, rfl, fun x _ => rfl⟩ (fun h => by cases h) ?_
  intro p e s mm args below meth c A QQ ls S hw ret hl
  have S : CallFix p mm c cX6_error 2 s args wsX6_error RX6 := S
  have hw : y_W D cI cC cL A s s.heap [] [((q 0), .inr (6, [.ref (q 1), .ref (q 2), .ref (q 3), .int (u 3 0), .ref (q 4), .int (u 5 0), .ref (q 5), .int (u 7 0), .int (u 8 0), .int (u 9 0), .int (u 10 0), .int (u 11 0), .ref (q 6)])), ((q 1), .inl (cI, 162, .inl (u 0))), ((q 2), .inl (cI, 162, .inl (u 1))), ((q 3), .inl (cI, 648, .inl (u 2))), ((q 4), .inl (cI, 60, .inl (u 4))), ((q 5), .inl (cI, 3, .inl (u 6))), ((q 6), .inl (cI, 3, .inl (u 12)))] := hw
  have hl : lv_has ls 2 [(0, .ref (q 0)), (1, .int (nI a))] := hl
  refine lv_aload_n S.1 S.2.1 dX6_error_0 rfl (lv_at hl 0 rfl) ?_
  refine lv_iload_n S.1 S.2.1 dX6_error_1 rfl (lv_at hl 1 rfl) ?_
  refine lv_iconst (v := 3) S.1 S.2.1 dX6_error_2 (by decide) ?_
  refine y_callI (As := [.int (nI a), .int 3]) (rest := []) S hw hl.1 (c_X6_of l D cI cC cL q u a 3 (by omega) (by omega)) (cwV 2 S.2.2.2.2 gX6_error_X6_of rfl rfl rfl (by decide +kernel) ⟨Nat.le_of_ble_eq_true rfl, Nat.le_of_ble_eq_true rfl⟩) 0 rfl rfl [0, 1, 2, 3, 4, 5, 6] [] rfl (by decide +kernel) (wr := []) rfl (by decide +kernel) (by decide +kernel) rfl (Nat.le_of_ble_eq_true rfl) dX6_error_3 rfl ⟨Nat.le_refl _, Nat.le_refl _⟩ (fun H locs v_1 x_2 ev_1 ex_2 hw => ?_)
  have hw : y_W D cI cC cL A s H locs [((q 0), .inr (6, [.ref (q 1), .ref (q 2), .ref (q 3), .int (u 3 0), .ref (q 4), .int (u 5 0), .ref (q 5), .int (u 7 0), .int (u 8 0), .int (u 9 0), .int (u 10 0), .int (u 11 0), .ref (q 6)])), ((q 1), .inl (cI, 162, .inl (u 0))), ((q 2), .inl (cI, 162, .inl (u 1))), ((q 3), .inl (cI, 648, .inl (u 2))), ((q 4), .inl (cI, 60, .inl (u 4))), ((q 5), .inl (cI, 3, .inl (u 6))), ((q 6), .inl (cI, 3, .inl (u 12)))] := hw
  subst ex_2
  refine y_top (y := ((u 0) (82 + 5 * a + 3))) rfl ?_
  refine lv_iconst (v := (-1)) S.1 S.2.1 dX6_error_6 (by decide) ?_
  refine lv_icmp_ne (tgt := 19) S.1 S.2.1 dX6_error_7 (by decide) (fun c_3 => ?_) (fun c_3 => ?_)
  · skip
    refine lv_aload_n S.1 S.2.1 dX6_error_19 rfl (lv_at hl 0 rfl) ?_
    refine lv_iload_n S.1 S.2.1 dX6_error_20 rfl (lv_at hl 1 rfl) ?_
    refine lv_iconst (v := 3) S.1 S.2.1 dX6_error_21 (by decide) ?_
    refine y_callI (As := [.int (nI a), .int 3]) (rest := []) S hw hl.1 (c_X6_of l D cI cC cL q u a 3 (by omega) (by omega)) (cwV 2 S.2.2.2.2 gX6_error_X6_of rfl rfl rfl (by decide +kernel) ⟨Nat.le_of_ble_eq_true rfl, Nat.le_of_ble_eq_true rfl⟩) 0 rfl rfl [0, 1, 2, 3, 4, 5, 6] [] rfl (by decide +kernel) (wr := []) rfl (by decide +kernel) (by decide +kernel) rfl (Nat.le_of_ble_eq_true rfl) dX6_error_22 rfl ⟨Nat.le_refl _, Nat.le_refl _⟩ (fun H locs v_4 x_5 ev_4 ex_5 hw => ?_)
    have hw : y_W D cI cC cL A s H locs [((q 0), .inr (6, [.ref (q 1), .ref (q 2), .ref (q 3), .int (u 3 0), .ref (q 4), .int (u 5 0), .ref (q 5), .int (u 7 0), .int (u 8 0), .int (u 9 0), .int (u 10 0), .int (u 11 0), .ref (q 6)])), ((q 1), .inl (cI, 162, .inl (u 0))), ((q 2), .inl (cI, 162, .inl (u 1))), ((q 3), .inl (cI, 648, .inl (u 2))), ((q 4), .inl (cI, 60, .inl (u 4))), ((q 5), .inl (cI, 3, .inl (u 6))), ((q 6), .inl (cI, 3, .inl (u 12)))] := hw
    subst ex_5
    refine y_top (y := ((u 0) (82 + 5 * a + 3))) rfl ?_
    refine lv_aload_n S.1 S.2.1 dX6_error_25 rfl (lv_at hl 0 rfl) ?_
    refine lv_iload_n S.1 S.2.1 dX6_error_26 rfl (lv_at hl 1 rfl) ?_
    refine lv_iconst (v := 1) S.1 S.2.1 dX6_error_27 (by decide) ?_
    refine y_callI (As := [.int (nI a), .int 1]) (rest := [.int ((u 0) (82 + 5 * a + 3))]) S hw hl.1 (c_X6_of l D cI cC cL q u a 1 (by omega) (by omega)) (cwV 2 S.2.2.2.2 gX6_error_X6_of rfl rfl rfl (by decide +kernel) ⟨Nat.le_of_ble_eq_true rfl, Nat.le_of_ble_eq_true rfl⟩) 0 rfl rfl [0, 1, 2, 3, 4, 5, 6] [] rfl (by decide +kernel) (wr := []) rfl (by decide +kernel) (by decide +kernel) rfl (Nat.le_of_ble_eq_true rfl) dX6_error_28 rfl ⟨Nat.le_refl _, Nat.le_refl _⟩ (fun H locs v_6 x_7 ev_6 ex_7 hw => ?_)
    have hw : y_W D cI cC cL A s H locs [((q 0), .inr (6, [.ref (q 1), .ref (q 2), .ref (q 3), .int (u 3 0), .ref (q 4), .int (u 5 0), .ref (q 5), .int (u 7 0), .int (u 8 0), .int (u 9 0), .int (u 10 0), .int (u 11 0), .ref (q 6)])), ((q 1), .inl (cI, 162, .inl (u 0))), ((q 2), .inl (cI, 162, .inl (u 1))), ((q 3), .inl (cI, 648, .inl (u 2))), ((q 4), .inl (cI, 60, .inl (u 4))), ((q 5), .inl (cI, 3, .inl (u 6))), ((q 6), .inl (cI, 3, .inl (u 12)))] := hw
    subst ex_7
    refine y_top (y := ((u 0) (82 + 5 * a + 1))) rfl ?_
    refine lv_isub S.1 S.2.1 dX6_error_31 ?_
    exact ret _ _ _ _ _ (by exact hw) (by unfold mErr; first | rw [if_pos c_3] | rw [if_neg (not_not_intro c_3)]) dX6_error_32
  · skip
    refine lv_aload_n S.1 S.2.1 dX6_error_10 rfl (lv_at hl 0 rfl) ?_
    refine lv_iload_n S.1 S.2.1 dX6_error_11 rfl (lv_at hl 1 rfl) ?_
    refine lv_iconst (v := 2) S.1 S.2.1 dX6_error_12 (by decide) ?_
    refine y_callI (As := [.int (nI a), .int 2]) (rest := []) S hw hl.1 (c_X6_of l D cI cC cL q u a 2 (by omega) (by omega)) (cwV 2 S.2.2.2.2 gX6_error_X6_of rfl rfl rfl (by decide +kernel) ⟨Nat.le_of_ble_eq_true rfl, Nat.le_of_ble_eq_true rfl⟩) 0 rfl rfl [0, 1, 2, 3, 4, 5, 6] [] rfl (by decide +kernel) (wr := []) rfl (by decide +kernel) (by decide +kernel) rfl (Nat.le_of_ble_eq_true rfl) dX6_error_13 rfl ⟨Nat.le_refl _, Nat.le_refl _⟩ (fun H locs v_8 x_9 ev_8 ex_9 hw => ?_)
    have hw : y_W D cI cC cL A s H locs [((q 0), .inr (6, [.ref (q 1), .ref (q 2), .ref (q 3), .int (u 3 0), .ref (q 4), .int (u 5 0), .ref (q 5), .int (u 7 0), .int (u 8 0), .int (u 9 0), .int (u 10 0), .int (u 11 0), .ref (q 6)])), ((q 1), .inl (cI, 162, .inl (u 0))), ((q 2), .inl (cI, 162, .inl (u 1))), ((q 3), .inl (cI, 648, .inl (u 2))), ((q 4), .inl (cI, 60, .inl (u 4))), ((q 5), .inl (cI, 3, .inl (u 6))), ((q 6), .inl (cI, 3, .inl (u 12)))] := hw
    subst ex_9
    refine y_top (y := ((u 0) (82 + 5 * a + 2))) rfl ?_
    refine lv_goto (tgt := 25) S.1 S.2.1 dX6_error_16 (by decide) ?_
    refine lv_aload_n S.1 S.2.1 dX6_error_25 rfl (lv_at hl 0 rfl) ?_
    refine lv_iload_n S.1 S.2.1 dX6_error_26 rfl (lv_at hl 1 rfl) ?_
    refine lv_iconst (v := 1) S.1 S.2.1 dX6_error_27 (by decide) ?_
    refine y_callI (As := [.int (nI a), .int 1]) (rest := [.int ((u 0) (82 + 5 * a + 2))]) S hw hl.1 (c_X6_of l D cI cC cL q u a 1 (by omega) (by omega)) (cwV 2 S.2.2.2.2 gX6_error_X6_of rfl rfl rfl (by decide +kernel) ⟨Nat.le_of_ble_eq_true rfl, Nat.le_of_ble_eq_true rfl⟩) 0 rfl rfl [0, 1, 2, 3, 4, 5, 6] [] rfl (by decide +kernel) (wr := []) rfl (by decide +kernel) (by decide +kernel) rfl (Nat.le_of_ble_eq_true rfl) dX6_error_28 rfl ⟨Nat.le_refl _, Nat.le_refl _⟩ (fun H locs v_10 x_11 ev_10 ex_11 hw => ?_)
    have hw : y_W D cI cC cL A s H locs [((q 0), .inr (6, [.ref (q 1), .ref (q 2), .ref (q 3), .int (u 3 0), .ref (q 4), .int (u 5 0), .ref (q 5), .int (u 7 0), .int (u 8 0), .int (u 9 0), .int (u 10 0), .int (u 11 0), .ref (q 6)])), ((q 1), .inl (cI, 162, .inl (u 0))), ((q 2), .inl (cI, 162, .inl (u 1))), ((q 3), .inl (cI, 648, .inl (u 2))), ((q 4), .inl (cI, 60, .inl (u 4))), ((q 5), .inl (cI, 3, .inl (u 6))), ((q 6), .inl (cI, 3, .inl (u 12)))] := hw
    subst ex_11
    refine y_top (y := ((u 0) (82 + 5 * a + 1))) rfl ?_
    refine lv_isub S.1 S.2.1 dX6_error_31 ?_
    exact ret _ _ _ _ _ (by exact hw) (by unfold mErr; first | rw [if_pos c_3] | rw [if_neg (not_not_intro c_3)]) dX6_error_32

theorem k_X6_outputOf_69 : Cond.constant RX6 69 (-2000001) ∈ wsX6_outputOf := by decide +kernel
theorem i_X6_outputOf_X6 : ∀ w ∈ u_ws RX6 TX6 13, w ∈ wsX6_outputOf := by decide +kernel
theorem f_X6_outputOf_7 : Cond.fieldLink RX6 7 "ChargeLinesModel" "s" "[I" ∈ wsX6_outputOf := by decide +kernel
theorem k_X6_outputOf_117 : Cond.constant RX6 117 (-2000004) ∈ wsX6_outputOf := by decide +kernel
set_option maxHeartbeats 4000000 in
set_option maxRecDepth 100000 in
/-- Model.outputOf -/
theorem c_X6_outputOf (l : Launch) (D : va_G) (cI cC cL : ClassId) (q : Nat → Nat) (u : U) (x y : Int32) (kp : Nat) (hk : u 0 4 = nI kp) (hk16 : kp ≤ 16) : y_MI l yX6_outputOf wsX6_outputOf 2 43 D cI cC cL [.ref (q 0), .int x, .int y] (cMd cI q u) (mOutOfR (u 0) x y kp) (fun _ : Unit => cMd cI q u) () := by
  refine y_startI (cc := cX6_outputOf) (maxL := 4) (ret := some .int) (by decide +kernel) rfl (Nat.le_of_ble_eq_true rfl) ⟨_, rfl, fun x _ => rfl⟩ (fun h => by cases h) ?_
  intro p e s mm args below meth c A QQ ls S hw ret hl
  have S : CallFix p mm c cX6_outputOf 4 s args wsX6_outputOf RX6 := S
  have hw : y_W D cI cC cL A s s.heap [] [((q 0), .inr (6, [.ref (q 1), .ref (q 2), .ref (q 3), .int (u 3 0), .ref (q 4), .int (u 5 0), .ref (q 5), .int (u 7 0), .int (u 8 0), .int (u 9 0), .int (u 10 0), .int (u 11 0), .ref (q 6)])), ((q 1), .inl (cI, 162, .inl (u 0))), ((q 2), .inl (cI, 162, .inl (u 1))), ((q 3), .inl (cI, 648, .inl (u 2))), ((q 4), .inl (cI, 60, .inl (u 4))), ((q 5), .inl (cI, 3, .inl (u 6))), ((q 6), .inl (cI, 3, .inl (u 12)))] := hw
  have hl : lv_has ls 4 [(0, .ref (q 0)), (1, .int x), (2, .int y)] := hl
  refine lv_iload_n S.1 S.2.1 dX6_outputOf_0 rfl (lv_at hl 1 rfl) ?_
  refine lv_if_lt (tgt := 13) S.1 S.2.1 dX6_outputOf_1 (by decide) (fun c_1 => ?_) (fun c_1 => ?_)
  · skip
    refine lv_ldc (v := (-2000001)) S.1 S.2.1 S.2.2.2.1 (S.2.2.2.2 _ k_X6_outputOf_69) dX6_outputOf_13 ?_
    exact ret _ _ _ _ _ (by exact hw) (by rw [mOutOfR, if_pos c_1]) dX6_outputOf_15
  · skip
    refine lv_iload_n S.1 S.2.1 dX6_outputOf_4 rfl (lv_at hl 2 rfl) ?_
    refine lv_iconst (v := 0) S.1 S.2.1 dX6_outputOf_5 (by decide) ?_
    refine lv_iconst (v := 5) S.1 S.2.1 dX6_outputOf_6 (by decide) ?_
    refine y_callSI (As := [.int y, .int 0, .int 5]) (rest := []) S hw hl.1 (c_X6_in l D cI cC cL y 0 5) (va_cwS 3 S.2.2.2.2 gX6_outputOf_X6_in rfl rfl rfl (by decide +kernel) ⟨Nat.le_of_ble_eq_true rfl, Nat.le_of_ble_eq_true rfl⟩) [] [0, 1, 2, 3, 4, 5, 6] rfl (by decide +kernel) (wr := [((q 0), .inr (6, [.ref (q 1), .ref (q 2), .ref (q 3), .int (u 3 0), .ref (q 4), .int (u 5 0), .ref (q 5), .int (u 7 0), .int (u 8 0), .int (u 9 0), .int (u 10 0), .int (u 11 0), .ref (q 6)])), ((q 1), .inl (cI, 162, .inl (u 0))), ((q 2), .inl (cI, 162, .inl (u 1))), ((q 3), .inl (cI, 648, .inl (u 2))), ((q 4), .inl (cI, 60, .inl (u 4))), ((q 5), .inl (cI, 3, .inl (u 6))), ((q 6), .inl (cI, 3, .inl (u 12)))]) rfl (by decide +kernel) (by decide +kernel) rfl (Nat.le_of_ble_eq_true rfl) dX6_outputOf_7 rfl ⟨Nat.le_refl _, Nat.le_refl _⟩ (fun H locs v_2 x_3 ev_2 ex_3 hw => ?_)
    have hw : y_W D cI cC cL A s H locs [((q 0), .inr (6, [.ref (q 1), .ref (q 2), .ref (q 3), .int (u 3 0), .ref (q 4), .int (u 5 0), .ref (q 5), .int (u 7 0), .int (u 8 0), .int (u 9 0), .int (u 10 0), .int (u 11 0), .ref (q 6)])), ((q 1), .inl (cI, 162, .inl (u 0))), ((q 2), .inl (cI, 162, .inl (u 1))), ((q 3), .inl (cI, 648, .inl (u 2))), ((q 4), .inl (cI, 60, .inl (u 4))), ((q 5), .inl (cI, 3, .inl (u 6))), ((q 6), .inl (cI, 3, .inl (u 12)))] := hw
    subst ex_3
    refine lv_if_ne (tgt := 16) S.1 S.2.1 dX6_outputOf_10 (by decide) (fun c_4 => ?_) (fun c_4 => ?_)
    · skip
      refine lv_iload_n S.1 S.2.1 dX6_outputOf_16 rfl (lv_at hl 1 rfl) ?_
      refine lv_aload_n S.1 S.2.1 dX6_outputOf_17 rfl (lv_at hl 0 rfl) ?_
      refine y_get S hw (C := RX6) (T := TX6) (N := 13) i_X6_outputOf_X6 0 rfl rfl 0 (by decide) f_X6_outputOf_7 rfl dX6_outputOf_18 ?_
      refine lv_iconst (v := 4) S.1 S.2.1 dX6_outputOf_21 (by decide) ?_
      refine y_iald S hw 1 (k := 4) rfl (by omega) (Nat.le_of_ble_eq_true rfl) dX6_outputOf_22 ?_
      refine y_top (y := (nI kp)) (hk) ?_
      refine lv_icmp_lt (tgt := 29) S.1 S.2.1 dX6_outputOf_23 (by decide) (fun c_5 => ?_) (fun c_5 => ?_)
      · skip
        obtain ⟨a, ha31, ea⟩ := nI_of c_1
        have ha : a < kp := by have h9 := c_5; rw [ea] at h9; exact (nI_ltI (by omega) (by omega)).mp h9
        obtain ⟨b, eb, hb1, hb2⟩ := mIn_nat (m := 0) (n := 5) rfl rfl (by omega) (by omega) c_4
        refine lv_aload_n S.1 S.2.1 dX6_outputOf_29 rfl (lv_at hl 0 rfl) ?_
        refine y_get S hw (C := RX6) (T := TX6) (N := 13) i_X6_outputOf_X6 0 rfl rfl 0 (by decide) f_X6_outputOf_7 rfl dX6_outputOf_30 ?_
        refine lv_iconst (v := 4) S.1 S.2.1 dX6_outputOf_33 (by decide) ?_
        refine y_iald S hw 1 (k := 4) rfl (by omega) (Nat.le_of_ble_eq_true rfl) dX6_outputOf_34 ?_
        refine y_top (y := (nI kp)) (hk) ?_
        refine lv_iconst (v := 1) S.1 S.2.1 dX6_outputOf_35 (by decide) ?_
        refine y_isubN S kp 1 (by omega) dX6_outputOf_36 ?_
        refine lv_iload_n S.1 S.2.1 dX6_outputOf_37 rfl (lv_at hl 1 rfl) ?_
        refine y_top (y := (nI a)) (ea) ?_
        refine y_isubN S (kp - 1) a (by omega) dX6_outputOf_38 ?_
        refine lv_istore_n (lv' := [(3, .int (nI ((kp - 1) - a))), (0, .ref (q 0)), (1, .int x), (2, .int y)]) S.1 S.2.1 dX6_outputOf_39 rfl hl (by decide) rfl (fun ls hl => ?_)
        refine lv_iload_n S.1 S.2.1 dX6_outputOf_40 rfl (lv_at hl 3 rfl) ?_
        refine y_top (y := (nI b)) (eb) ?_
        refine lv_iconst (v := 5) S.1 S.2.1 dX6_outputOf_41 (by decide) ?_
        refine lv_icmp_ne (tgt := 53) S.1 S.2.1 dX6_outputOf_42 (by decide) (fun c_6 => ?_) (fun c_6 => ?_)
        · skip
          have hb5 : b < 5 := by rcases Nat.lt_or_ge b 5 with q5 | q5; exact q5; exact absurd (by rw [show b = 5 from by omega]; rfl) c_6
          refine lv_iload_n S.1 S.2.1 dX6_outputOf_53 rfl (lv_at hl 3 rfl) ?_
          refine y_top (y := (nI b)) (eb) ?_
          refine lv_iconst (v := 3) S.1 S.2.1 dX6_outputOf_54 (by decide) ?_
          refine lv_icmp_ne (tgt := 73) S.1 S.2.1 dX6_outputOf_55 (by decide) (fun c_7 => ?_) (fun c_7 => ?_)
          · skip
            refine lv_aload_n S.1 S.2.1 dX6_outputOf_73 rfl (lv_at hl 1 rfl) ?_
            refine lv_iload_n S.1 S.2.1 dX6_outputOf_74 rfl (lv_at hl 0 rfl) ?_
            refine lv_iload_n S.1 S.2.1 dX6_outputOf_75 rfl (lv_at hl 3 rfl) ?_
            refine y_top (y := (nI b)) (eb) ?_
            refine y_callI (As := [.int (nI ((kp - 1) - a)), .int (nI b)]) (rest := []) S hw hl.1 (c_X6_of l D cI cC cL q u ((kp - 1) - a) b (by omega) (by omega)) (cwV 2 S.2.2.2.2 gX6_outputOf_X6_of rfl rfl rfl (by decide +kernel) ⟨Nat.le_of_ble_eq_true rfl, Nat.le_of_ble_eq_true rfl⟩) 0 rfl rfl [0, 1, 2, 3, 4, 5, 6] [] rfl (by decide +kernel) (wr := []) rfl (by decide +kernel) (by decide +kernel) rfl (Nat.le_of_ble_eq_true rfl) dX6_outputOf_76 rfl ⟨Nat.le_refl _, Nat.le_refl _⟩ (fun H locs v_8 x_9 ev_8 ex_9 hw => ?_)
            have hw : y_W D cI cC cL A s H locs [((q 0), .inr (6, [.ref (q 1), .ref (q 2), .ref (q 3), .int (u 3 0), .ref (q 4), .int (u 5 0), .ref (q 5), .int (u 7 0), .int (u 8 0), .int (u 9 0), .int (u 10 0), .int (u 11 0), .ref (q 6)])), ((q 1), .inl (cI, 162, .inl (u 0))), ((q 2), .inl (cI, 162, .inl (u 1))), ((q 3), .inl (cI, 648, .inl (u 2))), ((q 4), .inl (cI, 60, .inl (u 4))), ((q 5), .inl (cI, 3, .inl (u 6))), ((q 6), .inl (cI, 3, .inl (u 12)))] := hw
            subst ex_9
            refine y_top (y := ((u 0) (82 + 5 * ((kp - 1) - a) + b))) rfl ?_
            exact ret _ _ _ _ _ (by exact hw) (by rw [mOutOfR, if_neg c_1, if_neg c_4, if_neg (not_not_intro c_5), ea, eb, nI_clamp (n := a) (by omega), nI_clamp (n := b) (by omega), if_pos c_6, if_pos c_7]) dX6_outputOf_79
          · skip
            refine lv_aload_n S.1 S.2.1 dX6_outputOf_58 rfl (lv_at hl 1 rfl) ?_
            refine lv_iload_n S.1 S.2.1 dX6_outputOf_59 rfl (lv_at hl 0 rfl) ?_
            refine lv_iconst (v := 3) S.1 S.2.1 dX6_outputOf_60 (by decide) ?_
            refine y_callI (As := [.int (nI ((kp - 1) - a)), .int 3]) (rest := []) S hw hl.1 (c_X6_of l D cI cC cL q u ((kp - 1) - a) 3 (by omega) (by omega)) (cwV 2 S.2.2.2.2 gX6_outputOf_X6_of rfl rfl rfl (by decide +kernel) ⟨Nat.le_of_ble_eq_true rfl, Nat.le_of_ble_eq_true rfl⟩) 0 rfl rfl [0, 1, 2, 3, 4, 5, 6] [] rfl (by decide +kernel) (wr := []) rfl (by decide +kernel) (by decide +kernel) rfl (Nat.le_of_ble_eq_true rfl) dX6_outputOf_61 rfl ⟨Nat.le_refl _, Nat.le_refl _⟩ (fun H locs v_10 x_11 ev_10 ex_11 hw => ?_)
            have hw : y_W D cI cC cL A s H locs [((q 0), .inr (6, [.ref (q 1), .ref (q 2), .ref (q 3), .int (u 3 0), .ref (q 4), .int (u 5 0), .ref (q 5), .int (u 7 0), .int (u 8 0), .int (u 9 0), .int (u 10 0), .int (u 11 0), .ref (q 6)])), ((q 1), .inl (cI, 162, .inl (u 0))), ((q 2), .inl (cI, 162, .inl (u 1))), ((q 3), .inl (cI, 648, .inl (u 2))), ((q 4), .inl (cI, 60, .inl (u 4))), ((q 5), .inl (cI, 3, .inl (u 6))), ((q 6), .inl (cI, 3, .inl (u 12)))] := hw
            subst ex_11
            refine y_top (y := ((u 0) (82 + 5 * ((kp - 1) - a) + 3))) rfl ?_
            refine lv_iconst (v := (-1)) S.1 S.2.1 dX6_outputOf_64 (by decide) ?_
            refine lv_icmp_ne (tgt := 73) S.1 S.2.1 dX6_outputOf_65 (by decide) (fun c_12 => ?_) (fun c_12 => ?_)
            · skip
              refine lv_aload_n S.1 S.2.1 dX6_outputOf_73 rfl (lv_at hl 1 rfl) ?_
              refine lv_iload_n S.1 S.2.1 dX6_outputOf_74 rfl (lv_at hl 0 rfl) ?_
              refine lv_iload_n S.1 S.2.1 dX6_outputOf_75 rfl (lv_at hl 3 rfl) ?_
              refine y_top (y := (nI b)) (eb) ?_
              refine y_callI (As := [.int (nI ((kp - 1) - a)), .int (nI b)]) (rest := []) S hw hl.1 (c_X6_of l D cI cC cL q u ((kp - 1) - a) b (by omega) (by omega)) (cwV 2 S.2.2.2.2 gX6_outputOf_X6_of rfl rfl rfl (by decide +kernel) ⟨Nat.le_of_ble_eq_true rfl, Nat.le_of_ble_eq_true rfl⟩) 0 rfl rfl [0, 1, 2, 3, 4, 5, 6] [] rfl (by decide +kernel) (wr := []) rfl (by decide +kernel) (by decide +kernel) rfl (Nat.le_of_ble_eq_true rfl) dX6_outputOf_76 rfl ⟨Nat.le_refl _, Nat.le_refl _⟩ (fun H locs v_13 x_14 ev_13 ex_14 hw => ?_)
              have hw : y_W D cI cC cL A s H locs [((q 0), .inr (6, [.ref (q 1), .ref (q 2), .ref (q 3), .int (u 3 0), .ref (q 4), .int (u 5 0), .ref (q 5), .int (u 7 0), .int (u 8 0), .int (u 9 0), .int (u 10 0), .int (u 11 0), .ref (q 6)])), ((q 1), .inl (cI, 162, .inl (u 0))), ((q 2), .inl (cI, 162, .inl (u 1))), ((q 3), .inl (cI, 648, .inl (u 2))), ((q 4), .inl (cI, 60, .inl (u 4))), ((q 5), .inl (cI, 3, .inl (u 6))), ((q 6), .inl (cI, 3, .inl (u 12)))] := hw
              subst ex_14
              refine y_top (y := ((u 0) (82 + 5 * ((kp - 1) - a) + b))) rfl ?_
              exact ret _ _ _ _ _ (by exact hw) (by rw [mOutOfR, if_neg c_1, if_neg c_4, if_neg (not_not_intro c_5), ea, eb, nI_clamp (n := a) (by omega), nI_clamp (n := b) (by omega), if_pos c_6, if_neg (not_not_intro c_7), if_pos c_12]) dX6_outputOf_79
            · skip
              refine lv_ldc (v := (-2000004)) S.1 S.2.1 S.2.2.2.1 (S.2.2.2.2 _ k_X6_outputOf_117) dX6_outputOf_68 ?_
              refine lv_goto (tgt := 79) S.1 S.2.1 dX6_outputOf_70 (by decide) ?_
              exact ret _ _ _ _ _ (by exact hw) (by rw [mOutOfR, if_neg c_1, if_neg c_4, if_neg (not_not_intro c_5), ea, eb, nI_clamp (n := a) (by omega), nI_clamp (n := b) (by omega), if_pos c_6, if_neg (not_not_intro c_7), if_neg (not_not_intro c_12)]) dX6_outputOf_79
        · skip
          refine lv_aload_n S.1 S.2.1 dX6_outputOf_45 rfl (lv_at hl 1 rfl) ?_
          refine lv_iload_n S.1 S.2.1 dX6_outputOf_46 rfl (lv_at hl 0 rfl) ?_
          refine y_callI (As := [.int (nI ((kp - 1) - a))]) (rest := []) S hw hl.1 (c_X6_error l D cI cC cL q u ((kp - 1) - a) (by omega)) (cwV 1 S.2.2.2.2 gX6_outputOf_X6_error rfl rfl rfl (by decide +kernel) ⟨Nat.le_of_ble_eq_true rfl, Nat.le_of_ble_eq_true rfl⟩) 0 rfl rfl [0, 1, 2, 3, 4, 5, 6] [] rfl (by decide +kernel) (wr := []) rfl (by decide +kernel) (by decide +kernel) rfl (Nat.le_of_ble_eq_true rfl) dX6_outputOf_47 rfl ⟨Nat.le_refl _, Nat.le_refl _⟩ (fun H locs v_15 x_16 ev_15 ex_16 hw => ?_)
          have hw : y_W D cI cC cL A s H locs [((q 0), .inr (6, [.ref (q 1), .ref (q 2), .ref (q 3), .int (u 3 0), .ref (q 4), .int (u 5 0), .ref (q 5), .int (u 7 0), .int (u 8 0), .int (u 9 0), .int (u 10 0), .int (u 11 0), .ref (q 6)])), ((q 1), .inl (cI, 162, .inl (u 0))), ((q 2), .inl (cI, 162, .inl (u 1))), ((q 3), .inl (cI, 648, .inl (u 2))), ((q 4), .inl (cI, 60, .inl (u 4))), ((q 5), .inl (cI, 3, .inl (u 6))), ((q 6), .inl (cI, 3, .inl (u 12)))] := hw
          subst ex_16
          refine y_top (y := (mErr (u 0) ((kp - 1) - a))) rfl ?_
          refine lv_goto (tgt := 79) S.1 S.2.1 dX6_outputOf_50 (by decide) ?_
          exact ret _ _ _ _ _ (by exact hw) (by rw [mOutOfR, if_neg c_1, if_neg c_4, if_neg (not_not_intro c_5), ea, eb, nI_clamp (n := a) (by omega), nI_clamp (n := b) (by omega), if_neg (not_not_intro c_6)]) dX6_outputOf_79
      · skip
        refine lv_ldc (v := (-2000004)) S.1 S.2.1 S.2.2.2.1 (S.2.2.2.2 _ k_X6_outputOf_117) dX6_outputOf_26 ?_
        exact ret _ _ _ _ _ (by exact hw) (by rw [mOutOfR, if_neg c_1, if_neg c_4, if_pos c_5]) dX6_outputOf_28
    · skip
      refine lv_ldc (v := (-2000001)) S.1 S.2.1 S.2.2.2.1 (S.2.2.2.2 _ k_X6_outputOf_69) dX6_outputOf_13 ?_
      exact ret _ _ _ _ _ (by exact hw) (by rw [mOutOfR, if_neg c_1, if_pos c_4]) dX6_outputOf_15

theorem k_X6_pairOf_69 : Cond.constant RX6 69 (-2000001) ∈ wsX6_pairOf := by decide +kernel
theorem i_X6_pairOf_X6 : ∀ w ∈ u_ws RX6 TX6 13, w ∈ wsX6_pairOf := by decide +kernel
theorem f_X6_pairOf_7 : Cond.fieldLink RX6 7 "ChargeLinesModel" "s" "[I" ∈ wsX6_pairOf := by decide +kernel
theorem k_X6_pairOf_117 : Cond.constant RX6 117 (-2000004) ∈ wsX6_pairOf := by decide +kernel
set_option maxHeartbeats 4000000 in
set_option maxRecDepth 100000 in
/-- Model.pairOf -/
theorem c_X6_pairOf (l : Launch) (D : va_G) (cI cC cL : ClassId) (q : Nat → Nat) (u : U) (x y : Int32) : y_MI l yX6_pairOf wsX6_pairOf 1 22 D cI cC cL [.ref (q 0), .int x, .int y] (cMd cI q u) (mPairR (u 0) x y) (fun _ : Unit => cMd cI q u) () := by
  refine y_startI (cc := cX6_pairOf) (maxL := 3) (ret := some .int) (by decide +kernel) rfl (Nat.le_of_ble_eq_true rfl) ⟨_, rfl, fun x _ => rfl⟩ (fun h => by cases h) ?_
  intro p e s mm args below meth c A QQ ls S hw ret hl
  have S : CallFix p mm c cX6_pairOf 3 s args wsX6_pairOf RX6 := S
  have hw : y_W D cI cC cL A s s.heap [] [((q 0), .inr (6, [.ref (q 1), .ref (q 2), .ref (q 3), .int (u 3 0), .ref (q 4), .int (u 5 0), .ref (q 5), .int (u 7 0), .int (u 8 0), .int (u 9 0), .int (u 10 0), .int (u 11 0), .ref (q 6)])), ((q 1), .inl (cI, 162, .inl (u 0))), ((q 2), .inl (cI, 162, .inl (u 1))), ((q 3), .inl (cI, 648, .inl (u 2))), ((q 4), .inl (cI, 60, .inl (u 4))), ((q 5), .inl (cI, 3, .inl (u 6))), ((q 6), .inl (cI, 3, .inl (u 12)))] := hw
  have hl : lv_has ls 3 [(0, .ref (q 0)), (1, .int x), (2, .int y)] := hl
  refine lv_iload_n S.1 S.2.1 dX6_pairOf_0 rfl (lv_at hl 1 rfl) ?_
  refine lv_iconst (v := 0) S.1 S.2.1 dX6_pairOf_1 (by decide) ?_
  refine lv_iconst (v := 2) S.1 S.2.1 dX6_pairOf_2 (by decide) ?_
  refine y_callSI (As := [.int x, .int 0, .int 2]) (rest := []) S hw hl.1 (c_X6_in l D cI cC cL x 0 2) (va_cwS 3 S.2.2.2.2 gX6_pairOf_X6_in rfl rfl rfl (by decide +kernel) ⟨Nat.le_of_ble_eq_true rfl, Nat.le_of_ble_eq_true rfl⟩) [] [0, 1, 2, 3, 4, 5, 6] rfl (by decide +kernel) (wr := [((q 0), .inr (6, [.ref (q 1), .ref (q 2), .ref (q 3), .int (u 3 0), .ref (q 4), .int (u 5 0), .ref (q 5), .int (u 7 0), .int (u 8 0), .int (u 9 0), .int (u 10 0), .int (u 11 0), .ref (q 6)])), ((q 1), .inl (cI, 162, .inl (u 0))), ((q 2), .inl (cI, 162, .inl (u 1))), ((q 3), .inl (cI, 648, .inl (u 2))), ((q 4), .inl (cI, 60, .inl (u 4))), ((q 5), .inl (cI, 3, .inl (u 6))), ((q 6), .inl (cI, 3, .inl (u 12)))]) rfl (by decide +kernel) (by decide +kernel) rfl (Nat.le_of_ble_eq_true rfl) dX6_pairOf_3 rfl ⟨Nat.le_refl _, Nat.le_refl _⟩ (fun H locs v_1 x_2 ev_1 ex_2 hw => ?_)
  have hw : y_W D cI cC cL A s H locs [((q 0), .inr (6, [.ref (q 1), .ref (q 2), .ref (q 3), .int (u 3 0), .ref (q 4), .int (u 5 0), .ref (q 5), .int (u 7 0), .int (u 8 0), .int (u 9 0), .int (u 10 0), .int (u 11 0), .ref (q 6)])), ((q 1), .inl (cI, 162, .inl (u 0))), ((q 2), .inl (cI, 162, .inl (u 1))), ((q 3), .inl (cI, 648, .inl (u 2))), ((q 4), .inl (cI, 60, .inl (u 4))), ((q 5), .inl (cI, 3, .inl (u 6))), ((q 6), .inl (cI, 3, .inl (u 12)))] := hw
  subst ex_2
  refine lv_if_eq (tgt := 18) S.1 S.2.1 dX6_pairOf_6 (by decide) (fun c_3 => ?_) (fun c_3 => ?_)
  · skip
    refine lv_ldc (v := (-2000001)) S.1 S.2.1 S.2.2.2.1 (S.2.2.2.2 _ k_X6_pairOf_69) dX6_pairOf_18 ?_
    exact ret _ _ _ _ _ (by exact hw) (by rw [mPairR, if_pos c_3]) dX6_pairOf_20
  · skip
    refine lv_iload_n S.1 S.2.1 dX6_pairOf_9 rfl (lv_at hl 2 rfl) ?_
    refine lv_iconst (v := 0) S.1 S.2.1 dX6_pairOf_10 (by decide) ?_
    refine lv_iconst (v := 1) S.1 S.2.1 dX6_pairOf_11 (by decide) ?_
    refine y_callSI (As := [.int y, .int 0, .int 1]) (rest := []) S hw hl.1 (c_X6_in l D cI cC cL y 0 1) (va_cwS 3 S.2.2.2.2 gX6_pairOf_X6_in rfl rfl rfl (by decide +kernel) ⟨Nat.le_of_ble_eq_true rfl, Nat.le_of_ble_eq_true rfl⟩) [] [0, 1, 2, 3, 4, 5, 6] rfl (by decide +kernel) (wr := [((q 0), .inr (6, [.ref (q 1), .ref (q 2), .ref (q 3), .int (u 3 0), .ref (q 4), .int (u 5 0), .ref (q 5), .int (u 7 0), .int (u 8 0), .int (u 9 0), .int (u 10 0), .int (u 11 0), .ref (q 6)])), ((q 1), .inl (cI, 162, .inl (u 0))), ((q 2), .inl (cI, 162, .inl (u 1))), ((q 3), .inl (cI, 648, .inl (u 2))), ((q 4), .inl (cI, 60, .inl (u 4))), ((q 5), .inl (cI, 3, .inl (u 6))), ((q 6), .inl (cI, 3, .inl (u 12)))]) rfl (by decide +kernel) (by decide +kernel) rfl (Nat.le_of_ble_eq_true rfl) dX6_pairOf_12 rfl ⟨Nat.le_refl _, Nat.le_refl _⟩ (fun H locs v_4 x_5 ev_4 ex_5 hw => ?_)
    have hw : y_W D cI cC cL A s H locs [((q 0), .inr (6, [.ref (q 1), .ref (q 2), .ref (q 3), .int (u 3 0), .ref (q 4), .int (u 5 0), .ref (q 5), .int (u 7 0), .int (u 8 0), .int (u 9 0), .int (u 10 0), .int (u 11 0), .ref (q 6)])), ((q 1), .inl (cI, 162, .inl (u 0))), ((q 2), .inl (cI, 162, .inl (u 1))), ((q 3), .inl (cI, 648, .inl (u 2))), ((q 4), .inl (cI, 60, .inl (u 4))), ((q 5), .inl (cI, 3, .inl (u 6))), ((q 6), .inl (cI, 3, .inl (u 12)))] := hw
    subst ex_5
    refine lv_if_ne (tgt := 21) S.1 S.2.1 dX6_pairOf_15 (by decide) (fun c_6 => ?_) (fun c_6 => ?_)
    · skip
      obtain ⟨a, ea, ha1, ha2⟩ := mIn_nat (m := 0) (n := 2) rfl rfl (by omega) (by omega) c_3
      refine lv_aload_n S.1 S.2.1 dX6_pairOf_21 rfl (lv_at hl 0 rfl) ?_
      refine y_get S hw (C := RX6) (T := TX6) (N := 13) i_X6_pairOf_X6 0 rfl rfl 0 (by decide) f_X6_pairOf_7 rfl dX6_pairOf_22 ?_
      refine lv_bipush (v := 40) S.1 S.2.1 dX6_pairOf_25 (by decide) ?_
      refine lv_iload_n S.1 S.2.1 dX6_pairOf_27 rfl (lv_at hl 1 rfl) ?_
      refine y_top (y := (nI a)) (ea) ?_
      refine y_iaddN S 40 a dX6_pairOf_28 ?_
      refine y_iald S hw 1 (k := (40 + a)) rfl (by omega) (Nat.le_of_ble_eq_true rfl) dX6_pairOf_29 ?_
      refine lv_iconst (v := (-1)) S.1 S.2.1 dX6_pairOf_30 (by decide) ?_
      refine lv_icmp_ne (tgt := 39) S.1 S.2.1 dX6_pairOf_31 (by decide) (fun c_7 => ?_) (fun c_7 => ?_)
      · skip
        refine lv_aload_n S.1 S.2.1 dX6_pairOf_39 rfl (lv_at hl 0 rfl) ?_
        refine y_get S hw (C := RX6) (T := TX6) (N := 13) i_X6_pairOf_X6 0 rfl rfl 0 (by decide) f_X6_pairOf_7 rfl dX6_pairOf_40 ?_
        refine lv_iload_n S.1 S.2.1 dX6_pairOf_43 rfl (lv_at hl 2 rfl) ?_
        refine lv_if_ne (tgt := 52) S.1 S.2.1 dX6_pairOf_44 (by decide) (fun c_8 => ?_) (fun c_8 => ?_)
        · skip
          refine lv_bipush (v := 43) S.1 S.2.1 dX6_pairOf_52 (by decide) ?_
          refine lv_iload_n S.1 S.2.1 dX6_pairOf_54 rfl (lv_at hl 1 rfl) ?_
          refine y_top (y := (nI a)) (ea) ?_
          refine y_iaddN S 43 a dX6_pairOf_55 ?_
          refine y_iald S hw 1 (k := (43 + a)) rfl (by omega) (Nat.le_of_ble_eq_true rfl) dX6_pairOf_56 ?_
          exact ret _ _ _ _ _ (by exact hw) (by rw [mPairR, if_neg c_3, if_neg c_6, ea, nI_clamp (by omega)]; first | rw [if_neg (not_not_intro c_7)] | rw [if_pos c_7, if_pos c_8] | rw [if_pos c_7, if_neg (not_not_intro c_8)]) dX6_pairOf_57
        · skip
          refine lv_bipush (v := 40) S.1 S.2.1 dX6_pairOf_47 (by decide) ?_
          refine lv_goto (tgt := 54) S.1 S.2.1 dX6_pairOf_49 (by decide) ?_
          refine lv_iload_n S.1 S.2.1 dX6_pairOf_54 rfl (lv_at hl 1 rfl) ?_
          refine y_top (y := (nI a)) (ea) ?_
          refine y_iaddN S 40 a dX6_pairOf_55 ?_
          refine y_iald S hw 1 (k := (40 + a)) rfl (by omega) (Nat.le_of_ble_eq_true rfl) dX6_pairOf_56 ?_
          exact ret _ _ _ _ _ (by exact hw) (by rw [mPairR, if_neg c_3, if_neg c_6, ea, nI_clamp (by omega)]; first | rw [if_neg (not_not_intro c_7)] | rw [if_pos c_7, if_pos c_8] | rw [if_pos c_7, if_neg (not_not_intro c_8)]) dX6_pairOf_57
      · skip
        refine lv_ldc (v := (-2000004)) S.1 S.2.1 S.2.2.2.1 (S.2.2.2.2 _ k_X6_pairOf_117) dX6_pairOf_34 ?_
        refine lv_goto (tgt := 57) S.1 S.2.1 dX6_pairOf_36 (by decide) ?_
        exact ret _ _ _ _ _ (by exact hw) (by rw [mPairR, if_neg c_3, if_neg c_6, ea, nI_clamp (by omega)]; first | rw [if_neg (not_not_intro c_7)] | rw [if_pos c_7, if_pos c_7] | rw [if_pos c_7, if_neg (not_not_intro c_7)]) dX6_pairOf_57
    · skip
      refine lv_ldc (v := (-2000001)) S.1 S.2.1 S.2.2.2.1 (S.2.2.2.2 _ k_X6_pairOf_69) dX6_pairOf_18 ?_
      exact ret _ _ _ _ _ (by exact hw) (by rw [mPairR, if_neg c_3, if_pos c_6]) dX6_pairOf_20

theorem k_X6_mended_80 : Cond.constant RX6 80 (100000) ∈ wsX6_mended := by decide +kernel
theorem k_X6_mended_117 : Cond.constant RX6 117 (-2000004) ∈ wsX6_mended := by decide +kernel
theorem k_X6_mended_69 : Cond.constant RX6 69 (-2000001) ∈ wsX6_mended := by decide +kernel
set_option maxHeartbeats 4000000 in
set_option maxRecDepth 100000 in
/-- Model.mended -/
theorem c_X6_mended (l : Launch) (D : va_G) (cI cC cL : ClassId) (q : Nat → Nat) (u : U) (x : Int32) : y_MI l yX6_mended wsX6_mended 3 79 D cI cC cL [.ref (q 0), .int x] (cMd cI q u) (mMendedR u x) (fun v : U => cMd cI q v) (mMendedU u x) := by
  refine y_startI (cc := cX6_mended) (maxL := 3) (ret := some .int) (by decide +kernel) rfl (Nat.le_of_ble_eq_true rfl) ⟨_, rfl, fun x _ => rfl⟩ (fun h => by cases h) ?_
  intro p e s mm args below meth c A QQ ls S hw ret hl
  have S : CallFix p mm c cX6_mended 3 s args wsX6_mended RX6 := S
  have hw : y_W D cI cC cL A s s.heap [] [((q 0), .inr (6, [.ref (q 1), .ref (q 2), .ref (q 3), .int (u 3 0), .ref (q 4), .int (u 5 0), .ref (q 5), .int (u 7 0), .int (u 8 0), .int (u 9 0), .int (u 10 0), .int (u 11 0), .ref (q 6)])), ((q 1), .inl (cI, 162, .inl (u 0))), ((q 2), .inl (cI, 162, .inl (u 1))), ((q 3), .inl (cI, 648, .inl (u 2))), ((q 4), .inl (cI, 60, .inl (u 4))), ((q 5), .inl (cI, 3, .inl (u 6))), ((q 6), .inl (cI, 3, .inl (u 12)))] := hw
  have hl : lv_has ls 3 [(0, .ref (q 0)), (1, .int x)] := hl
  refine lv_iload_n S.1 S.2.1 dX6_mended_0 rfl (lv_at hl 1 rfl) ?_
  refine lv_iconst (v := 0) S.1 S.2.1 dX6_mended_1 (by decide) ?_
  refine lv_ldc (v := 100000) S.1 S.2.1 S.2.2.2.1 (S.2.2.2.2 _ k_X6_mended_80) dX6_mended_2 ?_
  refine y_callSI (As := [.int x, .int 0, .int 100000]) (rest := []) S hw hl.1 (c_X6_in l D cI cC cL x 0 100000) (va_cwS 3 S.2.2.2.2 gX6_mended_X6_in rfl rfl rfl (by decide +kernel) ⟨Nat.le_of_ble_eq_true rfl, Nat.le_of_ble_eq_true rfl⟩) [] [0, 1, 2, 3, 4, 5, 6] rfl (by decide +kernel) (wr := [((q 0), .inr (6, [.ref (q 1), .ref (q 2), .ref (q 3), .int (u 3 0), .ref (q 4), .int (u 5 0), .ref (q 5), .int (u 7 0), .int (u 8 0), .int (u 9 0), .int (u 10 0), .int (u 11 0), .ref (q 6)])), ((q 1), .inl (cI, 162, .inl (u 0))), ((q 2), .inl (cI, 162, .inl (u 1))), ((q 3), .inl (cI, 648, .inl (u 2))), ((q 4), .inl (cI, 60, .inl (u 4))), ((q 5), .inl (cI, 3, .inl (u 6))), ((q 6), .inl (cI, 3, .inl (u 12)))]) rfl (by decide +kernel) (by decide +kernel) rfl (Nat.le_of_ble_eq_true rfl) dX6_mended_4 rfl ⟨Nat.le_refl _, Nat.le_refl _⟩ (fun H locs v_1 x_2 ev_1 ex_2 hw => ?_)
  have hw : y_W D cI cC cL A s H locs [((q 0), .inr (6, [.ref (q 1), .ref (q 2), .ref (q 3), .int (u 3 0), .ref (q 4), .int (u 5 0), .ref (q 5), .int (u 7 0), .int (u 8 0), .int (u 9 0), .int (u 10 0), .int (u 11 0), .ref (q 6)])), ((q 1), .inl (cI, 162, .inl (u 0))), ((q 2), .inl (cI, 162, .inl (u 1))), ((q 3), .inl (cI, 648, .inl (u 2))), ((q 4), .inl (cI, 60, .inl (u 4))), ((q 5), .inl (cI, 3, .inl (u 6))), ((q 6), .inl (cI, 3, .inl (u 12)))] := hw
  subst ex_2
  refine lv_if_ne (tgt := 13) S.1 S.2.1 dX6_mended_7 (by decide) (fun c_3 => ?_) (fun c_3 => ?_)
  · skip
    refine lv_aload_n S.1 S.2.1 dX6_mended_13 rfl (lv_at hl 0 rfl) ?_
    refine lv_iload_n S.1 S.2.1 dX6_mended_14 rfl (lv_at hl 1 rfl) ?_
    refine y_callI (As := [.int x]) (rest := []) S hw hl.1 (c_X6_mends l D cI cC cL q u x) (cwV 1 S.2.2.2.2 gX6_mended_X6_mends rfl rfl rfl (by decide +kernel) ⟨Nat.le_of_ble_eq_true rfl, Nat.le_of_ble_eq_true rfl⟩) 0 rfl rfl [0, 1, 2, 3, 4, 5, 6] [] rfl (by decide +kernel) (wr := []) rfl (by decide +kernel) (by decide +kernel) rfl (Nat.le_of_ble_eq_true rfl) dX6_mended_15 rfl ⟨Nat.le_refl _, Nat.le_refl _⟩ (fun H locs v_4 x_5 ev_4 ex_5 hw => ?_)
    have hw : y_W D cI cC cL A s H locs [((q 0), .inr (6, [.ref (q 1), .ref (q 2), .ref (q 3), .int (v_4 3 0), .ref (q 4), .int (v_4 5 0), .ref (q 5), .int (v_4 7 0), .int (v_4 8 0), .int (v_4 9 0), .int (v_4 10 0), .int (v_4 11 0), .ref (q 6)])), ((q 1), .inl (cI, 162, .inl (v_4 0))), ((q 2), .inl (cI, 162, .inl (v_4 1))), ((q 3), .inl (cI, 648, .inl (v_4 2))), ((q 4), .inl (cI, 60, .inl (v_4 4))), ((q 5), .inl (cI, 3, .inl (v_4 6))), ((q 6), .inl (cI, 3, .inl (v_4 12)))] := hw
    subst ex_5
    refine lv_istore_n (lv' := [(2, .int (mMend u x)), (0, .ref (q 0)), (1, .int x)]) S.1 S.2.1 dX6_mended_18 rfl hl (by decide) rfl (fun ls hl => ?_)
    refine lv_iload_n S.1 S.2.1 dX6_mended_19 rfl (lv_at hl 0 rfl) ?_
    refine lv_iconst (v := (-1)) S.1 S.2.1 dX6_mended_20 (by decide) ?_
    refine lv_icmp_ne (tgt := 29) S.1 S.2.1 dX6_mended_21 (by decide) (fun c_6 => ?_) (fun c_6 => ?_)
    · skip
      refine lv_iload_n S.1 S.2.1 dX6_mended_29 rfl (lv_at hl 0 rfl) ?_
      exact ret _ _ _ _ _ (by rw [show mMendedU u x = v_4 from by rw [ev_4, mMendedU, if_neg c_3]]; exact hw) (by rw [mMendedR, if_neg c_3]; first | rw [if_pos c_6] | rw [if_neg (not_not_intro c_6)]) dX6_mended_30
    · skip
      refine lv_ldc (v := (-2000004)) S.1 S.2.1 S.2.2.2.1 (S.2.2.2.2 _ k_X6_mended_117) dX6_mended_24 ?_
      refine lv_goto (tgt := 30) S.1 S.2.1 dX6_mended_26 (by decide) ?_
      exact ret _ _ _ _ _ (by rw [show mMendedU u x = v_4 from by rw [ev_4, mMendedU, if_neg c_3]]; exact hw) (by rw [mMendedR, if_neg c_3]; first | rw [if_pos c_6] | rw [if_neg (not_not_intro c_6)]) dX6_mended_30
  · skip
    refine lv_ldc (v := (-2000001)) S.1 S.2.1 S.2.2.2.1 (S.2.2.2.2 _ k_X6_mended_69) dX6_mended_10 ?_
    exact ret _ _ _ _ _ (by rw [show mMendedU u x = u from by rw [mMendedU, if_pos c_3]]; exact hw) (by rw [mMendedR, if_pos c_3]) dX6_mended_12

theorem i_X6_account_X6 : ∀ w ∈ u_ws RX6 TX6 13, w ∈ wsX6_account := by decide +kernel
theorem f_X6_account_7 : Cond.fieldLink RX6 7 "ChargeLinesModel" "s" "[I" ∈ wsX6_account := by decide +kernel
theorem k_X6_account_69 : Cond.constant RX6 69 (-2000001) ∈ wsX6_account := by decide +kernel
set_option maxHeartbeats 4000000 in
set_option maxRecDepth 100000 in
/-- Model.account -/
theorem c_X6_account (l : Launch) (D : va_G) (cI cC cL : ClassId) (q : Nat → Nat) (u : U) (x : Int32) (n : Nat) (hn : u 0 0 = nI n) (h10 : n ≤ 10) : y_MI l yX6_account wsX6_account 1 22 D cI cC cL [.ref (q 0), .int x] (cMd cI q u) (mAccR (u 0) x n) (fun _ : Unit => cMd cI q u) () := by
  refine y_startI (cc := cX6_account) (maxL := 2) (ret := some .int) (by decide +kernel) rfl (Nat.le_of_ble_eq_true rfl) ⟨_, rfl, fun x _ => rfl⟩ (fun h => by cases h) ?_
  intro p e s mm args below meth c A QQ ls S hw ret hl
  have S : CallFix p mm c cX6_account 2 s args wsX6_account RX6 := S
  have hw : y_W D cI cC cL A s s.heap [] [((q 0), .inr (6, [.ref (q 1), .ref (q 2), .ref (q 3), .int (u 3 0), .ref (q 4), .int (u 5 0), .ref (q 5), .int (u 7 0), .int (u 8 0), .int (u 9 0), .int (u 10 0), .int (u 11 0), .ref (q 6)])), ((q 1), .inl (cI, 162, .inl (u 0))), ((q 2), .inl (cI, 162, .inl (u 1))), ((q 3), .inl (cI, 648, .inl (u 2))), ((q 4), .inl (cI, 60, .inl (u 4))), ((q 5), .inl (cI, 3, .inl (u 6))), ((q 6), .inl (cI, 3, .inl (u 12)))] := hw
  have hl : lv_has ls 2 [(0, .ref (q 0)), (1, .int x)] := hl
  refine lv_iload_n S.1 S.2.1 dX6_account_0 rfl (lv_at hl 1 rfl) ?_
  refine lv_iconst (v := 0) S.1 S.2.1 dX6_account_1 (by decide) ?_
  refine lv_iconst (v := 4) S.1 S.2.1 dX6_account_2 (by decide) ?_
  refine y_callSI (As := [.int x, .int 0, .int 4]) (rest := []) S hw hl.1 (c_X6_in l D cI cC cL x 0 4) (va_cwS 3 S.2.2.2.2 gX6_account_X6_in rfl rfl rfl (by decide +kernel) ⟨Nat.le_of_ble_eq_true rfl, Nat.le_of_ble_eq_true rfl⟩) [] [0, 1, 2, 3, 4, 5, 6] rfl (by decide +kernel) (wr := [((q 0), .inr (6, [.ref (q 1), .ref (q 2), .ref (q 3), .int (u 3 0), .ref (q 4), .int (u 5 0), .ref (q 5), .int (u 7 0), .int (u 8 0), .int (u 9 0), .int (u 10 0), .int (u 11 0), .ref (q 6)])), ((q 1), .inl (cI, 162, .inl (u 0))), ((q 2), .inl (cI, 162, .inl (u 1))), ((q 3), .inl (cI, 648, .inl (u 2))), ((q 4), .inl (cI, 60, .inl (u 4))), ((q 5), .inl (cI, 3, .inl (u 6))), ((q 6), .inl (cI, 3, .inl (u 12)))]) rfl (by decide +kernel) (by decide +kernel) rfl (Nat.le_of_ble_eq_true rfl) dX6_account_3 rfl ⟨Nat.le_refl _, Nat.le_refl _⟩ (fun H locs v_1 x_2 ev_1 ex_2 hw => ?_)
  have hw : y_W D cI cC cL A s H locs [((q 0), .inr (6, [.ref (q 1), .ref (q 2), .ref (q 3), .int (u 3 0), .ref (q 4), .int (u 5 0), .ref (q 5), .int (u 7 0), .int (u 8 0), .int (u 9 0), .int (u 10 0), .int (u 11 0), .ref (q 6)])), ((q 1), .inl (cI, 162, .inl (u 0))), ((q 2), .inl (cI, 162, .inl (u 1))), ((q 3), .inl (cI, 648, .inl (u 2))), ((q 4), .inl (cI, 60, .inl (u 4))), ((q 5), .inl (cI, 3, .inl (u 6))), ((q 6), .inl (cI, 3, .inl (u 12)))] := hw
  subst ex_2
  refine lv_if_ne (tgt := 12) S.1 S.2.1 dX6_account_6 (by decide) (fun c_3 => ?_) (fun c_3 => ?_)
  · skip
    obtain ⟨a, ea, ha1, ha2⟩ := mIn_nat (m := 0) (n := 4) rfl rfl (by omega) (by omega) c_3
    refine lv_iload_n S.1 S.2.1 dX6_account_12 rfl (lv_at hl 1 rfl) ?_
    refine y_top (y := (nI a)) (ea) ?_
    refine lv_iconst (v := 4) S.1 S.2.1 dX6_account_13 (by decide) ?_
    refine lv_icmp_ge (tgt := 29) S.1 S.2.1 dX6_account_14 (by decide) (fun c_4 => ?_) (fun c_4 => ?_)
    · skip
      have c_4N : 4 ≤ a := (nI_leI (a := 4) (b := a) (by omega) (by omega)).mp c_4
      refine lv_aload_n S.1 S.2.1 dX6_account_29 rfl (lv_at hl 0 rfl) ?_
      refine y_get S hw (C := RX6) (T := TX6) (N := 13) i_X6_account_X6 0 rfl rfl 0 (by decide) f_X6_account_7 rfl dX6_account_30 ?_
      refine y_callSI (As := [.ref (q 1)]) (rest := []) S hw hl.1 (c_X6_inStages l D cI cC cL (q 1) (u 0) n (hn) (by omega)) (va_cwS 1 S.2.2.2.2 gX6_account_X6_inStages rfl rfl rfl (by decide +kernel) ⟨Nat.le_of_ble_eq_true rfl, Nat.le_of_ble_eq_true rfl⟩) [1] [0, 2, 3, 4, 5, 6] rfl (by decide +kernel) (wr := [((q 0), .inr (6, [.ref (q 1), .ref (q 2), .ref (q 3), .int (u 3 0), .ref (q 4), .int (u 5 0), .ref (q 5), .int (u 7 0), .int (u 8 0), .int (u 9 0), .int (u 10 0), .int (u 11 0), .ref (q 6)])), ((q 2), .inl (cI, 162, .inl (u 1))), ((q 3), .inl (cI, 648, .inl (u 2))), ((q 4), .inl (cI, 60, .inl (u 4))), ((q 5), .inl (cI, 3, .inl (u 6))), ((q 6), .inl (cI, 3, .inl (u 12)))]) rfl (by decide +kernel) (by decide +kernel) rfl (Nat.le_of_ble_eq_true rfl) dX6_account_33 rfl ⟨Nat.le_refl _, Nat.le_refl _⟩ (fun H locs v_5 x_6 ev_5 ex_6 hw => ?_)
      have hw : y_W D cI cC cL A s H locs [((q 0), .inr (6, [.ref (q 1), .ref (q 2), .ref (q 3), .int (u 3 0), .ref (q 4), .int (u 5 0), .ref (q 5), .int (u 7 0), .int (u 8 0), .int (u 9 0), .int (u 10 0), .int (u 11 0), .ref (q 6)])), ((q 2), .inl (cI, 162, .inl (u 1))), ((q 3), .inl (cI, 648, .inl (u 2))), ((q 4), .inl (cI, 60, .inl (u 4))), ((q 5), .inl (cI, 3, .inl (u 6))), ((q 6), .inl (cI, 3, .inl (u 12))), ((q 1), .inl (cI, 162, .inl (u 0)))] := hw
      subst ex_6
      exact ret _ _ _ _ _ (by exact (hw.sub [0, 6, 1, 2, 3, 4, 5] (by decide +kernel) rfl)) (by rw [mAccR, if_neg c_3, ea]; first | exact (if_pos c_4).symm | (rw [if_neg c_4, nI_clamp (by omega)])) dX6_account_36
    · skip
      have c_4N : ¬ 4 ≤ a := fun z => c_4 ((nI_leI (a := 4) (b := a) (by omega) (by omega)).mpr z)
      refine lv_aload_n S.1 S.2.1 dX6_account_17 rfl (lv_at hl 0 rfl) ?_
      refine y_get S hw (C := RX6) (T := TX6) (N := 13) i_X6_account_X6 0 rfl rfl 0 (by decide) f_X6_account_7 rfl dX6_account_18 ?_
      refine lv_bipush (v := 46) S.1 S.2.1 dX6_account_21 (by decide) ?_
      refine lv_iload_n S.1 S.2.1 dX6_account_23 rfl (lv_at hl 1 rfl) ?_
      refine y_top (y := (nI a)) (ea) ?_
      refine y_iaddN S 46 a dX6_account_24 ?_
      refine y_iald S hw 1 (k := (46 + a)) rfl (by omega) (Nat.le_of_ble_eq_true rfl) dX6_account_25 ?_
      refine lv_goto (tgt := 36) S.1 S.2.1 dX6_account_26 (by decide) ?_
      exact ret _ _ _ _ _ (by exact hw) (by rw [mAccR, if_neg c_3, ea]; first | exact (if_pos c_4).symm | (rw [if_neg c_4, nI_clamp (by omega)])) dX6_account_36
  · skip
    refine lv_ldc (v := (-2000001)) S.1 S.2.1 S.2.2.2.1 (S.2.2.2.2 _ k_X6_account_69) dX6_account_9 ?_
    exact ret _ _ _ _ _ (by exact hw) (by rw [mAccR, if_pos c_3]) dX6_account_11

set_option maxHeartbeats 4000000 in
set_option maxRecDepth 100000 in
/-- Model.size -/
theorem c_X6_size (l : Launch) (D : va_G) (cI cC cL : ClassId) (x : Int32) : y_MI l yX6_size wsX6_size 0 0 D cI cC cL [.int x] [] (mSize x) (fun _ : Unit => []) () := by
  refine y_startI (cc := cX6_size) (maxL := 1) (ret := some .int) (by decide +kernel) rfl (Nat.le_of_ble_eq_true rfl) ⟨_, rfl, fun x _ => rfl⟩ (fun h => by cases h) ?_
  intro p e s mm args below meth c A QQ ls S hw ret hl
  have S : CallFix p mm c cX6_size 1 s args wsX6_size RX6 := S
  have hw : y_W D cI cC cL A s s.heap [] [] := hw
  have hl : lv_has ls 1 [(0, .int x)] := hl
  refine lv_iload_n S.1 S.2.1 dX6_size_0 rfl (lv_at hl 0 rfl) ?_
  refine lv_if_ge (tgt := 9) S.1 S.2.1 dX6_size_1 (by decide) (fun c_1 => ?_) (fun c_1 => ?_)
  · skip
    refine lv_iload_n S.1 S.2.1 dX6_size_9 rfl (lv_at hl 0 rfl) ?_
    exact ret _ _ _ _ _ (by exact hw) (by simp only [mSize, c_1, ↓reduceIte]) dX6_size_10
  · skip
    refine lv_iload_n S.1 S.2.1 dX6_size_4 rfl (lv_at hl 0 rfl) ?_
    refine lv_ineg S.1 S.2.1 dX6_size_5 ?_
    refine lv_goto (tgt := 10) S.1 S.2.1 dX6_size_6 (by decide) ?_
    exact ret _ _ _ _ _ (by exact hw) (by simp only [mSize, c_1, ↓reduceIte]) dX6_size_10
