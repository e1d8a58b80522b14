theorem i_X6_passes_X6 : ∀ w ∈ u_ws RX6 TX6 13, w ∈ wsX6_passes := by decide +kernel
theorem f_X6_passes_7 : Cond.fieldLink RX6 7 "ChargeLinesModel" "s" "[I" ∈ wsX6_passes := by decide +kernel
set_option maxHeartbeats 4000000 in
set_option maxRecDepth 100000 in
/-- Model.passes -/
theorem c_X6_passes (l : Launch) (D : va_G) (cI cC cL : ClassId) (q : Nat → Nat) (u : U) (x w : Int32) (n h kp : Nat) (hn : u 0 0 = nI n) (h10 : n ≤ 10) (hh : u 0 1 = nI h) (hh2 : h ≤ 100000) (hk : u 0 4 = nI kp) (hk16 : kp ≤ 16) (hok : okM (u 0)) (hw0 : okr w) : y_MV l yX6_passes wsX6_passes 4 104 D cI cC cL [.ref (q 0), .int x, .int w] (cMd cI q u) (fun v : U => cMd cI q v) (mPass u x w n h kp) := by
  refine y_startV (cc := cX6_passes) (maxL := 6) (by decide) rfl (Nat.le_of_ble_eq_true rfl) ?_
  intro p e s mm args below meth c A QQ ls S hw ret hl
  have S : CallFix p mm c cX6_passes 6 s args wsX6_passes RX6 := S
  have hw : y_W D cI cC cL A s s.heap [] [((q 0), .inr (6, [.ref (q 1), .ref (q 2), .ref (q 3), .int (u 3 0), .ref (q 4), .int (u 5 0), .ref (q 5), .int (u 7 0), .int (u 8 0), .int (u 9 0), .int (u 10 0), .int (u 11 0), .ref (q 6)])), ((q 1), .inl (cI, 162, .inl (u 0))), ((q 2), .inl (cI, 162, .inl (u 1))), ((q 3), .inl (cI, 648, .inl (u 2))), ((q 4), .inl (cI, 60, .inl (u 4))), ((q 5), .inl (cI, 3, .inl (u 6))), ((q 6), .inl (cI, 3, .inl (u 12)))] := hw
  have hl : lv_has ls 6 [(0, .ref (q 0)), (1, .int x), (2, .int w)] := hl
  refine lv_aload_n S.1 S.2.1 dX6_passes_0 rfl (lv_at hl 0 rfl) ?_
  refine y_get S hw (C := RX6) (T := TX6) (N := 13) i_X6_passes_X6 0 rfl rfl 0 (by decide) f_X6_passes_7 rfl dX6_passes_1 ?_
  refine lv_iconst (v := 1) S.1 S.2.1 dX6_passes_4 (by decide) ?_
  refine y_iald S hw 1 (k := 1) rfl (by omega) (Nat.le_of_ble_eq_true rfl) dX6_passes_5 ?_
  refine y_top (y := (nI h)) (hh) ?_
  refine lv_istore_n (lv' := [(3, .int (nI h)), (0, .ref (q 0)), (1, .int x), (2, .int w)]) S.1 S.2.1 dX6_passes_6 rfl hl (by decide) rfl (fun ls hl => ?_)
  refine lv_aload_n S.1 S.2.1 dX6_passes_7 rfl (lv_at hl 1 rfl) ?_
  refine y_get S hw (C := RX6) (T := TX6) (N := 13) i_X6_passes_X6 0 rfl rfl 0 (by decide) f_X6_passes_7 rfl dX6_passes_8 ?_
  refine lv_bipush (v := 50) S.1 S.2.1 dX6_passes_11 (by decide) ?_
  refine lv_iload_n S.1 S.2.1 dX6_passes_13 rfl (lv_at hl 0 rfl) ?_
  refine lv_bipush (v := 16) S.1 S.2.1 dX6_passes_14 (by decide) ?_
  refine lv_irem S.1 S.2.1 dX6_passes_16 (by decide) ?_
  refine y_top (y := (nI (h % 16))) (pk_rem (d := 16) (by omega) (by decide) (by decide)) ?_
  refine y_iaddN S 50 (h % 16) dX6_passes_17 ?_
  refine lv_iload_n S.1 S.2.1 dX6_passes_18 rfl (lv_at hl 2 rfl) ?_
  refine y_iast S hw 1 (k := (50 + (h % 16))) rfl (by omega) (Nat.le_of_ble_eq_true rfl) dX6_passes_19 (ws' := [((q 0), .inr (6, [.ref (q 1), .ref (q 2), .ref (q 3), .int (u 3 0), .ref (q 4), .int (u 5 0), .ref (q 5), .int (u 7 0), .int (u 8 0), .int (u 9 0), .int (u 10 0), .int (u 11 0), .ref (q 6)])), ((q 1), .inl (cI, 162, .inl (upd (u 0) (50 + (h % 16)) x))), ((q 2), .inl (cI, 162, .inl (u 1))), ((q 3), .inl (cI, 648, .inl (u 2))), ((q 4), .inl (cI, 60, .inl (u 4))), ((q 5), .inl (cI, 3, .inl (u 6))), ((q 6), .inl (cI, 3, .inl (u 12)))]) rfl (fun H locs hw => ?_)
  refine lv_aload_n S.1 S.2.1 dX6_passes_20 rfl (lv_at hl 1 rfl) ?_
  refine y_get S hw (C := RX6) (T := TX6) (N := 13) i_X6_passes_X6 0 rfl rfl 0 (by decide) f_X6_passes_7 rfl dX6_passes_21 ?_
  refine lv_bipush (v := 66) S.1 S.2.1 dX6_passes_24 (by decide) ?_
  refine lv_iload_n S.1 S.2.1 dX6_passes_26 rfl (lv_at hl 0 rfl) ?_
  refine lv_bipush (v := 16) S.1 S.2.1 dX6_passes_27 (by decide) ?_
  refine lv_irem S.1 S.2.1 dX6_passes_29 (by decide) ?_
  refine y_top (y := (nI (h % 16))) (pk_rem (d := 16) (by omega) (by decide) (by decide)) ?_
  refine y_iaddN S 66 (h % 16) dX6_passes_30 ?_
  refine lv_iload_n S.1 S.2.1 dX6_passes_31 rfl (lv_at hl 3 rfl) ?_
  refine y_iast S hw 1 (k := (66 + (h % 16))) rfl (by omega) (Nat.le_of_ble_eq_true rfl) dX6_passes_32 (ws' := [((q 0), .inr (6, [.ref (q 1), .ref (q 2), .ref (q 3), .int (u 3 0), .ref (q 4), .int (u 5 0), .ref (q 5), .int (u 7 0), .int (u 8 0), .int (u 9 0), .int (u 10 0), .int (u 11 0), .ref (q 6)])), ((q 1), .inl (cI, 162, .inl (upd (upd (u 0) (50 + (h % 16)) x) (66 + (h % 16)) w))), ((q 2), .inl (cI, 162, .inl (u 1))), ((q 3), .inl (cI, 648, .inl (u 2))), ((q 4), .inl (cI, 60, .inl (u 4))), ((q 5), .inl (cI, 3, .inl (u 6))), ((q 6), .inl (cI, 3, .inl (u 12)))]) rfl (fun H locs hw => ?_)
  refine lv_aload_n S.1 S.2.1 dX6_passes_33 rfl (lv_at hl 1 rfl) ?_
  refine y_get S hw (C := RX6) (T := TX6) (N := 13) i_X6_passes_X6 0 rfl rfl 0 (by decide) f_X6_passes_7 rfl dX6_passes_34 ?_
  refine lv_iload_n S.1 S.2.1 dX6_passes_37 rfl (lv_at hl 2 rfl) ?_
  refine y_callSI (As := [.ref (q 1), .int x]) (rest := []) S hw hl.1 (c_X6_handsOver l D cI cC cL (q 1) (upd (upd (u 0) (50 + (h % 16)) x) (66 + (h % 16)) w) x n (by rw [pk_un (by omega), pk_un (by omega)]; exact hn) (by omega)) (va_cwS 2 S.2.2.2.2 gX6_passes_X6_handsOver rfl rfl rfl (by decide +kernel) ⟨Nat.le_of_ble_eq_true rfl, Nat.le_of_ble_eq_true rfl⟩) [1] [0, 2, 3, 4, 5, 6] rfl (by decide +kernel) (wr := [((q 0), .inr (6, [.ref (q 1), .ref (q 2), .ref (q 3), .int (u 3 0), .ref (q 4), .int (u 5 0), .ref (q 5), .int (u 7 0), .int (u 8 0), .int (u 9 0), .int (u 10 0), .int (u 11 0), .ref (q 6)])), ((q 2), .inl (cI, 162, .inl (u 1))), ((q 3), .inl (cI, 648, .inl (u 2))), ((q 4), .inl (cI, 60, .inl (u 4))), ((q 5), .inl (cI, 3, .inl (u 6))), ((q 6), .inl (cI, 3, .inl (u 12)))]) rfl (by decide +kernel) (by decide +kernel) rfl (Nat.le_of_ble_eq_true rfl) dX6_passes_38 rfl ⟨Nat.le_refl _, Nat.le_refl _⟩ (fun H locs v_1 x_2 ev_1 ex_2 hw => ?_)
  have hw : y_W D cI cC cL A s H locs [((q 0), .inr (6, [.ref (q 1), .ref (q 2), .ref (q 3), .int (u 3 0), .ref (q 4), .int (u 5 0), .ref (q 5), .int (u 7 0), .int (u 8 0), .int (u 9 0), .int (u 10 0), .int (u 11 0), .ref (q 6)])), ((q 2), .inl (cI, 162, .inl (u 1))), ((q 3), .inl (cI, 648, .inl (u 2))), ((q 4), .inl (cI, 60, .inl (u 4))), ((q 5), .inl (cI, 3, .inl (u 6))), ((q 6), .inl (cI, 3, .inl (u 12))), ((q 1), .inl (cI, 162, .inl v_1))] := hw
  subst ex_2
  refine lv_istore (lv' := [(4, .int ((mHO x (upd (upd (u 0) (50 + (h % 16)) x) (66 + (h % 16)) w) n).2)), (3, .int (nI h)), (0, .ref (q 0)), (1, .int x), (2, .int w)]) S.1 S.2.1 dX6_passes_41 hl (by decide) rfl (fun ls hl => ?_)
  refine lv_aload_n S.1 S.2.1 dX6_passes_43 rfl (lv_at hl 2 rfl) ?_
  refine y_get S hw (C := RX6) (T := TX6) (N := 13) i_X6_passes_X6 0 rfl rfl 0 (by decide) f_X6_passes_7 rfl dX6_passes_44 ?_
  refine lv_iconst (v := 1) S.1 S.2.1 dX6_passes_47 (by decide) ?_
  refine lv_dup2_11 S.1 S.2.1 dX6_passes_48 rfl rfl ?_
  refine y_iald S hw 6 (k := 1) rfl (by omega) (Nat.le_of_ble_eq_true rfl) dX6_passes_49 ?_
  refine y_top (y := (nI h)) (by rw [ev_1]; exact (mHOP_o (by omega) (by omega)).trans hh) ?_
  refine lv_iconst (v := 1) S.1 S.2.1 dX6_passes_50 (by decide) ?_
  refine y_iaddN S h 1 dX6_passes_51 ?_
  refine y_iast S hw 6 (k := 1) rfl (by omega) (Nat.le_of_ble_eq_true rfl) dX6_passes_52 (ws' := [((q 0), .inr (6, [.ref (q 1), .ref (q 2), .ref (q 3), .int (u 3 0), .ref (q 4), .int (u 5 0), .ref (q 5), .int (u 7 0), .int (u 8 0), .int (u 9 0), .int (u 10 0), .int (u 11 0), .ref (q 6)])), ((q 2), .inl (cI, 162, .inl (u 1))), ((q 3), .inl (cI, 648, .inl (u 2))), ((q 4), .inl (cI, 60, .inl (u 4))), ((q 5), .inl (cI, 3, .inl (u 6))), ((q 6), .inl (cI, 3, .inl (u 12))), ((q 1), .inl (cI, 162, .inl (upd v_1 1 (nI (h + 1)))))]) rfl (fun H locs hw => ?_)
  refine lv_iload_n S.1 S.2.1 dX6_passes_53 rfl (lv_at hl 1 rfl) ?_
  refine lv_aload_n S.1 S.2.1 dX6_passes_54 rfl (lv_at hl 2 rfl) ?_
  refine y_get S hw (C := RX6) (T := TX6) (N := 13) i_X6_passes_X6 0 rfl rfl 0 (by decide) f_X6_passes_7 rfl dX6_passes_55 ?_
  refine lv_iconst (v := 0) S.1 S.2.1 dX6_passes_58 (by decide) ?_
  refine y_iald S hw 6 (k := 0) rfl (by omega) (Nat.le_of_ble_eq_true rfl) dX6_passes_59 ?_
  refine y_top (y := (v_1 0)) (pk_un (by omega)) ?_
  refine y_top (y := (nI n)) (by rw [ev_1]; exact (mHOP_o (by omega) (by omega)).trans hn) ?_
  rcases Nat.lt_or_ge h n with hlt | hge
  · skip
    refine lv_isub S.1 S.2.1 dX6_passes_60 ?_
    refine lv_istore (lv' := [(5, .int ((nI h) - (nI n))), (4, .int ((mHO x (upd (upd (u 0) (50 + (h % 16)) x) (66 + (h % 16)) w) n).2)), (3, .int (nI h)), (0, .ref (q 0)), (1, .int x), (2, .int w)]) S.1 S.2.1 dX6_passes_61 hl (by decide) rfl (fun ls hl => ?_)
    refine lv_iload S.1 S.2.1 dX6_passes_63 (lv_at hl 0 rfl) ?_
    refine lv_if_lt (tgt := 101) S.1 S.2.1 dX6_passes_65 (by decide) (fun c_3 => ?_) (fun c_3 => ?_)
    · skip
      exact ret _ _ _ _ (by rw [show mPass u x w n h kp = va_up u 0 (upd v_1 1 (nI (h + 1))) from by rw [ev_1, mPass, if_pos hlt]; rfl]; exact (hw.sub [0, 6, 1, 2, 3, 4, 5] (by decide +kernel) rfl)) dX6_passes_101
    · skip
      exact absurd (pk_sneg (by omega) hlt) c_3
  · skip
    refine y_isubN S h n (by omega) dX6_passes_60 ?_
    refine lv_istore (lv' := [(5, .int (nI (h - n))), (4, .int ((mHO x (upd (upd (u 0) (50 + (h % 16)) x) (66 + (h % 16)) w) n).2)), (3, .int (nI h)), (0, .ref (q 0)), (1, .int x), (2, .int w)]) S.1 S.2.1 dX6_passes_61 hl (by decide) rfl (fun ls hl => ?_)
    refine lv_iload S.1 S.2.1 dX6_passes_63 (lv_at hl 0 rfl) ?_
    refine lv_if_lt (tgt := 101) S.1 S.2.1 dX6_passes_65 (by decide) (fun c_4 => ?_) (fun c_4 => ?_)
    · skip
      have c_4N : (h - n) < 0 := (nI_ltI (a := (h - n)) (b := 0) (by omega) (by omega)).mp c_4
      exact absurd c_4N (Nat.not_lt_zero _)
    · skip
      have c_4N : ¬ (h - n) < 0 := fun z => c_4 ((nI_ltI (a := (h - n)) (b := 0) (by omega) (by omega)).mpr z)
      refine lv_aload_n S.1 S.2.1 dX6_passes_68 rfl (lv_at hl 3 rfl) ?_
      refine lv_iload_n S.1 S.2.1 dX6_passes_69 rfl (lv_at hl 2 rfl) ?_
      refine lv_aload_n S.1 S.2.1 dX6_passes_70 rfl (lv_at hl 3 rfl) ?_
      refine y_get S hw (C := RX6) (T := TX6) (N := 13) i_X6_passes_X6 0 rfl rfl 0 (by decide) f_X6_passes_7 rfl dX6_passes_71 ?_
      refine lv_bipush (v := 50) S.1 S.2.1 dX6_passes_74 (by decide) ?_
      refine lv_iload S.1 S.2.1 dX6_passes_76 (lv_at hl 0 rfl) ?_
      refine lv_bipush (v := 16) S.1 S.2.1 dX6_passes_78 (by decide) ?_
      refine lv_irem S.1 S.2.1 dX6_passes_80 (by decide) ?_
      refine y_top (y := (nI ((h - n) % 16))) (pk_rem (d := 16) (by omega) (by decide) (by decide)) ?_
      refine y_iaddN S 50 ((h - n) % 16) dX6_passes_81 ?_
      refine y_iald S hw 6 (k := (50 + ((h - n) % 16))) rfl (by omega) (Nat.le_of_ble_eq_true rfl) dX6_passes_82 ?_
      refine y_top (y := (v_1 (50 + ((h - n) % 16)))) (pk_un (by omega)) ?_
      refine lv_aload_n S.1 S.2.1 dX6_passes_83 rfl (lv_at hl 3 rfl) ?_
      refine y_get S hw (C := RX6) (T := TX6) (N := 13) i_X6_passes_X6 0 rfl rfl 0 (by decide) f_X6_passes_7 rfl dX6_passes_84 ?_
      refine lv_bipush (v := 66) S.1 S.2.1 dX6_passes_87 (by decide) ?_
      refine lv_iload S.1 S.2.1 dX6_passes_89 (lv_at hl 0 rfl) ?_
      refine lv_bipush (v := 16) S.1 S.2.1 dX6_passes_91 (by decide) ?_
      refine lv_irem S.1 S.2.1 dX6_passes_93 (by decide) ?_
      refine y_top (y := (nI ((h - n) % 16))) (pk_rem (d := 16) (by omega) (by decide) (by decide)) ?_
      refine y_iaddN S 66 ((h - n) % 16) dX6_passes_94 ?_
      refine y_iald S hw 6 (k := (66 + ((h - n) % 16))) rfl (by omega) (Nat.le_of_ble_eq_true rfl) dX6_passes_95 ?_
      refine y_top (y := (v_1 (66 + ((h - n) % 16)))) (pk_un (by omega)) ?_
      refine lv_iload S.1 S.2.1 dX6_passes_96 (lv_at hl 1 rfl) ?_
      refine y_callV (As := [.int (nI h), .int (v_1 (50 + ((h - n) % 16))), .int (v_1 (66 + ((h - n) % 16))), .int ((mHO x (upd (upd (u 0) (50 + (h % 16)) x) (66 + (h % 16)) w) n).2)]) (rest := []) S hw hl.1 (c_X6_comes l D cI cC cL q (va_up u 0 (upd v_1 1 (nI (h + 1)))) (nI h) (v_1 (50 + ((h - n) % 16))) (v_1 (66 + ((h - n) % 16))) ((mHO x (upd (upd (u 0) (50 + (h % 16)) x) (66 + (h % 16)) w) n).2) kp (by show upd v_1 1 (nI (h + 1)) 4 = nI kp; rw [pk_un (by decide), ev_1]; exact (mHOP_o (by omega) (by omega)).trans hk) (by omega) (by rw [ev_1]; exact okM_mHOP (by omega) hok hw0 _ (by omega))) (cwV 4 S.2.2.2.2 gX6_passes_X6_comes rfl rfl rfl (by decide +kernel) ⟨Nat.le_of_ble_eq_true rfl, Nat.le_of_ble_eq_true rfl⟩) 0 rfl rfl [0, 6, 1, 2, 3, 4, 5] [] rfl (by decide +kernel) (wr := []) rfl (by decide +kernel) (by decide +kernel) rfl (Nat.le_of_ble_eq_true rfl) dX6_passes_98 rfl ⟨Nat.le_refl _, Nat.le_refl _⟩ (fun H locs v_5 ev_5 hw => ?_)
      have hw : y_W D cI cC cL A s H locs [((q 0), .inr (6, [.ref (q 1), .ref (q 2), .ref (q 3), .int (v_5 3 0), .ref (q 4), .int (v_5 5 0), .ref (q 5), .int (v_5 7 0), .int (v_5 8 0), .int (v_5 9 0), .int (v_5 10 0), .int (v_5 11 0), .ref (q 6)])), ((q 1), .inl (cI, 162, .inl (v_5 0))), ((q 2), .inl (cI, 162, .inl (v_5 1))), ((q 3), .inl (cI, 648, .inl (v_5 2))), ((q 4), .inl (cI, 60, .inl (v_5 4))), ((q 5), .inl (cI, 3, .inl (v_5 6))), ((q 6), .inl (cI, 3, .inl (v_5 12)))] := hw
      exact ret _ _ _ _ (by rw [show mPass u x w n h kp = v_5 from by rw [ev_5, ev_1, mPass, if_neg (by omega)]; rfl]; exact hw) dX6_passes_101

theorem i_X6_gives_X6 : ∀ w ∈ u_ws RX6 TX6 13, w ∈ wsX6_gives := by decide +kernel
theorem f_X6_gives_7 : Cond.fieldLink RX6 7 "ChargeLinesModel" "s" "[I" ∈ wsX6_gives := by decide +kernel
set_option maxHeartbeats 4000000 in
set_option maxRecDepth 100000 in
/-- Model.gives -/
theorem c_X6_gives (l : Launch) (D : va_G) (cI cC cL : ClassId) (q : Nat → Nat) (u : U) (x : Int32) (n h kp : Nat) (hn : u 0 0 = nI n) (h10 : n ≤ 10) (hh : u 0 1 = nI h) (hh2 : h ≤ 50000) (hk : u 0 4 = nI kp) (hk16 : kp ≤ 16) (hok : okM (u 0)) (t r : Nat) (ht : u 0 2 = nI t) (ht3 : t < 3) (hr : u 0 3 = nI r) (hr2 : r ≤ 100000) : y_MV l yX6_gives wsX6_gives 5 129 D cI cC cL [.ref (q 0), .int x] (cMd cI q u) (fun v : U => cMd cI q v) (mGive u x n h kp t r) := by
  refine y_startV (cc := cX6_gives) (maxL := 3) (by decide) rfl (Nat.le_of_ble_eq_true rfl) ?_
  intro p e s mm args below meth c A QQ ls S hw ret hl
  have S : CallFix p mm c cX6_gives 3 s args wsX6_gives RX6 := S
  have hw : y_W D cI cC cL A s s.heap [] [((q 0), .inr (6, [.ref (q 1), .ref (q 2), .ref (q 3), .int (u 3 0), .ref (q 4), .int (u 5 0), .ref (q 5), .int (u 7 0), .int (u 8 0), .int (u 9 0), .int (u 10 0), .int (u 11 0), .ref (q 6)])), ((q 1), .inl (cI, 162, .inl (u 0))), ((q 2), .inl (cI, 162, .inl (u 1))), ((q 3), .inl (cI, 648, .inl (u 2))), ((q 4), .inl (cI, 60, .inl (u 4))), ((q 5), .inl (cI, 3, .inl (u 6))), ((q 6), .inl (cI, 3, .inl (u 12)))] := hw
  have hl : lv_has ls 3 [(0, .ref (q 0)), (1, .int x)] := hl
  refine lv_aload_n S.1 S.2.1 dX6_gives_0 rfl (lv_at hl 0 rfl) ?_
  refine lv_aload_n S.1 S.2.1 dX6_gives_1 rfl (lv_at hl 0 rfl) ?_
  refine y_get S hw (C := RX6) (T := TX6) (N := 13) i_X6_gives_X6 0 rfl rfl 0 (by decide) f_X6_gives_7 rfl dX6_gives_2 ?_
  refine lv_iconst (v := 1) S.1 S.2.1 dX6_gives_5 (by decide) ?_
  refine y_iald S hw 1 (k := 1) rfl (by omega) (Nat.le_of_ble_eq_true rfl) dX6_gives_6 ?_
  refine y_callI (As := [.int ((u 0) 1)]) (rest := []) S hw hl.1 (c_X6_isDue l D cI cC cL q u ((u 0) 1)) (cwV 1 S.2.2.2.2 gX6_gives_X6_isDue rfl rfl rfl (by decide +kernel) ⟨Nat.le_of_ble_eq_true rfl, Nat.le_of_ble_eq_true rfl⟩) 0 rfl rfl [0, 1, 2, 3, 4, 5, 6] [] rfl (by decide +kernel) (wr := []) rfl (by decide +kernel) (by decide +kernel) rfl (Nat.le_of_ble_eq_true rfl) dX6_gives_7 rfl ⟨Nat.le_refl _, Nat.le_refl _⟩ (fun H locs v_1 x_2 ev_1 ex_2 hw => ?_)
  have hw : y_W D cI cC cL A s H locs [((q 0), .inr (6, [.ref (q 1), .ref (q 2), .ref (q 3), .int (u 3 0), .ref (q 4), .int (u 5 0), .ref (q 5), .int (u 7 0), .int (u 8 0), .int (u 9 0), .int (u 10 0), .int (u 11 0), .ref (q 6)])), ((q 1), .inl (cI, 162, .inl (u 0))), ((q 2), .inl (cI, 162, .inl (u 1))), ((q 3), .inl (cI, 648, .inl (u 2))), ((q 4), .inl (cI, 60, .inl (u 4))), ((q 5), .inl (cI, 3, .inl (u 6))), ((q 6), .inl (cI, 3, .inl (u 12)))] := hw
  subst ex_2
  refine y_top (y := (mDue ((u 0) 1) (u 0 6))) rfl ?_
  refine lv_if_eq (tgt := 55) S.1 S.2.1 dX6_gives_10 (by decide) (fun c_3 => ?_) (fun c_3 => ?_)
  · skip
    refine lv_aload_n S.1 S.2.1 dX6_gives_55 rfl (lv_at hl 0 rfl) ?_
    refine lv_iload_n S.1 S.2.1 dX6_gives_56 rfl (lv_at hl 1 rfl) ?_
    refine lv_iconst (v := (-1)) S.1 S.2.1 dX6_gives_57 (by decide) ?_
    refine y_callV (As := [.int x, .int (-1)]) (rest := []) S hw hl.1 (c_X6_passes l D cI cC cL q u x (-1) n h kp (hn) (by omega) (hh) (by omega) (hk) (hk16) (hok) (Or.inl rfl)) (cwV 2 S.2.2.2.2 gX6_gives_X6_passes rfl rfl rfl (by decide +kernel) ⟨Nat.le_of_ble_eq_true rfl, Nat.le_of_ble_eq_true rfl⟩) 0 rfl rfl [0, 1, 2, 3, 4, 5, 6] [] rfl (by decide +kernel) (wr := []) rfl (by decide +kernel) (by decide +kernel) rfl (Nat.le_of_ble_eq_true rfl) dX6_gives_58 rfl ⟨Nat.le_refl _, Nat.le_refl _⟩ (fun H locs v_4 ev_4 hw => ?_)
    have hw : y_W D cI cC cL A s H locs [((q 0), .inr (6, [.ref (q 1), .ref (q 2), .ref (q 3), .int (v_4 3 0), .ref (q 4), .int (v_4 5 0), .ref (q 5), .int (v_4 7 0), .int (v_4 8 0), .int (v_4 9 0), .int (v_4 10 0), .int (v_4 11 0), .ref (q 6)])), ((q 1), .inl (cI, 162, .inl (v_4 0))), ((q 2), .inl (cI, 162, .inl (v_4 1))), ((q 3), .inl (cI, 648, .inl (v_4 2))), ((q 4), .inl (cI, 60, .inl (v_4 4))), ((q 5), .inl (cI, 3, .inl (v_4 6))), ((q 6), .inl (cI, 3, .inl (v_4 12)))] := hw
    exact ret _ _ _ _ (by rw [show mGive u x n h kp t r = v_4 from by rw [ev_4, mGive, if_pos c_3]]; exact hw) dX6_gives_61
  · skip
    refine lv_aload_n S.1 S.2.1 dX6_gives_13 rfl (lv_at hl 0 rfl) ?_
    refine y_get S hw (C := RX6) (T := TX6) (N := 13) i_X6_gives_X6 0 rfl rfl 0 (by decide) f_X6_gives_7 rfl dX6_gives_14 ?_
    refine lv_iconst (v := 2) S.1 S.2.1 dX6_gives_17 (by decide) ?_
    refine y_iald S hw 1 (k := 2) rfl (by omega) (Nat.le_of_ble_eq_true rfl) dX6_gives_18 ?_
    refine y_top (y := (nI t)) (ht) ?_
    refine lv_istore_n (lv' := [(2, .int (nI t)), (0, .ref (q 0)), (1, .int x)]) S.1 S.2.1 dX6_gives_19 rfl hl (by decide) rfl (fun ls hl => ?_)
    refine lv_aload_n S.1 S.2.1 dX6_gives_20 rfl (lv_at hl 1 rfl) ?_
    refine y_get S hw (C := RX6) (T := TX6) (N := 13) i_X6_gives_X6 0 rfl rfl 0 (by decide) f_X6_gives_7 rfl dX6_gives_21 ?_
    refine lv_iconst (v := 2) S.1 S.2.1 dX6_gives_24 (by decide) ?_
    refine lv_iload_n S.1 S.2.1 dX6_gives_25 rfl (lv_at hl 0 rfl) ?_
    refine lv_iconst (v := 1) S.1 S.2.1 dX6_gives_26 (by decide) ?_
    refine y_iaddN S t 1 dX6_gives_27 ?_
    refine lv_iconst (v := 3) S.1 S.2.1 dX6_gives_28 (by decide) ?_
    refine lv_irem S.1 S.2.1 dX6_gives_29 (by decide) ?_
    refine y_top (y := (nI ((t + 1) % 3))) (pk_rem (d := 3) (by omega) (by decide) (by decide)) ?_
    refine y_iast S hw 1 (k := 2) rfl (by omega) (Nat.le_of_ble_eq_true rfl) dX6_gives_30 (ws' := [((q 0), .inr (6, [.ref (q 1), .ref (q 2), .ref (q 3), .int (u 3 0), .ref (q 4), .int (u 5 0), .ref (q 5), .int (u 7 0), .int (u 8 0), .int (u 9 0), .int (u 10 0), .int (u 11 0), .ref (q 6)])), ((q 1), .inl (cI, 162, .inl (upd (u 0) 2 (nI ((t + 1) % 3))))), ((q 2), .inl (cI, 162, .inl (u 1))), ((q 3), .inl (cI, 648, .inl (u 2))), ((q 4), .inl (cI, 60, .inl (u 4))), ((q 5), .inl (cI, 3, .inl (u 6))), ((q 6), .inl (cI, 3, .inl (u 12)))]) rfl (fun H locs hw => ?_)
    refine lv_aload_n S.1 S.2.1 dX6_gives_31 rfl (lv_at hl 1 rfl) ?_
    refine y_get S hw (C := RX6) (T := TX6) (N := 13) i_X6_gives_X6 0 rfl rfl 0 (by decide) f_X6_gives_7 rfl dX6_gives_32 ?_
    refine lv_iconst (v := 3) S.1 S.2.1 dX6_gives_35 (by decide) ?_
    refine lv_dup2_11 S.1 S.2.1 dX6_gives_36 rfl rfl ?_
    refine y_iald S hw 1 (k := 3) rfl (by omega) (Nat.le_of_ble_eq_true rfl) dX6_gives_37 ?_
    refine y_top (y := ((u 0) 3)) (pk_un (by omega)) ?_
    refine y_top (y := (nI r)) (hr) ?_
    refine lv_iconst (v := 1) S.1 S.2.1 dX6_gives_38 (by decide) ?_
    refine y_iaddN S r 1 dX6_gives_39 ?_
    refine y_iast S hw 1 (k := 3) rfl (by omega) (Nat.le_of_ble_eq_true rfl) dX6_gives_40 (ws' := [((q 0), .inr (6, [.ref (q 1), .ref (q 2), .ref (q 3), .int (u 3 0), .ref (q 4), .int (u 5 0), .ref (q 5), .int (u 7 0), .int (u 8 0), .int (u 9 0), .int (u 10 0), .int (u 11 0), .ref (q 6)])), ((q 1), .inl (cI, 162, .inl (upd (upd (u 0) 2 (nI ((t + 1) % 3))) 3 (nI (r + 1))))), ((q 2), .inl (cI, 162, .inl (u 1))), ((q 3), .inl (cI, 648, .inl (u 2))), ((q 4), .inl (cI, 60, .inl (u 4))), ((q 5), .inl (cI, 3, .inl (u 6))), ((q 6), .inl (cI, 3, .inl (u 12)))]) rfl (fun H locs hw => ?_)
    refine lv_aload_n S.1 S.2.1 dX6_gives_41 rfl (lv_at hl 1 rfl) ?_
    refine lv_aload_n S.1 S.2.1 dX6_gives_42 rfl (lv_at hl 1 rfl) ?_
    refine y_get S hw (C := RX6) (T := TX6) (N := 13) i_X6_gives_X6 0 rfl rfl 0 (by decide) f_X6_gives_7 rfl dX6_gives_43 ?_
    refine lv_bipush (v := 7) S.1 S.2.1 dX6_gives_46 (by decide) ?_
    refine lv_iload_n S.1 S.2.1 dX6_gives_48 rfl (lv_at hl 0 rfl) ?_
    refine y_iaddN S 7 t dX6_gives_49 ?_
    refine y_iald S hw 1 (k := (7 + t)) rfl (by omega) (Nat.le_of_ble_eq_true rfl) dX6_gives_50 ?_
    refine y_top (y := ((upd (u 0) 2 (nI ((t + 1) % 3))) (7 + t))) (pk_un (by omega)) ?_
    refine y_top (y := ((u 0) (7 + t))) (pk_un (by omega)) ?_
    refine lv_iload_n S.1 S.2.1 dX6_gives_51 rfl (lv_at hl 0 rfl) ?_
    have hn1 : mG1 u t r 0 0 = nI n := (mG1_o (by decide) (by decide)).trans hn
    have hh1 : mG1 u t r 0 1 = nI h := (mG1_o (by decide) (by decide)).trans hh
    have hk1 : mG1 u t r 0 4 = nI kp := (mG1_o (by decide) (by decide)).trans hk
    have hok1 : okM (mG1 u t r 0) := fun j hj => by rw [mG1_o (by omega) (by omega)]; exact hok j hj
    refine y_callV (As := [.int ((u 0) (7 + t)), .int (nI t)]) (rest := []) S hw hl.1 (c_X6_passes l D cI cC cL q (va_up u 0 (upd (upd (u 0) 2 (nI ((t + 1) % 3))) 3 (nI (r + 1)))) ((u 0) (7 + t)) (nI t) n h kp (hn1) (by omega) (hh1) (by omega) (hk1) (hk16) (hok1) (Or.inr ⟨t, by omega, rfl⟩)) (cwV 2 S.2.2.2.2 gX6_gives_X6_passes rfl rfl rfl (by decide +kernel) ⟨Nat.le_of_ble_eq_true rfl, Nat.le_of_ble_eq_true rfl⟩) 0 rfl rfl [0, 1, 2, 3, 4, 5, 6] [] rfl (by decide +kernel) (wr := []) rfl (by decide +kernel) (by decide +kernel) rfl (Nat.le_of_ble_eq_true rfl) dX6_gives_52 rfl ⟨Nat.le_refl _, Nat.le_refl _⟩ (fun H locs v_6 ev_6 hw => ?_)
    have hw : y_W D cI cC cL A s H locs [((q 0), .inr (6, [.ref (q 1), .ref (q 2), .ref (q 3), .int (v_6 3 0), .ref (q 4), .int (v_6 5 0), .ref (q 5), .int (v_6 7 0), .int (v_6 8 0), .int (v_6 9 0), .int (v_6 10 0), .int (v_6 11 0), .ref (q 6)])), ((q 1), .inl (cI, 162, .inl (v_6 0))), ((q 2), .inl (cI, 162, .inl (v_6 1))), ((q 3), .inl (cI, 648, .inl (v_6 2))), ((q 4), .inl (cI, 60, .inl (v_6 4))), ((q 5), .inl (cI, 3, .inl (v_6 6))), ((q 6), .inl (cI, 3, .inl (v_6 12)))] := hw
    refine lv_aload_n S.1 S.2.1 dX6_gives_55 rfl (lv_at hl 1 rfl) ?_
    refine lv_iload_n S.1 S.2.1 dX6_gives_56 rfl (lv_at hl 2 rfl) ?_
    refine lv_iconst (v := (-1)) S.1 S.2.1 dX6_gives_57 (by decide) ?_
    refine y_callV (As := [.int x, .int (-1)]) (rest := []) S hw hl.1 (c_X6_passes l D cI cC cL q v_6 x (-1) n (h + 1) (mKp n h kp) (by rw [ev_6]; exact (mPass_o (by omega) hok1 (Or.inr ⟨t, by omega, rfl⟩) (by decide) (by decide) (by decide)).trans hn1) (by omega) (by rw [ev_6]; exact mPass_1 (by omega) hok1 (Or.inr ⟨t, by omega, rfl⟩)) (by omega) (by rw [ev_6]; exact mPass_4 (by omega) hk1) (mKp_16 hk16) (by rw [ev_6]; exact mPass_ok (by omega) hok1 (Or.inr ⟨t, by omega, rfl⟩)) (Or.inl rfl)) (cwV 2 S.2.2.2.2 gX6_gives_X6_passes rfl rfl rfl (by decide +kernel) ⟨Nat.le_of_ble_eq_true rfl, Nat.le_of_ble_eq_true rfl⟩) 0 rfl rfl [0, 1, 2, 3, 4, 5, 6] [] rfl (by decide +kernel) (wr := []) rfl (by decide +kernel) (by decide +kernel) rfl (Nat.le_of_ble_eq_true rfl) dX6_gives_58 rfl ⟨Nat.le_refl _, Nat.le_refl _⟩ (fun H locs v_8 ev_8 hw => ?_)
    have hw : y_W D cI cC cL A s H locs [((q 0), .inr (6, [.ref (q 1), .ref (q 2), .ref (q 3), .int (v_8 3 0), .ref (q 4), .int (v_8 5 0), .ref (q 5), .int (v_8 7 0), .int (v_8 8 0), .int (v_8 9 0), .int (v_8 10 0), .int (v_8 11 0), .ref (q 6)])), ((q 1), .inl (cI, 162, .inl (v_8 0))), ((q 2), .inl (cI, 162, .inl (v_8 1))), ((q 3), .inl (cI, 648, .inl (v_8 2))), ((q 4), .inl (cI, 60, .inl (v_8 4))), ((q 5), .inl (cI, 3, .inl (v_8 6))), ((q 6), .inl (cI, 3, .inl (v_8 12)))] := hw
    exact ret _ _ _ _ (by rw [show mGive u x n h kp t r = v_8 from by rw [ev_8, ev_6, mGive, if_neg c_3]; rfl]; exact hw) dX6_gives_61
