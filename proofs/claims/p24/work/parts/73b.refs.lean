theorem w_L_references_new : Cond.classLink RL 14 RX5 ∈ wsL_references := by decide +kernel
theorem w_L_references_newi : Cond.instantiable RX5 4 ∈ wsL_references := by decide +kernel
theorem w_L_references_newc : Cond.initialized RX5 ∈ wsL_references := by decide +kernel
theorem i_L_references_X5 : ∀ w ∈ u_ws RX5 TX5 4, w ∈ wsL_references := by decide +kernel
theorem w_L_references_newl79 : Cond.methodLink RL 79 yX5_init ∈ wsL_references := by decide +kernel
theorem w_L_references_newm : Cond.instanceMethod yX5_init ∈ wsL_references := by decide +kernel
theorem k_L_references_52 : Cond.constant RL 52 (-2000004) ∈ wsL_references := by decide +kernel
theorem k_L_references_102 : Cond.constant RL 102 (100000) ∈ wsL_references := by decide +kernel
theorem k_L_references_104 : Cond.constant RL 104 (111111) ∈ wsL_references := by decide +kernel
theorem k_L_references_105 : Cond.constant RL 105 (1000000) ∈ wsL_references := by decide +kernel
theorem k_L_references_106 : Cond.constant RL 106 (69999) ∈ wsL_references := by decide +kernel
theorem k_L_references_107 : Cond.constant RL 107 (999985) ∈ wsL_references := by decide +kernel
set_option maxHeartbeats 1000000 in
set_option maxRecDepth 100000 in
theorem c_L_references (l : Launch) (D : va_G) (cI cC cL : ClassId)  : y_MNI l yL_references wsL_references 9 208 300 4244 D cI cC cL [] [] 1 (fun _ : Unit => ([] : va_W)) () := by
  refine y_startNI (cc := cL_references) (maxL := 4) (ret := some .boolean) (by decide +kernel) rfl (Nat.le_of_ble_eq_true rfl) ⟨_, rfl, fun x h => by rcases h rfl with rfl | rfl <;> rfl⟩ (fun _ => Or.inr rfl) ?_
  intro p e s mm args below meth c A QQ ls S hX hw ret hl
  have S : CallFix p mm c cL_references 4 s args wsL_references RL := S
  have hw : y_W D cI cC cL A s s.heap [] [] := hw
  have hl : lv_has ls 4 [] := hl
  refine y_new (ci := 5) (fs := [.null, .null, .null, .null]) S hw (C := RX5) (T := TX5) (N := 4) i_L_references_X5 tyX5_ok w_L_references_new w_L_references_newi w_L_references_newc rfl (fun j hj => by rcases (show j = 0 ∨ j = 1 ∨ j = 2 ∨ j = 3 by omega) with rfl | rfl | rfl | rfl <;> rfl) (Nat.le_of_ble_eq_true rfl) (Nat.le_of_ble_eq_true rfl) dL_references_0 (fun q1 H hwN => ?_)
  refine lv_dup S.1 S.2.1 dL_references_3 rfl ?_
  refine y_callNI (rest := [.ref q1]) S hwN hX hl.1 (c_X5_init l D cI cC cL q1) (cwI 0 S.2.2.2.2 gL_references_X5_init rfl rfl rfl (S.2.2.2.2 _ w_L_references_newc) (S.2.2.2.2 _ w_L_references_newl79) (S.2.2.2.2 _ w_L_references_newm) rfl (by decide +kernel) ⟨Nat.le_of_ble_eq_true rfl, Nat.le_of_ble_eq_true rfl⟩) (Nat.le_of_ble_eq_true rfl) dL_references_4 ⟨Nat.le_of_ble_eq_true rfl, Nat.le_of_ble_eq_true rfl⟩ (fun H locs Q1 eQ hw => ?_)
  subst eQ
  have hw : y_W D cI cC cL A s H locs (cWd cI cC cL Q1 jZ0 ++ []) := y_W_eq hw (List.append_nil _).symm
  have P : PW jZ0 jLn0 jTx0 0 (fun _ => jLn0) := PW_0 _
  obtain ⟨hw, P⟩ := y_norm hw P ck_new
  refine lv_astore_n (lv' := [(0, .ref (Q1 8 0))]) S.1 S.2.1 dL_references_7 rfl hl (by decide) rfl (fun ls hl => ?_)
  refine lv_aload_n S.1 S.2.1 dL_references_8 rfl (lv_at hl 0 rfl) ?_
  refine lv_iconst (v := 2) S.1 S.2.1 dL_references_9 (by decide) ?_
  refine q_begin (by decide) (rest := []) S hw P hl.1 (cwV 1 S.2.2.2.2 gL_references_X5_begin rfl rfl rfl (by decide +kernel) ⟨Nat.le_of_ble_eq_true rfl, Nat.le_of_ble_eq_true rfl⟩) (Nat.le_of_ble_eq_true rfl) dL_references_10 ⟨Nat.le_of_ble_eq_true rfl, Nat.le_of_ble_eq_true rfl⟩ (fun H locs Z hw P => ?_)
  refine y_top (y := 0) (ck_re_10) ?_
  obtain ⟨hw, P⟩ := y_norm hw P ck_re_10e
  refine lv_if_ne (tgt := 175) S.1 S.2.1 dL_references_13 (by decide) (fun c => absurd (by decide) c) (fun _ => ?_) 
  refine lv_aload_n S.1 S.2.1 dL_references_16 rfl (lv_at hl 0 rfl) ?_
  refine lv_iconst (v := 1) S.1 S.2.1 dL_references_17 (by decide) ?_
  refine lv_iconst (v := 3) S.1 S.2.1 dL_references_18 (by decide) ?_
  refine q_set (by decide) (by decide) (rest := []) S hw P hl.1 hX (cwV 2 S.2.2.2.2 gL_references_X5_set rfl rfl rfl (by decide +kernel) ⟨Nat.le_of_ble_eq_true rfl, Nat.le_of_ble_eq_true rfl⟩) (Nat.le_of_ble_eq_true rfl) dL_references_19 ⟨Nat.le_of_ble_eq_true rfl, Nat.le_of_ble_eq_true rfl⟩ (fun H locs Z hw P => ?_)
  refine y_top (y := 0) (ck_re_19) ?_
  obtain ⟨hw, P⟩ := y_norm hw P ck_re_19e
  refine lv_if_ne (tgt := 175) S.1 S.2.1 dL_references_22 (by decide) (fun c => absurd (by decide) c) (fun _ => ?_) 
  refine lv_aload_n S.1 S.2.1 dL_references_25 rfl (lv_at hl 0 rfl) ?_
  refine lv_bipush (v := 6) S.1 S.2.1 dL_references_26 (by decide) ?_
  refine q_count  (rest := []) S hw P hl.1 (cwV 1 S.2.2.2.2 gL_references_X5_count rfl rfl rfl (by decide +kernel) ⟨Nat.le_of_ble_eq_true rfl, Nat.le_of_ble_eq_true rfl⟩) (Nat.le_of_ble_eq_true rfl) dL_references_28 ⟨Nat.le_of_ble_eq_true rfl, Nat.le_of_ble_eq_true rfl⟩ (fun H locs hw => ?_)
  refine y_top (y := 1) ((jCount_l (Z2 := fun _ => lU18) rfl (by decide) (by decide)).trans ck_re_28) ?_
  refine lv_iconst (v := 1) S.1 S.2.1 dL_references_31 (by decide) ?_
  refine lv_icmp_ne (tgt := 175) S.1 S.2.1 dL_references_32 (by decide) (fun c => absurd (by decide) c) (fun _ => ?_) 
  refine lv_aload_n S.1 S.2.1 dL_references_35 rfl (lv_at hl 0 rfl) ?_
  refine lv_iconst (v := 5) S.1 S.2.1 dL_references_36 (by decide) ?_
  refine q_mended  (rest := []) S hw P hl.1 (cwV 1 S.2.2.2.2 gL_references_X5_mended rfl rfl rfl (by decide +kernel) ⟨Nat.le_of_ble_eq_true rfl, Nat.le_of_ble_eq_true rfl⟩) (Nat.le_of_ble_eq_true rfl) dL_references_37 ⟨Nat.le_of_ble_eq_true rfl, Nat.le_of_ble_eq_true rfl⟩ (fun H locs hw => ?_)
  refine y_top (y := (-2000004)) (ck_re_37) ?_
  refine lv_ldc (v := (-2000004)) S.1 S.2.1 S.2.2.2.1 (S.2.2.2.2 _ k_L_references_52) dL_references_40 ?_
  refine lv_icmp_ne (tgt := 175) S.1 S.2.1 dL_references_42 (by decide) (fun c => absurd (by decide) c) (fun _ => ?_) 
  refine lv_aload_n S.1 S.2.1 dL_references_45 rfl (lv_at hl 0 rfl) ?_
  refine lv_sipush (v := 500) S.1 S.2.1 dL_references_46 (by decide) ?_
  refine q_give lU18k (by decide) (by decide) (by decide) ck_re_49h (rest := []) S hw P hl.1 (cwV 1 S.2.2.2.2 gL_references_X5_give rfl rfl rfl (by decide +kernel) ⟨Nat.le_of_ble_eq_true rfl, Nat.le_of_ble_eq_true rfl⟩) (Nat.le_of_ble_eq_true rfl) dL_references_49 ⟨Nat.le_of_ble_eq_true rfl, Nat.le_of_ble_eq_true rfl⟩ (fun H locs Z hw P => ?_)
  refine y_top (y := 2) (ck_re_49) ?_
  obtain ⟨hw, P⟩ := y_norm hw P ck_re_49e
  refine lv_iconst (v := 2) S.1 S.2.1 dL_references_52 (by decide) ?_
  refine lv_icmp_ne (tgt := 175) S.1 S.2.1 dL_references_53 (by decide) (fun c => absurd (by decide) c) (fun _ => ?_) 
  refine lv_aload_n S.1 S.2.1 dL_references_56 rfl (lv_at hl 0 rfl) ?_
  refine lv_iconst (v := 5) S.1 S.2.1 dL_references_57 (by decide) ?_
  refine q_count  (rest := []) S hw P hl.1 (cwV 1 S.2.2.2.2 gL_references_X5_count rfl rfl rfl (by decide +kernel) ⟨Nat.le_of_ble_eq_true rfl, Nat.le_of_ble_eq_true rfl⟩) (Nat.le_of_ble_eq_true rfl) dL_references_58 ⟨Nat.le_of_ble_eq_true rfl, Nat.le_of_ble_eq_true rfl⟩ (fun H locs hw => ?_)
  refine y_top (y := 1) ((jCount_l (Z2 := fun _ => lU19) rfl (by decide) (by decide)).trans ck_re_58) ?_
  refine lv_iconst (v := 1) S.1 S.2.1 dL_references_61 (by decide) ?_
  refine lv_icmp_ne (tgt := 175) S.1 S.2.1 dL_references_62 (by decide) (fun c => absurd (by decide) c) (fun _ => ?_) 
  refine lv_aload_n S.1 S.2.1 dL_references_65 rfl (lv_at hl 0 rfl) ?_
  refine lv_iconst (v := 3) S.1 S.2.1 dL_references_66 (by decide) ?_
  refine q_count  (rest := []) S hw P hl.1 (cwV 1 S.2.2.2.2 gL_references_X5_count rfl rfl rfl (by decide +kernel) ⟨Nat.le_of_ble_eq_true rfl, Nat.le_of_ble_eq_true rfl⟩) (Nat.le_of_ble_eq_true rfl) dL_references_67 ⟨Nat.le_of_ble_eq_true rfl, Nat.le_of_ble_eq_true rfl⟩ (fun H locs hw => ?_)
  refine y_top (y := 1) ((jCount_l (Z2 := fun _ => lU19) rfl (by decide) (by decide)).trans ck_re_67) ?_
  refine lv_iconst (v := 1) S.1 S.2.1 dL_references_70 (by decide) ?_
  refine lv_icmp_ne (tgt := 175) S.1 S.2.1 dL_references_71 (by decide) (fun c => absurd (by decide) c) (fun _ => ?_) 
  refine lv_aload_n S.1 S.2.1 dL_references_74 rfl (lv_at hl 0 rfl) ?_
  refine lv_bipush (v := 6) S.1 S.2.1 dL_references_75 (by decide) ?_
  refine q_count  (rest := []) S hw P hl.1 (cwV 1 S.2.2.2.2 gL_references_X5_count rfl rfl rfl (by decide +kernel) ⟨Nat.le_of_ble_eq_true rfl, Nat.le_of_ble_eq_true rfl⟩) (Nat.le_of_ble_eq_true rfl) dL_references_77 ⟨Nat.le_of_ble_eq_true rfl, Nat.le_of_ble_eq_true rfl⟩ (fun H locs hw => ?_)
  refine y_top (y := 0) ((jCount_l (Z2 := fun _ => lU19) rfl (by decide) (by decide)).trans ck_re_77) ?_
  refine lv_if_ne (tgt := 175) S.1 S.2.1 dL_references_80 (by decide) (fun c => absurd (by decide) c) (fun _ => ?_) 
  refine lv_aload_n S.1 S.2.1 dL_references_83 rfl (lv_at hl 0 rfl) ?_
  refine lv_sipush (v := 600) S.1 S.2.1 dL_references_84 (by decide) ?_
  refine q_give lU19k (by decide) (by decide) (by decide) ck_re_87h (rest := []) S hw P hl.1 (cwV 1 S.2.2.2.2 gL_references_X5_give rfl rfl rfl (by decide +kernel) ⟨Nat.le_of_ble_eq_true rfl, Nat.le_of_ble_eq_true rfl⟩) (Nat.le_of_ble_eq_true rfl) dL_references_87 ⟨Nat.le_of_ble_eq_true rfl, Nat.le_of_ble_eq_true rfl⟩ (fun H locs Z hw P => ?_)
  refine y_top (y := 1) (ck_re_87) ?_
  obtain ⟨hw, P⟩ := y_norm hw P ck_re_87e
  refine lv_iconst (v := 1) S.1 S.2.1 dL_references_90 (by decide) ?_
  refine lv_icmp_ne (tgt := 175) S.1 S.2.1 dL_references_91 (by decide) (fun c => absurd (by decide) c) (fun _ => ?_) 
  refine lv_aload_n S.1 S.2.1 dL_references_94 rfl (lv_at hl 0 rfl) ?_
  refine lv_iconst (v := 0) S.1 S.2.1 dL_references_95 (by decide) ?_
  refine lv_iconst (v := 2) S.1 S.2.1 dL_references_96 (by decide) ?_
  refine lv_sipush (v := 1000) S.1 S.2.1 dL_references_97 (by decide) ?_
  refine lv_sipush (v := 1000) S.1 S.2.1 dL_references_100 (by decide) ?_
  refine lv_sipush (v := 1000) S.1 S.2.1 dL_references_103 (by decide) ?_
  refine lv_iconst (v := 1) S.1 S.2.1 dL_references_106 (by decide) ?_
  refine ly_sI (As := [.ref (Q1 8 0), .int 0, .int 2, .int 1000, .int 1000, .int 1000, .int 1]) (rest := []) S hw hl.1 (c_L_isOutput l D cI cC cL _ _ _ _ _ _ P 2 999 lU20k (by decide) (by decide) 0 2 1000 1000 1000 1 ck_re_107_0 ck_re_107_1 ck_re_107_2 ck_re_107_3 ck_re_107_4 ck_re_107_5) (va_cwS 7 S.2.2.2.2 gL_references_L_isOutput rfl rfl rfl (by decide +kernel) ⟨Nat.le_of_ble_eq_true rfl, Nat.le_of_ble_eq_true rfl⟩) rfl (Nat.le_of_ble_eq_true rfl) dL_references_107 rfl ⟨Nat.le_of_ble_eq_true rfl, Nat.le_of_ble_eq_true rfl⟩ (fun H locs x hx hw => ?_)
  subst hx
  refine lv_if_eq (tgt := 175) S.1 S.2.1 dL_references_110 (by decide) (fun c => absurd c (by decide)) (fun _ => ?_) 
  refine lv_aload_n S.1 S.2.1 dL_references_113 rfl (lv_at hl 0 rfl) ?_
  refine lv_iconst (v := 4) S.1 S.2.1 dL_references_114 (by decide) ?_
  refine q_count  (rest := []) S hw P hl.1 (cwV 1 S.2.2.2.2 gL_references_X5_count rfl rfl rfl (by decide +kernel) ⟨Nat.le_of_ble_eq_true rfl, Nat.le_of_ble_eq_true rfl⟩) (Nat.le_of_ble_eq_true rfl) dL_references_115 ⟨Nat.le_of_ble_eq_true rfl, Nat.le_of_ble_eq_true rfl⟩ (fun H locs hw => ?_)
  refine y_top (y := 1) ((jCount_l (Z2 := fun _ => lU20) rfl (by decide) (by decide)).trans ck_re_115) ?_
  refine lv_iconst (v := 1) S.1 S.2.1 dL_references_118 (by decide) ?_
  refine lv_icmp_ne (tgt := 175) S.1 S.2.1 dL_references_119 (by decide) (fun c => absurd (by decide) c) (fun _ => ?_) 
  refine lv_aload_n S.1 S.2.1 dL_references_122 rfl (lv_at hl 0 rfl) ?_
  refine lv_iconst (v := 0) S.1 S.2.1 dL_references_123 (by decide) ?_
  refine lv_iconst (v := 0) S.1 S.2.1 dL_references_124 (by decide) ?_
  refine q_pairOf  (rest := []) S hw P hl.1 (cwV 2 S.2.2.2.2 gL_references_X5_pairOf rfl rfl rfl (by decide +kernel) ⟨Nat.le_of_ble_eq_true rfl, Nat.le_of_ble_eq_true rfl⟩) (Nat.le_of_ble_eq_true rfl) dL_references_125 ⟨Nat.le_of_ble_eq_true rfl, Nat.le_of_ble_eq_true rfl⟩ (fun H locs hw => ?_)
  refine y_top (y := 1000) (ck_re_125) ?_
  refine lv_sipush (v := 1000) S.1 S.2.1 dL_references_128 (by decide) ?_
  refine lv_icmp_ne (tgt := 175) S.1 S.2.1 dL_references_131 (by decide) (fun c => absurd (by decide) c) (fun _ => ?_) 
  refine lv_aload_n S.1 S.2.1 dL_references_134 rfl (lv_at hl 0 rfl) ?_
  refine lv_iconst (v := 0) S.1 S.2.1 dL_references_135 (by decide) ?_
  refine lv_iconst (v := 1) S.1 S.2.1 dL_references_136 (by decide) ?_
  refine q_pairOf  (rest := []) S hw P hl.1 (cwV 2 S.2.2.2.2 gL_references_X5_pairOf rfl rfl rfl (by decide +kernel) ⟨Nat.le_of_ble_eq_true rfl, Nat.le_of_ble_eq_true rfl⟩) (Nat.le_of_ble_eq_true rfl) dL_references_137 ⟨Nat.le_of_ble_eq_true rfl, Nat.le_of_ble_eq_true rfl⟩ (fun H locs hw => ?_)
  refine y_top (y := 1000) (ck_re_137) ?_
  refine lv_sipush (v := 1000) S.1 S.2.1 dL_references_140 (by decide) ?_
  refine lv_icmp_ne (tgt := 175) S.1 S.2.1 dL_references_143 (by decide) (fun c => absurd (by decide) c) (fun _ => ?_) 
  refine lv_aload_n S.1 S.2.1 dL_references_146 rfl (lv_at hl 0 rfl) ?_
  refine lv_iconst (v := 1) S.1 S.2.1 dL_references_147 (by decide) ?_
  refine lv_iconst (v := 0) S.1 S.2.1 dL_references_148 (by decide) ?_
  refine q_pairOf  (rest := []) S hw P hl.1 (cwV 2 S.2.2.2.2 gL_references_X5_pairOf rfl rfl rfl (by decide +kernel) ⟨Nat.le_of_ble_eq_true rfl, Nat.le_of_ble_eq_true rfl⟩) (Nat.le_of_ble_eq_true rfl) dL_references_149 ⟨Nat.le_of_ble_eq_true rfl, Nat.le_of_ble_eq_true rfl⟩ (fun H locs hw => ?_)
  refine y_top (y := (-2000004)) (ck_re_149) ?_
  refine lv_ldc (v := (-2000004)) S.1 S.2.1 S.2.2.2.1 (S.2.2.2.2 _ k_L_references_52) dL_references_152 ?_
  refine lv_icmp_ne (tgt := 175) S.1 S.2.1 dL_references_154 (by decide) (fun c => absurd (by decide) c) (fun _ => ?_) 
  refine lv_aload_n S.1 S.2.1 dL_references_157 rfl (lv_at hl 0 rfl) ?_
  refine lv_bipush (v := 6) S.1 S.2.1 dL_references_158 (by decide) ?_
  refine q_count  (rest := []) S hw P hl.1 (cwV 1 S.2.2.2.2 gL_references_X5_count rfl rfl rfl (by decide +kernel) ⟨Nat.le_of_ble_eq_true rfl, Nat.le_of_ble_eq_true rfl⟩) (Nat.le_of_ble_eq_true rfl) dL_references_160 ⟨Nat.le_of_ble_eq_true rfl, Nat.le_of_ble_eq_true rfl⟩ (fun H locs hw => ?_)
  refine y_top (y := 1) ((jCount_l (Z2 := fun _ => lU20) rfl (by decide) (by decide)).trans ck_re_160) ?_
  refine lv_iconst (v := 1) S.1 S.2.1 dL_references_163 (by decide) ?_
  refine lv_icmp_ne (tgt := 175) S.1 S.2.1 dL_references_164 (by decide) (fun c => absurd (by decide) c) (fun _ => ?_) 
  refine lv_aload_n S.1 S.2.1 dL_references_167 rfl (lv_at hl 0 rfl) ?_
  refine lv_iconst (v := 0) S.1 S.2.1 dL_references_168 (by decide) ?_
  refine q_errors lU20k (by decide) (by decide) cf_lU20 (rest := []) S hw P hl.1 (cwV 1 S.2.2.2.2 gL_references_X5_errors rfl rfl rfl (by decide +kernel) ⟨Nat.le_of_ble_eq_true rfl, Nat.le_of_ble_eq_true rfl⟩) (Nat.le_of_ble_eq_true rfl) dL_references_169 ⟨Nat.le_of_ble_eq_true rfl, Nat.le_of_ble_eq_true rfl⟩ (fun H locs hw => ?_)
  refine y_top (y := 0) (ck_re_169) ?_
  refine lv_if_eq (tgt := 177) S.1 S.2.1 dL_references_172 (by decide) (fun _ => ?_) (fun c => absurd (by decide) c) 
  refine lv_aload_n S.1 S.2.1 dL_references_177 rfl (lv_at hl 0 rfl) ?_
  refine lv_sipush (v := 700) S.1 S.2.1 dL_references_178 (by decide) ?_
  refine q_give lU20k (by decide) (by decide) (by decide) ck_re_181h (rest := []) S hw P hl.1 (cwV 1 S.2.2.2.2 gL_references_X5_give rfl rfl rfl (by decide +kernel) ⟨Nat.le_of_ble_eq_true rfl, Nat.le_of_ble_eq_true rfl⟩) (Nat.le_of_ble_eq_true rfl) dL_references_181 ⟨Nat.le_of_ble_eq_true rfl, Nat.le_of_ble_eq_true rfl⟩ (fun H locs Z hw P => ?_)
  refine y_top (y := 2) (ck_re_181) ?_
  obtain ⟨hw, P⟩ := y_norm hw P ck_re_181e
  refine lv_iconst (v := 2) S.1 S.2.1 dL_references_184 (by decide) ?_
  refine lv_icmp_ne (tgt := 323) S.1 S.2.1 dL_references_185 (by decide) (fun c => absurd (by decide) c) (fun _ => ?_) 
  refine lv_aload_n S.1 S.2.1 dL_references_188 rfl (lv_at hl 0 rfl) ?_
  refine lv_iconst (v := 0) S.1 S.2.1 dL_references_189 (by decide) ?_
  refine lv_iconst (v := 4) S.1 S.2.1 dL_references_190 (by decide) ?_
  refine lv_sipush (v := 600) S.1 S.2.1 dL_references_191 (by decide) ?_
  refine lv_sipush (v := 600) S.1 S.2.1 dL_references_194 (by decide) ?_
  refine lv_sipush (v := 600) S.1 S.2.1 dL_references_197 (by decide) ?_
  refine lv_iconst (v := 0) S.1 S.2.1 dL_references_200 (by decide) ?_
  refine ly_sI (As := [.ref (Q1 8 0), .int 0, .int 4, .int 600, .int 600, .int 600, .int 0]) (rest := []) S hw hl.1 (c_L_isOutput l D cI cC cL _ _ _ _ _ _ P 2 999 lU21k (by decide) (by decide) 0 4 600 600 600 0 ck_re_201_0 ck_re_201_1 ck_re_201_2 ck_re_201_3 ck_re_201_4 ck_re_201_5) (va_cwS 7 S.2.2.2.2 gL_references_L_isOutput rfl rfl rfl (by decide +kernel) ⟨Nat.le_of_ble_eq_true rfl, Nat.le_of_ble_eq_true rfl⟩) rfl (Nat.le_of_ble_eq_true rfl) dL_references_201 rfl ⟨Nat.le_of_ble_eq_true rfl, Nat.le_of_ble_eq_true rfl⟩ (fun H locs x hx hw => ?_)
  subst hx
  refine lv_if_eq (tgt := 323) S.1 S.2.1 dL_references_204 (by decide) (fun c => absurd c (by decide)) (fun _ => ?_) 
  refine lv_aload_n S.1 S.2.1 dL_references_207 rfl (lv_at hl 0 rfl) ?_
  refine lv_iconst (v := 1) S.1 S.2.1 dL_references_208 (by decide) ?_
  refine lv_iconst (v := 3) S.1 S.2.1 dL_references_209 (by decide) ?_
  refine lv_sipush (v := 500) S.1 S.2.1 dL_references_210 (by decide) ?_
  refine lv_sipush (v := 500) S.1 S.2.1 dL_references_213 (by decide) ?_
  refine lv_sipush (v := 500) S.1 S.2.1 dL_references_216 (by decide) ?_
  refine lv_iconst (v := 0) S.1 S.2.1 dL_references_219 (by decide) ?_
  refine ly_sI (As := [.ref (Q1 8 0), .int 1, .int 3, .int 500, .int 500, .int 500, .int 0]) (rest := []) S hw hl.1 (c_L_isOutput l D cI cC cL _ _ _ _ _ _ P 2 999 lU21k (by decide) (by decide) 1 3 500 500 500 0 ck_re_220_0 ck_re_220_1 ck_re_220_2 ck_re_220_3 ck_re_220_4 ck_re_220_5) (va_cwS 7 S.2.2.2.2 gL_references_L_isOutput rfl rfl rfl (by decide +kernel) ⟨Nat.le_of_ble_eq_true rfl, Nat.le_of_ble_eq_true rfl⟩) rfl (Nat.le_of_ble_eq_true rfl) dL_references_220 rfl ⟨Nat.le_of_ble_eq_true rfl, Nat.le_of_ble_eq_true rfl⟩ (fun H locs x hx hw => ?_)
  subst hx
  refine lv_if_eq (tgt := 323) S.1 S.2.1 dL_references_223 (by decide) (fun c => absurd c (by decide)) (fun _ => ?_) 
  refine lv_aload_n S.1 S.2.1 dL_references_226 rfl (lv_at hl 0 rfl) ?_
  refine lv_iconst (v := 5) S.1 S.2.1 dL_references_227 (by decide) ?_
  refine q_count  (rest := []) S hw P hl.1 (cwV 1 S.2.2.2.2 gL_references_X5_count rfl rfl rfl (by decide +kernel) ⟨Nat.le_of_ble_eq_true rfl, Nat.le_of_ble_eq_true rfl⟩) (Nat.le_of_ble_eq_true rfl) dL_references_228 ⟨Nat.le_of_ble_eq_true rfl, Nat.le_of_ble_eq_true rfl⟩ (fun H locs hw => ?_)
  refine y_top (y := 2) ((jCount_l (Z2 := fun _ => lU21) rfl (by decide) (by decide)).trans ck_re_228) ?_
  refine lv_iconst (v := 2) S.1 S.2.1 dL_references_231 (by decide) ?_
  refine lv_icmp_ne (tgt := 323) S.1 S.2.1 dL_references_232 (by decide) (fun c => absurd (by decide) c) (fun _ => ?_) 
  refine lv_aload_n S.1 S.2.1 dL_references_235 rfl (lv_at hl 0 rfl) ?_
  refine lv_sipush (v := 1500) S.1 S.2.1 dL_references_236 (by decide) ?_
  refine q_mended  (rest := []) S hw P hl.1 (cwV 1 S.2.2.2.2 gL_references_X5_mended rfl rfl rfl (by decide +kernel) ⟨Nat.le_of_ble_eq_true rfl, Nat.le_of_ble_eq_true rfl⟩) (Nat.le_of_ble_eq_true rfl) dL_references_239 ⟨Nat.le_of_ble_eq_true rfl, Nat.le_of_ble_eq_true rfl⟩ (fun H locs hw => ?_)
  refine y_top (y := 1500) (ck_re_239) ?_
  refine lv_sipush (v := 1500) S.1 S.2.1 dL_references_242 (by decide) ?_
  refine lv_icmp_ne (tgt := 323) S.1 S.2.1 dL_references_245 (by decide) (fun c => absurd (by decide) c) (fun _ => ?_) 
  refine lv_aload_n S.1 S.2.1 dL_references_248 rfl (lv_at hl 0 rfl) ?_
  refine lv_iconst (v := 0) S.1 S.2.1 dL_references_249 (by decide) ?_
  refine q_mended  (rest := []) S hw P hl.1 (cwV 1 S.2.2.2.2 gL_references_X5_mended rfl rfl rfl (by decide +kernel) ⟨Nat.le_of_ble_eq_true rfl, Nat.le_of_ble_eq_true rfl⟩) (Nat.le_of_ble_eq_true rfl) dL_references_250 ⟨Nat.le_of_ble_eq_true rfl, Nat.le_of_ble_eq_true rfl⟩ (fun H locs hw => ?_)
  refine y_top (y := 0) (ck_re_250) ?_
  refine lv_if_ne (tgt := 323) S.1 S.2.1 dL_references_253 (by decide) (fun c => absurd (by decide) c) (fun _ => ?_) 
  refine lv_aload_n S.1 S.2.1 dL_references_256 rfl (lv_at hl 0 rfl) ?_
  refine lv_iconst (v := 1) S.1 S.2.1 dL_references_257 (by decide) ?_
  refine q_give lU21k (by decide) (by decide) (by decide) ck_re_258h (rest := []) S hw P hl.1 (cwV 1 S.2.2.2.2 gL_references_X5_give rfl rfl rfl (by decide +kernel) ⟨Nat.le_of_ble_eq_true rfl, Nat.le_of_ble_eq_true rfl⟩) (Nat.le_of_ble_eq_true rfl) dL_references_258 ⟨Nat.le_of_ble_eq_true rfl, Nat.le_of_ble_eq_true rfl⟩ (fun H locs Z hw P => ?_)
  refine y_top (y := 1) (ck_re_258) ?_
  obtain ⟨hw, P⟩ := y_norm hw P ck_re_258e
  refine lv_iconst (v := 1) S.1 S.2.1 dL_references_261 (by decide) ?_
  refine lv_icmp_ne (tgt := 323) S.1 S.2.1 dL_references_262 (by decide) (fun c => absurd (by decide) c) (fun _ => ?_) 
  refine lv_aload_n S.1 S.2.1 dL_references_265 rfl (lv_at hl 0 rfl) ?_
  refine lv_iconst (v := 1) S.1 S.2.1 dL_references_266 (by decide) ?_
  refine lv_iconst (v := 0) S.1 S.2.1 dL_references_267 (by decide) ?_
  refine q_pairOf  (rest := []) S hw P hl.1 (cwV 2 S.2.2.2.2 gL_references_X5_pairOf rfl rfl rfl (by decide +kernel) ⟨Nat.le_of_ble_eq_true rfl, Nat.le_of_ble_eq_true rfl⟩) (Nat.le_of_ble_eq_true rfl) dL_references_268 ⟨Nat.le_of_ble_eq_true rfl, Nat.le_of_ble_eq_true rfl⟩ (fun H locs hw => ?_)
  refine y_top (y := 4000) (ck_re_268) ?_
  refine lv_sipush (v := 4000) S.1 S.2.1 dL_references_271 (by decide) ?_
  refine lv_icmp_ne (tgt := 323) S.1 S.2.1 dL_references_274 (by decide) (fun c => absurd (by decide) c) (fun _ => ?_) 
  refine lv_aload_n S.1 S.2.1 dL_references_277 rfl (lv_at hl 0 rfl) ?_
  refine lv_iconst (v := 4) S.1 S.2.1 dL_references_278 (by decide) ?_
  refine q_count  (rest := []) S hw P hl.1 (cwV 1 S.2.2.2.2 gL_references_X5_count rfl rfl rfl (by decide +kernel) ⟨Nat.le_of_ble_eq_true rfl, Nat.le_of_ble_eq_true rfl⟩) (Nat.le_of_ble_eq_true rfl) dL_references_279 ⟨Nat.le_of_ble_eq_true rfl, Nat.le_of_ble_eq_true rfl⟩ (fun H locs hw => ?_)
  refine y_top (y := 2) ((jCount_l (Z2 := fun _ => lU22) rfl (by decide) (by decide)).trans ck_re_279) ?_
  refine lv_iconst (v := 2) S.1 S.2.1 dL_references_282 (by decide) ?_
  refine lv_icmp_ne (tgt := 323) S.1 S.2.1 dL_references_283 (by decide) (fun c => absurd (by decide) c) (fun _ => ?_) 
  refine lv_aload_n S.1 S.2.1 dL_references_286 rfl (lv_at hl 0 rfl) ?_
  refine lv_sipush (v := 2500) S.1 S.2.1 dL_references_287 (by decide) ?_
  refine q_mended  (rest := []) S hw P hl.1 (cwV 1 S.2.2.2.2 gL_references_X5_mended rfl rfl rfl (by decide +kernel) ⟨Nat.le_of_ble_eq_true rfl, Nat.le_of_ble_eq_true rfl⟩) (Nat.le_of_ble_eq_true rfl) dL_references_290 ⟨Nat.le_of_ble_eq_true rfl, Nat.le_of_ble_eq_true rfl⟩ (fun H locs hw => ?_)
  refine y_top (y := 2500) (ck_re_290) ?_
  refine lv_sipush (v := 2500) S.1 S.2.1 dL_references_293 (by decide) ?_
  refine lv_icmp_ne (tgt := 323) S.1 S.2.1 dL_references_296 (by decide) (fun c => absurd (by decide) c) (fun _ => ?_) 
  refine lv_aload_n S.1 S.2.1 dL_references_299 rfl (lv_at hl 0 rfl) ?_
  refine lv_sipush (v := 5000) S.1 S.2.1 dL_references_300 (by decide) ?_
  refine q_mended  (rest := []) S hw P hl.1 (cwV 1 S.2.2.2.2 gL_references_X5_mended rfl rfl rfl (by decide +kernel) ⟨Nat.le_of_ble_eq_true rfl, Nat.le_of_ble_eq_true rfl⟩) (Nat.le_of_ble_eq_true rfl) dL_references_303 ⟨Nat.le_of_ble_eq_true rfl, Nat.le_of_ble_eq_true rfl⟩ (fun H locs hw => ?_)
  refine y_top (y := 5000) (ck_re_303) ?_
  refine lv_sipush (v := 5000) S.1 S.2.1 dL_references_306 (by decide) ?_
  refine lv_icmp_ne (tgt := 323) S.1 S.2.1 dL_references_309 (by decide) (fun c => absurd (by decide) c) (fun _ => ?_) 
  refine lv_aload_n S.1 S.2.1 dL_references_312 rfl (lv_at hl 0 rfl) ?_
  refine lv_bipush (v := 7) S.1 S.2.1 dL_references_313 (by decide) ?_
  refine q_mended  (rest := []) S hw P hl.1 (cwV 1 S.2.2.2.2 gL_references_X5_mended rfl rfl rfl (by decide +kernel) ⟨Nat.le_of_ble_eq_true rfl, Nat.le_of_ble_eq_true rfl⟩) (Nat.le_of_ble_eq_true rfl) dL_references_315 ⟨Nat.le_of_ble_eq_true rfl, Nat.le_of_ble_eq_true rfl⟩ (fun H locs hw => ?_)
  refine y_top (y := 7) (ck_re_315) ?_
  refine lv_bipush (v := 7) S.1 S.2.1 dL_references_318 (by decide) ?_
  refine lv_icmp_eq (tgt := 325) S.1 S.2.1 dL_references_320 (by decide) (fun _ => ?_) (fun c => absurd (by decide) c) 
  have Po := P
  refine y_new (ci := 5) (fs := [.null, .null, .null, .null]) S hw (C := RX5) (T := TX5) (N := 4) i_L_references_X5 tyX5_ok w_L_references_new w_L_references_newi w_L_references_newc rfl (fun j hj => by rcases (show j = 0 ∨ j = 1 ∨ j = 2 ∨ j = 3 by omega) with rfl | rfl | rfl | rfl <;> rfl) (Nat.le_of_ble_eq_true rfl) (Nat.le_of_ble_eq_true rfl) dL_references_325 (fun q2 H hwN => ?_)
  refine lv_dup S.1 S.2.1 dL_references_328 rfl ?_
  refine y_callNI (rest := [.ref q2]) S hwN hX hl.1 (c_X5_init l D cI cC cL q2) (cwI 0 S.2.2.2.2 gL_references_X5_init rfl rfl rfl (S.2.2.2.2 _ w_L_references_newc) (S.2.2.2.2 _ w_L_references_newl79) (S.2.2.2.2 _ w_L_references_newm) rfl (by decide +kernel) ⟨Nat.le_of_ble_eq_true rfl, Nat.le_of_ble_eq_true rfl⟩) (Nat.le_of_ble_eq_true rfl) dL_references_329 ⟨Nat.le_of_ble_eq_true rfl, Nat.le_of_ble_eq_true rfl⟩ (fun H locs Q2 eQ hw => ?_)
  subst eQ
  have hw := y_swap (b := cWd cI cC cL Q2 jZ0) hw
  have P : PW jZ0 jLn0 jTx0 0 (fun _ => jLn0) := PW_0 _
  obtain ⟨hw, P⟩ := y_norm hw P ck_new
  refine lv_astore_n (lv' := [(1, .ref (Q2 8 0)), (0, .ref (Q1 8 0))]) S.1 S.2.1 dL_references_332 rfl hl (by decide) rfl (fun ls hl => ?_)
  refine lv_aload_n S.1 S.2.1 dL_references_333 rfl (lv_at hl 0 rfl) ?_
  refine lv_iconst (v := 2) S.1 S.2.1 dL_references_334 (by decide) ?_
  refine q_begin (by decide) (rest := []) S hw P hl.1 (cwV 1 S.2.2.2.2 gL_references_X5_begin rfl rfl rfl (by decide +kernel) ⟨Nat.le_of_ble_eq_true rfl, Nat.le_of_ble_eq_true rfl⟩) (Nat.le_of_ble_eq_true rfl) dL_references_335 ⟨Nat.le_of_ble_eq_true rfl, Nat.le_of_ble_eq_true rfl⟩ (fun H locs Z hw P => ?_)
  refine y_top (y := 0) (ck_re_10) ?_
  obtain ⟨hw, P⟩ := y_norm hw P ck_re_10e
  refine lv_if_ne (tgt := 443) S.1 S.2.1 dL_references_338 (by decide) (fun c => absurd (by decide) c) (fun _ => ?_) 
  refine lv_aload_n S.1 S.2.1 dL_references_341 rfl (lv_at hl 0 rfl) ?_
  refine lv_iconst (v := 0) S.1 S.2.1 dL_references_342 (by decide) ?_
  refine lv_bipush (v := 100) S.1 S.2.1 dL_references_343 (by decide) ?_
  refine lv_iconst (v := 0) S.1 S.2.1 dL_references_345 (by decide) ?_
  refine q_stage lU17k (by decide) (show ¬ jHas (0 : Int32) (lU17 0 0) = 0 from ck_re_346h) (by decide) (by decide) (rest := []) S hw P hl.1 (cwV 3 S.2.2.2.2 gL_references_X5_stage rfl rfl rfl (by decide +kernel) ⟨Nat.le_of_ble_eq_true rfl, Nat.le_of_ble_eq_true rfl⟩) (Nat.le_of_ble_eq_true rfl) dL_references_346 ⟨Nat.le_of_ble_eq_true rfl, Nat.le_of_ble_eq_true rfl⟩ (fun H locs Z hw P => ?_)
  refine y_top (y := 0) (ck_re_346) ?_
  obtain ⟨hw, P⟩ := y_norm hw P ck_re_346e
  refine lv_if_ne (tgt := 443) S.1 S.2.1 dL_references_349 (by decide) (fun c => absurd (by decide) c) (fun _ => ?_) 
  refine lv_aload_n S.1 S.2.1 dL_references_352 rfl (lv_at hl 0 rfl) ?_
  refine lv_iconst (v := 1) S.1 S.2.1 dL_references_353 (by decide) ?_
  refine lv_iconst (v := 3) S.1 S.2.1 dL_references_354 (by decide) ?_
  refine q_set (by decide) (by decide) (rest := []) S hw P hl.1 hX (cwV 2 S.2.2.2.2 gL_references_X5_set rfl rfl rfl (by decide +kernel) ⟨Nat.le_of_ble_eq_true rfl, Nat.le_of_ble_eq_true rfl⟩) (Nat.le_of_ble_eq_true rfl) dL_references_355 ⟨Nat.le_of_ble_eq_true rfl, Nat.le_of_ble_eq_true rfl⟩ (fun H locs Z hw P => ?_)
  refine y_top (y := 0) (ck_re_355) ?_
  obtain ⟨hw, P⟩ := y_norm hw P ck_re_355e
  refine lv_if_ne (tgt := 443) S.1 S.2.1 dL_references_358 (by decide) (fun c => absurd (by decide) c) (fun _ => ?_) 
  refine lv_aload_n S.1 S.2.1 dL_references_361 rfl (lv_at hl 0 rfl) ?_
  refine lv_iconst (v := 0) S.1 S.2.1 dL_references_362 (by decide) ?_
  refine q_give lU24k (by decide) (by decide) (by decide) ck_re_363h (rest := []) S hw P hl.1 (cwV 1 S.2.2.2.2 gL_references_X5_give rfl rfl rfl (by decide +kernel) ⟨Nat.le_of_ble_eq_true rfl, Nat.le_of_ble_eq_true rfl⟩) (Nat.le_of_ble_eq_true rfl) dL_references_363 ⟨Nat.le_of_ble_eq_true rfl, Nat.le_of_ble_eq_true rfl⟩ (fun H locs Z hw P => ?_)
  refine y_top (y := 2) (ck_re_363) ?_
  obtain ⟨hw, P⟩ := y_norm hw P ck_re_363e
  refine lv_iconst (v := 2) S.1 S.2.1 dL_references_366 (by decide) ?_
  refine lv_icmp_ne (tgt := 443) S.1 S.2.1 dL_references_367 (by decide) (fun c => absurd (by decide) c) (fun _ => ?_) 
  refine lv_aload_n S.1 S.2.1 dL_references_370 rfl (lv_at hl 0 rfl) ?_
  refine lv_iconst (v := 0) S.1 S.2.1 dL_references_371 (by decide) ?_
  refine q_give lU25k (by decide) (by decide) (by decide) ck_re_372h (rest := []) S hw P hl.1 (cwV 1 S.2.2.2.2 gL_references_X5_give rfl rfl rfl (by decide +kernel) ⟨Nat.le_of_ble_eq_true rfl, Nat.le_of_ble_eq_true rfl⟩) (Nat.le_of_ble_eq_true rfl) dL_references_372 ⟨Nat.le_of_ble_eq_true rfl, Nat.le_of_ble_eq_true rfl⟩ (fun H locs Z hw P => ?_)
  refine y_top (y := 1) (ck_re_372) ?_
  obtain ⟨hw, P⟩ := y_norm hw P ck_re_372e
  refine lv_iconst (v := 1) S.1 S.2.1 dL_references_375 (by decide) ?_
  refine lv_icmp_ne (tgt := 443) S.1 S.2.1 dL_references_376 (by decide) (fun c => absurd (by decide) c) (fun _ => ?_) 
  refine lv_aload_n S.1 S.2.1 dL_references_379 rfl (lv_at hl 0 rfl) ?_
  refine lv_iconst (v := 0) S.1 S.2.1 dL_references_380 (by decide) ?_
  refine lv_iconst (v := 0) S.1 S.2.1 dL_references_381 (by decide) ?_
  refine q_pairOf  (rest := []) S hw P hl.1 (cwV 2 S.2.2.2.2 gL_references_X5_pairOf rfl rfl rfl (by decide +kernel) ⟨Nat.le_of_ble_eq_true rfl, Nat.le_of_ble_eq_true rfl⟩) (Nat.le_of_ble_eq_true rfl) dL_references_382 ⟨Nat.le_of_ble_eq_true rfl, Nat.le_of_ble_eq_true rfl⟩ (fun H locs hw => ?_)
  refine y_top (y := 900) (ck_re_382) ?_
  refine lv_sipush (v := 900) S.1 S.2.1 dL_references_385 (by decide) ?_
  refine lv_icmp_ne (tgt := 443) S.1 S.2.1 dL_references_388 (by decide) (fun c => absurd (by decide) c) (fun _ => ?_) 
  refine lv_aload_n S.1 S.2.1 dL_references_391 rfl (lv_at hl 0 rfl) ?_
  refine lv_sipush (v := 450) S.1 S.2.1 dL_references_392 (by decide) ?_
  refine q_mended  (rest := []) S hw P hl.1 (cwV 1 S.2.2.2.2 gL_references_X5_mended rfl rfl rfl (by decide +kernel) ⟨Nat.le_of_ble_eq_true rfl, Nat.le_of_ble_eq_true rfl⟩) (Nat.le_of_ble_eq_true rfl) dL_references_395 ⟨Nat.le_of_ble_eq_true rfl, Nat.le_of_ble_eq_true rfl⟩ (fun H locs hw => ?_)
  refine y_top (y := 500) (ck_re_395) ?_
  refine lv_sipush (v := 500) S.1 S.2.1 dL_references_398 (by decide) ?_
  refine lv_icmp_ne (tgt := 443) S.1 S.2.1 dL_references_401 (by decide) (fun c => absurd (by decide) c) (fun _ => ?_) 
  refine lv_aload_n S.1 S.2.1 dL_references_404 rfl (lv_at hl 0 rfl) ?_
  refine lv_iconst (v := 1) S.1 S.2.1 dL_references_405 (by decide) ?_
  refine q_mended  (rest := []) S hw P hl.1 (cwV 1 S.2.2.2.2 gL_references_X5_mended rfl rfl rfl (by decide +kernel) ⟨Nat.le_of_ble_eq_true rfl, Nat.le_of_ble_eq_true rfl⟩) (Nat.le_of_ble_eq_true rfl) dL_references_406 ⟨Nat.le_of_ble_eq_true rfl, Nat.le_of_ble_eq_true rfl⟩ (fun H locs hw => ?_)
  refine y_top (y := 1) (ck_re_406) ?_
  refine lv_iconst (v := 1) S.1 S.2.1 dL_references_409 (by decide) ?_
  refine lv_icmp_ne (tgt := 443) S.1 S.2.1 dL_references_410 (by decide) (fun c => absurd (by decide) c) (fun _ => ?_) 
  refine lv_aload_n S.1 S.2.1 dL_references_413 rfl (lv_at hl 0 rfl) ?_
  refine lv_ldc (v := 100000) S.1 S.2.1 S.2.2.2.1 (S.2.2.2.2 _ k_L_references_102) dL_references_414 ?_
  refine q_mended  (rest := []) S hw P hl.1 (cwV 1 S.2.2.2.2 gL_references_X5_mended rfl rfl rfl (by decide +kernel) ⟨Nat.le_of_ble_eq_true rfl, Nat.le_of_ble_eq_true rfl⟩) (Nat.le_of_ble_eq_true rfl) dL_references_416 ⟨Nat.le_of_ble_eq_true rfl, Nat.le_of_ble_eq_true rfl⟩ (fun H locs hw => ?_)
  refine y_top (y := 111111) (ck_re_416) ?_
  refine lv_ldc (v := 111111) S.1 S.2.1 S.2.2.2.1 (S.2.2.2.2 _ k_L_references_104) dL_references_419 ?_
  refine lv_icmp_ne (tgt := 443) S.1 S.2.1 dL_references_421 (by decide) (fun c => absurd (by decide) c) (fun _ => ?_) 
  refine lv_aload_n S.1 S.2.1 dL_references_424 rfl (lv_at hl 0 rfl) ?_
  refine lv_iconst (v := 0) S.1 S.2.1 dL_references_425 (by decide) ?_
  refine lv_iconst (v := 2) S.1 S.2.1 dL_references_426 (by decide) ?_
  refine lv_sipush (v := 1000) S.1 S.2.1 dL_references_427 (by decide) ?_
  refine lv_sipush (v := 900) S.1 S.2.1 dL_references_430 (by decide) ?_
  refine lv_sipush (v := 1000) S.1 S.2.1 dL_references_433 (by decide) ?_
  refine lv_iconst (v := 1) S.1 S.2.1 dL_references_436 (by decide) ?_
  refine ly_sI (As := [.ref (Q2 8 0), .int 0, .int 2, .int 1000, .int 900, .int 1000, .int 1]) (rest := []) S hw hl.1 (c_L_isOutput l D cI cC cL _ _ _ _ _ _ P 2 999 lU26k (by decide) (by decide) 0 2 1000 900 1000 1 ck_re_437_0 ck_re_437_1 ck_re_437_2 ck_re_437_3 ck_re_437_4 ck_re_437_5) (va_cwS 7 S.2.2.2.2 gL_references_L_isOutput rfl rfl rfl (by decide +kernel) ⟨Nat.le_of_ble_eq_true rfl, Nat.le_of_ble_eq_true rfl⟩) rfl (Nat.le_of_ble_eq_true rfl) dL_references_437 rfl ⟨Nat.le_of_ble_eq_true rfl, Nat.le_of_ble_eq_true rfl⟩ (fun H locs x hx hw => ?_)
  subst hx
  refine lv_if_ne (tgt := 445) S.1 S.2.1 dL_references_440 (by decide) (fun _ => ?_) (fun c => absurd c (by decide)) 
  have hw := (y_swap hw).drop
  refine y_new (ci := 5) (fs := [.null, .null, .null, .null]) S hw (C := RX5) (T := TX5) (N := 4) i_L_references_X5 tyX5_ok w_L_references_new w_L_references_newi w_L_references_newc rfl (fun j hj => by rcases (show j = 0 ∨ j = 1 ∨ j = 2 ∨ j = 3 by omega) with rfl | rfl | rfl | rfl <;> rfl) (Nat.le_of_ble_eq_true rfl) (Nat.le_of_ble_eq_true rfl) dL_references_445 (fun q3 H hwN => ?_)
  refine lv_dup S.1 S.2.1 dL_references_448 rfl ?_
  refine y_callNI (rest := [.ref q3]) S hwN hX hl.1 (c_X5_init l D cI cC cL q3) (cwI 0 S.2.2.2.2 gL_references_X5_init rfl rfl rfl (S.2.2.2.2 _ w_L_references_newc) (S.2.2.2.2 _ w_L_references_newl79) (S.2.2.2.2 _ w_L_references_newm) rfl (by decide +kernel) ⟨Nat.le_of_ble_eq_true rfl, Nat.le_of_ble_eq_true rfl⟩) (Nat.le_of_ble_eq_true rfl) dL_references_449 ⟨Nat.le_of_ble_eq_true rfl, Nat.le_of_ble_eq_true rfl⟩ (fun H locs Q3 eQ hw => ?_)
  subst eQ
  have hw := y_swap (b := cWd cI cC cL Q3 jZ0) hw
  have P : PW jZ0 jLn0 jTx0 0 (fun _ => jLn0) := PW_0 _
  obtain ⟨hw, P⟩ := y_norm hw P ck_new
  refine lv_astore_n (lv' := [(2, .ref (Q3 8 0)), (1, .ref (Q2 8 0)), (0, .ref (Q1 8 0))]) S.1 S.2.1 dL_references_452 rfl hl (by decide) rfl (fun ls hl => ?_)
  refine lv_aload_n S.1 S.2.1 dL_references_453 rfl (lv_at hl 0 rfl) ?_
  refine lv_iconst (v := 2) S.1 S.2.1 dL_references_454 (by decide) ?_
  refine q_begin (by decide) (rest := []) S hw P hl.1 (cwV 1 S.2.2.2.2 gL_references_X5_begin rfl rfl rfl (by decide +kernel) ⟨Nat.le_of_ble_eq_true rfl, Nat.le_of_ble_eq_true rfl⟩) (Nat.le_of_ble_eq_true rfl) dL_references_455 ⟨Nat.le_of_ble_eq_true rfl, Nat.le_of_ble_eq_true rfl⟩ (fun H locs Z hw P => ?_)
  refine y_top (y := 0) (ck_re_10) ?_
  obtain ⟨hw, P⟩ := y_norm hw P ck_re_10e
  refine lv_if_ne (tgt := 532) S.1 S.2.1 dL_references_458 (by decide) (fun c => absurd (by decide) c) (fun _ => ?_) 
  refine lv_aload_n S.1 S.2.1 dL_references_461 rfl (lv_at hl 0 rfl) ?_
  refine lv_iconst (v := 2) S.1 S.2.1 dL_references_462 (by decide) ?_
  refine lv_iconst (v := 1) S.1 S.2.1 dL_references_463 (by decide) ?_
  refine q_set (by decide) (by decide) (rest := []) S hw P hl.1 hX (cwV 2 S.2.2.2.2 gL_references_X5_set rfl rfl rfl (by decide +kernel) ⟨Nat.le_of_ble_eq_true rfl, Nat.le_of_ble_eq_true rfl⟩) (Nat.le_of_ble_eq_true rfl) dL_references_464 ⟨Nat.le_of_ble_eq_true rfl, Nat.le_of_ble_eq_true rfl⟩ (fun H locs Z hw P => ?_)
  refine y_top (y := 1000) (ck_re_464) ?_
  obtain ⟨hw, P⟩ := y_norm hw P ck_re_464e
  refine lv_sipush (v := 1000) S.1 S.2.1 dL_references_467 (by decide) ?_
  refine lv_icmp_ne (tgt := 532) S.1 S.2.1 dL_references_470 (by decide) (fun c => absurd (by decide) c) (fun _ => ?_) 
  refine lv_aload_n S.1 S.2.1 dL_references_473 rfl (lv_at hl 0 rfl) ?_
  refine lv_iconst (v := 1) S.1 S.2.1 dL_references_474 (by decide) ?_
  refine lv_bipush (v := 12) S.1 S.2.1 dL_references_475 (by decide) ?_
  refine q_set (by decide) (by decide) (rest := []) S hw P hl.1 hX (cwV 2 S.2.2.2.2 gL_references_X5_set rfl rfl rfl (by decide +kernel) ⟨Nat.le_of_ble_eq_true rfl, Nat.le_of_ble_eq_true rfl⟩) (Nat.le_of_ble_eq_true rfl) dL_references_477 ⟨Nat.le_of_ble_eq_true rfl, Nat.le_of_ble_eq_true rfl⟩ (fun H locs Z hw P => ?_)
  refine y_top (y := 0) (ck_re_477) ?_
  obtain ⟨hw, P⟩ := y_norm hw P ck_re_477e
  refine lv_if_ne (tgt := 532) S.1 S.2.1 dL_references_480 (by decide) (fun c => absurd (by decide) c) (fun _ => ?_) 
  refine lv_aload_n S.1 S.2.1 dL_references_483 rfl (lv_at hl 0 rfl) ?_
  refine lv_iconst (v := 3) S.1 S.2.1 dL_references_484 (by decide) ?_
  refine q_give lU28k (by decide) (by decide) (by decide) ck_re_485h (rest := []) S hw P hl.1 (cwV 1 S.2.2.2.2 gL_references_X5_give rfl rfl rfl (by decide +kernel) ⟨Nat.le_of_ble_eq_true rfl, Nat.le_of_ble_eq_true rfl⟩) (Nat.le_of_ble_eq_true rfl) dL_references_485 ⟨Nat.le_of_ble_eq_true rfl, Nat.le_of_ble_eq_true rfl⟩ (fun H locs Z hw P => ?_)
  refine y_top (y := 2) (ck_re_485) ?_
  obtain ⟨hw, P⟩ := y_norm hw P ck_re_485e
  refine lv_iconst (v := 2) S.1 S.2.1 dL_references_488 (by decide) ?_
  refine lv_icmp_ne (tgt := 532) S.1 S.2.1 dL_references_489 (by decide) (fun c => absurd (by decide) c) (fun _ => ?_) 
  refine lv_aload_n S.1 S.2.1 dL_references_492 rfl (lv_at hl 0 rfl) ?_
  refine lv_iconst (v := 0) S.1 S.2.1 dL_references_493 (by decide) ?_
  refine q_give lU29k (by decide) (by decide) (by decide) ck_re_494h (rest := []) S hw P hl.1 (cwV 1 S.2.2.2.2 gL_references_X5_give rfl rfl rfl (by decide +kernel) ⟨Nat.le_of_ble_eq_true rfl, Nat.le_of_ble_eq_true rfl⟩) (Nat.le_of_ble_eq_true rfl) dL_references_494 ⟨Nat.le_of_ble_eq_true rfl, Nat.le_of_ble_eq_true rfl⟩ (fun H locs Z hw P => ?_)
  refine y_top (y := 1) (ck_re_494) ?_
  obtain ⟨hw, P⟩ := y_norm hw P ck_re_494e
  refine lv_iconst (v := 1) S.1 S.2.1 dL_references_497 (by decide) ?_
  refine lv_icmp_ne (tgt := 532) S.1 S.2.1 dL_references_498 (by decide) (fun c => absurd (by decide) c) (fun _ => ?_) 
  refine lv_aload_n S.1 S.2.1 dL_references_501 rfl (lv_at hl 0 rfl) ?_
  refine lv_iconst (v := 0) S.1 S.2.1 dL_references_502 (by decide) ?_
  refine lv_iconst (v := 0) S.1 S.2.1 dL_references_503 (by decide) ?_
  refine q_pairOf  (rest := []) S hw P hl.1 (cwV 2 S.2.2.2.2 gL_references_X5_pairOf rfl rfl rfl (by decide +kernel) ⟨Nat.le_of_ble_eq_true rfl, Nat.le_of_ble_eq_true rfl⟩) (Nat.le_of_ble_eq_true rfl) dL_references_504 ⟨Nat.le_of_ble_eq_true rfl, Nat.le_of_ble_eq_true rfl⟩ (fun H locs hw => ?_)
  refine y_top (y := 1) (ck_re_504) ?_
  refine lv_iconst (v := 1) S.1 S.2.1 dL_references_507 (by decide) ?_
  refine lv_icmp_ne (tgt := 532) S.1 S.2.1 dL_references_508 (by decide) (fun c => absurd (by decide) c) (fun _ => ?_) 
  refine lv_aload_n S.1 S.2.1 dL_references_511 rfl (lv_at hl 0 rfl) ?_
  refine lv_iconst (v := 0) S.1 S.2.1 dL_references_512 (by decide) ?_
  refine lv_iconst (v := 1) S.1 S.2.1 dL_references_513 (by decide) ?_
  refine q_pairOf  (rest := []) S hw P hl.1 (cwV 2 S.2.2.2.2 gL_references_X5_pairOf rfl rfl rfl (by decide +kernel) ⟨Nat.le_of_ble_eq_true rfl, Nat.le_of_ble_eq_true rfl⟩) (Nat.le_of_ble_eq_true rfl) dL_references_514 ⟨Nat.le_of_ble_eq_true rfl, Nat.le_of_ble_eq_true rfl⟩ (fun H locs hw => ?_)
  refine y_top (y := 1) (ck_re_514) ?_
  refine lv_iconst (v := 1) S.1 S.2.1 dL_references_517 (by decide) ?_
  refine lv_icmp_ne (tgt := 532) S.1 S.2.1 dL_references_518 (by decide) (fun c => absurd (by decide) c) (fun _ => ?_) 
  refine lv_aload_n S.1 S.2.1 dL_references_521 rfl (lv_at hl 0 rfl) ?_
  refine lv_bipush (v := 77) S.1 S.2.1 dL_references_522 (by decide) ?_
  refine q_mended  (rest := []) S hw P hl.1 (cwV 1 S.2.2.2.2 gL_references_X5_mended rfl rfl rfl (by decide +kernel) ⟨Nat.le_of_ble_eq_true rfl, Nat.le_of_ble_eq_true rfl⟩) (Nat.le_of_ble_eq_true rfl) dL_references_524 ⟨Nat.le_of_ble_eq_true rfl, Nat.le_of_ble_eq_true rfl⟩ (fun H locs hw => ?_)
  refine y_top (y := 77) (ck_re_524) ?_
  refine lv_bipush (v := 77) S.1 S.2.1 dL_references_527 (by decide) ?_
  refine lv_icmp_eq (tgt := 534) S.1 S.2.1 dL_references_529 (by decide) (fun _ => ?_) (fun c => absurd (by decide) c) 
  have Pq := P
  refine y_new (ci := 5) (fs := [.null, .null, .null, .null]) S hw (C := RX5) (T := TX5) (N := 4) i_L_references_X5 tyX5_ok w_L_references_new w_L_references_newi w_L_references_newc rfl (fun j hj => by rcases (show j = 0 ∨ j = 1 ∨ j = 2 ∨ j = 3 by omega) with rfl | rfl | rfl | rfl <;> rfl) (Nat.le_of_ble_eq_true rfl) (Nat.le_of_ble_eq_true rfl) dL_references_534 (fun q4 H hwN => ?_)
  refine lv_dup S.1 S.2.1 dL_references_537 rfl ?_
  refine y_callNI (rest := [.ref q4]) S hwN hX hl.1 (c_X5_init l D cI cC cL q4) (cwI 0 S.2.2.2.2 gL_references_X5_init rfl rfl rfl (S.2.2.2.2 _ w_L_references_newc) (S.2.2.2.2 _ w_L_references_newl79) (S.2.2.2.2 _ w_L_references_newm) rfl (by decide +kernel) ⟨Nat.le_of_ble_eq_true rfl, Nat.le_of_ble_eq_true rfl⟩) (Nat.le_of_ble_eq_true rfl) dL_references_538 ⟨Nat.le_of_ble_eq_true rfl, Nat.le_of_ble_eq_true rfl⟩ (fun H locs Q4 eQ hw => ?_)
  subst eQ
  have hw := y_swap (b := cWd cI cC cL Q4 jZ0) hw
  have P : PW jZ0 jLn0 jTx0 0 (fun _ => jLn0) := PW_0 _
  obtain ⟨hw, P⟩ := y_norm hw P ck_new
  refine lv_astore_n (lv' := [(3, .ref (Q4 8 0)), (2, .ref (Q3 8 0)), (1, .ref (Q2 8 0)), (0, .ref (Q1 8 0))]) S.1 S.2.1 dL_references_541 rfl hl (by decide) rfl (fun ls hl => ?_)
  refine lv_aload_n S.1 S.2.1 dL_references_542 rfl (lv_at hl 0 rfl) ?_
  refine lv_iconst (v := 2) S.1 S.2.1 dL_references_543 (by decide) ?_
  refine q_begin (by decide) (rest := []) S hw P hl.1 (cwV 1 S.2.2.2.2 gL_references_X5_begin rfl rfl rfl (by decide +kernel) ⟨Nat.le_of_ble_eq_true rfl, Nat.le_of_ble_eq_true rfl⟩) (Nat.le_of_ble_eq_true rfl) dL_references_544 ⟨Nat.le_of_ble_eq_true rfl, Nat.le_of_ble_eq_true rfl⟩ (fun H locs Z hw P => ?_)
  refine y_top (y := 0) (ck_re_10) ?_
  obtain ⟨hw, P⟩ := y_norm hw P ck_re_10e
  refine lv_if_ne (tgt := 683) S.1 S.2.1 dL_references_547 (by decide) (fun c => absurd (by decide) c) (fun _ => ?_) 
  refine lv_aload_n S.1 S.2.1 dL_references_550 rfl (lv_at hl 0 rfl) ?_
  refine lv_iconst (v := 0) S.1 S.2.1 dL_references_551 (by decide) ?_
  refine lv_sipush (v := 1000) S.1 S.2.1 dL_references_552 (by decide) ?_
  refine q_set (by decide) (by decide) (rest := []) S hw P hl.1 hX (cwV 2 S.2.2.2.2 gL_references_X5_set rfl rfl rfl (by decide +kernel) ⟨Nat.le_of_ble_eq_true rfl, Nat.le_of_ble_eq_true rfl⟩) (Nat.le_of_ble_eq_true rfl) dL_references_555 ⟨Nat.le_of_ble_eq_true rfl, Nat.le_of_ble_eq_true rfl⟩ (fun H locs Z hw P => ?_)
  refine y_top (y := 20000) (ck_re_555) ?_
  obtain ⟨hw, P⟩ := y_norm hw P ck_re_555e
  refine lv_sipush (v := 20000) S.1 S.2.1 dL_references_558 (by decide) ?_
  refine lv_icmp_ne (tgt := 683) S.1 S.2.1 dL_references_561 (by decide) (fun c => absurd (by decide) c) (fun _ => ?_) 
  refine lv_aload_n S.1 S.2.1 dL_references_564 rfl (lv_at hl 0 rfl) ?_
  refine lv_iconst (v := 2) S.1 S.2.1 dL_references_565 (by decide) ?_
  refine lv_sipush (v := 10000) S.1 S.2.1 dL_references_566 (by decide) ?_
  refine q_set (by decide) (by decide) (rest := []) S hw P hl.1 hX (cwV 2 S.2.2.2.2 gL_references_X5_set rfl rfl rfl (by decide +kernel) ⟨Nat.le_of_ble_eq_true rfl, Nat.le_of_ble_eq_true rfl⟩) (Nat.le_of_ble_eq_true rfl) dL_references_569 ⟨Nat.le_of_ble_eq_true rfl, Nat.le_of_ble_eq_true rfl⟩ (fun H locs Z hw P => ?_)
  refine y_top (y := 1000) (ck_re_569) ?_
  obtain ⟨hw, P⟩ := y_norm hw P ck_re_569e
  refine lv_sipush (v := 1000) S.1 S.2.1 dL_references_572 (by decide) ?_
  refine lv_icmp_ne (tgt := 683) S.1 S.2.1 dL_references_575 (by decide) (fun c => absurd (by decide) c) (fun _ => ?_) 
  refine lv_aload_n S.1 S.2.1 dL_references_578 rfl (lv_at hl 0 rfl) ?_
  refine lv_iconst (v := 0) S.1 S.2.1 dL_references_579 (by decide) ?_
  refine lv_iconst (v := 0) S.1 S.2.1 dL_references_580 (by decide) ?_
  refine lv_sipush (v := 300) S.1 S.2.1 dL_references_581 (by decide) ?_
  refine q_stage lU32k (by decide) (show ¬ jHas (0 : Int32) (lU32 0 0) = 0 from ck_re_584h) (by decide) (by decide) (rest := []) S hw P hl.1 (cwV 3 S.2.2.2.2 gL_references_X5_stage rfl rfl rfl (by decide +kernel) ⟨Nat.le_of_ble_eq_true rfl, Nat.le_of_ble_eq_true rfl⟩) (Nat.le_of_ble_eq_true rfl) dL_references_584 ⟨Nat.le_of_ble_eq_true rfl, Nat.le_of_ble_eq_true rfl⟩ (fun H locs Z hw P => ?_)
  refine y_top (y := 0) (ck_re_584) ?_
  obtain ⟨hw, P⟩ := y_norm hw P ck_re_584e
  refine lv_if_ne (tgt := 683) S.1 S.2.1 dL_references_587 (by decide) (fun c => absurd (by decide) c) (fun _ => ?_) 
  refine lv_aload_n S.1 S.2.1 dL_references_590 rfl (lv_at hl 0 rfl) ?_
  refine lv_iconst (v := 1) S.1 S.2.1 dL_references_591 (by decide) ?_
  refine lv_bipush (v := 12) S.1 S.2.1 dL_references_592 (by decide) ?_
  refine q_set (by decide) (by decide) (rest := []) S hw P hl.1 hX (cwV 2 S.2.2.2.2 gL_references_X5_set rfl rfl rfl (by decide +kernel) ⟨Nat.le_of_ble_eq_true rfl, Nat.le_of_ble_eq_true rfl⟩) (Nat.le_of_ble_eq_true rfl) dL_references_594 ⟨Nat.le_of_ble_eq_true rfl, Nat.le_of_ble_eq_true rfl⟩ (fun H locs Z hw P => ?_)
  refine y_top (y := 0) (ck_re_594) ?_
  obtain ⟨hw, P⟩ := y_norm hw P ck_re_594e
  refine lv_if_ne (tgt := 683) S.1 S.2.1 dL_references_597 (by decide) (fun c => absurd (by decide) c) (fun _ => ?_) 
  refine lv_aload_n S.1 S.2.1 dL_references_600 rfl (lv_at hl 0 rfl) ?_
  refine lv_iconst (v := 0) S.1 S.2.1 dL_references_601 (by decide) ?_
  refine q_give lU34k (by decide) (by decide) (by decide) ck_re_602h (rest := []) S hw P hl.1 (cwV 1 S.2.2.2.2 gL_references_X5_give rfl rfl rfl (by decide +kernel) ⟨Nat.le_of_ble_eq_true rfl, Nat.le_of_ble_eq_true rfl⟩) (Nat.le_of_ble_eq_true rfl) dL_references_602 ⟨Nat.le_of_ble_eq_true rfl, Nat.le_of_ble_eq_true rfl⟩ (fun H locs Z hw P => ?_)
  refine y_top (y := 2) (ck_re_602) ?_
  obtain ⟨hw, P⟩ := y_norm hw P ck_re_602e
  refine lv_iconst (v := 2) S.1 S.2.1 dL_references_605 (by decide) ?_
  refine lv_icmp_ne (tgt := 683) S.1 S.2.1 dL_references_606 (by decide) (fun c => absurd (by decide) c) (fun _ => ?_) 
  refine lv_aload_n S.1 S.2.1 dL_references_609 rfl (lv_at hl 0 rfl) ?_
  refine lv_iconst (v := 0) S.1 S.2.1 dL_references_610 (by decide) ?_
  refine q_give lU35k (by decide) (by decide) (by decide) ck_re_611h (rest := []) S hw P hl.1 (cwV 1 S.2.2.2.2 gL_references_X5_give rfl rfl rfl (by decide +kernel) ⟨Nat.le_of_ble_eq_true rfl, Nat.le_of_ble_eq_true rfl⟩) (Nat.le_of_ble_eq_true rfl) dL_references_611 ⟨Nat.le_of_ble_eq_true rfl, Nat.le_of_ble_eq_true rfl⟩ (fun H locs Z hw P => ?_)
  refine y_top (y := 1) (ck_re_611) ?_
  obtain ⟨hw, P⟩ := y_norm hw P ck_re_611e
  refine lv_iconst (v := 1) S.1 S.2.1 dL_references_614 (by decide) ?_
  refine lv_icmp_ne (tgt := 683) S.1 S.2.1 dL_references_615 (by decide) (fun c => absurd (by decide) c) (fun _ => ?_) 
  refine lv_aload_n S.1 S.2.1 dL_references_618 rfl (lv_at hl 0 rfl) ?_
  refine lv_iconst (v := 0) S.1 S.2.1 dL_references_619 (by decide) ?_
  refine lv_iconst (v := 0) S.1 S.2.1 dL_references_620 (by decide) ?_
  refine q_pairOf  (rest := []) S hw P hl.1 (cwV 2 S.2.2.2.2 gL_references_X5_pairOf rfl rfl rfl (by decide +kernel) ⟨Nat.le_of_ble_eq_true rfl, Nat.le_of_ble_eq_true rfl⟩) (Nat.le_of_ble_eq_true rfl) dL_references_621 ⟨Nat.le_of_ble_eq_true rfl, Nat.le_of_ble_eq_true rfl⟩ (fun H locs hw => ?_)
  refine y_top (y := 700) (ck_re_621) ?_
  refine lv_sipush (v := 700) S.1 S.2.1 dL_references_624 (by decide) ?_
  refine lv_icmp_ne (tgt := 683) S.1 S.2.1 dL_references_627 (by decide) (fun c => absurd (by decide) c) (fun _ => ?_) 
  refine lv_aload_n S.1 S.2.1 dL_references_630 rfl (lv_at hl 0 rfl) ?_
  refine lv_iconst (v := 0) S.1 S.2.1 dL_references_631 (by decide) ?_
  refine lv_iconst (v := 1) S.1 S.2.1 dL_references_632 (by decide) ?_
  refine q_pairOf  (rest := []) S hw P hl.1 (cwV 2 S.2.2.2.2 gL_references_X5_pairOf rfl rfl rfl (by decide +kernel) ⟨Nat.le_of_ble_eq_true rfl, Nat.le_of_ble_eq_true rfl⟩) (Nat.le_of_ble_eq_true rfl) dL_references_633 ⟨Nat.le_of_ble_eq_true rfl, Nat.le_of_ble_eq_true rfl⟩ (fun H locs hw => ?_)
  refine y_top (y := 10000) (ck_re_633) ?_
  refine lv_sipush (v := 10000) S.1 S.2.1 dL_references_636 (by decide) ?_
  refine lv_icmp_ne (tgt := 683) S.1 S.2.1 dL_references_639 (by decide) (fun c => absurd (by decide) c) (fun _ => ?_) 
  refine lv_aload_n S.1 S.2.1 dL_references_642 rfl (lv_at hl 0 rfl) ?_
  refine lv_ldc (v := 100000) S.1 S.2.1 S.2.2.2.1 (S.2.2.2.2 _ k_L_references_102) dL_references_643 ?_
  refine q_mended  (rest := []) S hw P hl.1 (cwV 1 S.2.2.2.2 gL_references_X5_mended rfl rfl rfl (by decide +kernel) ⟨Nat.le_of_ble_eq_true rfl, Nat.le_of_ble_eq_true rfl⟩) (Nat.le_of_ble_eq_true rfl) dL_references_645 ⟨Nat.le_of_ble_eq_true rfl, Nat.le_of_ble_eq_true rfl⟩ (fun H locs hw => ?_)
  refine y_top (y := 1000000) (ck_re_645) ?_
  refine lv_ldc (v := 1000000) S.1 S.2.1 S.2.2.2.1 (S.2.2.2.2 _ k_L_references_105) dL_references_648 ?_
  refine lv_icmp_ne (tgt := 683) S.1 S.2.1 dL_references_650 (by decide) (fun c => absurd (by decide) c) (fun _ => ?_) 
  refine lv_aload_n S.1 S.2.1 dL_references_653 rfl (lv_at hl 0 rfl) ?_
  refine lv_ldc (v := 69999) S.1 S.2.1 S.2.2.2.1 (S.2.2.2.2 _ k_L_references_106) dL_references_654 ?_
  refine q_mended  (rest := []) S hw P hl.1 (cwV 1 S.2.2.2.2 gL_references_X5_mended rfl rfl rfl (by decide +kernel) ⟨Nat.le_of_ble_eq_true rfl, Nat.le_of_ble_eq_true rfl⟩) (Nat.le_of_ble_eq_true rfl) dL_references_656 ⟨Nat.le_of_ble_eq_true rfl, Nat.le_of_ble_eq_true rfl⟩ (fun H locs hw => ?_)
  refine y_top (y := 999985) (ck_re_656) ?_
  refine lv_ldc (v := 999985) S.1 S.2.1 S.2.2.2.1 (S.2.2.2.2 _ k_L_references_107) dL_references_659 ?_
  refine lv_icmp_ne (tgt := 683) S.1 S.2.1 dL_references_661 (by decide) (fun c => absurd (by decide) c) (fun _ => ?_) 
  refine lv_aload_n S.1 S.2.1 dL_references_664 rfl (lv_at hl 0 rfl) ?_
  refine lv_iconst (v := 0) S.1 S.2.1 dL_references_665 (by decide) ?_
  refine lv_iconst (v := 2) S.1 S.2.1 dL_references_666 (by decide) ?_
  refine lv_sipush (v := 10000) S.1 S.2.1 dL_references_667 (by decide) ?_
  refine lv_sipush (v := 700) S.1 S.2.1 dL_references_670 (by decide) ?_
  refine lv_sipush (v := 10000) S.1 S.2.1 dL_references_673 (by decide) ?_
  refine lv_iconst (v := 1) S.1 S.2.1 dL_references_676 (by decide) ?_
  refine ly_sI (As := [.ref (Q4 8 0), .int 0, .int 2, .int 10000, .int 700, .int 10000, .int 1]) (rest := []) S hw hl.1 (c_L_isOutput l D cI cC cL _ _ _ _ _ _ P 2 999 lU36k (by decide) (by decide) 0 2 10000 700 10000 1 ck_re_677_0 ck_re_677_1 ck_re_677_2 ck_re_677_3 ck_re_677_4 ck_re_677_5) (va_cwS 7 S.2.2.2.2 gL_references_L_isOutput rfl rfl rfl (by decide +kernel) ⟨Nat.le_of_ble_eq_true rfl, Nat.le_of_ble_eq_true rfl⟩) rfl (Nat.le_of_ble_eq_true rfl) dL_references_677 rfl ⟨Nat.le_of_ble_eq_true rfl, Nat.le_of_ble_eq_true rfl⟩ (fun H locs x hx hw => ?_)
  subst hx
  refine lv_if_ne (tgt := 685) S.1 S.2.1 dL_references_680 (by decide) (fun _ => ?_) (fun c => absurd c (by decide)) 
  have hw := (y_swap hw).drop
  have P := Pq
  refine lv_aload_n S.1 S.2.1 dL_references_685 rfl (lv_at hl 1 rfl) ?_
  refine lv_iconst (v := 2) S.1 S.2.1 dL_references_686 (by decide) ?_
  refine lv_bipush (v := 9) S.1 S.2.1 dL_references_687 (by decide) ?_
  refine q_set (by decide) (by decide) (rest := []) S hw P hl.1 hX (cwV 2 S.2.2.2.2 gL_references_X5_set rfl rfl rfl (by decide +kernel) ⟨Nat.le_of_ble_eq_true rfl, Nat.le_of_ble_eq_true rfl⟩) (Nat.le_of_ble_eq_true rfl) dL_references_689 ⟨Nat.le_of_ble_eq_true rfl, Nat.le_of_ble_eq_true rfl⟩ (fun H locs Z hw P => ?_)
  refine y_top (y := 1) (ck_re_689) ?_
  obtain ⟨hw, P⟩ := y_norm hw P ck_re_689e
  refine lv_iconst (v := 1) S.1 S.2.1 dL_references_692 (by decide) ?_
  refine lv_icmp_ne (tgt := 724) S.1 S.2.1 dL_references_693 (by decide) (fun c => absurd (by decide) c) (fun _ => ?_) 
  refine lv_aload_n S.1 S.2.1 dL_references_696 rfl (lv_at hl 1 rfl) ?_
  refine lv_iconst (v := 0) S.1 S.2.1 dL_references_697 (by decide) ?_
  refine lv_iconst (v := 1) S.1 S.2.1 dL_references_698 (by decide) ?_
  refine q_pairOf  (rest := []) S hw P hl.1 (cwV 2 S.2.2.2.2 gL_references_X5_pairOf rfl rfl rfl (by decide +kernel) ⟨Nat.le_of_ble_eq_true rfl, Nat.le_of_ble_eq_true rfl⟩) (Nat.le_of_ble_eq_true rfl) dL_references_699 ⟨Nat.le_of_ble_eq_true rfl, Nat.le_of_ble_eq_true rfl⟩ (fun H locs hw => ?_)
  refine y_top (y := 1) (ck_re_699) ?_
  refine lv_iconst (v := 1) S.1 S.2.1 dL_references_702 (by decide) ?_
  refine lv_icmp_ne (tgt := 724) S.1 S.2.1 dL_references_703 (by decide) (fun c => absurd (by decide) c) (fun _ => ?_) 
  refine lv_aload_n S.1 S.2.1 dL_references_706 rfl (lv_at hl 1 rfl) ?_
  refine ly_sX (As := [.ref (Q3 8 0)]) (rest := []) S hw hX hl.1 (c_L_refused l D cI cC cL _ _ _ _ _ _ P 2 999 lU37k (by decide) (by decide) 0 rfl (Nat.zero_le _) (by decide)) (va_cwS 1 S.2.2.2.2 gL_references_L_refused rfl rfl rfl (by decide +kernel) ⟨Nat.le_of_ble_eq_true rfl, Nat.le_of_ble_eq_true rfl⟩) rfl (Nat.le_of_ble_eq_true rfl) dL_references_707 rfl ⟨Nat.le_of_ble_eq_true rfl, Nat.le_of_ble_eq_true rfl⟩ (fun H locs x hx hw => ?_)
  subst hx
  refine lv_if_eq (tgt := 724) S.1 S.2.1 dL_references_710 (by decide) (fun c => absurd c (by decide)) (fun _ => ?_) 
  have hw := y_W_eq (y_swap hw) (List.append_assoc _ _ _)
  have P := Po
  refine lv_aload_n S.1 S.2.1 dL_references_713 rfl (lv_at hl 3 rfl) ?_
  refine ly_sX (As := [.ref (Q1 8 0)]) (rest := []) S hw hX hl.1 (c_L_refused l D cI cC cL _ _ _ _ _ _ P 2 999 lU22k (by decide) (by decide) 0 rfl (Nat.zero_le _) (by decide)) (va_cwS 1 S.2.2.2.2 gL_references_L_refused rfl rfl rfl (by decide +kernel) ⟨Nat.le_of_ble_eq_true rfl, Nat.le_of_ble_eq_true rfl⟩) rfl (Nat.le_of_ble_eq_true rfl) dL_references_714 rfl ⟨Nat.le_of_ble_eq_true rfl, Nat.le_of_ble_eq_true rfl⟩ (fun H locs x hx hw => ?_)
  subst hx
  refine lv_if_eq (tgt := 724) S.1 S.2.1 dL_references_717 (by decide) (fun c => absurd c (by decide)) (fun _ => ?_) 
  refine lv_iconst (v := 1) S.1 S.2.1 dL_references_720 (by decide) ?_
  refine lv_goto (tgt := 725) S.1 S.2.1 dL_references_721 (by decide) ?_
  exact ret _ _ _ _ _ hw.none rfl dL_references_725
