theorem jCount_8 (Z : Nat → U) : jCount Z 8 = Z 6 1 0 := by unfold jCount; rw [if_neg (show ¬ (8 : Int32) = 0 by decide), if_neg (show ¬ (8 : Int32) = 1 by decide), if_neg (show ¬ (8 : Int32) = 2 by decide), if_neg (show ¬ (8 : Int32) = 3 by decide), if_neg (show ¬ (8 : Int32) = 4 by decide), if_neg (show ¬ (8 : Int32) = 5 by decide), if_neg (show ¬ (8 : Int32) = 6 by decide), if_neg (show ¬ (8 : Int32) = 7 by decide), if_pos rfl]
theorem k_L_texts_52 : Cond.constant RL 52 (-2000004) ∈ wsL_texts := by decide +kernel
theorem k_L_texts_121 : Cond.constantLong RL 121 (115) ∈ wsL_texts := by decide +kernel
theorem k_L_texts_123 : Cond.constantLong RL 123 (7550267) ∈ wsL_texts := by decide +kernel
theorem k_L_texts_125 : Cond.constantLong RL 125 (32423705358381371) ∈ wsL_texts := by decide +kernel
theorem k_L_texts_127 : Cond.constantLong RL 127 (32423705358381115) ∈ wsL_texts := by decide +kernel
theorem k_L_texts_129 : Cond.constantLong RL 129 (8300470783721158203) ∈ wsL_texts := by decide +kernel
theorem k_L_texts_131 : Cond.constantLong RL 131 (30779) ∈ wsL_texts := by decide +kernel
theorem k_L_texts_133 : Cond.constantLong RL 133 (1932868467) ∈ wsL_texts := by decide +kernel
theorem k_L_texts_135 : Cond.constantLong RL 135 (29499) ∈ wsL_texts := by decide +kernel
theorem k_L_texts_137 : Cond.constantLong RL 137 (7550252) ∈ wsL_texts := by decide +kernel
theorem k_L_texts_139 : Cond.constantLong RL 139 (30456661876158523) ∈ wsL_texts := by decide +kernel
theorem k_L_texts_141 : Cond.constantLong RL 141 (7796905440296775729) ∈ wsL_texts := by decide +kernel
theorem k_L_texts_143 : Cond.constantLong RL 143 (59) ∈ wsL_texts := by decide +kernel
theorem k_L_texts_145 : Cond.constantLong RL 145 (7796623978271878195) ∈ wsL_texts := by decide +kernel
theorem k_L_texts_147 : Cond.constantLong RL 147 (7795779553341811760) ∈ wsL_texts := by decide +kernel
theorem k_L_texts_149 : Cond.constantLong RL 149 (7795779540389933105) ∈ wsL_texts := by decide +kernel
theorem k_L_texts_151 : Cond.constantLong RL 151 (7795785020834852923) ∈ wsL_texts := by decide +kernel
theorem k_L_texts_153 : Cond.constantLong RL 153 (464664670267) ∈ wsL_texts := by decide +kernel
theorem k_L_texts_155 : Cond.constantLong RL 155 (1815096373) ∈ wsL_texts := by decide +kernel
theorem k_L_texts_157 : Cond.constantLong RL 157 (8300187096769182572) ∈ wsL_texts := by decide +kernel
theorem k_L_texts_159 : Cond.constantLong RL 159 (3471202396337353275) ∈ wsL_texts := by decide +kernel
theorem k_L_texts_161 : Cond.constantLong RL 161 (1932868384) ∈ wsL_texts := by decide +kernel
theorem w_L_texts_new : Cond.classLink RL 14 RX5 ∈ wsL_texts := by decide +kernel
theorem w_L_texts_newi : Cond.instantiable RX5 4 ∈ wsL_texts := by decide +kernel
theorem w_L_texts_newc : Cond.initialized RX5 ∈ wsL_texts := by decide +kernel
theorem i_L_texts_X5 : ∀ w ∈ u_ws RX5 TX5 4, w ∈ wsL_texts := by decide +kernel
theorem w_L_texts_newl79 : Cond.methodLink RL 79 yX5_init ∈ wsL_texts := by decide +kernel
theorem w_L_texts_newm : Cond.instanceMethod yX5_init ∈ wsL_texts := by decide +kernel
theorem k_L_texts_163 : Cond.constantLong RL 163 (7796061024023489584) ∈ wsL_texts := by decide +kernel
theorem k_L_texts_165 : Cond.constantLong RL 165 (4283821753596132211) ∈ wsL_texts := by decide +kernel
theorem k_L_texts_167 : Cond.constantLong RL 167 (207155834939) ∈ wsL_texts := by decide +kernel
theorem k_L_texts_103 : Cond.constant RL 103 (-2000003) ∈ wsL_texts := by decide +kernel
theorem k_L_texts_37 : Cond.constant RL 37 (-2000001) ∈ wsL_texts := by decide +kernel
set_option maxHeartbeats 1000000 in
set_option maxRecDepth 100000 in
theorem c_L_texts (l : Launch) (D : va_G) (cI cC cL : ClassId)  : y_MNI l yL_texts wsL_texts 8 189 1575 22281 D cI cC cL [] [] 1 (fun _ : Unit => ([] : va_W)) () := by
  refine y_startNI (cc := cL_texts) (maxL := 2) (ret := some .boolean) (by decide +kernel) rfl (Nat.le_of_ble_eq_true rfl) ⟨_, rfl, fun x h => by rcases h rfl with rfl | rfl <;> rfl⟩ (fun _ => Or.inr rfl) ?_
  intro p e s mm args below meth c A QQ ls S hX hw ret hl
  have S : CallFix p mm c cL_texts 2 s args wsL_texts RL := S
  have hw : y_W D cI cC cL A s s.heap [] (([] : va_W) ++ []) := hw
  have hl : lv_has ls 2 [] := hl
  refine lv_lconst (v := 0) S.1 S.2.1 dL_texts_0 (by decide) ?_
  refine lv_lconst (v := 0) S.1 S.2.1 dL_texts_1 (by decide) ?_
  refine lv_ldc (v := (-2000004)) S.1 S.2.1 S.2.2.2.1 (S.2.2.2.2 _ k_L_texts_52) dL_texts_2 ?_
  refine lv_iconst (v := 0) S.1 S.2.1 dL_texts_4 (by decide) ?_
  refine lv_iconst (v := 0) S.1 S.2.1 dL_texts_5 (by decide) ?_
  refine ly_sN (As := [.long 0, .long 0, .int (-2000004), .int 0, .int 0]) (rest := []) S hw hX hl.1 (c_L_isFault_ok l D cI cC cL 0 0 0 0 ck_te_6) (va_cwS 5 S.2.2.2.2 gL_texts_L_isFault rfl rfl rfl (by decide +kernel) ⟨Nat.le_of_ble_eq_true rfl, Nat.le_of_ble_eq_true rfl⟩) rfl (Nat.le_of_ble_eq_true rfl) dL_texts_6 rfl ⟨Nat.le_of_ble_eq_true rfl, Nat.le_of_ble_eq_true rfl⟩ (fun H locs x hx hw => ?_)
  subst hx
  have hw : y_W D cI cC cL A s _ _ (([] : va_W) ++ []) := hw
  refine lv_if_eq (tgt := 132) S.1 S.2.1 dL_texts_9 (by decide) (fun c => absurd c (by decide)) (fun _ => ?_) 
  refine lv_ldc2 (v := 115) S.1 S.2.1 S.2.2.2.1 (S.2.2.2.2 _ k_L_texts_121) dL_texts_12 ?_
  refine lv_lconst (v := 0) S.1 S.2.1 dL_texts_15 (by decide) ?_
  refine lv_iconst (v := 0) S.1 S.2.1 dL_texts_16 (by decide) ?_
  refine lv_iconst (v := 1) S.1 S.2.1 dL_texts_17 (by decide) ?_
  refine lv_iconst (v := 1) S.1 S.2.1 dL_texts_18 (by decide) ?_
  refine ly_sN (As := [.long 115, .long 0, .int 0, .int 1, .int 1]) (rest := []) S hw hX hl.1 (c_L_isFault_bad l D cI cC cL 115 0 0 1 1 ck_te_19) (va_cwS 5 S.2.2.2.2 gL_texts_L_isFault rfl rfl rfl (by decide +kernel) ⟨Nat.le_of_ble_eq_true rfl, Nat.le_of_ble_eq_true rfl⟩) rfl (Nat.le_of_ble_eq_true rfl) dL_texts_19 rfl ⟨Nat.le_of_ble_eq_true rfl, Nat.le_of_ble_eq_true rfl⟩ (fun H locs x hx hw => ?_)
  subst hx
  have hw : y_W D cI cC cL A s _ _ (([] : va_W) ++ []) := hw
  refine lv_if_eq (tgt := 132) S.1 S.2.1 dL_texts_22 (by decide) (fun c => absurd c (by decide)) (fun _ => ?_) 
  refine lv_ldc2 (v := 7550267) S.1 S.2.1 S.2.2.2.1 (S.2.2.2.2 _ k_L_texts_123) dL_texts_25 ?_
  refine lv_lconst (v := 0) S.1 S.2.1 dL_texts_28 (by decide) ?_
  refine lv_ldc (v := (-2000004)) S.1 S.2.1 S.2.2.2.1 (S.2.2.2.2 _ k_L_texts_52) dL_texts_29 ?_
  refine lv_iconst (v := 0) S.1 S.2.1 dL_texts_31 (by decide) ?_
  refine lv_iconst (v := 0) S.1 S.2.1 dL_texts_32 (by decide) ?_
  refine ly_sN (As := [.long 7550267, .long 0, .int (-2000004), .int 0, .int 0]) (rest := []) S hw hX hl.1 (c_L_isFault_ok l D cI cC cL 7550267 0 0 0 ck_te_33) (va_cwS 5 S.2.2.2.2 gL_texts_L_isFault rfl rfl rfl (by decide +kernel) ⟨Nat.le_of_ble_eq_true rfl, Nat.le_of_ble_eq_true rfl⟩) rfl (Nat.le_of_ble_eq_true rfl) dL_texts_33 rfl ⟨Nat.le_of_ble_eq_true rfl, Nat.le_of_ble_eq_true rfl⟩ (fun H locs x hx hw => ?_)
  subst hx
  have hw : y_W D cI cC cL A s _ _ (([] : va_W) ++ []) := hw
  refine lv_if_eq (tgt := 132) S.1 S.2.1 dL_texts_36 (by decide) (fun c => absurd c (by decide)) (fun _ => ?_) 
  refine lv_ldc2 (v := 32423705358381371) S.1 S.2.1 S.2.2.2.1 (S.2.2.2.2 _ k_L_texts_125) dL_texts_39 ?_
  refine lv_lconst (v := 0) S.1 S.2.1 dL_texts_42 (by decide) ?_
  refine lv_iconst (v := 0) S.1 S.2.1 dL_texts_43 (by decide) ?_
  refine lv_iconst (v := 3) S.1 S.2.1 dL_texts_44 (by decide) ?_
  refine lv_iconst (v := 0) S.1 S.2.1 dL_texts_45 (by decide) ?_
  refine ly_sN (As := [.long 32423705358381371, .long 0, .int 0, .int 3, .int 0]) (rest := []) S hw hX hl.1 (c_L_isFault_bad l D cI cC cL 32423705358381371 0 0 3 0 ck_te_46) (va_cwS 5 S.2.2.2.2 gL_texts_L_isFault rfl rfl rfl (by decide +kernel) ⟨Nat.le_of_ble_eq_true rfl, Nat.le_of_ble_eq_true rfl⟩) rfl (Nat.le_of_ble_eq_true rfl) dL_texts_46 rfl ⟨Nat.le_of_ble_eq_true rfl, Nat.le_of_ble_eq_true rfl⟩ (fun H locs x hx hw => ?_)
  subst hx
  have hw : y_W D cI cC cL A s _ _ (([] : va_W) ++ []) := hw
  refine lv_if_eq (tgt := 132) S.1 S.2.1 dL_texts_49 (by decide) (fun c => absurd c (by decide)) (fun _ => ?_) 
  refine lv_ldc2 (v := 32423705358381115) S.1 S.2.1 S.2.2.2.1 (S.2.2.2.2 _ k_L_texts_127) dL_texts_52 ?_
  refine lv_lconst (v := 0) S.1 S.2.1 dL_texts_55 (by decide) ?_
  refine lv_ldc (v := (-2000004)) S.1 S.2.1 S.2.2.2.1 (S.2.2.2.2 _ k_L_texts_52) dL_texts_56 ?_
  refine lv_iconst (v := 0) S.1 S.2.1 dL_texts_58 (by decide) ?_
  refine lv_iconst (v := 0) S.1 S.2.1 dL_texts_59 (by decide) ?_
  refine ly_sN (As := [.long 32423705358381115, .long 0, .int (-2000004), .int 0, .int 0]) (rest := []) S hw hX hl.1 (c_L_isFault_ok l D cI cC cL 32423705358381115 0 0 0 ck_te_60) (va_cwS 5 S.2.2.2.2 gL_texts_L_isFault rfl rfl rfl (by decide +kernel) ⟨Nat.le_of_ble_eq_true rfl, Nat.le_of_ble_eq_true rfl⟩) rfl (Nat.le_of_ble_eq_true rfl) dL_texts_60 rfl ⟨Nat.le_of_ble_eq_true rfl, Nat.le_of_ble_eq_true rfl⟩ (fun H locs x hx hw => ?_)
  subst hx
  have hw : y_W D cI cC cL A s _ _ (([] : va_W) ++ []) := hw
  refine lv_if_eq (tgt := 132) S.1 S.2.1 dL_texts_63 (by decide) (fun c => absurd c (by decide)) (fun _ => ?_) 
  refine lv_ldc2 (v := 8300470783721158203) S.1 S.2.1 S.2.2.2.1 (S.2.2.2.2 _ k_L_texts_129) dL_texts_66 ?_
  refine lv_lconst (v := 0) S.1 S.2.1 dL_texts_69 (by decide) ?_
  refine lv_iconst (v := 0) S.1 S.2.1 dL_texts_70 (by decide) ?_
  refine lv_iconst (v := 1) S.1 S.2.1 dL_texts_71 (by decide) ?_
  refine lv_bipush (v := 6) S.1 S.2.1 dL_texts_72 (by decide) ?_
  refine ly_sN (As := [.long 8300470783721158203, .long 0, .int 0, .int 1, .int 6]) (rest := []) S hw hX hl.1 (c_L_isFault_bad l D cI cC cL 8300470783721158203 0 0 1 6 ck_te_74) (va_cwS 5 S.2.2.2.2 gL_texts_L_isFault rfl rfl rfl (by decide +kernel) ⟨Nat.le_of_ble_eq_true rfl, Nat.le_of_ble_eq_true rfl⟩) rfl (Nat.le_of_ble_eq_true rfl) dL_texts_74 rfl ⟨Nat.le_of_ble_eq_true rfl, Nat.le_of_ble_eq_true rfl⟩ (fun H locs x hx hw => ?_)
  subst hx
  have hw : y_W D cI cC cL A s _ _ (([] : va_W) ++ []) := hw
  refine lv_if_eq (tgt := 132) S.1 S.2.1 dL_texts_77 (by decide) (fun c => absurd c (by decide)) (fun _ => ?_) 
  refine lv_ldc2 (v := 30779) S.1 S.2.1 S.2.2.2.1 (S.2.2.2.2 _ k_L_texts_131) dL_texts_80 ?_
  refine lv_lconst (v := 0) S.1 S.2.1 dL_texts_83 (by decide) ?_
  refine lv_iconst (v := 0) S.1 S.2.1 dL_texts_84 (by decide) ?_
  refine lv_iconst (v := 1) S.1 S.2.1 dL_texts_85 (by decide) ?_
  refine lv_iconst (v := 0) S.1 S.2.1 dL_texts_86 (by decide) ?_
  refine ly_sN (As := [.long 30779, .long 0, .int 0, .int 1, .int 0]) (rest := []) S hw hX hl.1 (c_L_isFault_bad l D cI cC cL 30779 0 0 1 0 ck_te_87) (va_cwS 5 S.2.2.2.2 gL_texts_L_isFault rfl rfl rfl (by decide +kernel) ⟨Nat.le_of_ble_eq_true rfl, Nat.le_of_ble_eq_true rfl⟩) rfl (Nat.le_of_ble_eq_true rfl) dL_texts_87 rfl ⟨Nat.le_of_ble_eq_true rfl, Nat.le_of_ble_eq_true rfl⟩ (fun H locs x hx hw => ?_)
  subst hx
  have hw : y_W D cI cC cL A s _ _ (([] : va_W) ++ []) := hw
  refine lv_if_eq (tgt := 132) S.1 S.2.1 dL_texts_90 (by decide) (fun c => absurd c (by decide)) (fun _ => ?_) 
  refine lv_ldc2 (v := 1932868467) S.1 S.2.1 S.2.2.2.1 (S.2.2.2.2 _ k_L_texts_133) dL_texts_93 ?_
  refine lv_lconst (v := 0) S.1 S.2.1 dL_texts_96 (by decide) ?_
  refine lv_iconst (v := 3) S.1 S.2.1 dL_texts_97 (by decide) ?_
  refine lv_iconst (v := 1) S.1 S.2.1 dL_texts_98 (by decide) ?_
  refine lv_iconst (v := 1) S.1 S.2.1 dL_texts_99 (by decide) ?_
  refine ly_sN (As := [.long 1932868467, .long 0, .int 3, .int 1, .int 1]) (rest := []) S hw hX hl.1 (c_L_isFault_bad l D cI cC cL 1932868467 0 3 1 1 ck_te_100) (va_cwS 5 S.2.2.2.2 gL_texts_L_isFault rfl rfl rfl (by decide +kernel) ⟨Nat.le_of_ble_eq_true rfl, Nat.le_of_ble_eq_true rfl⟩) rfl (Nat.le_of_ble_eq_true rfl) dL_texts_100 rfl ⟨Nat.le_of_ble_eq_true rfl, Nat.le_of_ble_eq_true rfl⟩ (fun H locs x hx hw => ?_)
  subst hx
  have hw : y_W D cI cC cL A s _ _ (([] : va_W) ++ []) := hw
  refine lv_if_eq (tgt := 132) S.1 S.2.1 dL_texts_103 (by decide) (fun c => absurd c (by decide)) (fun _ => ?_) 
  refine lv_ldc2 (v := 29499) S.1 S.2.1 S.2.2.2.1 (S.2.2.2.2 _ k_L_texts_135) dL_texts_106 ?_
  refine lv_lconst (v := 0) S.1 S.2.1 dL_texts_109 (by decide) ?_
  refine lv_iconst (v := 0) S.1 S.2.1 dL_texts_110 (by decide) ?_
  refine lv_iconst (v := 1) S.1 S.2.1 dL_texts_111 (by decide) ?_
  refine lv_iconst (v := 1) S.1 S.2.1 dL_texts_112 (by decide) ?_
  refine ly_sN (As := [.long 29499, .long 0, .int 0, .int 1, .int 1]) (rest := []) S hw hX hl.1 (c_L_isFault_bad l D cI cC cL 29499 0 0 1 1 ck_te_113) (va_cwS 5 S.2.2.2.2 gL_texts_L_isFault rfl rfl rfl (by decide +kernel) ⟨Nat.le_of_ble_eq_true rfl, Nat.le_of_ble_eq_true rfl⟩) rfl (Nat.le_of_ble_eq_true rfl) dL_texts_113 rfl ⟨Nat.le_of_ble_eq_true rfl, Nat.le_of_ble_eq_true rfl⟩ (fun H locs x hx hw => ?_)
  subst hx
  have hw : y_W D cI cC cL A s _ _ (([] : va_W) ++ []) := hw
  refine lv_if_eq (tgt := 132) S.1 S.2.1 dL_texts_116 (by decide) (fun c => absurd c (by decide)) (fun _ => ?_) 
  refine lv_ldc2 (v := 7550252) S.1 S.2.1 S.2.2.2.1 (S.2.2.2.2 _ k_L_texts_137) dL_texts_119 ?_
  refine lv_lconst (v := 0) S.1 S.2.1 dL_texts_122 (by decide) ?_
  refine lv_iconst (v := 0) S.1 S.2.1 dL_texts_123 (by decide) ?_
  refine lv_iconst (v := 1) S.1 S.2.1 dL_texts_124 (by decide) ?_
  refine lv_iconst (v := 2) S.1 S.2.1 dL_texts_125 (by decide) ?_
  refine ly_sN (As := [.long 7550252, .long 0, .int 0, .int 1, .int 2]) (rest := []) S hw hX hl.1 (c_L_isFault_bad l D cI cC cL 7550252 0 0 1 2 ck_te_126) (va_cwS 5 S.2.2.2.2 gL_texts_L_isFault rfl rfl rfl (by decide +kernel) ⟨Nat.le_of_ble_eq_true rfl, Nat.le_of_ble_eq_true rfl⟩) rfl (Nat.le_of_ble_eq_true rfl) dL_texts_126 rfl ⟨Nat.le_of_ble_eq_true rfl, Nat.le_of_ble_eq_true rfl⟩ (fun H locs x hx hw => ?_)
  subst hx
  have hw : y_W D cI cC cL A s _ _ (([] : va_W) ++ []) := hw
  refine lv_if_ne (tgt := 134) S.1 S.2.1 dL_texts_129 (by decide) (fun _ => ?_) (fun c => absurd c (by decide)) 
  refine lv_ldc2 (v := 30456661876158523) S.1 S.2.1 S.2.2.2.1 (S.2.2.2.2 _ k_L_texts_139) dL_texts_134 ?_
  refine lv_lconst (v := 0) S.1 S.2.1 dL_texts_137 (by decide) ?_
  refine lv_iconst (v := 0) S.1 S.2.1 dL_texts_138 (by decide) ?_
  refine lv_iconst (v := 2) S.1 S.2.1 dL_texts_139 (by decide) ?_
  refine lv_ldc (v := (-2000004)) S.1 S.2.1 S.2.2.2.1 (S.2.2.2.2 _ k_L_texts_52) dL_texts_140 ?_
  refine ly_sN (As := [.long 30456661876158523, .long 0, .int 0, .int 2, .int (-2000004)]) (rest := []) S hw hX hl.1 (c_L_isFault_bad l D cI cC cL 30456661876158523 0 0 2 (-2000004) ck_te_142) (va_cwS 5 S.2.2.2.2 gL_texts_L_isFault rfl rfl rfl (by decide +kernel) ⟨Nat.le_of_ble_eq_true rfl, Nat.le_of_ble_eq_true rfl⟩) rfl (Nat.le_of_ble_eq_true rfl) dL_texts_142 rfl ⟨Nat.le_of_ble_eq_true rfl, Nat.le_of_ble_eq_true rfl⟩ (fun H locs x hx hw => ?_)
  subst hx
  have hw : y_W D cI cC cL A s _ _ (([] : va_W) ++ []) := hw
  refine lv_if_eq (tgt := 278) S.1 S.2.1 dL_texts_145 (by decide) (fun c => absurd c (by decide)) (fun _ => ?_) 
  refine lv_ldc2 (v := 7796905440296775729) S.1 S.2.1 S.2.2.2.1 (S.2.2.2.2 _ k_L_texts_141) dL_texts_148 ?_
  refine lv_ldc2 (v := 59) S.1 S.2.1 S.2.2.2.1 (S.2.2.2.2 _ k_L_texts_143) dL_texts_151 ?_
  refine lv_iconst (v := 0) S.1 S.2.1 dL_texts_154 (by decide) ?_
  refine lv_iconst (v := 2) S.1 S.2.1 dL_texts_155 (by decide) ?_
  refine lv_ldc (v := (-2000004)) S.1 S.2.1 S.2.2.2.1 (S.2.2.2.2 _ k_L_texts_52) dL_texts_156 ?_
  refine ly_sN (As := [.long 7796905440296775729, .long 59, .int 0, .int 2, .int (-2000004)]) (rest := []) S hw hX hl.1 (c_L_isFault_bad l D cI cC cL 7796905440296775729 59 0 2 (-2000004) ck_te_158) (va_cwS 5 S.2.2.2.2 gL_texts_L_isFault rfl rfl rfl (by decide +kernel) ⟨Nat.le_of_ble_eq_true rfl, Nat.le_of_ble_eq_true rfl⟩) rfl (Nat.le_of_ble_eq_true rfl) dL_texts_158 rfl ⟨Nat.le_of_ble_eq_true rfl, Nat.le_of_ble_eq_true rfl⟩ (fun H locs x hx hw => ?_)
  subst hx
  have hw : y_W D cI cC cL A s _ _ (([] : va_W) ++ []) := hw
  refine lv_if_eq (tgt := 278) S.1 S.2.1 dL_texts_161 (by decide) (fun c => absurd c (by decide)) (fun _ => ?_) 
  refine lv_ldc2 (v := 7796623978271878195) S.1 S.2.1 S.2.2.2.1 (S.2.2.2.2 _ k_L_texts_145) dL_texts_164 ?_
  refine lv_ldc2 (v := 59) S.1 S.2.1 S.2.2.2.1 (S.2.2.2.2 _ k_L_texts_143) dL_texts_167 ?_
  refine lv_ldc (v := (-2000004)) S.1 S.2.1 S.2.2.2.1 (S.2.2.2.2 _ k_L_texts_52) dL_texts_170 ?_
  refine lv_iconst (v := 0) S.1 S.2.1 dL_texts_172 (by decide) ?_
  refine lv_iconst (v := 0) S.1 S.2.1 dL_texts_173 (by decide) ?_
  refine ly_sN (As := [.long 7796623978271878195, .long 59, .int (-2000004), .int 0, .int 0]) (rest := []) S hw hX hl.1 (c_L_isFault_ok l D cI cC cL 7796623978271878195 59 0 0 ck_te_174) (va_cwS 5 S.2.2.2.2 gL_texts_L_isFault rfl rfl rfl (by decide +kernel) ⟨Nat.le_of_ble_eq_true rfl, Nat.le_of_ble_eq_true rfl⟩) rfl (Nat.le_of_ble_eq_true rfl) dL_texts_174 rfl ⟨Nat.le_of_ble_eq_true rfl, Nat.le_of_ble_eq_true rfl⟩ (fun H locs x hx hw => ?_)
  subst hx
  have hw : y_W D cI cC cL A s _ _ (([] : va_W) ++ []) := hw
  refine lv_if_eq (tgt := 278) S.1 S.2.1 dL_texts_177 (by decide) (fun c => absurd c (by decide)) (fun _ => ?_) 
  refine lv_ldc2 (v := 7795779553341811760) S.1 S.2.1 S.2.2.2.1 (S.2.2.2.2 _ k_L_texts_147) dL_texts_180 ?_
  refine lv_ldc2 (v := 59) S.1 S.2.1 S.2.2.2.1 (S.2.2.2.2 _ k_L_texts_143) dL_texts_183 ?_
  refine lv_iconst (v := 0) S.1 S.2.1 dL_texts_186 (by decide) ?_
  refine lv_iconst (v := 3) S.1 S.2.1 dL_texts_187 (by decide) ?_
  refine lv_iconst (v := 1) S.1 S.2.1 dL_texts_188 (by decide) ?_
  refine ly_sN (As := [.long 7795779553341811760, .long 59, .int 0, .int 3, .int 1]) (rest := []) S hw hX hl.1 (c_L_isFault_bad l D cI cC cL 7795779553341811760 59 0 3 1 ck_te_189) (va_cwS 5 S.2.2.2.2 gL_texts_L_isFault rfl rfl rfl (by decide +kernel) ⟨Nat.le_of_ble_eq_true rfl, Nat.le_of_ble_eq_true rfl⟩) rfl (Nat.le_of_ble_eq_true rfl) dL_texts_189 rfl ⟨Nat.le_of_ble_eq_true rfl, Nat.le_of_ble_eq_true rfl⟩ (fun H locs x hx hw => ?_)
  subst hx
  have hw : y_W D cI cC cL A s _ _ (([] : va_W) ++ []) := hw
  refine lv_if_eq (tgt := 278) S.1 S.2.1 dL_texts_192 (by decide) (fun c => absurd c (by decide)) (fun _ => ?_) 
  refine lv_ldc2 (v := 7795779540389933105) S.1 S.2.1 S.2.2.2.1 (S.2.2.2.2 _ k_L_texts_149) dL_texts_195 ?_
  refine lv_ldc2 (v := 59) S.1 S.2.1 S.2.2.2.1 (S.2.2.2.2 _ k_L_texts_143) dL_texts_198 ?_
  refine lv_iconst (v := 0) S.1 S.2.1 dL_texts_201 (by decide) ?_
  refine lv_iconst (v := 3) S.1 S.2.1 dL_texts_202 (by decide) ?_
  refine lv_iconst (v := 2) S.1 S.2.1 dL_texts_203 (by decide) ?_
  refine ly_sN (As := [.long 7795779540389933105, .long 59, .int 0, .int 3, .int 2]) (rest := []) S hw hX hl.1 (c_L_isFault_bad l D cI cC cL 7795779540389933105 59 0 3 2 ck_te_204) (va_cwS 5 S.2.2.2.2 gL_texts_L_isFault rfl rfl rfl (by decide +kernel) ⟨Nat.le_of_ble_eq_true rfl, Nat.le_of_ble_eq_true rfl⟩) rfl (Nat.le_of_ble_eq_true rfl) dL_texts_204 rfl ⟨Nat.le_of_ble_eq_true rfl, Nat.le_of_ble_eq_true rfl⟩ (fun H locs x hx hw => ?_)
  subst hx
  have hw : y_W D cI cC cL A s _ _ (([] : va_W) ++ []) := hw
  refine lv_if_eq (tgt := 278) S.1 S.2.1 dL_texts_207 (by decide) (fun c => absurd c (by decide)) (fun _ => ?_) 
  refine lv_ldc2 (v := 7795785020834852923) S.1 S.2.1 S.2.2.2.1 (S.2.2.2.2 _ k_L_texts_151) dL_texts_210 ?_
  refine lv_lconst (v := 0) S.1 S.2.1 dL_texts_213 (by decide) ?_
  refine lv_iconst (v := 0) S.1 S.2.1 dL_texts_214 (by decide) ?_
  refine lv_iconst (v := 1) S.1 S.2.1 dL_texts_215 (by decide) ?_
  refine lv_iconst (v := 2) S.1 S.2.1 dL_texts_216 (by decide) ?_
  refine ly_sN (As := [.long 7795785020834852923, .long 0, .int 0, .int 1, .int 2]) (rest := []) S hw hX hl.1 (c_L_isFault_bad l D cI cC cL 7795785020834852923 0 0 1 2 ck_te_217) (va_cwS 5 S.2.2.2.2 gL_texts_L_isFault rfl rfl rfl (by decide +kernel) ⟨Nat.le_of_ble_eq_true rfl, Nat.le_of_ble_eq_true rfl⟩) rfl (Nat.le_of_ble_eq_true rfl) dL_texts_217 rfl ⟨Nat.le_of_ble_eq_true rfl, Nat.le_of_ble_eq_true rfl⟩ (fun H locs x hx hw => ?_)
  subst hx
  have hw : y_W D cI cC cL A s _ _ (([] : va_W) ++ []) := hw
  refine lv_if_eq (tgt := 278) S.1 S.2.1 dL_texts_220 (by decide) (fun c => absurd c (by decide)) (fun _ => ?_) 
  refine lv_ldc2 (v := 464664670267) S.1 S.2.1 S.2.2.2.1 (S.2.2.2.2 _ k_L_texts_153) dL_texts_223 ?_
  refine lv_lconst (v := 0) S.1 S.2.1 dL_texts_226 (by decide) ?_
  refine lv_iconst (v := 0) S.1 S.2.1 dL_texts_227 (by decide) ?_
  refine lv_iconst (v := 1) S.1 S.2.1 dL_texts_228 (by decide) ?_
  refine lv_iconst (v := 4) S.1 S.2.1 dL_texts_229 (by decide) ?_
  refine ly_sN (As := [.long 464664670267, .long 0, .int 0, .int 1, .int 4]) (rest := []) S hw hX hl.1 (c_L_isFault_bad l D cI cC cL 464664670267 0 0 1 4 ck_te_230) (va_cwS 5 S.2.2.2.2 gL_texts_L_isFault rfl rfl rfl (by decide +kernel) ⟨Nat.le_of_ble_eq_true rfl, Nat.le_of_ble_eq_true rfl⟩) rfl (Nat.le_of_ble_eq_true rfl) dL_texts_230 rfl ⟨Nat.le_of_ble_eq_true rfl, Nat.le_of_ble_eq_true rfl⟩ (fun H locs x hx hw => ?_)
  subst hx
  have hw : y_W D cI cC cL A s _ _ (([] : va_W) ++ []) := hw
  refine lv_if_eq (tgt := 278) S.1 S.2.1 dL_texts_233 (by decide) (fun c => absurd c (by decide)) (fun _ => ?_) 
  refine lv_ldc2 (v := 1815096373) S.1 S.2.1 S.2.2.2.1 (S.2.2.2.2 _ k_L_texts_155) dL_texts_236 ?_
  refine lv_lconst (v := 0) S.1 S.2.1 dL_texts_239 (by decide) ?_
  refine lv_iconst (v := 0) S.1 S.2.1 dL_texts_240 (by decide) ?_
  refine lv_iconst (v := 1) S.1 S.2.1 dL_texts_241 (by decide) ?_
  refine lv_iconst (v := 4) S.1 S.2.1 dL_texts_242 (by decide) ?_
  refine ly_sN (As := [.long 1815096373, .long 0, .int 0, .int 1, .int 4]) (rest := []) S hw hX hl.1 (c_L_isFault_bad l D cI cC cL 1815096373 0 0 1 4 ck_te_243) (va_cwS 5 S.2.2.2.2 gL_texts_L_isFault rfl rfl rfl (by decide +kernel) ⟨Nat.le_of_ble_eq_true rfl, Nat.le_of_ble_eq_true rfl⟩) rfl (Nat.le_of_ble_eq_true rfl) dL_texts_243 rfl ⟨Nat.le_of_ble_eq_true rfl, Nat.le_of_ble_eq_true rfl⟩ (fun H locs x hx hw => ?_)
  subst hx
  have hw : y_W D cI cC cL A s _ _ (([] : va_W) ++ []) := hw
  refine lv_if_eq (tgt := 278) S.1 S.2.1 dL_texts_246 (by decide) (fun c => absurd c (by decide)) (fun _ => ?_) 
  refine lv_ldc2 (v := 8300187096769182572) S.1 S.2.1 S.2.2.2.1 (S.2.2.2.2 _ k_L_texts_157) dL_texts_249 ?_
  refine lv_ldc2 (v := 3471202396337353275) S.1 S.2.1 S.2.2.2.1 (S.2.2.2.2 _ k_L_texts_159) dL_texts_252 ?_
  refine lv_ldc (v := (-2000004)) S.1 S.2.1 S.2.2.2.1 (S.2.2.2.2 _ k_L_texts_52) dL_texts_255 ?_
  refine lv_iconst (v := 0) S.1 S.2.1 dL_texts_257 (by decide) ?_
  refine lv_iconst (v := 0) S.1 S.2.1 dL_texts_258 (by decide) ?_
  refine ly_sN (As := [.long 8300187096769182572, .long 3471202396337353275, .int (-2000004), .int 0, .int 0]) (rest := []) S hw hX hl.1 (c_L_isFault_ok l D cI cC cL 8300187096769182572 3471202396337353275 0 0 ck_te_259) (va_cwS 5 S.2.2.2.2 gL_texts_L_isFault rfl rfl rfl (by decide +kernel) ⟨Nat.le_of_ble_eq_true rfl, Nat.le_of_ble_eq_true rfl⟩) rfl (Nat.le_of_ble_eq_true rfl) dL_texts_259 rfl ⟨Nat.le_of_ble_eq_true rfl, Nat.le_of_ble_eq_true rfl⟩ (fun H locs x hx hw => ?_)
  subst hx
  have hw : y_W D cI cC cL A s _ _ (([] : va_W) ++ []) := hw
  refine lv_if_eq (tgt := 278) S.1 S.2.1 dL_texts_262 (by decide) (fun c => absurd c (by decide)) (fun _ => ?_) 
  refine lv_ldc2 (v := 1932868384) S.1 S.2.1 S.2.2.2.1 (S.2.2.2.2 _ k_L_texts_161) dL_texts_265 ?_
  refine lv_lconst (v := 0) S.1 S.2.1 dL_texts_268 (by decide) ?_
  refine lv_iconst (v := 3) S.1 S.2.1 dL_texts_269 (by decide) ?_
  refine lv_iconst (v := 1) S.1 S.2.1 dL_texts_270 (by decide) ?_
  refine lv_iconst (v := 0) S.1 S.2.1 dL_texts_271 (by decide) ?_
  refine ly_sN (As := [.long 1932868384, .long 0, .int 3, .int 1, .int 0]) (rest := []) S hw hX hl.1 (c_L_isFault_bad l D cI cC cL 1932868384 0 3 1 0 ck_te_272) (va_cwS 5 S.2.2.2.2 gL_texts_L_isFault rfl rfl rfl (by decide +kernel) ⟨Nat.le_of_ble_eq_true rfl, Nat.le_of_ble_eq_true rfl⟩) rfl (Nat.le_of_ble_eq_true rfl) dL_texts_272 rfl ⟨Nat.le_of_ble_eq_true rfl, Nat.le_of_ble_eq_true rfl⟩ (fun H locs x hx hw => ?_)
  subst hx
  have hw : y_W D cI cC cL A s _ _ (([] : va_W) ++ []) := hw
  refine lv_if_ne (tgt := 280) S.1 S.2.1 dL_texts_275 (by decide) (fun _ => ?_) (fun c => absurd c (by decide)) 
  refine y_new (ci := 5) (fs := [.null, .null, .null, .null]) S hw (C := RX5) (T := TX5) (N := 4) i_L_texts_X5 tyX5_ok w_L_texts_new w_L_texts_newi w_L_texts_newc rfl (fun j hj => by rcases (show j = 0 ∨ j = 1 ∨ j = 2 ∨ j = 3 by omega) with rfl | rfl | rfl | rfl <;> rfl) (Nat.le_of_ble_eq_true rfl) (Nat.le_of_ble_eq_true rfl) dL_texts_280 (fun q1 H hwN => ?_)
  refine lv_dup S.1 S.2.1 dL_texts_283 rfl ?_
  refine y_callNI (rest := [.ref q1]) S hwN hX hl.1 (c_X5_init l D cI cC cL q1) (cwI 0 S.2.2.2.2 gL_texts_X5_init rfl rfl rfl (S.2.2.2.2 _ w_L_texts_newc) (S.2.2.2.2 _ w_L_texts_newl79) (S.2.2.2.2 _ w_L_texts_newm) rfl (by decide +kernel) ⟨Nat.le_of_ble_eq_true rfl, Nat.le_of_ble_eq_true rfl⟩) (Nat.le_of_ble_eq_true rfl) dL_texts_284 ⟨Nat.le_of_ble_eq_true rfl, Nat.le_of_ble_eq_true rfl⟩ (fun H locs Q1 eQ hw => ?_)
  subst eQ
  have hw : y_W D cI cC cL A s H locs (cWd cI cC cL Q1 jZ0 ++ []) := y_W_eq hw (List.append_nil _).symm
  have P : PW jZ0 jLn0 jTx0 0 (fun _ => jLn0) := PW_0 _
  obtain ⟨hw, P⟩ := y_norm hw P ck_new
  refine lv_astore_n (lv' := [(0, .ref (Q1 8 0))]) S.1 S.2.1 dL_texts_287 rfl hl (by decide) rfl (fun ls hl => ?_)
  refine lv_aload_n S.1 S.2.1 dL_texts_288 rfl (lv_at hl 0 rfl) ?_
  refine lv_ldc2 (v := 7796061024023489584) S.1 S.2.1 S.2.2.2.1 (S.2.2.2.2 _ k_L_texts_163) dL_texts_289 ?_
  refine ly_sI (As := [.ref (Q1 8 0), .long 7796061024023489584]) (rest := []) S hw hl.1 (c_L_types l D cI cC cL _ _ jTx0 P.t 0 (show jTx0 1 0 = nI 0 by decide +kernel) (by decide) 7796061024023489584 (tyB_of ck_te_292)) (va_cwS 2 S.2.2.2.2 gL_texts_L_types rfl rfl rfl (by decide +kernel) ⟨Nat.le_of_ble_eq_true rfl, Nat.le_of_ble_eq_true rfl⟩) rfl (Nat.le_of_ble_eq_true rfl) dL_texts_292 rfl ⟨Nat.le_of_ble_eq_true rfl, Nat.le_of_ble_eq_true rfl⟩ (fun H locs x hx hw => ?_)
  subst hx
  have hw : y_W D cI cC cL A s _ _ (cWd cI cC cL Q1 (va_up _ 6 (tyP 7796061024023489584 8 (jTx0, 0)).1) ++ []) := hw
  obtain ⟨hw, P⟩ := y_normT hw (P.up6 (tyP 7796061024023489584 8 (jTx0, 0)).1) ck_te_292e
  refine lv_if_eq (tgt := 441) S.1 S.2.1 dL_texts_295 (by decide) (fun c => absurd c (by decide)) (fun _ => ?_) 
  refine lv_aload_n S.1 S.2.1 dL_texts_298 rfl (lv_at hl 0 rfl) ?_
  refine lv_ldc2 (v := 4283821753596132211) S.1 S.2.1 S.2.2.2.1 (S.2.2.2.2 _ k_L_texts_165) dL_texts_299 ?_
  refine ly_sI (As := [.ref (Q1 8 0), .long 4283821753596132211]) (rest := []) S hw hl.1 (c_L_types l D cI cC cL _ _ tT0 P.t 8 (show tT0 1 0 = nI 8 by decide +kernel) (by decide) 4283821753596132211 (tyB_of ck_te_302)) (va_cwS 2 S.2.2.2.2 gL_texts_L_types rfl rfl rfl (by decide +kernel) ⟨Nat.le_of_ble_eq_true rfl, Nat.le_of_ble_eq_true rfl⟩) rfl (Nat.le_of_ble_eq_true rfl) dL_texts_302 rfl ⟨Nat.le_of_ble_eq_true rfl, Nat.le_of_ble_eq_true rfl⟩ (fun H locs x hx hw => ?_)
  subst hx
  have hw : y_W D cI cC cL A s _ _ (cWd cI cC cL Q1 (va_up _ 6 (tyP 4283821753596132211 8 (tT0, 8)).1) ++ []) := hw
  obtain ⟨hw, P⟩ := y_normT hw (P.up6 (tyP 4283821753596132211 8 (tT0, 8)).1) ck_te_302e
  refine lv_if_eq (tgt := 441) S.1 S.2.1 dL_texts_305 (by decide) (fun c => absurd c (by decide)) (fun _ => ?_) 
  refine lv_aload_n S.1 S.2.1 dL_texts_308 rfl (lv_at hl 0 rfl) ?_
  refine lv_ldc2 (v := 207155834939) S.1 S.2.1 S.2.2.2.1 (S.2.2.2.2 _ k_L_texts_167) dL_texts_309 ?_
  refine ly_sI (As := [.ref (Q1 8 0), .long 207155834939]) (rest := []) S hw hl.1 (c_L_types l D cI cC cL _ _ tT1 P.t 16 (show tT1 1 0 = nI 16 by decide +kernel) (by decide) 207155834939 (tyB_of ck_te_312)) (va_cwS 2 S.2.2.2.2 gL_texts_L_types rfl rfl rfl (by decide +kernel) ⟨Nat.le_of_ble_eq_true rfl, Nat.le_of_ble_eq_true rfl⟩) rfl (Nat.le_of_ble_eq_true rfl) dL_texts_312 rfl ⟨Nat.le_of_ble_eq_true rfl, Nat.le_of_ble_eq_true rfl⟩ (fun H locs x hx hw => ?_)
  subst hx
  have hw : y_W D cI cC cL A s _ _ (cWd cI cC cL Q1 (va_up _ 6 (tyP 207155834939 8 (tT1, 16)).1) ++ []) := hw
  obtain ⟨hw, P⟩ := y_normT hw (P.up6 (tyP 207155834939 8 (tT1, 16)).1) ck_te_312e
  refine lv_if_eq (tgt := 441) S.1 S.2.1 dL_texts_315 (by decide) (fun c => absurd c (by decide)) (fun _ => ?_) 
  refine lv_aload_n S.1 S.2.1 dL_texts_318 rfl (lv_at hl 0 rfl) ?_
  refine q_play lU0k (by decide) (by decide) (show tT2 1 0 = nI 21 by decide +kernel) (by decide) ck_te_319s ck_te_319h (rest := []) S hw P hl.1 (cwV 0 S.2.2.2.2 gL_texts_X5_play rfl rfl rfl (by decide +kernel) ⟨Nat.le_of_ble_eq_true rfl, Nat.le_of_ble_eq_true rfl⟩) (Nat.le_of_ble_eq_true rfl) dL_texts_319 ⟨Nat.le_of_ble_eq_true rfl, Nat.le_of_ble_eq_true rfl⟩ (fun H locs Z hw P => ?_)
  refine y_top (y := 4) (ck_te_319) ?_
  obtain ⟨hw, P⟩ := y_norm hw P ck_te_319e
  obtain ⟨hw, P⟩ := y_normT hw P ck_te_319t
  refine lv_iconst (v := 4) S.1 S.2.1 dL_texts_322 (by decide) ?_
  refine lv_icmp_ne (tgt := 441) S.1 S.2.1 dL_texts_323 (by decide) (fun c => absurd (by decide) c) (fun _ => ?_) 
  refine lv_aload_n S.1 S.2.1 dL_texts_326 rfl (lv_at hl 0 rfl) ?_
  refine lv_bipush (v := 7) S.1 S.2.1 dL_texts_327 (by decide) ?_
  refine q_count  (rest := []) S hw P hl.1 (cwV 1 S.2.2.2.2 gL_texts_X5_count rfl rfl rfl (by decide +kernel) ⟨Nat.le_of_ble_eq_true rfl, Nat.le_of_ble_eq_true rfl⟩) (Nat.le_of_ble_eq_true rfl) dL_texts_329 ⟨Nat.le_of_ble_eq_true rfl, Nat.le_of_ble_eq_true rfl⟩ (fun H locs hw => ?_)
  refine y_top (y := 1) ((jCount_7 _).trans (by rfl)) ?_
  refine lv_iconst (v := 1) S.1 S.2.1 dL_texts_332 (by decide) ?_
  refine lv_icmp_ne (tgt := 441) S.1 S.2.1 dL_texts_333 (by decide) (fun c => absurd (by decide) c) (fun _ => ?_) 
  refine lv_aload_n S.1 S.2.1 dL_texts_336 rfl (lv_at hl 0 rfl) ?_
  refine lv_bipush (v := 8) S.1 S.2.1 dL_texts_337 (by decide) ?_
  refine q_count  (rest := []) S hw P hl.1 (cwV 1 S.2.2.2.2 gL_texts_X5_count rfl rfl rfl (by decide +kernel) ⟨Nat.le_of_ble_eq_true rfl, Nat.le_of_ble_eq_true rfl⟩) (Nat.le_of_ble_eq_true rfl) dL_texts_339 ⟨Nat.le_of_ble_eq_true rfl, Nat.le_of_ble_eq_true rfl⟩ (fun H locs hw => ?_)
  refine y_top (y := 21) ((jCount_8 _).trans ck_te_339) ?_
  refine lv_bipush (v := 21) S.1 S.2.1 dL_texts_342 (by decide) ?_
  refine lv_icmp_ne (tgt := 441) S.1 S.2.1 dL_texts_344 (by decide) (fun c => absurd (by decide) c) (fun _ => ?_) 
  refine lv_aload_n S.1 S.2.1 dL_texts_347 rfl (lv_at hl 0 rfl) ?_
  refine lv_iconst (v := 1) S.1 S.2.1 dL_texts_348 (by decide) ?_
  refine q_count  (rest := []) S hw P hl.1 (cwV 1 S.2.2.2.2 gL_texts_X5_count rfl rfl rfl (by decide +kernel) ⟨Nat.le_of_ble_eq_true rfl, Nat.le_of_ble_eq_true rfl⟩) (Nat.le_of_ble_eq_true rfl) dL_texts_349 ⟨Nat.le_of_ble_eq_true rfl, Nat.le_of_ble_eq_true rfl⟩ (fun H locs hw => ?_)
  refine y_top (y := 3) ((jCount_l (Z2 := fun _ => lU38) rfl (by decide) (by decide)).trans ck_te_349) ?_
  refine lv_iconst (v := 3) S.1 S.2.1 dL_texts_352 (by decide) ?_
  refine lv_icmp_ne (tgt := 441) S.1 S.2.1 dL_texts_353 (by decide) (fun c => absurd (by decide) c) (fun _ => ?_) 
  refine lv_aload_n S.1 S.2.1 dL_texts_356 rfl (lv_at hl 0 rfl) ?_
  refine lv_iconst (v := 1) S.1 S.2.1 dL_texts_357 (by decide) ?_
  refine lv_iconst (v := 0) S.1 S.2.1 dL_texts_358 (by decide) ?_
  refine q_stageOf lU38k (by decide) (rest := []) S hw P hl.1 (cwV 2 S.2.2.2.2 gL_texts_X5_stageOf rfl rfl rfl (by decide +kernel) ⟨Nat.le_of_ble_eq_true rfl, Nat.le_of_ble_eq_true rfl⟩) (Nat.le_of_ble_eq_true rfl) dL_texts_359 ⟨Nat.le_of_ble_eq_true rfl, Nat.le_of_ble_eq_true rfl⟩ (fun H locs hw => ?_)
  refine y_top (y := 200) (ck_te_359) ?_
  refine lv_sipush (v := 200) S.1 S.2.1 dL_texts_362 (by decide) ?_
  refine lv_icmp_ne (tgt := 441) S.1 S.2.1 dL_texts_365 (by decide) (fun c => absurd (by decide) c) (fun _ => ?_) 
  refine lv_aload_n S.1 S.2.1 dL_texts_368 rfl (lv_at hl 0 rfl) ?_
  refine lv_iconst (v := 2) S.1 S.2.1 dL_texts_369 (by decide) ?_
  refine lv_iconst (v := 0) S.1 S.2.1 dL_texts_370 (by decide) ?_
  refine q_stageOf lU38k (by decide) (rest := []) S hw P hl.1 (cwV 2 S.2.2.2.2 gL_texts_X5_stageOf rfl rfl rfl (by decide +kernel) ⟨Nat.le_of_ble_eq_true rfl, Nat.le_of_ble_eq_true rfl⟩) (Nat.le_of_ble_eq_true rfl) dL_texts_371 ⟨Nat.le_of_ble_eq_true rfl, Nat.le_of_ble_eq_true rfl⟩ (fun H locs hw => ?_)
  refine y_top (y := 800) (ck_te_371) ?_
  refine lv_sipush (v := 800) S.1 S.2.1 dL_texts_374 (by decide) ?_
  refine lv_icmp_ne (tgt := 441) S.1 S.2.1 dL_texts_377 (by decide) (fun c => absurd (by decide) c) (fun _ => ?_) 
  refine lv_aload_n S.1 S.2.1 dL_texts_380 rfl (lv_at hl 0 rfl) ?_
  refine q_play lU38k (by decide) (by decide) (show tT3 1 0 = nI 21 by decide +kernel) (by decide) ck_te_381s ck_te_381h (rest := []) S hw P hl.1 (cwV 0 S.2.2.2.2 gL_texts_X5_play rfl rfl rfl (by decide +kernel) ⟨Nat.le_of_ble_eq_true rfl, Nat.le_of_ble_eq_true rfl⟩) (Nat.le_of_ble_eq_true rfl) dL_texts_381 ⟨Nat.le_of_ble_eq_true rfl, Nat.le_of_ble_eq_true rfl⟩ (fun H locs Z hw P => ?_)
  refine y_top (y := 4) (ck_te_381) ?_
  obtain ⟨hw, P⟩ := y_norm hw P ck_te_381e
  obtain ⟨hw, P⟩ := y_normT hw P ck_te_381t
  refine lv_iconst (v := 4) S.1 S.2.1 dL_texts_384 (by decide) ?_
  refine lv_icmp_ne (tgt := 441) S.1 S.2.1 dL_texts_385 (by decide) (fun c => absurd (by decide) c) (fun _ => ?_) 
  refine lv_aload_n S.1 S.2.1 dL_texts_388 rfl (lv_at hl 0 rfl) ?_
  refine lv_iconst (v := 1) S.1 S.2.1 dL_texts_389 (by decide) ?_
  refine q_count  (rest := []) S hw P hl.1 (cwV 1 S.2.2.2.2 gL_texts_X5_count rfl rfl rfl (by decide +kernel) ⟨Nat.le_of_ble_eq_true rfl, Nat.le_of_ble_eq_true rfl⟩) (Nat.le_of_ble_eq_true rfl) dL_texts_390 ⟨Nat.le_of_ble_eq_true rfl, Nat.le_of_ble_eq_true rfl⟩ (fun H locs hw => ?_)
  refine y_top (y := 6) ((jCount_l (Z2 := fun _ => lU39) rfl (by decide) (by decide)).trans ck_te_390) ?_
  refine lv_bipush (v := 6) S.1 S.2.1 dL_texts_393 (by decide) ?_
  refine lv_icmp_ne (tgt := 441) S.1 S.2.1 dL_texts_395 (by decide) (fun c => absurd (by decide) c) (fun _ => ?_) 
  refine lv_aload_n S.1 S.2.1 dL_texts_398 rfl (lv_at hl 0 rfl) ?_
  refine q_undo (by decide) (rest := []) S hw P hl.1 (cwV 0 S.2.2.2.2 gL_texts_X5_undo rfl rfl rfl (by decide +kernel) ⟨Nat.le_of_ble_eq_true rfl, Nat.le_of_ble_eq_true rfl⟩) (Nat.le_of_ble_eq_true rfl) dL_texts_399 ⟨Nat.le_of_ble_eq_true rfl, Nat.le_of_ble_eq_true rfl⟩ (fun H locs Z hw P => ?_)
  refine y_top (y := 1) (rfl) ?_
  have P : PW _ lU38 tT3 _ _ := P
  refine lv_iconst (v := 1) S.1 S.2.1 dL_texts_402 (by decide) ?_
  refine lv_icmp_ne (tgt := 441) S.1 S.2.1 dL_texts_403 (by decide) (fun c => absurd (by decide) c) (fun _ => ?_) 
  refine lv_aload_n S.1 S.2.1 dL_texts_406 rfl (lv_at hl 0 rfl) ?_
  refine lv_iconst (v := 1) S.1 S.2.1 dL_texts_407 (by decide) ?_
  refine q_count  (rest := []) S hw P hl.1 (cwV 1 S.2.2.2.2 gL_texts_X5_count rfl rfl rfl (by decide +kernel) ⟨Nat.le_of_ble_eq_true rfl, Nat.le_of_ble_eq_true rfl⟩) (Nat.le_of_ble_eq_true rfl) dL_texts_408 ⟨Nat.le_of_ble_eq_true rfl, Nat.le_of_ble_eq_true rfl⟩ (fun H locs hw => ?_)
  refine y_top (y := 3) ((jCount_l (Z2 := fun _ => lU38) rfl (by decide) (by decide)).trans ck_te_349) ?_
  refine lv_iconst (v := 3) S.1 S.2.1 dL_texts_411 (by decide) ?_
  refine lv_icmp_ne (tgt := 441) S.1 S.2.1 dL_texts_412 (by decide) (fun c => absurd (by decide) c) (fun _ => ?_) 
  refine lv_aload_n S.1 S.2.1 dL_texts_415 rfl (lv_at hl 0 rfl) ?_
  refine q_clearText  (rest := []) S hw P hl.1 (cwV 0 S.2.2.2.2 gL_texts_X5_clearText rfl rfl rfl (by decide +kernel) ⟨Nat.le_of_ble_eq_true rfl, Nat.le_of_ble_eq_true rfl⟩) (Nat.le_of_ble_eq_true rfl) dL_texts_416 ⟨Nat.le_of_ble_eq_true rfl, Nat.le_of_ble_eq_true rfl⟩ (fun H locs Z hw P => ?_)
  refine y_top (y := 21) (ck_te_339) ?_
  obtain ⟨hw, P⟩ := y_normT hw P ck_te_416t
  refine lv_bipush (v := 21) S.1 S.2.1 dL_texts_419 (by decide) ?_
  refine lv_icmp_ne (tgt := 441) S.1 S.2.1 dL_texts_421 (by decide) (fun c => absurd (by decide) c) (fun _ => ?_) 
  refine lv_aload_n S.1 S.2.1 dL_texts_424 rfl (lv_at hl 0 rfl) ?_
  refine q_play lU38k (by decide) (by decide) (show tT4 1 0 = nI 0 by decide +kernel) (by decide) ck_te_425s ck_te_425h (rest := []) S hw P hl.1 (cwV 0 S.2.2.2.2 gL_texts_X5_play rfl rfl rfl (by decide +kernel) ⟨Nat.le_of_ble_eq_true rfl, Nat.le_of_ble_eq_true rfl⟩) (Nat.le_of_ble_eq_true rfl) dL_texts_425 ⟨Nat.le_of_ble_eq_true rfl, Nat.le_of_ble_eq_true rfl⟩ (fun H locs Z hw P => ?_)
  refine y_top (y := 0) (ck_te_425) ?_
  obtain ⟨hw, P⟩ := y_norm hw P ck_te_425e
  obtain ⟨hw, P⟩ := y_normT hw P ck_te_425t
  refine lv_if_ne (tgt := 441) S.1 S.2.1 dL_texts_428 (by decide) (fun c => absurd (by decide) c) (fun _ => ?_) 
  refine lv_aload_n S.1 S.2.1 dL_texts_431 rfl (lv_at hl 0 rfl) ?_
  refine lv_bipush (v := 7) S.1 S.2.1 dL_texts_432 (by decide) ?_
  refine q_count  (rest := []) S hw P hl.1 (cwV 1 S.2.2.2.2 gL_texts_X5_count rfl rfl rfl (by decide +kernel) ⟨Nat.le_of_ble_eq_true rfl, Nat.le_of_ble_eq_true rfl⟩) (Nat.le_of_ble_eq_true rfl) dL_texts_434 ⟨Nat.le_of_ble_eq_true rfl, Nat.le_of_ble_eq_true rfl⟩ (fun H locs hw => ?_)
  refine y_top (y := 2) ((jCount_7 _).trans (by rfl)) ?_
  refine lv_iconst (v := 2) S.1 S.2.1 dL_texts_437 (by decide) ?_
  refine lv_icmp_eq (tgt := 443) S.1 S.2.1 dL_texts_438 (by decide) (fun _ => ?_) (fun c => absurd (by decide) c) 
  refine lv_iconst (v := 0) S.1 S.2.1 dL_texts_443 (by decide) ?_
  refine lv_istore_n (lv' := [(1, .int 0), (0, .ref (Q1 8 0))]) S.1 S.2.1 dL_texts_444 rfl hl (by decide) rfl (fun ls hl => ?_)
  have lp : ∀ (fuel i : Nat) (H : Heap) (locs : List Loc) (ls : Array Slot) (Z : Nat → U) (w : U) (k : Nat) (g : Nat → U), i ≤ 60 → 60 < i + fuel → y_W D cI cC cL A s H locs (cWd cI cC cL Q1 Z ++ []) → PW Z lU38 w k g → w 1 0 = nI i → lv_has ls 2 [(1, .int (nI i)), (0, .ref (Q1 8 0))] → W p l e (y_RN 8 189 1575 22281) s mm args below meth c H locs ((((((((((((((((((((((0 + 75) + 75) + 75) + 75) + 75) + 75) + 75) + 75) + 75) + 75) + 75) + 75) + 75) + 75) + 75) + 75) + 75) + 75) + 75) + 75) + 1) + 74) ((((((((((((((((((((((0 + 1061) + 1061) + 1061) + 1061) + 1061) + 1061) + 1061) + 1061) + 1061) + 1061) + 1061) + 1061) + 1061) + 1061) + 1061) + 1061) + 1061) + 1061) + 1061) + 1061) + 4) + 1057) QQ (F0 mm 445 ls []) := by
    intro fuel
    induction fuel with
    | zero => intro i H locs ls Z w k g h1 h2; exact absurd h2 (by omega)
    | succ fuel ih =>
      intro i H locs ls Z w k g h1 h2 hw P hL hl
      refine lv_iload_n S.1 S.2.1 dL_texts_445 rfl (lv_at hl 0 rfl) ?_
      refine lv_bipush (v := 60) S.1 S.2.1 dL_texts_446 (by decide) ?_
      refine lv_icmp_ge (tgt := 482) S.1 S.2.1 dL_texts_448 (by decide) (fun c1 => ?_) (fun c1 => ?_)
      · have hi : i = 60 := by have := (nI_leI (a := 60) (b := i) (by omega) (by omega)).mp c1; omega
        subst hi
        refine lv_aload_n S.1 S.2.1 dL_texts_482 rfl (lv_at hl 1 rfl) ?_
        refine lv_bipush (v := 59) S.1 S.2.1 dL_texts_483 (by decide) ?_
        refine q_type_lim hL (by decide) (by decide) (by decide) (rest := []) S hw P hl.1 (cwV 1 S.2.2.2.2 gL_texts_X5_type rfl rfl rfl (by decide +kernel) ⟨Nat.le_of_ble_eq_true rfl, Nat.le_of_ble_eq_true rfl⟩) (Nat.le_of_ble_eq_true rfl) dL_texts_485 ⟨Nat.le_of_ble_eq_true rfl, Nat.le_of_ble_eq_true rfl⟩ (fun H locs hw => ?_)
        refine lv_ldc (v := (-2000003)) S.1 S.2.1 S.2.2.2.1 (S.2.2.2.2 _ k_L_texts_103) dL_texts_488 ?_
        refine lv_icmp_ne (tgt := 517) S.1 S.2.1 dL_texts_490 (by decide) (fun c => absurd (by decide) c) (fun _ => ?_) 
        refine lv_aload_n S.1 S.2.1 dL_texts_493 rfl (lv_at hl 1 rfl) ?_
        refine lv_bipush (v := 31) S.1 S.2.1 dL_texts_494 (by decide) ?_
        refine q_type_inv hL (by decide) (by decide) (rest := []) S hw P hl.1 (cwV 1 S.2.2.2.2 gL_texts_X5_type rfl rfl rfl (by decide +kernel) ⟨Nat.le_of_ble_eq_true rfl, Nat.le_of_ble_eq_true rfl⟩) (Nat.le_of_ble_eq_true rfl) dL_texts_496 ⟨Nat.le_of_ble_eq_true rfl, Nat.le_of_ble_eq_true rfl⟩ (fun H locs hw => ?_)
        refine lv_ldc (v := (-2000001)) S.1 S.2.1 S.2.2.2.1 (S.2.2.2.2 _ k_L_texts_37) dL_texts_499 ?_
        refine lv_icmp_ne (tgt := 517) S.1 S.2.1 dL_texts_501 (by decide) (fun c => absurd (by decide) c) (fun _ => ?_) 
        refine lv_aload_n S.1 S.2.1 dL_texts_504 rfl (lv_at hl 1 rfl) ?_
        refine q_clearText  (rest := []) S hw P hl.1 (cwV 0 S.2.2.2.2 gL_texts_X5_clearText rfl rfl rfl (by decide +kernel) ⟨Nat.le_of_ble_eq_true rfl, Nat.le_of_ble_eq_true rfl⟩) (Nat.le_of_ble_eq_true rfl) dL_texts_505 ⟨Nat.le_of_ble_eq_true rfl, Nat.le_of_ble_eq_true rfl⟩ (fun H locs Z hw P => ?_)
        refine y_top (y := 60) (hL) ?_
        refine lv_bipush (v := 60) S.1 S.2.1 dL_texts_508 (by decide) ?_
        refine lv_icmp_ne (tgt := 517) S.1 S.2.1 dL_texts_510 (by decide) (fun c => absurd (by decide) c) (fun _ => ?_) 
        refine lv_iconst (v := 1) S.1 S.2.1 dL_texts_513 (by decide) ?_
        refine lv_goto (tgt := 518) S.1 S.2.1 dL_texts_514 (by decide) ?_
        exact ret _ _ _ _ _ hw.none rfl dL_texts_518
      · have hi : i < 60 := by
          apply Decidable.byContradiction
          intro hn
          exact c1 ((nI_leI (a := 60) (b := i) (by omega) (by omega)).mpr (by omega))
        refine lv_aload_n S.1 S.2.1 dL_texts_451 rfl (lv_at hl 1 rfl) ?_
        refine lv_iload_n S.1 S.2.1 dL_texts_452 rfl (lv_at hl 0 rfl) ?_
        refine lv_iconst (v := 2) S.1 S.2.1 dL_texts_453 (by decide) ?_
        refine lv_irem S.1 S.2.1 dL_texts_454 (by decide) ?_
        refine lv_if_ne (tgt := 463) S.1 S.2.1 dL_texts_455 (by decide) (fun c2 => ?_) (fun c2 => ?_)
        · skip
          refine lv_bipush (v := 59) S.1 S.2.1 dL_texts_463 (by decide) ?_
          refine q_type hL (by omega) (by decide) hi (rest := []) S hw P hl.1 (cwV 1 S.2.2.2.2 gL_texts_X5_type rfl rfl rfl (by decide +kernel) ⟨Nat.le_of_ble_eq_true rfl, Nat.le_of_ble_eq_true rfl⟩) (Nat.le_of_ble_eq_true rfl) dL_texts_465 ⟨Nat.le_of_ble_eq_true rfl, Nat.le_of_ble_eq_true rfl⟩ (fun H locs Z hw P => ?_)
          have hL2 : (tApp w i 59) 1 0 = nI (i + 1) := rfl
          refine lv_iload_n S.1 S.2.1 dL_texts_468 rfl (lv_at hl 0 rfl) ?_
          refine lv_iconst (v := 1) S.1 S.2.1 dL_texts_469 (by decide) ?_
          refine lv_iadd S.1 S.2.1 dL_texts_470 ?_
          refine lv_icmp_eq (tgt := 476) S.1 S.2.1 dL_texts_471 (by decide) (fun _ => ?_) (fun c => absurd (nI_1 i).symm c)
          refine lv_iinc (v := (nI (i + 1))) (lv' := [(1, .int (nI (i + 1))), (0, .ref (Q1 8 0))]) S.1 S.2.1 dL_texts_476 hl (k := 0) rfl (nI_1 _) (by decide) rfl (fun ls hl => ?_)
          refine lv_goto (tgt := 445) S.1 S.2.1 dL_texts_479 (by decide) ?_
          exact ih (i + 1) H locs ls _ _ _ _ (by omega) (by omega) hw P hL2 (lv_sub hl [0, 1] rfl)
        · skip
          refine lv_bipush (v := 115) S.1 S.2.1 dL_texts_458 (by decide) ?_
          refine lv_goto (tgt := 465) S.1 S.2.1 dL_texts_460 (by decide) ?_
          refine q_type hL (by omega) (by decide) hi (rest := []) S hw P hl.1 (cwV 1 S.2.2.2.2 gL_texts_X5_type rfl rfl rfl (by decide +kernel) ⟨Nat.le_of_ble_eq_true rfl, Nat.le_of_ble_eq_true rfl⟩) (Nat.le_of_ble_eq_true rfl) dL_texts_465 ⟨Nat.le_of_ble_eq_true rfl, Nat.le_of_ble_eq_true rfl⟩ (fun H locs Z hw P => ?_)
          have hL2 : (tApp w i 115) 1 0 = nI (i + 1) := rfl
          refine lv_iload_n S.1 S.2.1 dL_texts_468 rfl (lv_at hl 0 rfl) ?_
          refine lv_iconst (v := 1) S.1 S.2.1 dL_texts_469 (by decide) ?_
          refine lv_iadd S.1 S.2.1 dL_texts_470 ?_
          refine lv_icmp_eq (tgt := 476) S.1 S.2.1 dL_texts_471 (by decide) (fun _ => ?_) (fun c => absurd (nI_1 i).symm c)
          refine lv_iinc (v := (nI (i + 1))) (lv' := [(1, .int (nI (i + 1))), (0, .ref (Q1 8 0))]) S.1 S.2.1 dL_texts_476 hl (k := 0) rfl (nI_1 _) (by decide) rfl (fun ls hl => ?_)
          refine lv_goto (tgt := 445) S.1 S.2.1 dL_texts_479 (by decide) ?_
          exact ih (i + 1) H locs ls _ _ _ _ (by omega) (by omega) hw P hL2 (lv_sub hl [0, 1] rfl)
  exact lp 61 0 _ _ ls _ _ _ _ (by decide) (by decide) hw P (show tT5 1 0 = nI 0 by decide +kernel) (lv_sub hl [0, 1] rfl)
