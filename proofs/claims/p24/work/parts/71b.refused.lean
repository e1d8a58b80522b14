theorem jHas_self {n : Nat} : jHas (nI n) (nI n) = 0 := by
  unfold jHas
  split
  · rfl
  · rw [if_pos (Int32.le_refl _)]
theorem jHas_m1 {x : Int32} : jHas (-1) x = 0 := by
  unfold jHas
  rw [if_pos (by decide)]
theorem jStO_h {u : U} {x y : Int32} (h : jHas x (u 0 0) = 0) : jStO u x y = -2000001 := by
  unfold jStO
  rw [if_pos h]
theorem jStO_y {u : U} {x y : Int32} (h0 : ¬ y = 0) (h1 : ¬ y = 1) (h2 : ¬ y = 2) (h3 : ¬ y = 3) (h4 : ¬ y = 4) (h5 : ¬ y = 5) : jStO u x y = -2000001 := by
  unfold jStO
  by_cases h : jHas x (u 0 0) = 0
  · rw [if_pos h]
  · rw [if_neg h, if_neg h0, if_neg h1, if_neg h2, if_neg h3, if_neg h4, if_neg h5]
theorem jOuR_x {u : U} {x y : Int32} {h n : Nat} (hx : x < 0) : jOuR u x y h n = -2000001 := by
  unfold jOuR
  rw [if_pos hx]
theorem jOuR_y {u : U} {x y : Int32} {h n : Nat} (hy : ¬ jOut y 0 5 = 0) : jOuR u x y h n = -2000001 := by
  unfold jOuR
  by_cases c : x < 0
  · rw [if_pos c]
  · rw [if_neg c, if_pos hy]
theorem jOuR_16 {u : U} {h n : Nat} : jOuR u 16 0 h n = -2000004 := by
  unfold jOuR
  have h16 := jKp_16 h n
  rw [if_neg (show ¬ (16 : Int32) < 0 by decide), if_neg (not_not_intro (show jOut 0 0 5 = 0 by decide)), if_pos (show ¬ (16 : Int32) < nI (jKp h n) from fun z => absurd ((nI_ltI (a := 16) (b := jKp h n) (by omega) (by omega)).mp z) (by omega))]
theorem jPrO_x {u : U} {x y : Int32} {o z : Nat} (h : ¬ jOut x 0 2 = 0) : jPrO u x y o z = -2000001 := by
  unfold jPrO
  rw [if_pos h]
theorem jPrO_y {u : U} {x y : Int32} {o z : Nat} (h : ¬ jOut y 0 1 = 0) : jPrO u x y o z = -2000001 := by
  unfold jPrO
  by_cases c : ¬ jOut x 0 2 = 0
  · rw [if_pos c]
  · rw [if_neg c, if_pos h]
theorem jMdd_x {u : U} {x : Int32} (h : ¬ jOut x 0 100000 = 0) : jMdd u x = -2000001 := by
  unfold jMdd
  rw [if_pos h]
theorem jAcc_x {Z : Nat → U} {x : Int32} {n : Nat} (h0 : ¬ x = 0) (h1 : ¬ x = 1) (h2 : ¬ x = 2) (h3 : ¬ x = 3) (h4 : ¬ x = 4) : jAcc Z x n = -2000001 := by
  unfold jAcc
  rw [if_neg h0, if_neg h1, if_neg h2, if_neg h3, if_neg h4]
theorem k_L_refusesAny_37 : Cond.constant RL 37 (-2000001) ∈ wsL_refusesAny := by decide +kernel
theorem k_L_refusesAny_52 : Cond.constant RL 52 (-2000004) ∈ wsL_refusesAny := by decide +kernel
set_option maxHeartbeats 8000000 in
set_option maxRecDepth 100000 in
theorem c_L_refusesAny_0 (l : Launch) (D : va_G) (cI cC cL : ClassId) (Q : Nat → Nat → Nat) (Z : Nat → U) (u w : U) (k : Nat) (g : Nat → U) (P : PW Z u w k g) (n B : Nat) (hv : lOk u n B) (h10 : n ≤ 10) (hB2 : B ≤ 2000) (L : Nat) (hL : w 1 0 = nI L) (hL2 : L ≤ 60) (h1n : 1 ≤ n) : y_MIX l yL_refusesAny wsL_refusesAny 7 163 D cI cC cL [.ref (Q 8 0), .int 0] (cWd cI cC cL Q Z) 1 (fun _ : Unit => cWd cI cC cL Q Z) () := by
  refine y_startIX (cc := cL_refusesAny) (maxL := 3) (ret := some .boolean) (by decide +kernel) rfl (Nat.le_of_ble_eq_true rfl) ⟨_, rfl, fun x h => by rcases h rfl with rfl | rfl <;> rfl⟩ (fun _ => Or.inr rfl) ?_
  intro p e s mm args below meth c A QQ ls S hX hw ret hl
  have S : CallFix p mm c cL_refusesAny 3 s args wsL_refusesAny RL := S
  have hw : y_W D cI cC cL A s s.heap [] (cWd cI cC cL Q Z ++ []) := y_W_eq hw (List.append_nil _).symm
  have hl : lv_has ls 3 [(0, .ref (Q 8 0)), (1, .int 0)] := hl
  refine lv_aload_n S.1 S.2.1 dL_refusesAny_0 rfl (lv_at hl 0 rfl) ?_
  refine lv_iconst (v := 0) S.1 S.2.1 dL_refusesAny_1 (by decide) ?_
  refine q_count  (rest := []) S hw P hl.1 (cwV 1 S.2.2.2.2 gL_refusesAny_X5_count rfl rfl rfl (by decide +kernel) ⟨Nat.le_of_ble_eq_true rfl, Nat.le_of_ble_eq_true rfl⟩) (Nat.le_of_ble_eq_true rfl) dL_refusesAny_2 ⟨Nat.le_refl _, Nat.le_refl _⟩ (fun H locs hw => ?_)
  refine y_top (y := (nI n)) ((jCount_0 _).trans hv.1) ?_
  refine lv_istore_n (lv' := [(2, .int (nI n)), (0, .ref (Q 8 0)), (1, .int 0)]) S.1 S.2.1 dL_refusesAny_5 rfl hl (by decide) rfl (fun ls hl => ?_)
  refine lv_aload_n S.1 S.2.1 dL_refusesAny_6 rfl (lv_at hl 1 rfl) ?_
  refine lv_iload_n S.1 S.2.1 dL_refusesAny_7 rfl (lv_at hl 2 rfl) ?_
  refine lv_if_ne (tgt := 15) S.1 S.2.1 dL_refusesAny_8 (by decide) (fun c => absurd (by decide) c) (fun _ => ?_) 
  refine lv_iconst (v := 1) S.1 S.2.1 dL_refusesAny_11 (by decide) ?_
  refine lv_goto (tgt := 17) S.1 S.2.1 dL_refusesAny_12 (by decide) ?_
  refine q_begin_inv (by decide) (rest := []) S hw P hl.1 (cwV 1 S.2.2.2.2 gL_refusesAny_X5_begin rfl rfl rfl (by decide +kernel) ⟨Nat.le_of_ble_eq_true rfl, Nat.le_of_ble_eq_true rfl⟩) (Nat.le_of_ble_eq_true rfl) dL_refusesAny_17 ⟨Nat.le_refl _, Nat.le_refl _⟩ (fun H locs hw => ?_)
  refine lv_ldc (v := (-2000001)) S.1 S.2.1 S.2.2.2.1 (S.2.2.2.2 _ k_L_refusesAny_37) dL_refusesAny_20 ?_
  refine lv_icmp_ne (tgt := 212) S.1 S.2.1 dL_refusesAny_22 (by decide) (fun c => absurd (by decide) c) (fun _ => ?_) 
  refine lv_aload_n S.1 S.2.1 dL_refusesAny_25 rfl (lv_at hl 1 rfl) ?_
  refine lv_iload_n S.1 S.2.1 dL_refusesAny_26 rfl (lv_at hl 2 rfl) ?_
  refine lv_if_ne (tgt := 34) S.1 S.2.1 dL_refusesAny_27 (by decide) (fun c => absurd (by decide) c) (fun _ => ?_) 
  refine lv_iconst (v := (-1)) S.1 S.2.1 dL_refusesAny_30 (by decide) ?_
  refine lv_goto (tgt := 35) S.1 S.2.1 dL_refusesAny_31 (by decide) ?_
  refine lv_iconst (v := 0) S.1 S.2.1 dL_refusesAny_35 (by decide) ?_
  refine lv_iconst (v := 0) S.1 S.2.1 dL_refusesAny_36 (by decide) ?_
  refine q_stage_inv hv h10 (Or.inl jHas_m1) (rest := []) S hw P hl.1 (cwV 3 S.2.2.2.2 gL_refusesAny_X5_stage rfl rfl rfl (by decide +kernel) ⟨Nat.le_of_ble_eq_true rfl, Nat.le_of_ble_eq_true rfl⟩) (Nat.le_of_ble_eq_true rfl) dL_refusesAny_37 ⟨Nat.le_refl _, Nat.le_refl _⟩ (fun H locs hw => ?_)
  refine lv_ldc (v := (-2000001)) S.1 S.2.1 S.2.2.2.1 (S.2.2.2.2 _ k_L_refusesAny_37) dL_refusesAny_40 ?_
  refine lv_icmp_ne (tgt := 212) S.1 S.2.1 dL_refusesAny_42 (by decide) (fun c => absurd (by decide) c) (fun _ => ?_) 
  refine lv_aload_n S.1 S.2.1 dL_refusesAny_45 rfl (lv_at hl 1 rfl) ?_
  refine lv_iconst (v := 0) S.1 S.2.1 dL_refusesAny_46 (by decide) ?_
  refine lv_iload_n S.1 S.2.1 dL_refusesAny_47 rfl (lv_at hl 2 rfl) ?_
  refine lv_if_ne (tgt := 55) S.1 S.2.1 dL_refusesAny_48 (by decide) (fun c => absurd (by decide) c) (fun _ => ?_) 
  refine lv_iconst (v := (-1)) S.1 S.2.1 dL_refusesAny_51 (by decide) ?_
  refine lv_goto (tgt := 58) S.1 S.2.1 dL_refusesAny_52 (by decide) ?_
  refine lv_iconst (v := 0) S.1 S.2.1 dL_refusesAny_58 (by decide) ?_
  refine q_stage_inv hv h10 (Or.inr (Or.inl (by decide))) (rest := []) S hw P hl.1 (cwV 3 S.2.2.2.2 gL_refusesAny_X5_stage rfl rfl rfl (by decide +kernel) ⟨Nat.le_of_ble_eq_true rfl, Nat.le_of_ble_eq_true rfl⟩) (Nat.le_of_ble_eq_true rfl) dL_refusesAny_59 ⟨Nat.le_refl _, Nat.le_refl _⟩ (fun H locs hw => ?_)
  refine lv_ldc (v := (-2000001)) S.1 S.2.1 S.2.2.2.1 (S.2.2.2.2 _ k_L_refusesAny_37) dL_refusesAny_62 ?_
  refine lv_icmp_ne (tgt := 212) S.1 S.2.1 dL_refusesAny_64 (by decide) (fun c => absurd (by decide) c) (fun _ => ?_) 
  refine lv_aload_n S.1 S.2.1 dL_refusesAny_67 rfl (lv_at hl 1 rfl) ?_
  refine lv_iconst (v := 0) S.1 S.2.1 dL_refusesAny_68 (by decide) ?_
  refine lv_iconst (v := 0) S.1 S.2.1 dL_refusesAny_69 (by decide) ?_
  refine lv_iload_n S.1 S.2.1 dL_refusesAny_70 rfl (lv_at hl 2 rfl) ?_
  refine lv_if_ne (tgt := 78) S.1 S.2.1 dL_refusesAny_71 (by decide) (fun c => absurd (by decide) c) (fun _ => ?_) 
  refine lv_iconst (v := (-1)) S.1 S.2.1 dL_refusesAny_74 (by decide) ?_
  refine lv_goto (tgt := 81) S.1 S.2.1 dL_refusesAny_75 (by decide) ?_
  refine q_stage_inv hv h10 (Or.inr (Or.inr (by decide))) (rest := []) S hw P hl.1 (cwV 3 S.2.2.2.2 gL_refusesAny_X5_stage rfl rfl rfl (by decide +kernel) ⟨Nat.le_of_ble_eq_true rfl, Nat.le_of_ble_eq_true rfl⟩) (Nat.le_of_ble_eq_true rfl) dL_refusesAny_81 ⟨Nat.le_refl _, Nat.le_refl _⟩ (fun H locs hw => ?_)
  refine lv_ldc (v := (-2000001)) S.1 S.2.1 S.2.2.2.1 (S.2.2.2.2 _ k_L_refusesAny_37) dL_refusesAny_84 ?_
  refine lv_icmp_ne (tgt := 212) S.1 S.2.1 dL_refusesAny_86 (by decide) (fun c => absurd (by decide) c) (fun _ => ?_) 
  refine lv_aload_n S.1 S.2.1 dL_refusesAny_89 rfl (lv_at hl 1 rfl) ?_
  refine lv_iload_n S.1 S.2.1 dL_refusesAny_90 rfl (lv_at hl 2 rfl) ?_
  refine lv_if_ne (tgt := 98) S.1 S.2.1 dL_refusesAny_91 (by decide) (fun c => absurd (by decide) c) (fun _ => ?_) 
  refine lv_iconst (v := (-1)) S.1 S.2.1 dL_refusesAny_94 (by decide) ?_
  refine lv_goto (tgt := 99) S.1 S.2.1 dL_refusesAny_95 (by decide) ?_
  refine lv_iconst (v := 1) S.1 S.2.1 dL_refusesAny_99 (by decide) ?_
  refine q_set_inv (Or.inl (by decide)) (rest := []) S hw P hl.1 hX (cwV 2 S.2.2.2.2 gL_refusesAny_X5_set rfl rfl rfl (by decide +kernel) ⟨Nat.le_of_ble_eq_true rfl, Nat.le_of_ble_eq_true rfl⟩) (Nat.le_of_ble_eq_true rfl) dL_refusesAny_100 ⟨Nat.le_refl _, Nat.le_refl _⟩ (fun H locs hw => ?_)
  refine lv_ldc (v := (-2000001)) S.1 S.2.1 S.2.2.2.1 (S.2.2.2.2 _ k_L_refusesAny_37) dL_refusesAny_103 ?_
  refine lv_icmp_ne (tgt := 212) S.1 S.2.1 dL_refusesAny_105 (by decide) (fun c => absurd (by decide) c) (fun _ => ?_) 
  refine lv_aload_n S.1 S.2.1 dL_refusesAny_108 rfl (lv_at hl 1 rfl) ?_
  refine lv_iconst (v := 0) S.1 S.2.1 dL_refusesAny_109 (by decide) ?_
  refine lv_iload_n S.1 S.2.1 dL_refusesAny_110 rfl (lv_at hl 2 rfl) ?_
  refine lv_if_ne (tgt := 120) S.1 S.2.1 dL_refusesAny_111 (by decide) (fun c => absurd (by decide) c) (fun _ => ?_) 
  refine lv_sipush (v := 999) S.1 S.2.1 dL_refusesAny_114 (by decide) ?_
  refine lv_goto (tgt := 122) S.1 S.2.1 dL_refusesAny_117 (by decide) ?_
  refine q_set_inv (Or.inr (by decide)) (rest := []) S hw P hl.1 hX (cwV 2 S.2.2.2.2 gL_refusesAny_X5_set rfl rfl rfl (by decide +kernel) ⟨Nat.le_of_ble_eq_true rfl, Nat.le_of_ble_eq_true rfl⟩) (Nat.le_of_ble_eq_true rfl) dL_refusesAny_122 ⟨Nat.le_refl _, Nat.le_refl _⟩ (fun H locs hw => ?_)
  refine lv_ldc (v := (-2000001)) S.1 S.2.1 S.2.2.2.1 (S.2.2.2.2 _ k_L_refusesAny_37) dL_refusesAny_125 ?_
  refine lv_icmp_ne (tgt := 212) S.1 S.2.1 dL_refusesAny_127 (by decide) (fun c => absurd (by decide) c) (fun _ => ?_) 
  refine lv_aload_n S.1 S.2.1 dL_refusesAny_130 rfl (lv_at hl 1 rfl) ?_
  refine lv_iconst (v := 1) S.1 S.2.1 dL_refusesAny_131 (by decide) ?_
  refine lv_iload_n S.1 S.2.1 dL_refusesAny_132 rfl (lv_at hl 2 rfl) ?_
  refine lv_if_ne (tgt := 140) S.1 S.2.1 dL_refusesAny_133 (by decide) (fun c => absurd (by decide) c) (fun _ => ?_) 
  refine lv_iconst (v := (-1)) S.1 S.2.1 dL_refusesAny_136 (by decide) ?_
  refine lv_goto (tgt := 142) S.1 S.2.1 dL_refusesAny_137 (by decide) ?_
  refine q_set_inv (Or.inr (by decide)) (rest := []) S hw P hl.1 hX (cwV 2 S.2.2.2.2 gL_refusesAny_X5_set rfl rfl rfl (by decide +kernel) ⟨Nat.le_of_ble_eq_true rfl, Nat.le_of_ble_eq_true rfl⟩) (Nat.le_of_ble_eq_true rfl) dL_refusesAny_142 ⟨Nat.le_refl _, Nat.le_refl _⟩ (fun H locs hw => ?_)
  refine lv_ldc (v := (-2000001)) S.1 S.2.1 S.2.2.2.1 (S.2.2.2.2 _ k_L_refusesAny_37) dL_refusesAny_145 ?_
  refine lv_icmp_ne (tgt := 212) S.1 S.2.1 dL_refusesAny_147 (by decide) (fun c => absurd (by decide) c) (fun _ => ?_) 
  refine lv_aload_n S.1 S.2.1 dL_refusesAny_150 rfl (lv_at hl 1 rfl) ?_
  refine lv_iconst (v := 2) S.1 S.2.1 dL_refusesAny_151 (by decide) ?_
  refine lv_iload_n S.1 S.2.1 dL_refusesAny_152 rfl (lv_at hl 2 rfl) ?_
  refine lv_iadd S.1 S.2.1 dL_refusesAny_153 ?_
  refine y_top (y := 2) (by decide) ?_
  refine lv_iload_n S.1 S.2.1 dL_refusesAny_154 rfl (lv_at hl 2 rfl) ?_
  refine lv_if_ne (tgt := 162) S.1 S.2.1 dL_refusesAny_155 (by decide) (fun c => absurd (by decide) c) (fun _ => ?_) 
  refine lv_iconst (v := 0) S.1 S.2.1 dL_refusesAny_158 (by decide) ?_
  refine lv_goto (tgt := 165) S.1 S.2.1 dL_refusesAny_159 (by decide) ?_
  refine q_set_inv (Or.inr (by decide)) (rest := []) S hw P hl.1 hX (cwV 2 S.2.2.2.2 gL_refusesAny_X5_set rfl rfl rfl (by decide +kernel) ⟨Nat.le_of_ble_eq_true rfl, Nat.le_of_ble_eq_true rfl⟩) (Nat.le_of_ble_eq_true rfl) dL_refusesAny_165 ⟨Nat.le_refl _, Nat.le_refl _⟩ (fun H locs hw => ?_)
  refine lv_ldc (v := (-2000001)) S.1 S.2.1 S.2.2.2.1 (S.2.2.2.2 _ k_L_refusesAny_37) dL_refusesAny_168 ?_
  refine lv_icmp_ne (tgt := 212) S.1 S.2.1 dL_refusesAny_170 (by decide) (fun c => absurd (by decide) c) (fun _ => ?_) 
  refine lv_aload_n S.1 S.2.1 dL_refusesAny_173 rfl (lv_at hl 1 rfl) ?_
  refine lv_iload_n S.1 S.2.1 dL_refusesAny_174 rfl (lv_at hl 2 rfl) ?_
  refine lv_if_ne (tgt := 182) S.1 S.2.1 dL_refusesAny_175 (by decide) (fun c => absurd (by decide) c) (fun _ => ?_) 
  refine lv_iconst (v := (-1)) S.1 S.2.1 dL_refusesAny_178 (by decide) ?_
  refine lv_goto (tgt := 185) S.1 S.2.1 dL_refusesAny_179 (by decide) ?_
  refine q_give_inv hv h10 hB2 (by decide) (rest := []) S hw P hl.1 (cwV 1 S.2.2.2.2 gL_refusesAny_X5_give rfl rfl rfl (by decide +kernel) ⟨Nat.le_of_ble_eq_true rfl, Nat.le_of_ble_eq_true rfl⟩) (Nat.le_of_ble_eq_true rfl) dL_refusesAny_185 ⟨Nat.le_refl _, Nat.le_refl _⟩ (fun H locs hw => ?_)
  refine lv_ldc (v := (-2000001)) S.1 S.2.1 S.2.2.2.1 (S.2.2.2.2 _ k_L_refusesAny_37) dL_refusesAny_188 ?_
  refine lv_icmp_ne (tgt := 212) S.1 S.2.1 dL_refusesAny_190 (by decide) (fun c => absurd (by decide) c) (fun _ => ?_) 
  refine lv_aload_n S.1 S.2.1 dL_refusesAny_193 rfl (lv_at hl 1 rfl) ?_
  refine lv_iload_n S.1 S.2.1 dL_refusesAny_194 rfl (lv_at hl 2 rfl) ?_
  refine lv_if_ne (tgt := 202) S.1 S.2.1 dL_refusesAny_195 (by decide) (fun c => absurd (by decide) c) (fun _ => ?_) 
  refine lv_iconst (v := 0) S.1 S.2.1 dL_refusesAny_198 (by decide) ?_
  refine lv_goto (tgt := 204) S.1 S.2.1 dL_refusesAny_199 (by decide) ?_
  refine q_idle_inv hv h10 hB2 (by decide) (rest := []) S hw P hl.1 (cwV 1 S.2.2.2.2 gL_refusesAny_X5_idle rfl rfl rfl (by decide +kernel) ⟨Nat.le_of_ble_eq_true rfl, Nat.le_of_ble_eq_true rfl⟩) (Nat.le_of_ble_eq_true rfl) dL_refusesAny_204 ⟨Nat.le_refl _, Nat.le_refl _⟩ (fun H locs hw => ?_)
  refine lv_ldc (v := (-2000001)) S.1 S.2.1 S.2.2.2.1 (S.2.2.2.2 _ k_L_refusesAny_37) dL_refusesAny_207 ?_
  refine lv_icmp_eq (tgt := 214) S.1 S.2.1 dL_refusesAny_209 (by decide) (fun _ => ?_) (fun c => absurd (by decide) c) 
  refine lv_aload_n S.1 S.2.1 dL_refusesAny_214 rfl (lv_at hl 1 rfl) ?_
  refine lv_iload_n S.1 S.2.1 dL_refusesAny_215 rfl (lv_at hl 2 rfl) ?_
  refine lv_if_ne (tgt := 223) S.1 S.2.1 dL_refusesAny_216 (by decide) (fun c => absurd (by decide) c) (fun _ => ?_) 
  refine lv_iconst (v := (-1)) S.1 S.2.1 dL_refusesAny_219 (by decide) ?_
  refine lv_goto (tgt := 224) S.1 S.2.1 dL_refusesAny_220 (by decide) ?_
  refine lv_iconst (v := 0) S.1 S.2.1 dL_refusesAny_224 (by decide) ?_
  refine q_stageOf hv h10 (rest := []) S hw P hl.1 (cwV 2 S.2.2.2.2 gL_refusesAny_X5_stageOf rfl rfl rfl (by decide +kernel) ⟨Nat.le_of_ble_eq_true rfl, Nat.le_of_ble_eq_true rfl⟩) (Nat.le_of_ble_eq_true rfl) dL_refusesAny_225 ⟨Nat.le_refl _, Nat.le_refl _⟩ (fun H locs hw => ?_)
  refine y_top (y := (-2000001)) (jStO_h jHas_m1) ?_
  refine lv_ldc (v := (-2000001)) S.1 S.2.1 S.2.2.2.1 (S.2.2.2.2 _ k_L_refusesAny_37) dL_refusesAny_228 ?_
  refine lv_icmp_ne (tgt := 398) S.1 S.2.1 dL_refusesAny_230 (by decide) (fun c => absurd (by decide) c) (fun _ => ?_) 
  refine lv_aload_n S.1 S.2.1 dL_refusesAny_233 rfl (lv_at hl 1 rfl) ?_
  refine lv_iconst (v := 0) S.1 S.2.1 dL_refusesAny_234 (by decide) ?_
  refine lv_iload_n S.1 S.2.1 dL_refusesAny_235 rfl (lv_at hl 2 rfl) ?_
  refine lv_if_ne (tgt := 243) S.1 S.2.1 dL_refusesAny_236 (by decide) (fun c => absurd (by decide) c) (fun _ => ?_) 
  refine lv_iconst (v := (-1)) S.1 S.2.1 dL_refusesAny_239 (by decide) ?_
  refine lv_goto (tgt := 245) S.1 S.2.1 dL_refusesAny_240 (by decide) ?_
  refine q_stageOf hv h10 (rest := []) S hw P hl.1 (cwV 2 S.2.2.2.2 gL_refusesAny_X5_stageOf rfl rfl rfl (by decide +kernel) ⟨Nat.le_of_ble_eq_true rfl, Nat.le_of_ble_eq_true rfl⟩) (Nat.le_of_ble_eq_true rfl) dL_refusesAny_245 ⟨Nat.le_refl _, Nat.le_refl _⟩ (fun H locs hw => ?_)
  refine y_top (y := (-2000001)) (jStO_y (by decide) (by decide) (by decide) (by decide) (by decide) (by decide)) ?_
  refine lv_ldc (v := (-2000001)) S.1 S.2.1 S.2.2.2.1 (S.2.2.2.2 _ k_L_refusesAny_37) dL_refusesAny_248 ?_
  refine lv_icmp_ne (tgt := 398) S.1 S.2.1 dL_refusesAny_250 (by decide) (fun c => absurd (by decide) c) (fun _ => ?_) 
  refine lv_aload_n S.1 S.2.1 dL_refusesAny_253 rfl (lv_at hl 1 rfl) ?_
  refine lv_iload_n S.1 S.2.1 dL_refusesAny_254 rfl (lv_at hl 2 rfl) ?_
  refine lv_if_ne (tgt := 262) S.1 S.2.1 dL_refusesAny_255 (by decide) (fun c => absurd (by decide) c) (fun _ => ?_) 
  refine lv_iconst (v := (-1)) S.1 S.2.1 dL_refusesAny_258 (by decide) ?_
  refine lv_goto (tgt := 264) S.1 S.2.1 dL_refusesAny_259 (by decide) ?_
  refine lv_iload_n S.1 S.2.1 dL_refusesAny_264 rfl (lv_at hl 2 rfl) ?_
  refine lv_if_ne (tgt := 272) S.1 S.2.1 dL_refusesAny_265 (by decide) (fun c => absurd (by decide) c) (fun _ => ?_) 
  refine lv_iconst (v := 0) S.1 S.2.1 dL_refusesAny_268 (by decide) ?_
  refine lv_goto (tgt := 274) S.1 S.2.1 dL_refusesAny_269 (by decide) ?_
  refine q_outputOf hv h10 hB2 (rest := []) S hw P hl.1 (cwV 2 S.2.2.2.2 gL_refusesAny_X5_outputOf rfl rfl rfl (by decide +kernel) ⟨Nat.le_of_ble_eq_true rfl, Nat.le_of_ble_eq_true rfl⟩) (Nat.le_of_ble_eq_true rfl) dL_refusesAny_274 ⟨Nat.le_refl _, Nat.le_refl _⟩ (fun H locs hw => ?_)
  refine y_top (y := (-2000001)) (jOuR_x (by decide)) ?_
  refine lv_ldc (v := (-2000001)) S.1 S.2.1 S.2.2.2.1 (S.2.2.2.2 _ k_L_refusesAny_37) dL_refusesAny_277 ?_
  refine lv_icmp_ne (tgt := 398) S.1 S.2.1 dL_refusesAny_279 (by decide) (fun c => absurd (by decide) c) (fun _ => ?_) 
  refine lv_aload_n S.1 S.2.1 dL_refusesAny_282 rfl (lv_at hl 1 rfl) ?_
  refine lv_iconst (v := 0) S.1 S.2.1 dL_refusesAny_283 (by decide) ?_
  refine lv_iconst (v := (-1)) S.1 S.2.1 dL_refusesAny_284 (by decide) ?_
  refine q_outputOf hv h10 hB2 (rest := []) S hw P hl.1 (cwV 2 S.2.2.2.2 gL_refusesAny_X5_outputOf rfl rfl rfl (by decide +kernel) ⟨Nat.le_of_ble_eq_true rfl, Nat.le_of_ble_eq_true rfl⟩) (Nat.le_of_ble_eq_true rfl) dL_refusesAny_285 ⟨Nat.le_refl _, Nat.le_refl _⟩ (fun H locs hw => ?_)
  refine y_top (y := (-2000001)) (jOuR_y (by decide)) ?_
  refine lv_ldc (v := (-2000001)) S.1 S.2.1 S.2.2.2.1 (S.2.2.2.2 _ k_L_refusesAny_37) dL_refusesAny_288 ?_
  refine lv_icmp_ne (tgt := 398) S.1 S.2.1 dL_refusesAny_290 (by decide) (fun c => absurd (by decide) c) (fun _ => ?_) 
  refine lv_aload_n S.1 S.2.1 dL_refusesAny_293 rfl (lv_at hl 1 rfl) ?_
  refine lv_bipush (v := 16) S.1 S.2.1 dL_refusesAny_294 (by decide) ?_
  refine lv_iconst (v := 0) S.1 S.2.1 dL_refusesAny_296 (by decide) ?_
  refine q_outputOf hv h10 hB2 (rest := []) S hw P hl.1 (cwV 2 S.2.2.2.2 gL_refusesAny_X5_outputOf rfl rfl rfl (by decide +kernel) ⟨Nat.le_of_ble_eq_true rfl, Nat.le_of_ble_eq_true rfl⟩) (Nat.le_of_ble_eq_true rfl) dL_refusesAny_297 ⟨Nat.le_refl _, Nat.le_refl _⟩ (fun H locs hw => ?_)
  refine y_top (y := (-2000004)) (jOuR_16) ?_
  refine lv_ldc (v := (-2000004)) S.1 S.2.1 S.2.2.2.1 (S.2.2.2.2 _ k_L_refusesAny_52) dL_refusesAny_300 ?_
  refine lv_icmp_ne (tgt := 398) S.1 S.2.1 dL_refusesAny_302 (by decide) (fun c => absurd (by decide) c) (fun _ => ?_) 
  refine lv_aload_n S.1 S.2.1 dL_refusesAny_305 rfl (lv_at hl 1 rfl) ?_
  refine lv_iload_n S.1 S.2.1 dL_refusesAny_306 rfl (lv_at hl 2 rfl) ?_
  refine lv_if_ne (tgt := 314) S.1 S.2.1 dL_refusesAny_307 (by decide) (fun c => absurd (by decide) c) (fun _ => ?_) 
  refine lv_iconst (v := (-1)) S.1 S.2.1 dL_refusesAny_310 (by decide) ?_
  refine lv_goto (tgt := 315) S.1 S.2.1 dL_refusesAny_311 (by decide) ?_
  refine lv_iconst (v := 0) S.1 S.2.1 dL_refusesAny_315 (by decide) ?_
  refine q_pairOf  (rest := []) S hw P hl.1 (cwV 2 S.2.2.2.2 gL_refusesAny_X5_pairOf rfl rfl rfl (by decide +kernel) ⟨Nat.le_of_ble_eq_true rfl, Nat.le_of_ble_eq_true rfl⟩) (Nat.le_of_ble_eq_true rfl) dL_refusesAny_316 ⟨Nat.le_refl _, Nat.le_refl _⟩ (fun H locs hw => ?_)
  refine y_top (y := (-2000001)) (jPrO_x (by decide)) ?_
  refine lv_ldc (v := (-2000001)) S.1 S.2.1 S.2.2.2.1 (S.2.2.2.2 _ k_L_refusesAny_37) dL_refusesAny_319 ?_
  refine lv_icmp_ne (tgt := 398) S.1 S.2.1 dL_refusesAny_321 (by decide) (fun c => absurd (by decide) c) (fun _ => ?_) 
  refine lv_aload_n S.1 S.2.1 dL_refusesAny_324 rfl (lv_at hl 1 rfl) ?_
  refine lv_iconst (v := 0) S.1 S.2.1 dL_refusesAny_325 (by decide) ?_
  refine lv_iload_n S.1 S.2.1 dL_refusesAny_326 rfl (lv_at hl 2 rfl) ?_
  refine lv_if_ne (tgt := 334) S.1 S.2.1 dL_refusesAny_327 (by decide) (fun c => absurd (by decide) c) (fun _ => ?_) 
  refine lv_iconst (v := (-1)) S.1 S.2.1 dL_refusesAny_330 (by decide) ?_
  refine lv_goto (tgt := 335) S.1 S.2.1 dL_refusesAny_331 (by decide) ?_
  refine q_pairOf  (rest := []) S hw P hl.1 (cwV 2 S.2.2.2.2 gL_refusesAny_X5_pairOf rfl rfl rfl (by decide +kernel) ⟨Nat.le_of_ble_eq_true rfl, Nat.le_of_ble_eq_true rfl⟩) (Nat.le_of_ble_eq_true rfl) dL_refusesAny_335 ⟨Nat.le_refl _, Nat.le_refl _⟩ (fun H locs hw => ?_)
  refine y_top (y := (-2000001)) (jPrO_y (by decide)) ?_
  refine lv_ldc (v := (-2000001)) S.1 S.2.1 S.2.2.2.1 (S.2.2.2.2 _ k_L_refusesAny_37) dL_refusesAny_338 ?_
  refine lv_icmp_ne (tgt := 398) S.1 S.2.1 dL_refusesAny_340 (by decide) (fun c => absurd (by decide) c) (fun _ => ?_) 
  refine lv_aload_n S.1 S.2.1 dL_refusesAny_343 rfl (lv_at hl 1 rfl) ?_
  refine lv_iload_n S.1 S.2.1 dL_refusesAny_344 rfl (lv_at hl 2 rfl) ?_
  refine lv_if_ne (tgt := 352) S.1 S.2.1 dL_refusesAny_345 (by decide) (fun c => absurd (by decide) c) (fun _ => ?_) 
  refine lv_iconst (v := (-1)) S.1 S.2.1 dL_refusesAny_348 (by decide) ?_
  refine lv_goto (tgt := 354) S.1 S.2.1 dL_refusesAny_349 (by decide) ?_
  refine q_mended  (rest := []) S hw P hl.1 (cwV 1 S.2.2.2.2 gL_refusesAny_X5_mended rfl rfl rfl (by decide +kernel) ⟨Nat.le_of_ble_eq_true rfl, Nat.le_of_ble_eq_true rfl⟩) (Nat.le_of_ble_eq_true rfl) dL_refusesAny_354 ⟨Nat.le_refl _, Nat.le_refl _⟩ (fun H locs hw => ?_)
  refine y_top (y := (-2000001)) (jMdd_x (by decide)) ?_
  refine lv_ldc (v := (-2000001)) S.1 S.2.1 S.2.2.2.1 (S.2.2.2.2 _ k_L_refusesAny_37) dL_refusesAny_357 ?_
  refine lv_icmp_ne (tgt := 398) S.1 S.2.1 dL_refusesAny_359 (by decide) (fun c => absurd (by decide) c) (fun _ => ?_) 
  refine lv_aload_n S.1 S.2.1 dL_refusesAny_362 rfl (lv_at hl 1 rfl) ?_
  refine lv_iload_n S.1 S.2.1 dL_refusesAny_363 rfl (lv_at hl 2 rfl) ?_
  refine lv_if_ne (tgt := 371) S.1 S.2.1 dL_refusesAny_364 (by decide) (fun c => absurd (by decide) c) (fun _ => ?_) 
  refine lv_iconst (v := (-1)) S.1 S.2.1 dL_refusesAny_367 (by decide) ?_
  refine lv_goto (tgt := 372) S.1 S.2.1 dL_refusesAny_368 (by decide) ?_
  refine q_errors_inv (by decide) (rest := []) S hw P hl.1 (cwV 1 S.2.2.2.2 gL_refusesAny_X5_errors rfl rfl rfl (by decide +kernel) ⟨Nat.le_of_ble_eq_true rfl, Nat.le_of_ble_eq_true rfl⟩) (Nat.le_of_ble_eq_true rfl) dL_refusesAny_372 ⟨Nat.le_refl _, Nat.le_refl _⟩ (fun H locs hw => ?_)
  refine lv_ldc (v := (-2000001)) S.1 S.2.1 S.2.2.2.1 (S.2.2.2.2 _ k_L_refusesAny_37) dL_refusesAny_375 ?_
  refine lv_icmp_ne (tgt := 398) S.1 S.2.1 dL_refusesAny_377 (by decide) (fun c => absurd (by decide) c) (fun _ => ?_) 
  refine lv_aload_n S.1 S.2.1 dL_refusesAny_380 rfl (lv_at hl 1 rfl) ?_
  refine lv_iload_n S.1 S.2.1 dL_refusesAny_381 rfl (lv_at hl 2 rfl) ?_
  refine lv_if_ne (tgt := 389) S.1 S.2.1 dL_refusesAny_382 (by decide) (fun c => absurd (by decide) c) (fun _ => ?_) 
  refine lv_iconst (v := (-1)) S.1 S.2.1 dL_refusesAny_385 (by decide) ?_
  refine lv_goto (tgt := 390) S.1 S.2.1 dL_refusesAny_386 (by decide) ?_
  refine q_account hv h10 (rest := []) S hw P hl.1 (cwV 1 S.2.2.2.2 gL_refusesAny_X5_account rfl rfl rfl (by decide +kernel) ⟨Nat.le_of_ble_eq_true rfl, Nat.le_of_ble_eq_true rfl⟩) (Nat.le_of_ble_eq_true rfl) dL_refusesAny_390 ⟨Nat.le_refl _, Nat.le_refl _⟩ (fun H locs hw => ?_)
  refine y_top (y := (-2000001)) (jAcc_x (by decide) (by decide) (by decide) (by decide) (by decide)) ?_
  refine lv_ldc (v := (-2000001)) S.1 S.2.1 S.2.2.2.1 (S.2.2.2.2 _ k_L_refusesAny_37) dL_refusesAny_393 ?_
  refine lv_icmp_eq (tgt := 400) S.1 S.2.1 dL_refusesAny_395 (by decide) (fun _ => ?_) (fun c => absurd (by decide) c) 
  refine lv_aload_n S.1 S.2.1 dL_refusesAny_400 rfl (lv_at hl 1 rfl) ?_
  refine lv_iload_n S.1 S.2.1 dL_refusesAny_401 rfl (lv_at hl 2 rfl) ?_
  refine lv_if_ne (tgt := 409) S.1 S.2.1 dL_refusesAny_402 (by decide) (fun c => absurd (by decide) c) (fun _ => ?_) 
  refine lv_iconst (v := (-1)) S.1 S.2.1 dL_refusesAny_405 (by decide) ?_
  refine lv_goto (tgt := 412) S.1 S.2.1 dL_refusesAny_406 (by decide) ?_
  refine lv_iconst (v := 1) S.1 S.2.1 dL_refusesAny_412 (by decide) ?_
  refine q_echo_inv hv h10 (Or.inl (by decide)) (rest := []) S hw P hl.1 (cwV 2 S.2.2.2.2 gL_refusesAny_X5_echo rfl rfl rfl (by decide +kernel) ⟨Nat.le_of_ble_eq_true rfl, Nat.le_of_ble_eq_true rfl⟩) (Nat.le_of_ble_eq_true rfl) dL_refusesAny_413 ⟨Nat.le_refl _, Nat.le_refl _⟩ (fun H locs hw => ?_)
  refine lv_ldc (v := (-2000001)) S.1 S.2.1 S.2.2.2.1 (S.2.2.2.2 _ k_L_refusesAny_37) dL_refusesAny_416 ?_
  refine lv_icmp_ne (tgt := 540) S.1 S.2.1 dL_refusesAny_418 (by decide) (fun c => absurd (by decide) c) (fun _ => ?_) 
  refine lv_aload_n S.1 S.2.1 dL_refusesAny_421 rfl (lv_at hl 1 rfl) ?_
  refine lv_iconst (v := 5) S.1 S.2.1 dL_refusesAny_422 (by decide) ?_
  refine lv_iload_n S.1 S.2.1 dL_refusesAny_423 rfl (lv_at hl 2 rfl) ?_
  refine lv_if_ne (tgt := 431) S.1 S.2.1 dL_refusesAny_424 (by decide) (fun c => absurd (by decide) c) (fun _ => ?_) 
  refine lv_iconst (v := 0) S.1 S.2.1 dL_refusesAny_427 (by decide) ?_
  refine lv_goto (tgt := 433) S.1 S.2.1 dL_refusesAny_428 (by decide) ?_
  refine q_echo_inv hv h10 (Or.inr (by decide)) (rest := []) S hw P hl.1 (cwV 2 S.2.2.2.2 gL_refusesAny_X5_echo rfl rfl rfl (by decide +kernel) ⟨Nat.le_of_ble_eq_true rfl, Nat.le_of_ble_eq_true rfl⟩) (Nat.le_of_ble_eq_true rfl) dL_refusesAny_433 ⟨Nat.le_refl _, Nat.le_refl _⟩ (fun H locs hw => ?_)
  refine lv_ldc (v := (-2000001)) S.1 S.2.1 S.2.2.2.1 (S.2.2.2.2 _ k_L_refusesAny_37) dL_refusesAny_436 ?_
  refine lv_icmp_ne (tgt := 540) S.1 S.2.1 dL_refusesAny_438 (by decide) (fun c => absurd (by decide) c) (fun _ => ?_) 
  refine lv_aload_n S.1 S.2.1 dL_refusesAny_441 rfl (lv_at hl 1 rfl) ?_
  refine lv_iload_n S.1 S.2.1 dL_refusesAny_442 rfl (lv_at hl 2 rfl) ?_
  refine lv_if_ne (tgt := 450) S.1 S.2.1 dL_refusesAny_443 (by decide) (fun c => absurd (by decide) c) (fun _ => ?_) 
  refine lv_iconst (v := (-1)) S.1 S.2.1 dL_refusesAny_446 (by decide) ?_
  refine lv_goto (tgt := 451) S.1 S.2.1 dL_refusesAny_447 (by decide) ?_
  refine q_worn_inv hv h10 h1n (by decide) (rest := []) S hw P hl.1 (cwV 1 S.2.2.2.2 gL_refusesAny_X5_worn rfl rfl rfl (by decide +kernel) ⟨Nat.le_of_ble_eq_true rfl, Nat.le_of_ble_eq_true rfl⟩) (Nat.le_of_ble_eq_true rfl) dL_refusesAny_451 ⟨Nat.le_refl _, Nat.le_refl _⟩ (fun H locs hw => ?_)
  refine lv_ldc (v := (-2000001)) S.1 S.2.1 S.2.2.2.1 (S.2.2.2.2 _ k_L_refusesAny_37) dL_refusesAny_454 ?_
  refine lv_icmp_ne (tgt := 540) S.1 S.2.1 dL_refusesAny_456 (by decide) (fun c => absurd (by decide) c) (fun _ => ?_) 
  refine lv_aload_n S.1 S.2.1 dL_refusesAny_459 rfl (lv_at hl 1 rfl) ?_
  refine lv_iload_n S.1 S.2.1 dL_refusesAny_460 rfl (lv_at hl 2 rfl) ?_
  refine lv_if_ne (tgt := 468) S.1 S.2.1 dL_refusesAny_461 (by decide) (fun c => absurd (by decide) c) (fun _ => ?_) 
  refine lv_iconst (v := (-1)) S.1 S.2.1 dL_refusesAny_464 (by decide) ?_
  refine lv_goto (tgt := 470) S.1 S.2.1 dL_refusesAny_465 (by decide) ?_
  refine q_count  (rest := []) S hw P hl.1 (cwV 1 S.2.2.2.2 gL_refusesAny_X5_count rfl rfl rfl (by decide +kernel) ⟨Nat.le_of_ble_eq_true rfl, Nat.le_of_ble_eq_true rfl⟩) (Nat.le_of_ble_eq_true rfl) dL_refusesAny_470 ⟨Nat.le_refl _, Nat.le_refl _⟩ (fun H locs hw => ?_)
  refine y_top (y := (-2000001)) (jCount_bad (by decide) (by decide) (by decide) (by decide) (by decide) (by decide) (by decide) (by decide) (by decide) (by decide)) ?_
  refine lv_ldc (v := (-2000001)) S.1 S.2.1 S.2.2.2.1 (S.2.2.2.2 _ k_L_refusesAny_37) dL_refusesAny_473 ?_
  refine lv_icmp_ne (tgt := 540) S.1 S.2.1 dL_refusesAny_475 (by decide) (fun c => absurd (by decide) c) (fun _ => ?_) 
  refine lv_aload_n S.1 S.2.1 dL_refusesAny_478 rfl (lv_at hl 1 rfl) ?_
  refine lv_iload_n S.1 S.2.1 dL_refusesAny_479 rfl (lv_at hl 2 rfl) ?_
  refine lv_if_ne (tgt := 488) S.1 S.2.1 dL_refusesAny_480 (by decide) (fun c => absurd (by decide) c) (fun _ => ?_) 
  refine lv_bipush (v := 19) S.1 S.2.1 dL_refusesAny_483 (by decide) ?_
  refine lv_goto (tgt := 490) S.1 S.2.1 dL_refusesAny_485 (by decide) ?_
  refine q_count  (rest := []) S hw P hl.1 (cwV 1 S.2.2.2.2 gL_refusesAny_X5_count rfl rfl rfl (by decide +kernel) ⟨Nat.le_of_ble_eq_true rfl, Nat.le_of_ble_eq_true rfl⟩) (Nat.le_of_ble_eq_true rfl) dL_refusesAny_490 ⟨Nat.le_refl _, Nat.le_refl _⟩ (fun H locs hw => ?_)
  refine y_top (y := (-2000001)) (jCount_bad (by decide) (by decide) (by decide) (by decide) (by decide) (by decide) (by decide) (by decide) (by decide) (by decide)) ?_
  refine lv_ldc (v := (-2000001)) S.1 S.2.1 S.2.2.2.1 (S.2.2.2.2 _ k_L_refusesAny_37) dL_refusesAny_493 ?_
  refine lv_icmp_ne (tgt := 540) S.1 S.2.1 dL_refusesAny_495 (by decide) (fun c => absurd (by decide) c) (fun _ => ?_) 
  refine lv_aload_n S.1 S.2.1 dL_refusesAny_498 rfl (lv_at hl 1 rfl) ?_
  refine lv_iload_n S.1 S.2.1 dL_refusesAny_499 rfl (lv_at hl 2 rfl) ?_
  refine lv_if_ne (tgt := 508) S.1 S.2.1 dL_refusesAny_500 (by decide) (fun c => absurd (by decide) c) (fun _ => ?_) 
  refine lv_bipush (v := 31) S.1 S.2.1 dL_refusesAny_503 (by decide) ?_
  refine lv_goto (tgt := 510) S.1 S.2.1 dL_refusesAny_505 (by decide) ?_
  refine q_type_inv hL hL2 (by decide) (rest := []) S hw P hl.1 (cwV 1 S.2.2.2.2 gL_refusesAny_X5_type rfl rfl rfl (by decide +kernel) ⟨Nat.le_of_ble_eq_true rfl, Nat.le_of_ble_eq_true rfl⟩) (Nat.le_of_ble_eq_true rfl) dL_refusesAny_510 ⟨Nat.le_refl _, Nat.le_refl _⟩ (fun H locs hw => ?_)
  refine lv_ldc (v := (-2000001)) S.1 S.2.1 S.2.2.2.1 (S.2.2.2.2 _ k_L_refusesAny_37) dL_refusesAny_513 ?_
  refine lv_icmp_ne (tgt := 540) S.1 S.2.1 dL_refusesAny_515 (by decide) (fun c => absurd (by decide) c) (fun _ => ?_) 
  refine lv_aload_n S.1 S.2.1 dL_refusesAny_518 rfl (lv_at hl 1 rfl) ?_
  refine lv_iload_n S.1 S.2.1 dL_refusesAny_519 rfl (lv_at hl 2 rfl) ?_
  refine lv_if_ne (tgt := 527) S.1 S.2.1 dL_refusesAny_520 (by decide) (fun c => absurd (by decide) c) (fun _ => ?_) 
  refine lv_iconst (v := (-1)) S.1 S.2.1 dL_refusesAny_523 (by decide) ?_
  refine lv_goto (tgt := 528) S.1 S.2.1 dL_refusesAny_524 (by decide) ?_
  refine q_fault_inv hL hL2 (by decide) (rest := []) S hw P hl.1 (cwV 1 S.2.2.2.2 gL_refusesAny_X5_fault rfl rfl rfl (by decide +kernel) ⟨Nat.le_of_ble_eq_true rfl, Nat.le_of_ble_eq_true rfl⟩) (Nat.le_of_ble_eq_true rfl) dL_refusesAny_528 ⟨Nat.le_refl _, Nat.le_refl _⟩ (fun H locs hw => ?_)
  refine lv_ldc (v := (-2000001)) S.1 S.2.1 S.2.2.2.1 (S.2.2.2.2 _ k_L_refusesAny_37) dL_refusesAny_531 ?_
  refine lv_icmp_ne (tgt := 540) S.1 S.2.1 dL_refusesAny_533 (by decide) (fun c => absurd (by decide) c) (fun _ => ?_) 
  refine lv_iconst (v := 1) S.1 S.2.1 dL_refusesAny_536 (by decide) ?_
  refine lv_goto (tgt := 541) S.1 S.2.1 dL_refusesAny_537 (by decide) ?_
  exact ret _ _ _ _ _ (y_W_eq hw (List.append_nil _)) rfl dL_refusesAny_541
theorem k_L_refusesAny_45 : Cond.constant RL 45 (100001) ∈ wsL_refusesAny := by decide +kernel
set_option maxHeartbeats 8000000 in
set_option maxRecDepth 100000 in
theorem c_L_refusesAny_1 (l : Launch) (D : va_G) (cI cC cL : ClassId) (Q : Nat → Nat → Nat) (Z : Nat → U) (u w : U) (k : Nat) (g : Nat → U) (P : PW Z u w k g) (n B : Nat) (hv : lOk u n B) (h10 : n ≤ 10) (hB2 : B ≤ 2000) (L : Nat) (hL : w 1 0 = nI L) (hL2 : L ≤ 60) (h1n : 1 ≤ n) : y_MIX l yL_refusesAny wsL_refusesAny 7 163 D cI cC cL [.ref (Q 8 0), .int 1] (cWd cI cC cL Q Z) 1 (fun _ : Unit => cWd cI cC cL Q Z) () := by
  refine y_startIX (cc := cL_refusesAny) (maxL := 3) (ret := some .boolean) (by decide +kernel) rfl (Nat.le_of_ble_eq_true rfl) ⟨_, rfl, fun x h => by rcases h rfl with rfl | rfl <;> rfl⟩ (fun _ => Or.inr rfl) ?_
  intro p e s mm args below meth c A QQ ls S hX hw ret hl
  have S : CallFix p mm c cL_refusesAny 3 s args wsL_refusesAny RL := S
  have hw : y_W D cI cC cL A s s.heap [] (cWd cI cC cL Q Z ++ []) := y_W_eq hw (List.append_nil _).symm
  have hl : lv_has ls 3 [(0, .ref (Q 8 0)), (1, .int 1)] := hl
  refine lv_aload_n S.1 S.2.1 dL_refusesAny_0 rfl (lv_at hl 0 rfl) ?_
  refine lv_iconst (v := 0) S.1 S.2.1 dL_refusesAny_1 (by decide) ?_
  refine q_count  (rest := []) S hw P hl.1 (cwV 1 S.2.2.2.2 gL_refusesAny_X5_count rfl rfl rfl (by decide +kernel) ⟨Nat.le_of_ble_eq_true rfl, Nat.le_of_ble_eq_true rfl⟩) (Nat.le_of_ble_eq_true rfl) dL_refusesAny_2 ⟨Nat.le_refl _, Nat.le_refl _⟩ (fun H locs hw => ?_)
  refine y_top (y := (nI n)) ((jCount_0 _).trans hv.1) ?_
  refine lv_istore_n (lv' := [(2, .int (nI n)), (0, .ref (Q 8 0)), (1, .int 1)]) S.1 S.2.1 dL_refusesAny_5 rfl hl (by decide) rfl (fun ls hl => ?_)
  refine lv_aload_n S.1 S.2.1 dL_refusesAny_6 rfl (lv_at hl 1 rfl) ?_
  refine lv_iload_n S.1 S.2.1 dL_refusesAny_7 rfl (lv_at hl 2 rfl) ?_
  refine lv_if_ne (tgt := 15) S.1 S.2.1 dL_refusesAny_8 (by decide) (fun _ => ?_) (fun c => absurd c (by decide)) 
  refine lv_bipush (v := 11) S.1 S.2.1 dL_refusesAny_15 (by decide) ?_
  refine q_begin_inv (by decide) (rest := []) S hw P hl.1 (cwV 1 S.2.2.2.2 gL_refusesAny_X5_begin rfl rfl rfl (by decide +kernel) ⟨Nat.le_of_ble_eq_true rfl, Nat.le_of_ble_eq_true rfl⟩) (Nat.le_of_ble_eq_true rfl) dL_refusesAny_17 ⟨Nat.le_refl _, Nat.le_refl _⟩ (fun H locs hw => ?_)
  refine lv_ldc (v := (-2000001)) S.1 S.2.1 S.2.2.2.1 (S.2.2.2.2 _ k_L_refusesAny_37) dL_refusesAny_20 ?_
  refine lv_icmp_ne (tgt := 212) S.1 S.2.1 dL_refusesAny_22 (by decide) (fun c => absurd (by decide) c) (fun _ => ?_) 
  refine lv_aload_n S.1 S.2.1 dL_refusesAny_25 rfl (lv_at hl 1 rfl) ?_
  refine lv_iload_n S.1 S.2.1 dL_refusesAny_26 rfl (lv_at hl 2 rfl) ?_
  refine lv_if_ne (tgt := 34) S.1 S.2.1 dL_refusesAny_27 (by decide) (fun _ => ?_) (fun c => absurd c (by decide)) 
  refine lv_iload_n S.1 S.2.1 dL_refusesAny_34 rfl (lv_at hl 0 rfl) ?_
  refine lv_iconst (v := 0) S.1 S.2.1 dL_refusesAny_35 (by decide) ?_
  refine lv_iconst (v := 0) S.1 S.2.1 dL_refusesAny_36 (by decide) ?_
  refine q_stage_inv hv h10 (Or.inl (by rw [hv.1]; exact jHas_self)) (rest := []) S hw P hl.1 (cwV 3 S.2.2.2.2 gL_refusesAny_X5_stage rfl rfl rfl (by decide +kernel) ⟨Nat.le_of_ble_eq_true rfl, Nat.le_of_ble_eq_true rfl⟩) (Nat.le_of_ble_eq_true rfl) dL_refusesAny_37 ⟨Nat.le_refl _, Nat.le_refl _⟩ (fun H locs hw => ?_)
  refine lv_ldc (v := (-2000001)) S.1 S.2.1 S.2.2.2.1 (S.2.2.2.2 _ k_L_refusesAny_37) dL_refusesAny_40 ?_
  refine lv_icmp_ne (tgt := 212) S.1 S.2.1 dL_refusesAny_42 (by decide) (fun c => absurd (by decide) c) (fun _ => ?_) 
  refine lv_aload_n S.1 S.2.1 dL_refusesAny_45 rfl (lv_at hl 1 rfl) ?_
  refine lv_iconst (v := 0) S.1 S.2.1 dL_refusesAny_46 (by decide) ?_
  refine lv_iload_n S.1 S.2.1 dL_refusesAny_47 rfl (lv_at hl 2 rfl) ?_
  refine lv_if_ne (tgt := 55) S.1 S.2.1 dL_refusesAny_48 (by decide) (fun _ => ?_) (fun c => absurd c (by decide)) 
  refine lv_sipush (v := 301) S.1 S.2.1 dL_refusesAny_55 (by decide) ?_
  refine lv_iconst (v := 0) S.1 S.2.1 dL_refusesAny_58 (by decide) ?_
  refine q_stage_inv hv h10 (Or.inr (Or.inl (by decide))) (rest := []) S hw P hl.1 (cwV 3 S.2.2.2.2 gL_refusesAny_X5_stage rfl rfl rfl (by decide +kernel) ⟨Nat.le_of_ble_eq_true rfl, Nat.le_of_ble_eq_true rfl⟩) (Nat.le_of_ble_eq_true rfl) dL_refusesAny_59 ⟨Nat.le_refl _, Nat.le_refl _⟩ (fun H locs hw => ?_)
  refine lv_ldc (v := (-2000001)) S.1 S.2.1 S.2.2.2.1 (S.2.2.2.2 _ k_L_refusesAny_37) dL_refusesAny_62 ?_
  refine lv_icmp_ne (tgt := 212) S.1 S.2.1 dL_refusesAny_64 (by decide) (fun c => absurd (by decide) c) (fun _ => ?_) 
  refine lv_aload_n S.1 S.2.1 dL_refusesAny_67 rfl (lv_at hl 1 rfl) ?_
  refine lv_iconst (v := 0) S.1 S.2.1 dL_refusesAny_68 (by decide) ?_
  refine lv_iconst (v := 0) S.1 S.2.1 dL_refusesAny_69 (by decide) ?_
  refine lv_iload_n S.1 S.2.1 dL_refusesAny_70 rfl (lv_at hl 2 rfl) ?_
  refine lv_if_ne (tgt := 78) S.1 S.2.1 dL_refusesAny_71 (by decide) (fun _ => ?_) (fun c => absurd c (by decide)) 
  refine lv_sipush (v := 301) S.1 S.2.1 dL_refusesAny_78 (by decide) ?_
  refine q_stage_inv hv h10 (Or.inr (Or.inr (by decide))) (rest := []) S hw P hl.1 (cwV 3 S.2.2.2.2 gL_refusesAny_X5_stage rfl rfl rfl (by decide +kernel) ⟨Nat.le_of_ble_eq_true rfl, Nat.le_of_ble_eq_true rfl⟩) (Nat.le_of_ble_eq_true rfl) dL_refusesAny_81 ⟨Nat.le_refl _, Nat.le_refl _⟩ (fun H locs hw => ?_)
  refine lv_ldc (v := (-2000001)) S.1 S.2.1 S.2.2.2.1 (S.2.2.2.2 _ k_L_refusesAny_37) dL_refusesAny_84 ?_
  refine lv_icmp_ne (tgt := 212) S.1 S.2.1 dL_refusesAny_86 (by decide) (fun c => absurd (by decide) c) (fun _ => ?_) 
  refine lv_aload_n S.1 S.2.1 dL_refusesAny_89 rfl (lv_at hl 1 rfl) ?_
  refine lv_iload_n S.1 S.2.1 dL_refusesAny_90 rfl (lv_at hl 2 rfl) ?_
  refine lv_if_ne (tgt := 98) S.1 S.2.1 dL_refusesAny_91 (by decide) (fun _ => ?_) (fun c => absurd c (by decide)) 
  refine lv_iconst (v := 5) S.1 S.2.1 dL_refusesAny_98 (by decide) ?_
  refine lv_iconst (v := 1) S.1 S.2.1 dL_refusesAny_99 (by decide) ?_
  refine q_set_inv (Or.inl (by decide)) (rest := []) S hw P hl.1 hX (cwV 2 S.2.2.2.2 gL_refusesAny_X5_set rfl rfl rfl (by decide +kernel) ⟨Nat.le_of_ble_eq_true rfl, Nat.le_of_ble_eq_true rfl⟩) (Nat.le_of_ble_eq_true rfl) dL_refusesAny_100 ⟨Nat.le_refl _, Nat.le_refl _⟩ (fun H locs hw => ?_)
  refine lv_ldc (v := (-2000001)) S.1 S.2.1 S.2.2.2.1 (S.2.2.2.2 _ k_L_refusesAny_37) dL_refusesAny_103 ?_
  refine lv_icmp_ne (tgt := 212) S.1 S.2.1 dL_refusesAny_105 (by decide) (fun c => absurd (by decide) c) (fun _ => ?_) 
  refine lv_aload_n S.1 S.2.1 dL_refusesAny_108 rfl (lv_at hl 1 rfl) ?_
  refine lv_iconst (v := 0) S.1 S.2.1 dL_refusesAny_109 (by decide) ?_
  refine lv_iload_n S.1 S.2.1 dL_refusesAny_110 rfl (lv_at hl 2 rfl) ?_
  refine lv_if_ne (tgt := 120) S.1 S.2.1 dL_refusesAny_111 (by decide) (fun _ => ?_) (fun c => absurd c (by decide)) 
  refine lv_ldc (v := 100001) S.1 S.2.1 S.2.2.2.1 (S.2.2.2.2 _ k_L_refusesAny_45) dL_refusesAny_120 ?_
  refine q_set_inv (Or.inr (by decide)) (rest := []) S hw P hl.1 hX (cwV 2 S.2.2.2.2 gL_refusesAny_X5_set rfl rfl rfl (by decide +kernel) ⟨Nat.le_of_ble_eq_true rfl, Nat.le_of_ble_eq_true rfl⟩) (Nat.le_of_ble_eq_true rfl) dL_refusesAny_122 ⟨Nat.le_refl _, Nat.le_refl _⟩ (fun H locs hw => ?_)
  refine lv_ldc (v := (-2000001)) S.1 S.2.1 S.2.2.2.1 (S.2.2.2.2 _ k_L_refusesAny_37) dL_refusesAny_125 ?_
  refine lv_icmp_ne (tgt := 212) S.1 S.2.1 dL_refusesAny_127 (by decide) (fun c => absurd (by decide) c) (fun _ => ?_) 
  refine lv_aload_n S.1 S.2.1 dL_refusesAny_130 rfl (lv_at hl 1 rfl) ?_
  refine lv_iconst (v := 1) S.1 S.2.1 dL_refusesAny_131 (by decide) ?_
  refine lv_iload_n S.1 S.2.1 dL_refusesAny_132 rfl (lv_at hl 2 rfl) ?_
  refine lv_if_ne (tgt := 140) S.1 S.2.1 dL_refusesAny_133 (by decide) (fun _ => ?_) (fun c => absurd c (by decide)) 
  refine lv_bipush (v := 13) S.1 S.2.1 dL_refusesAny_140 (by decide) ?_
  refine q_set_inv (Or.inr (by decide)) (rest := []) S hw P hl.1 hX (cwV 2 S.2.2.2.2 gL_refusesAny_X5_set rfl rfl rfl (by decide +kernel) ⟨Nat.le_of_ble_eq_true rfl, Nat.le_of_ble_eq_true rfl⟩) (Nat.le_of_ble_eq_true rfl) dL_refusesAny_142 ⟨Nat.le_refl _, Nat.le_refl _⟩ (fun H locs hw => ?_)
  refine lv_ldc (v := (-2000001)) S.1 S.2.1 S.2.2.2.1 (S.2.2.2.2 _ k_L_refusesAny_37) dL_refusesAny_145 ?_
  refine lv_icmp_ne (tgt := 212) S.1 S.2.1 dL_refusesAny_147 (by decide) (fun c => absurd (by decide) c) (fun _ => ?_) 
  refine lv_aload_n S.1 S.2.1 dL_refusesAny_150 rfl (lv_at hl 1 rfl) ?_
  refine lv_iconst (v := 2) S.1 S.2.1 dL_refusesAny_151 (by decide) ?_
  refine lv_iload_n S.1 S.2.1 dL_refusesAny_152 rfl (lv_at hl 2 rfl) ?_
  refine lv_iadd S.1 S.2.1 dL_refusesAny_153 ?_
  refine y_top (y := 3) (by decide) ?_
  refine lv_iload_n S.1 S.2.1 dL_refusesAny_154 rfl (lv_at hl 2 rfl) ?_
  refine lv_if_ne (tgt := 162) S.1 S.2.1 dL_refusesAny_155 (by decide) (fun _ => ?_) (fun c => absurd c (by decide)) 
  refine lv_sipush (v := 10001) S.1 S.2.1 dL_refusesAny_162 (by decide) ?_
  refine q_set_inv (Or.inr (by decide)) (rest := []) S hw P hl.1 hX (cwV 2 S.2.2.2.2 gL_refusesAny_X5_set rfl rfl rfl (by decide +kernel) ⟨Nat.le_of_ble_eq_true rfl, Nat.le_of_ble_eq_true rfl⟩) (Nat.le_of_ble_eq_true rfl) dL_refusesAny_165 ⟨Nat.le_refl _, Nat.le_refl _⟩ (fun H locs hw => ?_)
  refine lv_ldc (v := (-2000001)) S.1 S.2.1 S.2.2.2.1 (S.2.2.2.2 _ k_L_refusesAny_37) dL_refusesAny_168 ?_
  refine lv_icmp_ne (tgt := 212) S.1 S.2.1 dL_refusesAny_170 (by decide) (fun c => absurd (by decide) c) (fun _ => ?_) 
  refine lv_aload_n S.1 S.2.1 dL_refusesAny_173 rfl (lv_at hl 1 rfl) ?_
  refine lv_iload_n S.1 S.2.1 dL_refusesAny_174 rfl (lv_at hl 2 rfl) ?_
  refine lv_if_ne (tgt := 182) S.1 S.2.1 dL_refusesAny_175 (by decide) (fun _ => ?_) (fun c => absurd c (by decide)) 
  refine lv_sipush (v := 10001) S.1 S.2.1 dL_refusesAny_182 (by decide) ?_
  refine q_give_inv hv h10 hB2 (by decide) (rest := []) S hw P hl.1 (cwV 1 S.2.2.2.2 gL_refusesAny_X5_give rfl rfl rfl (by decide +kernel) ⟨Nat.le_of_ble_eq_true rfl, Nat.le_of_ble_eq_true rfl⟩) (Nat.le_of_ble_eq_true rfl) dL_refusesAny_185 ⟨Nat.le_refl _, Nat.le_refl _⟩ (fun H locs hw => ?_)
  refine lv_ldc (v := (-2000001)) S.1 S.2.1 S.2.2.2.1 (S.2.2.2.2 _ k_L_refusesAny_37) dL_refusesAny_188 ?_
  refine lv_icmp_ne (tgt := 212) S.1 S.2.1 dL_refusesAny_190 (by decide) (fun c => absurd (by decide) c) (fun _ => ?_) 
  refine lv_aload_n S.1 S.2.1 dL_refusesAny_193 rfl (lv_at hl 1 rfl) ?_
  refine lv_iload_n S.1 S.2.1 dL_refusesAny_194 rfl (lv_at hl 2 rfl) ?_
  refine lv_if_ne (tgt := 202) S.1 S.2.1 dL_refusesAny_195 (by decide) (fun _ => ?_) (fun c => absurd c (by decide)) 
  refine lv_bipush (v := 41) S.1 S.2.1 dL_refusesAny_202 (by decide) ?_
  refine q_idle_inv hv h10 hB2 (by decide) (rest := []) S hw P hl.1 (cwV 1 S.2.2.2.2 gL_refusesAny_X5_idle rfl rfl rfl (by decide +kernel) ⟨Nat.le_of_ble_eq_true rfl, Nat.le_of_ble_eq_true rfl⟩) (Nat.le_of_ble_eq_true rfl) dL_refusesAny_204 ⟨Nat.le_refl _, Nat.le_refl _⟩ (fun H locs hw => ?_)
  refine lv_ldc (v := (-2000001)) S.1 S.2.1 S.2.2.2.1 (S.2.2.2.2 _ k_L_refusesAny_37) dL_refusesAny_207 ?_
  refine lv_icmp_eq (tgt := 214) S.1 S.2.1 dL_refusesAny_209 (by decide) (fun _ => ?_) (fun c => absurd (by decide) c) 
  refine lv_aload_n S.1 S.2.1 dL_refusesAny_214 rfl (lv_at hl 1 rfl) ?_
  refine lv_iload_n S.1 S.2.1 dL_refusesAny_215 rfl (lv_at hl 2 rfl) ?_
  refine lv_if_ne (tgt := 223) S.1 S.2.1 dL_refusesAny_216 (by decide) (fun _ => ?_) (fun c => absurd c (by decide)) 
  refine lv_iload_n S.1 S.2.1 dL_refusesAny_223 rfl (lv_at hl 0 rfl) ?_
  refine lv_iconst (v := 0) S.1 S.2.1 dL_refusesAny_224 (by decide) ?_
  refine q_stageOf hv h10 (rest := []) S hw P hl.1 (cwV 2 S.2.2.2.2 gL_refusesAny_X5_stageOf rfl rfl rfl (by decide +kernel) ⟨Nat.le_of_ble_eq_true rfl, Nat.le_of_ble_eq_true rfl⟩) (Nat.le_of_ble_eq_true rfl) dL_refusesAny_225 ⟨Nat.le_refl _, Nat.le_refl _⟩ (fun H locs hw => ?_)
  refine y_top (y := (-2000001)) (jStO_h (by rw [hv.1]; exact jHas_self)) ?_
  refine lv_ldc (v := (-2000001)) S.1 S.2.1 S.2.2.2.1 (S.2.2.2.2 _ k_L_refusesAny_37) dL_refusesAny_228 ?_
  refine lv_icmp_ne (tgt := 398) S.1 S.2.1 dL_refusesAny_230 (by decide) (fun c => absurd (by decide) c) (fun _ => ?_) 
  refine lv_aload_n S.1 S.2.1 dL_refusesAny_233 rfl (lv_at hl 1 rfl) ?_
  refine lv_iconst (v := 0) S.1 S.2.1 dL_refusesAny_234 (by decide) ?_
  refine lv_iload_n S.1 S.2.1 dL_refusesAny_235 rfl (lv_at hl 2 rfl) ?_
  refine lv_if_ne (tgt := 243) S.1 S.2.1 dL_refusesAny_236 (by decide) (fun _ => ?_) (fun c => absurd c (by decide)) 
  refine lv_bipush (v := 6) S.1 S.2.1 dL_refusesAny_243 (by decide) ?_
  refine q_stageOf hv h10 (rest := []) S hw P hl.1 (cwV 2 S.2.2.2.2 gL_refusesAny_X5_stageOf rfl rfl rfl (by decide +kernel) ⟨Nat.le_of_ble_eq_true rfl, Nat.le_of_ble_eq_true rfl⟩) (Nat.le_of_ble_eq_true rfl) dL_refusesAny_245 ⟨Nat.le_refl _, Nat.le_refl _⟩ (fun H locs hw => ?_)
  refine y_top (y := (-2000001)) (jStO_y (by decide) (by decide) (by decide) (by decide) (by decide) (by decide)) ?_
  refine lv_ldc (v := (-2000001)) S.1 S.2.1 S.2.2.2.1 (S.2.2.2.2 _ k_L_refusesAny_37) dL_refusesAny_248 ?_
  refine lv_icmp_ne (tgt := 398) S.1 S.2.1 dL_refusesAny_250 (by decide) (fun c => absurd (by decide) c) (fun _ => ?_) 
  refine lv_aload_n S.1 S.2.1 dL_refusesAny_253 rfl (lv_at hl 1 rfl) ?_
  refine lv_iload_n S.1 S.2.1 dL_refusesAny_254 rfl (lv_at hl 2 rfl) ?_
  refine lv_if_ne (tgt := 262) S.1 S.2.1 dL_refusesAny_255 (by decide) (fun _ => ?_) (fun c => absurd c (by decide)) 
  refine lv_bipush (v := 99) S.1 S.2.1 dL_refusesAny_262 (by decide) ?_
  refine lv_iload_n S.1 S.2.1 dL_refusesAny_264 rfl (lv_at hl 2 rfl) ?_
  refine lv_if_ne (tgt := 272) S.1 S.2.1 dL_refusesAny_265 (by decide) (fun _ => ?_) (fun c => absurd c (by decide)) 
  refine lv_bipush (v := 6) S.1 S.2.1 dL_refusesAny_272 (by decide) ?_
  refine q_outputOf hv h10 hB2 (rest := []) S hw P hl.1 (cwV 2 S.2.2.2.2 gL_refusesAny_X5_outputOf rfl rfl rfl (by decide +kernel) ⟨Nat.le_of_ble_eq_true rfl, Nat.le_of_ble_eq_true rfl⟩) (Nat.le_of_ble_eq_true rfl) dL_refusesAny_274 ⟨Nat.le_refl _, Nat.le_refl _⟩ (fun H locs hw => ?_)
  refine y_top (y := (-2000001)) (jOuR_y (by decide)) ?_
  refine lv_ldc (v := (-2000001)) S.1 S.2.1 S.2.2.2.1 (S.2.2.2.2 _ k_L_refusesAny_37) dL_refusesAny_277 ?_
  refine lv_icmp_ne (tgt := 398) S.1 S.2.1 dL_refusesAny_279 (by decide) (fun c => absurd (by decide) c) (fun _ => ?_) 
  refine lv_aload_n S.1 S.2.1 dL_refusesAny_282 rfl (lv_at hl 1 rfl) ?_
  refine lv_iconst (v := 0) S.1 S.2.1 dL_refusesAny_283 (by decide) ?_
  refine lv_iconst (v := (-1)) S.1 S.2.1 dL_refusesAny_284 (by decide) ?_
  refine q_outputOf hv h10 hB2 (rest := []) S hw P hl.1 (cwV 2 S.2.2.2.2 gL_refusesAny_X5_outputOf rfl rfl rfl (by decide +kernel) ⟨Nat.le_of_ble_eq_true rfl, Nat.le_of_ble_eq_true rfl⟩) (Nat.le_of_ble_eq_true rfl) dL_refusesAny_285 ⟨Nat.le_refl _, Nat.le_refl _⟩ (fun H locs hw => ?_)
  refine y_top (y := (-2000001)) (jOuR_y (by decide)) ?_
  refine lv_ldc (v := (-2000001)) S.1 S.2.1 S.2.2.2.1 (S.2.2.2.2 _ k_L_refusesAny_37) dL_refusesAny_288 ?_
  refine lv_icmp_ne (tgt := 398) S.1 S.2.1 dL_refusesAny_290 (by decide) (fun c => absurd (by decide) c) (fun _ => ?_) 
  refine lv_aload_n S.1 S.2.1 dL_refusesAny_293 rfl (lv_at hl 1 rfl) ?_
  refine lv_bipush (v := 16) S.1 S.2.1 dL_refusesAny_294 (by decide) ?_
  refine lv_iconst (v := 0) S.1 S.2.1 dL_refusesAny_296 (by decide) ?_
  refine q_outputOf hv h10 hB2 (rest := []) S hw P hl.1 (cwV 2 S.2.2.2.2 gL_refusesAny_X5_outputOf rfl rfl rfl (by decide +kernel) ⟨Nat.le_of_ble_eq_true rfl, Nat.le_of_ble_eq_true rfl⟩) (Nat.le_of_ble_eq_true rfl) dL_refusesAny_297 ⟨Nat.le_refl _, Nat.le_refl _⟩ (fun H locs hw => ?_)
  refine y_top (y := (-2000004)) (jOuR_16) ?_
  refine lv_ldc (v := (-2000004)) S.1 S.2.1 S.2.2.2.1 (S.2.2.2.2 _ k_L_refusesAny_52) dL_refusesAny_300 ?_
  refine lv_icmp_ne (tgt := 398) S.1 S.2.1 dL_refusesAny_302 (by decide) (fun c => absurd (by decide) c) (fun _ => ?_) 
  refine lv_aload_n S.1 S.2.1 dL_refusesAny_305 rfl (lv_at hl 1 rfl) ?_
  refine lv_iload_n S.1 S.2.1 dL_refusesAny_306 rfl (lv_at hl 2 rfl) ?_
  refine lv_if_ne (tgt := 314) S.1 S.2.1 dL_refusesAny_307 (by decide) (fun _ => ?_) (fun c => absurd c (by decide)) 
  refine lv_iconst (v := 3) S.1 S.2.1 dL_refusesAny_314 (by decide) ?_
  refine lv_iconst (v := 0) S.1 S.2.1 dL_refusesAny_315 (by decide) ?_
  refine q_pairOf  (rest := []) S hw P hl.1 (cwV 2 S.2.2.2.2 gL_refusesAny_X5_pairOf rfl rfl rfl (by decide +kernel) ⟨Nat.le_of_ble_eq_true rfl, Nat.le_of_ble_eq_true rfl⟩) (Nat.le_of_ble_eq_true rfl) dL_refusesAny_316 ⟨Nat.le_refl _, Nat.le_refl _⟩ (fun H locs hw => ?_)
  refine y_top (y := (-2000001)) (jPrO_x (by decide)) ?_
  refine lv_ldc (v := (-2000001)) S.1 S.2.1 S.2.2.2.1 (S.2.2.2.2 _ k_L_refusesAny_37) dL_refusesAny_319 ?_
  refine lv_icmp_ne (tgt := 398) S.1 S.2.1 dL_refusesAny_321 (by decide) (fun c => absurd (by decide) c) (fun _ => ?_) 
  refine lv_aload_n S.1 S.2.1 dL_refusesAny_324 rfl (lv_at hl 1 rfl) ?_
  refine lv_iconst (v := 0) S.1 S.2.1 dL_refusesAny_325 (by decide) ?_
  refine lv_iload_n S.1 S.2.1 dL_refusesAny_326 rfl (lv_at hl 2 rfl) ?_
  refine lv_if_ne (tgt := 334) S.1 S.2.1 dL_refusesAny_327 (by decide) (fun _ => ?_) (fun c => absurd c (by decide)) 
  refine lv_iconst (v := 2) S.1 S.2.1 dL_refusesAny_334 (by decide) ?_
  refine q_pairOf  (rest := []) S hw P hl.1 (cwV 2 S.2.2.2.2 gL_refusesAny_X5_pairOf rfl rfl rfl (by decide +kernel) ⟨Nat.le_of_ble_eq_true rfl, Nat.le_of_ble_eq_true rfl⟩) (Nat.le_of_ble_eq_true rfl) dL_refusesAny_335 ⟨Nat.le_refl _, Nat.le_refl _⟩ (fun H locs hw => ?_)
  refine y_top (y := (-2000001)) (jPrO_y (by decide)) ?_
  refine lv_ldc (v := (-2000001)) S.1 S.2.1 S.2.2.2.1 (S.2.2.2.2 _ k_L_refusesAny_37) dL_refusesAny_338 ?_
  refine lv_icmp_ne (tgt := 398) S.1 S.2.1 dL_refusesAny_340 (by decide) (fun c => absurd (by decide) c) (fun _ => ?_) 
  refine lv_aload_n S.1 S.2.1 dL_refusesAny_343 rfl (lv_at hl 1 rfl) ?_
  refine lv_iload_n S.1 S.2.1 dL_refusesAny_344 rfl (lv_at hl 2 rfl) ?_
  refine lv_if_ne (tgt := 352) S.1 S.2.1 dL_refusesAny_345 (by decide) (fun _ => ?_) (fun c => absurd c (by decide)) 
  refine lv_ldc (v := 100001) S.1 S.2.1 S.2.2.2.1 (S.2.2.2.2 _ k_L_refusesAny_45) dL_refusesAny_352 ?_
  refine q_mended  (rest := []) S hw P hl.1 (cwV 1 S.2.2.2.2 gL_refusesAny_X5_mended rfl rfl rfl (by decide +kernel) ⟨Nat.le_of_ble_eq_true rfl, Nat.le_of_ble_eq_true rfl⟩) (Nat.le_of_ble_eq_true rfl) dL_refusesAny_354 ⟨Nat.le_refl _, Nat.le_refl _⟩ (fun H locs hw => ?_)
  refine y_top (y := (-2000001)) (jMdd_x (by decide)) ?_
  refine lv_ldc (v := (-2000001)) S.1 S.2.1 S.2.2.2.1 (S.2.2.2.2 _ k_L_refusesAny_37) dL_refusesAny_357 ?_
  refine lv_icmp_ne (tgt := 398) S.1 S.2.1 dL_refusesAny_359 (by decide) (fun c => absurd (by decide) c) (fun _ => ?_) 
  refine lv_aload_n S.1 S.2.1 dL_refusesAny_362 rfl (lv_at hl 1 rfl) ?_
  refine lv_iload_n S.1 S.2.1 dL_refusesAny_363 rfl (lv_at hl 2 rfl) ?_
  refine lv_if_ne (tgt := 371) S.1 S.2.1 dL_refusesAny_364 (by decide) (fun _ => ?_) (fun c => absurd c (by decide)) 
  refine lv_iconst (v := 4) S.1 S.2.1 dL_refusesAny_371 (by decide) ?_
  refine q_errors_inv (by decide) (rest := []) S hw P hl.1 (cwV 1 S.2.2.2.2 gL_refusesAny_X5_errors rfl rfl rfl (by decide +kernel) ⟨Nat.le_of_ble_eq_true rfl, Nat.le_of_ble_eq_true rfl⟩) (Nat.le_of_ble_eq_true rfl) dL_refusesAny_372 ⟨Nat.le_refl _, Nat.le_refl _⟩ (fun H locs hw => ?_)
  refine lv_ldc (v := (-2000001)) S.1 S.2.1 S.2.2.2.1 (S.2.2.2.2 _ k_L_refusesAny_37) dL_refusesAny_375 ?_
  refine lv_icmp_ne (tgt := 398) S.1 S.2.1 dL_refusesAny_377 (by decide) (fun c => absurd (by decide) c) (fun _ => ?_) 
  refine lv_aload_n S.1 S.2.1 dL_refusesAny_380 rfl (lv_at hl 1 rfl) ?_
  refine lv_iload_n S.1 S.2.1 dL_refusesAny_381 rfl (lv_at hl 2 rfl) ?_
  refine lv_if_ne (tgt := 389) S.1 S.2.1 dL_refusesAny_382 (by decide) (fun _ => ?_) (fun c => absurd c (by decide)) 
  refine lv_iconst (v := 5) S.1 S.2.1 dL_refusesAny_389 (by decide) ?_
  refine q_account hv h10 (rest := []) S hw P hl.1 (cwV 1 S.2.2.2.2 gL_refusesAny_X5_account rfl rfl rfl (by decide +kernel) ⟨Nat.le_of_ble_eq_true rfl, Nat.le_of_ble_eq_true rfl⟩) (Nat.le_of_ble_eq_true rfl) dL_refusesAny_390 ⟨Nat.le_refl _, Nat.le_refl _⟩ (fun H locs hw => ?_)
  refine y_top (y := (-2000001)) (jAcc_x (by decide) (by decide) (by decide) (by decide) (by decide)) ?_
  refine lv_ldc (v := (-2000001)) S.1 S.2.1 S.2.2.2.1 (S.2.2.2.2 _ k_L_refusesAny_37) dL_refusesAny_393 ?_
  refine lv_icmp_eq (tgt := 400) S.1 S.2.1 dL_refusesAny_395 (by decide) (fun _ => ?_) (fun c => absurd (by decide) c) 
  refine lv_aload_n S.1 S.2.1 dL_refusesAny_400 rfl (lv_at hl 1 rfl) ?_
  refine lv_iload_n S.1 S.2.1 dL_refusesAny_401 rfl (lv_at hl 2 rfl) ?_
  refine lv_if_ne (tgt := 409) S.1 S.2.1 dL_refusesAny_402 (by decide) (fun _ => ?_) (fun c => absurd c (by decide)) 
  refine lv_sipush (v := 10001) S.1 S.2.1 dL_refusesAny_409 (by decide) ?_
  refine lv_iconst (v := 1) S.1 S.2.1 dL_refusesAny_412 (by decide) ?_
  refine q_echo_inv hv h10 (Or.inl (by decide)) (rest := []) S hw P hl.1 (cwV 2 S.2.2.2.2 gL_refusesAny_X5_echo rfl rfl rfl (by decide +kernel) ⟨Nat.le_of_ble_eq_true rfl, Nat.le_of_ble_eq_true rfl⟩) (Nat.le_of_ble_eq_true rfl) dL_refusesAny_413 ⟨Nat.le_refl _, Nat.le_refl _⟩ (fun H locs hw => ?_)
  refine lv_ldc (v := (-2000001)) S.1 S.2.1 S.2.2.2.1 (S.2.2.2.2 _ k_L_refusesAny_37) dL_refusesAny_416 ?_
  refine lv_icmp_ne (tgt := 540) S.1 S.2.1 dL_refusesAny_418 (by decide) (fun c => absurd (by decide) c) (fun _ => ?_) 
  refine lv_aload_n S.1 S.2.1 dL_refusesAny_421 rfl (lv_at hl 1 rfl) ?_
  refine lv_iconst (v := 5) S.1 S.2.1 dL_refusesAny_422 (by decide) ?_
  refine lv_iload_n S.1 S.2.1 dL_refusesAny_423 rfl (lv_at hl 2 rfl) ?_
  refine lv_if_ne (tgt := 431) S.1 S.2.1 dL_refusesAny_424 (by decide) (fun _ => ?_) (fun c => absurd c (by decide)) 
  refine lv_bipush (v := 41) S.1 S.2.1 dL_refusesAny_431 (by decide) ?_
  refine q_echo_inv hv h10 (Or.inr (by decide)) (rest := []) S hw P hl.1 (cwV 2 S.2.2.2.2 gL_refusesAny_X5_echo rfl rfl rfl (by decide +kernel) ⟨Nat.le_of_ble_eq_true rfl, Nat.le_of_ble_eq_true rfl⟩) (Nat.le_of_ble_eq_true rfl) dL_refusesAny_433 ⟨Nat.le_refl _, Nat.le_refl _⟩ (fun H locs hw => ?_)
  refine lv_ldc (v := (-2000001)) S.1 S.2.1 S.2.2.2.1 (S.2.2.2.2 _ k_L_refusesAny_37) dL_refusesAny_436 ?_
  refine lv_icmp_ne (tgt := 540) S.1 S.2.1 dL_refusesAny_438 (by decide) (fun c => absurd (by decide) c) (fun _ => ?_) 
  refine lv_aload_n S.1 S.2.1 dL_refusesAny_441 rfl (lv_at hl 1 rfl) ?_
  refine lv_iload_n S.1 S.2.1 dL_refusesAny_442 rfl (lv_at hl 2 rfl) ?_
  refine lv_if_ne (tgt := 450) S.1 S.2.1 dL_refusesAny_443 (by decide) (fun _ => ?_) (fun c => absurd c (by decide)) 
  refine lv_iconst (v := 2) S.1 S.2.1 dL_refusesAny_450 (by decide) ?_
  refine q_worn_inv hv h10 h1n (by decide) (rest := []) S hw P hl.1 (cwV 1 S.2.2.2.2 gL_refusesAny_X5_worn rfl rfl rfl (by decide +kernel) ⟨Nat.le_of_ble_eq_true rfl, Nat.le_of_ble_eq_true rfl⟩) (Nat.le_of_ble_eq_true rfl) dL_refusesAny_451 ⟨Nat.le_refl _, Nat.le_refl _⟩ (fun H locs hw => ?_)
  refine lv_ldc (v := (-2000001)) S.1 S.2.1 S.2.2.2.1 (S.2.2.2.2 _ k_L_refusesAny_37) dL_refusesAny_454 ?_
  refine lv_icmp_ne (tgt := 540) S.1 S.2.1 dL_refusesAny_456 (by decide) (fun c => absurd (by decide) c) (fun _ => ?_) 
  refine lv_aload_n S.1 S.2.1 dL_refusesAny_459 rfl (lv_at hl 1 rfl) ?_
  refine lv_iload_n S.1 S.2.1 dL_refusesAny_460 rfl (lv_at hl 2 rfl) ?_
  refine lv_if_ne (tgt := 468) S.1 S.2.1 dL_refusesAny_461 (by decide) (fun _ => ?_) (fun c => absurd c (by decide)) 
  refine lv_bipush (v := 9) S.1 S.2.1 dL_refusesAny_468 (by decide) ?_
  refine q_count  (rest := []) S hw P hl.1 (cwV 1 S.2.2.2.2 gL_refusesAny_X5_count rfl rfl rfl (by decide +kernel) ⟨Nat.le_of_ble_eq_true rfl, Nat.le_of_ble_eq_true rfl⟩) (Nat.le_of_ble_eq_true rfl) dL_refusesAny_470 ⟨Nat.le_refl _, Nat.le_refl _⟩ (fun H locs hw => ?_)
  refine y_top (y := (-2000001)) (jCount_bad (by decide) (by decide) (by decide) (by decide) (by decide) (by decide) (by decide) (by decide) (by decide) (by decide)) ?_
  refine lv_ldc (v := (-2000001)) S.1 S.2.1 S.2.2.2.1 (S.2.2.2.2 _ k_L_refusesAny_37) dL_refusesAny_473 ?_
  refine lv_icmp_ne (tgt := 540) S.1 S.2.1 dL_refusesAny_475 (by decide) (fun c => absurd (by decide) c) (fun _ => ?_) 
  refine lv_aload_n S.1 S.2.1 dL_refusesAny_478 rfl (lv_at hl 1 rfl) ?_
  refine lv_iload_n S.1 S.2.1 dL_refusesAny_479 rfl (lv_at hl 2 rfl) ?_
  refine lv_if_ne (tgt := 488) S.1 S.2.1 dL_refusesAny_480 (by decide) (fun _ => ?_) (fun c => absurd c (by decide)) 
  refine lv_bipush (v := 25) S.1 S.2.1 dL_refusesAny_488 (by decide) ?_
  refine q_count  (rest := []) S hw P hl.1 (cwV 1 S.2.2.2.2 gL_refusesAny_X5_count rfl rfl rfl (by decide +kernel) ⟨Nat.le_of_ble_eq_true rfl, Nat.le_of_ble_eq_true rfl⟩) (Nat.le_of_ble_eq_true rfl) dL_refusesAny_490 ⟨Nat.le_refl _, Nat.le_refl _⟩ (fun H locs hw => ?_)
  refine y_top (y := (-2000001)) (jCount_bad (by decide) (by decide) (by decide) (by decide) (by decide) (by decide) (by decide) (by decide) (by decide) (by decide)) ?_
  refine lv_ldc (v := (-2000001)) S.1 S.2.1 S.2.2.2.1 (S.2.2.2.2 _ k_L_refusesAny_37) dL_refusesAny_493 ?_
  refine lv_icmp_ne (tgt := 540) S.1 S.2.1 dL_refusesAny_495 (by decide) (fun c => absurd (by decide) c) (fun _ => ?_) 
  refine lv_aload_n S.1 S.2.1 dL_refusesAny_498 rfl (lv_at hl 1 rfl) ?_
  refine lv_iload_n S.1 S.2.1 dL_refusesAny_499 rfl (lv_at hl 2 rfl) ?_
  refine lv_if_ne (tgt := 508) S.1 S.2.1 dL_refusesAny_500 (by decide) (fun _ => ?_) (fun c => absurd c (by decide)) 
  refine lv_bipush (v := 127) S.1 S.2.1 dL_refusesAny_508 (by decide) ?_
  refine q_type_inv hL hL2 (by decide) (rest := []) S hw P hl.1 (cwV 1 S.2.2.2.2 gL_refusesAny_X5_type rfl rfl rfl (by decide +kernel) ⟨Nat.le_of_ble_eq_true rfl, Nat.le_of_ble_eq_true rfl⟩) (Nat.le_of_ble_eq_true rfl) dL_refusesAny_510 ⟨Nat.le_refl _, Nat.le_refl _⟩ (fun H locs hw => ?_)
  refine lv_ldc (v := (-2000001)) S.1 S.2.1 S.2.2.2.1 (S.2.2.2.2 _ k_L_refusesAny_37) dL_refusesAny_513 ?_
  refine lv_icmp_ne (tgt := 540) S.1 S.2.1 dL_refusesAny_515 (by decide) (fun c => absurd (by decide) c) (fun _ => ?_) 
  refine lv_aload_n S.1 S.2.1 dL_refusesAny_518 rfl (lv_at hl 1 rfl) ?_
  refine lv_iload_n S.1 S.2.1 dL_refusesAny_519 rfl (lv_at hl 2 rfl) ?_
  refine lv_if_ne (tgt := 527) S.1 S.2.1 dL_refusesAny_520 (by decide) (fun _ => ?_) (fun c => absurd c (by decide)) 
  refine lv_iconst (v := 3) S.1 S.2.1 dL_refusesAny_527 (by decide) ?_
  refine q_fault_inv hL hL2 (by decide) (rest := []) S hw P hl.1 (cwV 1 S.2.2.2.2 gL_refusesAny_X5_fault rfl rfl rfl (by decide +kernel) ⟨Nat.le_of_ble_eq_true rfl, Nat.le_of_ble_eq_true rfl⟩) (Nat.le_of_ble_eq_true rfl) dL_refusesAny_528 ⟨Nat.le_refl _, Nat.le_refl _⟩ (fun H locs hw => ?_)
  refine lv_ldc (v := (-2000001)) S.1 S.2.1 S.2.2.2.1 (S.2.2.2.2 _ k_L_refusesAny_37) dL_refusesAny_531 ?_
  refine lv_icmp_ne (tgt := 540) S.1 S.2.1 dL_refusesAny_533 (by decide) (fun c => absurd (by decide) c) (fun _ => ?_) 
  refine lv_iconst (v := 1) S.1 S.2.1 dL_refusesAny_536 (by decide) ?_
  refine lv_goto (tgt := 541) S.1 S.2.1 dL_refusesAny_537 (by decide) ?_
  exact ret _ _ _ _ _ (y_W_eq hw (List.append_nil _)) rfl dL_refusesAny_541
theorem lg_cmp_self (x : Int64) : lg_cmp x x = 0 := by
  unfold lg_cmp
  rw [if_neg (show ¬ x > x from fun z => Int64.lt_irrefl z), if_pos rfl]
set_option maxHeartbeats 8000000 in
set_option maxRecDepth 100000 in
theorem c_L_refused (l : Launch) (D : va_G) (cI cC cL : ClassId) (Q : Nat → Nat → Nat) (Z : Nat → U) (u w : U) (k : Nat) (g : Nat → U) (P : PW Z u w k g) (n B : Nat) (hv : lOk u n B) (h10 : n ≤ 10) (hB2 : B ≤ 2000) (L : Nat) (hL : w 1 0 = nI L) (hL2 : L ≤ 60) (h1n : 1 ≤ n) : y_MIX l yL_refused wsL_refused 8 185 D cI cC cL [.ref (Q 8 0)] (cWd cI cC cL Q Z) 1 (fun _ : Unit => cWd cI cC cL Q Z) () := by
  refine y_startIX (cc := cL_refused) (maxL := 4) (ret := some .boolean) (by decide +kernel) rfl (Nat.le_of_ble_eq_true rfl) ⟨_, rfl, fun x h => by rcases h rfl with rfl | rfl <;> rfl⟩ (fun _ => Or.inr rfl) ?_
  intro p e s mm args below meth c A QQ ls S hX hw ret hl
  have S : CallFix p mm c cL_refused 4 s args wsL_refused RL := S
  have hw : y_W D cI cC cL A s s.heap [] (cWd cI cC cL Q Z ++ []) := y_W_eq hw (List.append_nil _).symm
  have hl : lv_has ls 4 [(0, .ref (Q 8 0))] := hl
  refine lv_aload_n S.1 S.2.1 dL_refused_0 rfl (lv_at hl 0 rfl) ?_
  refine ly_sL (As := [.ref (Q 8 0)]) (rest := []) S hw hl.1 (c_L_seen l D cI cC cL Q Z u w k g P n B hv h10 hB2) (va_cwS 1 S.2.2.2.2 gL_refused_L_seen rfl rfl rfl (by decide +kernel) ⟨Nat.le_of_ble_eq_true rfl, Nat.le_of_ble_eq_true rfl⟩) rfl (Nat.le_of_ble_eq_true rfl) dL_refused_1 rfl ⟨Nat.le_refl _, Nat.le_refl _⟩ (fun H locs x hx hw => ?_)
  subst hx
  have hw : y_W D cI cC cL A s _ _ (cWd cI cC cL Q Z ++ []) := hw
  refine lv_lstore_n (lv' := [(1, .long (qSeen u)), (0, .ref (Q 8 0))]) S.1 S.2.1 dL_refused_4 rfl hl (by decide) rfl (fun ls hl => ?_)
  refine lv_aload_n S.1 S.2.1 dL_refused_5 rfl (lv_at hl 1 rfl) ?_
  refine lv_bipush (v := 7) S.1 S.2.1 dL_refused_6 (by decide) ?_
  refine q_count  (rest := []) S hw P hl.1 (cwV 1 S.2.2.2.2 gL_refused_X5_count rfl rfl rfl (by decide +kernel) ⟨Nat.le_of_ble_eq_true rfl, Nat.le_of_ble_eq_true rfl⟩) (Nat.le_of_ble_eq_true rfl) dL_refused_8 ⟨Nat.le_refl _, Nat.le_refl _⟩ (fun H locs hw => ?_)
  refine y_top (y := (nI k)) (jCount_7 _) ?_
  refine lv_istore_n (lv' := [(3, .int (nI k)), (1, .long (qSeen u)), (0, .ref (Q 8 0))]) S.1 S.2.1 dL_refused_11 rfl hl (by decide) rfl (fun ls hl => ?_)
  refine lv_aload_n S.1 S.2.1 dL_refused_12 rfl (lv_at hl 2 rfl) ?_
  refine lv_iconst (v := 0) S.1 S.2.1 dL_refused_13 (by decide) ?_
  refine ly_sX (As := [.ref (Q 8 0), .int 0]) (rest := []) S hw hX hl.1 (c_L_refusesAny_0 l D cI cC cL Q Z u w k g P n B hv h10 hB2 L hL hL2 h1n) (va_cwS 2 S.2.2.2.2 gL_refused_L_refusesAny rfl rfl rfl (by decide +kernel) ⟨Nat.le_of_ble_eq_true rfl, Nat.le_of_ble_eq_true rfl⟩) rfl (Nat.le_of_ble_eq_true rfl) dL_refused_14 rfl ⟨Nat.le_refl _, Nat.le_refl _⟩ (fun H locs x hx hw => ?_)
  subst hx
  have hw : y_W D cI cC cL A s _ _ (cWd cI cC cL Q Z ++ []) := hw
  refine lv_if_eq (tgt := 51) S.1 S.2.1 dL_refused_17 (by decide) (fun c => absurd c (by decide)) (fun _ => ?_) 
  refine lv_aload_n S.1 S.2.1 dL_refused_20 rfl (lv_at hl 2 rfl) ?_
  refine lv_iconst (v := 1) S.1 S.2.1 dL_refused_21 (by decide) ?_
  refine ly_sX (As := [.ref (Q 8 0), .int 1]) (rest := []) S hw hX hl.1 (c_L_refusesAny_1 l D cI cC cL Q Z u w k g P n B hv h10 hB2 L hL hL2 h1n) (va_cwS 2 S.2.2.2.2 gL_refused_L_refusesAny rfl rfl rfl (by decide +kernel) ⟨Nat.le_of_ble_eq_true rfl, Nat.le_of_ble_eq_true rfl⟩) rfl (Nat.le_of_ble_eq_true rfl) dL_refused_22 rfl ⟨Nat.le_refl _, Nat.le_refl _⟩ (fun H locs x hx hw => ?_)
  subst hx
  have hw : y_W D cI cC cL A s _ _ (cWd cI cC cL Q Z ++ []) := hw
  refine lv_if_eq (tgt := 51) S.1 S.2.1 dL_refused_25 (by decide) (fun c => absurd c (by decide)) (fun _ => ?_) 
  refine lv_aload_n S.1 S.2.1 dL_refused_28 rfl (lv_at hl 2 rfl) ?_
  refine ly_sL (As := [.ref (Q 8 0)]) (rest := []) S hw hl.1 (c_L_seen l D cI cC cL Q Z u w k g P n B hv h10 hB2) (va_cwS 1 S.2.2.2.2 gL_refused_L_seen rfl rfl rfl (by decide +kernel) ⟨Nat.le_of_ble_eq_true rfl, Nat.le_of_ble_eq_true rfl⟩) rfl (Nat.le_of_ble_eq_true rfl) dL_refused_29 rfl ⟨Nat.le_refl _, Nat.le_refl _⟩ (fun H locs x hx hw => ?_)
  subst hx
  have hw : y_W D cI cC cL A s _ _ (cWd cI cC cL Q Z ++ []) := hw
  refine lv_lload_n S.1 S.2.1 dL_refused_32 rfl (lv_at hl 1 rfl) ?_
  refine W.lcmp S.1 S.2.1 dL_refused_33 ?_
  refine y_top (y := 0) (lg_cmp_self _) ?_
  refine lv_if_ne (tgt := 51) S.1 S.2.1 dL_refused_34 (by decide) (fun c => absurd (by decide) c) (fun _ => ?_) 
  refine lv_aload_n S.1 S.2.1 dL_refused_37 rfl (lv_at hl 2 rfl) ?_
  refine lv_bipush (v := 7) S.1 S.2.1 dL_refused_38 (by decide) ?_
  refine q_count  (rest := []) S hw P hl.1 (cwV 1 S.2.2.2.2 gL_refused_X5_count rfl rfl rfl (by decide +kernel) ⟨Nat.le_of_ble_eq_true rfl, Nat.le_of_ble_eq_true rfl⟩) (Nat.le_of_ble_eq_true rfl) dL_refused_40 ⟨Nat.le_refl _, Nat.le_refl _⟩ (fun H locs hw => ?_)
  refine y_top (y := (nI k)) (jCount_7 _) ?_
  refine lv_iload_n S.1 S.2.1 dL_refused_43 rfl (lv_at hl 0 rfl) ?_
  refine lv_icmp_ne (tgt := 51) S.1 S.2.1 dL_refused_44 (by decide) (fun c => absurd rfl c) (fun _ => ?_)
  refine lv_iconst (v := 1) S.1 S.2.1 dL_refused_47 (by decide) ?_
  refine lv_goto (tgt := 52) S.1 S.2.1 dL_refused_48 (by decide) ?_
  exact ret _ _ _ _ _ (y_W_eq hw (List.append_nil _)) rfl dL_refused_52
theorem y_rest1 {p : Program} {l : Launch} {e : Env} {R : Room} {s : State} {m : MethodId} {args : Array Value} {below : List Frame} {meth : Method} {c : Code} {H : Heap} {locs : List Loc} {cells slots : Nat} {Q : State → Prop} {pc : Nat} {ls : Array Slot} {rest : List Value} {x y : Int32} (h : x = y) (k : W p l e R s m args below meth c H locs cells slots Q (F0 m pc ls (.int y :: rest))) : W p l e R s m args below meth c H locs cells slots Q (F0 m pc ls (.int x :: rest)) := by rw [h]; exact k
set_option maxHeartbeats 8000000 in
set_option maxRecDepth 100000 in
theorem c_L_isOutput (l : Launch) (D : va_G) (cI cC cL : ClassId) (Q : Nat → Nat → Nat) (Z : Nat → U) (u w : U) (k : Nat) (g : Nat → U) (P : PW Z u w k g) (n B : Nat) (hv : lOk u n B) (h10 : n ≤ 10) (hB2 : B ≤ 2000) (ix num sam out mn isr : Int32) (o0 : jOuR u ix 0 (qHh u) n = num) (o1 : jOuR u ix 1 (qHh u) n = sam) (o2 : jOuR u ix 2 (qHh u) n = out) (o3 : jOuR u ix 3 (qHh u) n = mn) (o4 : jOuR u ix 4 (qHh u) n = isr) (o5 : jOuR u ix 5 (qHh u) n = (if mn < 0 then out else mn) - sam) : y_MI l yL_isOutput wsL_isOutput 3 67 D cI cC cL [.ref (Q 8 0), .int ix, .int num, .int sam, .int out, .int mn, .int isr] (cWd cI cC cL Q Z) 1 (fun _ : Unit => cWd cI cC cL Q Z) () := by
  refine y_startI (cc := cL_isOutput) (maxL := 7) (ret := some .boolean) (by decide +kernel) rfl (Nat.le_of_ble_eq_true rfl) ⟨_, rfl, fun x h => by rcases h rfl with rfl | rfl <;> rfl⟩ (fun _ => Or.inr rfl) ?_
  intro p e s mm args below meth c A QQ ls S hw ret hl
  have S : CallFix p mm c cL_isOutput 7 s args wsL_isOutput RL := S
  have hw : y_W D cI cC cL A s s.heap [] (cWd cI cC cL Q Z ++ []) := y_W_eq hw (List.append_nil _).symm
  have hl : lv_has ls 7 [(0, .ref (Q 8 0)), (1, .int ix), (2, .int num), (3, .int sam), (4, .int out), (5, .int mn), (6, .int isr)] := hl
  refine lv_aload_n S.1 S.2.1 dL_isOutput_0 rfl (lv_at hl 0 rfl) ?_
  refine lv_iload_n S.1 S.2.1 dL_isOutput_1 rfl (lv_at hl 1 rfl) ?_
  refine lv_iconst (v := 0) S.1 S.2.1 dL_isOutput_2 (by decide) ?_
  refine q_outputOf hv h10 hB2 (rest := []) S hw P hl.1 (cwV 2 S.2.2.2.2 gL_isOutput_X5_outputOf rfl rfl rfl (by decide +kernel) ⟨Nat.le_of_ble_eq_true rfl, Nat.le_of_ble_eq_true rfl⟩) (Nat.le_of_ble_eq_true rfl) dL_isOutput_3 ⟨Nat.le_refl _, Nat.le_refl _⟩ (fun H locs hw => ?_)
  refine y_top (y := num) (o0) ?_
  refine lv_iload_n S.1 S.2.1 dL_isOutput_6 rfl (lv_at hl 2 rfl) ?_
  refine lv_icmp_ne (tgt := 80) S.1 S.2.1 dL_isOutput_7 (by decide) (fun c => absurd rfl c) (fun _ => ?_)
  refine lv_aload_n S.1 S.2.1 dL_isOutput_10 rfl (lv_at hl 0 rfl) ?_
  refine lv_iload_n S.1 S.2.1 dL_isOutput_11 rfl (lv_at hl 1 rfl) ?_
  refine lv_iconst (v := 1) S.1 S.2.1 dL_isOutput_12 (by decide) ?_
  refine q_outputOf hv h10 hB2 (rest := []) S hw P hl.1 (cwV 2 S.2.2.2.2 gL_isOutput_X5_outputOf rfl rfl rfl (by decide +kernel) ⟨Nat.le_of_ble_eq_true rfl, Nat.le_of_ble_eq_true rfl⟩) (Nat.le_of_ble_eq_true rfl) dL_isOutput_13 ⟨Nat.le_refl _, Nat.le_refl _⟩ (fun H locs hw => ?_)
  refine y_top (y := sam) (o1) ?_
  refine lv_iload_n S.1 S.2.1 dL_isOutput_16 rfl (lv_at hl 3 rfl) ?_
  refine lv_icmp_ne (tgt := 80) S.1 S.2.1 dL_isOutput_17 (by decide) (fun c => absurd rfl c) (fun _ => ?_)
  refine lv_aload_n S.1 S.2.1 dL_isOutput_20 rfl (lv_at hl 0 rfl) ?_
  refine lv_iload_n S.1 S.2.1 dL_isOutput_21 rfl (lv_at hl 1 rfl) ?_
  refine lv_iconst (v := 2) S.1 S.2.1 dL_isOutput_22 (by decide) ?_
  refine q_outputOf hv h10 hB2 (rest := []) S hw P hl.1 (cwV 2 S.2.2.2.2 gL_isOutput_X5_outputOf rfl rfl rfl (by decide +kernel) ⟨Nat.le_of_ble_eq_true rfl, Nat.le_of_ble_eq_true rfl⟩) (Nat.le_of_ble_eq_true rfl) dL_isOutput_23 ⟨Nat.le_refl _, Nat.le_refl _⟩ (fun H locs hw => ?_)
  refine y_top (y := out) (o2) ?_
  refine lv_iload S.1 S.2.1 dL_isOutput_26 (lv_at hl 4 rfl) ?_
  refine lv_icmp_ne (tgt := 80) S.1 S.2.1 dL_isOutput_28 (by decide) (fun c => absurd rfl c) (fun _ => ?_)
  refine lv_aload_n S.1 S.2.1 dL_isOutput_31 rfl (lv_at hl 0 rfl) ?_
  refine lv_iload_n S.1 S.2.1 dL_isOutput_32 rfl (lv_at hl 1 rfl) ?_
  refine lv_iconst (v := 3) S.1 S.2.1 dL_isOutput_33 (by decide) ?_
  refine q_outputOf hv h10 hB2 (rest := []) S hw P hl.1 (cwV 2 S.2.2.2.2 gL_isOutput_X5_outputOf rfl rfl rfl (by decide +kernel) ⟨Nat.le_of_ble_eq_true rfl, Nat.le_of_ble_eq_true rfl⟩) (Nat.le_of_ble_eq_true rfl) dL_isOutput_34 ⟨Nat.le_refl _, Nat.le_refl _⟩ (fun H locs hw => ?_)
  refine y_top (y := mn) (o3) ?_
  refine lv_iload S.1 S.2.1 dL_isOutput_37 (lv_at hl 5 rfl) ?_
  refine lv_icmp_ne (tgt := 80) S.1 S.2.1 dL_isOutput_39 (by decide) (fun c => absurd rfl c) (fun _ => ?_)
  refine lv_aload_n S.1 S.2.1 dL_isOutput_42 rfl (lv_at hl 0 rfl) ?_
  refine lv_iload_n S.1 S.2.1 dL_isOutput_43 rfl (lv_at hl 1 rfl) ?_
  refine lv_iconst (v := 4) S.1 S.2.1 dL_isOutput_44 (by decide) ?_
  refine q_outputOf hv h10 hB2 (rest := []) S hw P hl.1 (cwV 2 S.2.2.2.2 gL_isOutput_X5_outputOf rfl rfl rfl (by decide +kernel) ⟨Nat.le_of_ble_eq_true rfl, Nat.le_of_ble_eq_true rfl⟩) (Nat.le_of_ble_eq_true rfl) dL_isOutput_45 ⟨Nat.le_refl _, Nat.le_refl _⟩ (fun H locs hw => ?_)
  refine y_top (y := isr) (o4) ?_
  refine lv_iload S.1 S.2.1 dL_isOutput_48 (lv_at hl 6 rfl) ?_
  refine lv_icmp_ne (tgt := 80) S.1 S.2.1 dL_isOutput_50 (by decide) (fun c => absurd rfl c) (fun _ => ?_)
  refine lv_aload_n S.1 S.2.1 dL_isOutput_53 rfl (lv_at hl 0 rfl) ?_
  refine lv_iload_n S.1 S.2.1 dL_isOutput_54 rfl (lv_at hl 1 rfl) ?_
  refine lv_iconst (v := 5) S.1 S.2.1 dL_isOutput_55 (by decide) ?_
  refine q_outputOf hv h10 hB2 (rest := []) S hw P hl.1 (cwV 2 S.2.2.2.2 gL_isOutput_X5_outputOf rfl rfl rfl (by decide +kernel) ⟨Nat.le_of_ble_eq_true rfl, Nat.le_of_ble_eq_true rfl⟩) (Nat.le_of_ble_eq_true rfl) dL_isOutput_56 ⟨Nat.le_refl _, Nat.le_refl _⟩ (fun H locs hw => ?_)
  refine y_top (y := ((if mn < 0 then out else mn) - sam)) (o5) ?_
  refine lv_iload S.1 S.2.1 dL_isOutput_59 (lv_at hl 5 rfl) ?_
  refine lv_if_ge (tgt := 69) S.1 S.2.1 dL_isOutput_61 (by decide) (fun c1 => ?_) (fun c1 => ?_)
  · skip
    refine y_rest1 (y := mn - sam) (by rw [if_neg (fun z => Int32.lt_irrefl (Int32.lt_of_lt_of_le z c1))]) ?_
    refine lv_iload S.1 S.2.1 dL_isOutput_69 (lv_at hl 5 rfl) ?_
    refine lv_iload_n S.1 S.2.1 dL_isOutput_71 rfl (lv_at hl 3 rfl) ?_
    refine lv_isub S.1 S.2.1 dL_isOutput_72 ?_
    refine lv_icmp_ne (tgt := 80) S.1 S.2.1 dL_isOutput_73 (by decide) (fun c => absurd rfl c) (fun _ => ?_)
    refine lv_iconst (v := 1) S.1 S.2.1 dL_isOutput_76 (by decide) ?_
    refine lv_goto (tgt := 81) S.1 S.2.1 dL_isOutput_77 (by decide) ?_
    exact ret _ _ _ _ _ (y_W_eq hw (List.append_nil _)) rfl dL_isOutput_81
  · skip
    refine y_rest1 (y := out - sam) (by rw [if_pos (Int32.not_le.mp c1)]) ?_
    refine lv_iload S.1 S.2.1 dL_isOutput_64 (lv_at hl 4 rfl) ?_
    refine lv_goto (tgt := 71) S.1 S.2.1 dL_isOutput_66 (by decide) ?_
    refine lv_iload_n S.1 S.2.1 dL_isOutput_71 rfl (lv_at hl 3 rfl) ?_
    refine lv_isub S.1 S.2.1 dL_isOutput_72 ?_
    refine lv_icmp_ne (tgt := 80) S.1 S.2.1 dL_isOutput_73 (by decide) (fun c => absurd rfl c) (fun _ => ?_)
    refine lv_iconst (v := 1) S.1 S.2.1 dL_isOutput_76 (by decide) ?_
    refine lv_goto (tgt := 81) S.1 S.2.1 dL_isOutput_77 (by decide) ?_
    exact ret _ _ _ _ _ (y_W_eq hw (List.append_nil _)) rfl dL_isOutput_81
