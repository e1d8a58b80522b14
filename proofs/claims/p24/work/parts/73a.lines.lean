/-! the law's lines by hand -/
def pIdl (u : U) (n h B : Nat) : Prop := lOk u n B ∧ u 10 1 = 0 ∧ u 11 0 = nI h
theorem pIdl_0 : pIdl jLn0 4 0 0 := ⟨⟨rfl, fun j hj => Or.inr ⟨0, by decide, rfl⟩, 0, 0, rfl, by decide, rfl, by decide⟩, rfl, rfl⟩
theorem jDue_0 (x : Int32) : jDue x 0 = 0 := by unfold jDue; rw [if_pos rfl]
theorem jHB_0 {h : Nat} : ∀ t, jHB (nI h) 0 t = nI (h + t)
  | 0 => rfl
  | t + 1 => by
    show jHB (nI h) 0 t + (if jDue (jHB (nI h) 0 t) 0 = 0 then 1 else 2) = _
    rw [if_pos (jDue_0 _), jHB_0 t]
    exact nI_1 _
theorem jLH_11 (u : U) (x ref : Int32) (n h : Nat) : jLH u x ref n h 11 0 = nI (h + 1) := rfl
theorem jTv_0 {u : U} {x : Int32} {n h B : Nat} (hv : lOk u n B) (hB : B ≤ 40000) (h0 : u 10 1 = 0) (hh : u 11 0 = nI h) (hhB : h < 2 ^ 31) : jTv u x n 11 0 = nI (h + 1) ∧ jTv u x n 10 = u 10 := by
  obtain ⟨-, -, h2, r, e1, l1, e2, l2⟩ := hv
  have : h = h2 := (nI_eq hhB (by omega)).mp (hh.symm.trans e1)
  subst this
  rw [jTv_eq e1 (by omega) e2 (by omega)]
  unfold jTk
  rw [h0, if_pos (jDue_0 _)]
  exact ⟨rfl, jLH_o u x (-1) n h 10 (by decide) (by decide) (by decide) (by decide) (by decide) (by decide) (by decide) (by decide) (by decide) (by decide) (by decide) (by decide)⟩
theorem pIdl_s1 {u : U} {x : Int32} {n h B : Nat} (hp : pIdl u n h B) (hB : B ≤ 39000) (hh : h ≤ 100000) : ∀ t, 2 * t ≤ 1000 → pIdl (jTI u x n t) n (h + t) (B + 2 * t)
  | 0, _ => hp
  | t + 1, ht => by
    obtain ⟨a, b, c⟩ := pIdl_s1 (x := x) hp hB hh t (by omega)
    obtain ⟨d, f⟩ := jTv_0 (x := x) a (by omega) b c (by omega)
    refine ⟨(by have := jTv_Ok (x := x) a (by omega); exact lOk_mono this (by omega)), ?_, d⟩
    show jTv (jTI u x n t) x n 10 1 = 0
    rw [f]
    exact b
theorem pIdl_s {u : U} {x : Int32} {n h B t : Nat} (hp : pIdl u n h B) (hB : B ≤ 39000 ∧ h ≤ 100000) (ht : 2 * t ≤ 1000) : pIdl (jTI u x n t) n (h + t) (B + 2 * t) := pIdl_s1 hp hB.1 hB.2 t ht
theorem pIdl_le {u : U} {n h B t : Nat} (hp : pIdl u n h B) (ht : h + t ≤ 999) (_ : t ≤ 999) : jHB (u 11 0) (u 10 1) t ≤ 999 := by
  rw [hp.2.1, hp.2.2, jHB_0]
  exact (nI_leI (a := h + t) (b := 999) (by omega) (by omega)).mpr ht
theorem pIdl_lim {u : U} {n h B t : Nat} (hp : pIdl u n h B) (ht : 999 < h + t ∧ h + t < 100000) : ¬ jHB (u 11 0) (u 10 1) t ≤ 999 := by
  rw [hp.2.1, hp.2.2, jHB_0]
  intro z
  exact absurd ((nI_leI (a := h + t) (b := 999) (by omega) (by omega)).mp z) (by omega)
theorem pIdl_r {u : U} {x : Int32} {n h B t : Nat} (hp : pIdl u n h B) (hB : B ≤ 39000 ∧ h ≤ 100000 ∧ 2 * t ≤ 1000) : jTI u x n t 11 0 - u 11 0 = nI t := by
  rw [(pIdl_s (x := x) hp ⟨hB.1, hB.2.1⟩ hB.2.2).2.2, hp.2.2, pk_sub (by omega)]
  congr 1
  omega
theorem w_L_lines_new : Cond.classLink RL 14 RX5 ∈ wsL_lines := by decide +kernel
theorem w_L_lines_newi : Cond.instantiable RX5 4 ∈ wsL_lines := by decide +kernel
theorem w_L_lines_newc : Cond.initialized RX5 ∈ wsL_lines := by decide +kernel
theorem i_L_lines_X5 : ∀ w ∈ u_ws RX5 TX5 4, w ∈ wsL_lines := by decide +kernel
theorem w_L_lines_newl79 : Cond.methodLink RL 79 yX5_init ∈ wsL_lines := by decide +kernel
theorem w_L_lines_newm : Cond.instanceMethod yX5_init ∈ wsL_lines := by decide +kernel
theorem k_L_lines_84 : Cond.constant RL 84 (-2000002) ∈ wsL_lines := by decide +kernel
theorem k_L_lines_52 : Cond.constant RL 52 (-2000004) ∈ wsL_lines := by decide +kernel
theorem k_L_lines_95 : Cond.constant RL 95 (100000000) ∈ wsL_lines := by decide +kernel
theorem k_L_lines_96 : Cond.constant RL 96 (99999900) ∈ wsL_lines := by decide +kernel
theorem k_L_lines_97 : Cond.constant RL 97 (1120403456) ∈ wsL_lines := by decide +kernel
theorem k_L_lines_102 : Cond.constant RL 102 (100000) ∈ wsL_lines := by decide +kernel
theorem k_L_lines_103 : Cond.constant RL 103 (-2000003) ∈ wsL_lines := by decide +kernel
theorem k_L_lines_37 : Cond.constant RL 37 (-2000001) ∈ wsL_lines := by decide +kernel
set_option maxHeartbeats 1000000 in
set_option maxRecDepth 100000 in
theorem c_L_lines (l : Launch) (D : va_G) (cI cC cL : ClassId)  : y_MNI l yL_lines wsL_lines 9 208 150 2122 D cI cC cL [] [] 1 (fun _ : Unit => ([] : va_W)) () := by
  refine y_startNI (cc := cL_lines) (maxL := 3) (ret := some .boolean) (by decide +kernel) rfl (Nat.le_of_ble_eq_true rfl) ⟨_, rfl, fun x h => by rcases h rfl with rfl | rfl <;> rfl⟩ (fun _ => Or.inr rfl) ?_
  intro p e s mm args below meth c A QQ ls S hX hw ret hl
  have S : CallFix p mm c cL_lines 3 s args wsL_lines RL := S
  have hw : y_W D cI cC cL A s s.heap [] [] := hw
  have hl : lv_has ls 3 [] := hl
  refine y_new (ci := 5) (fs := [.null, .null, .null, .null]) S hw (C := RX5) (T := TX5) (N := 4) i_L_lines_X5 tyX5_ok w_L_lines_new w_L_lines_newi w_L_lines_newc rfl (fun j hj => by rcases (show j = 0 ∨ j = 1 ∨ j = 2 ∨ j = 3 by omega) with rfl | rfl | rfl | rfl <;> rfl) (Nat.le_of_ble_eq_true rfl) (Nat.le_of_ble_eq_true rfl) dL_lines_0 (fun q1 H hwN => ?_)
  refine lv_dup S.1 S.2.1 dL_lines_3 rfl ?_
  refine y_callNI (rest := [.ref q1]) S hwN hX hl.1 (c_X5_init l D cI cC cL q1) (cwI 0 S.2.2.2.2 gL_lines_X5_init rfl rfl rfl (S.2.2.2.2 _ w_L_lines_newc) (S.2.2.2.2 _ w_L_lines_newl79) (S.2.2.2.2 _ w_L_lines_newm) rfl (by decide +kernel) ⟨Nat.le_of_ble_eq_true rfl, Nat.le_of_ble_eq_true rfl⟩) (Nat.le_of_ble_eq_true rfl) dL_lines_4 ⟨Nat.le_of_ble_eq_true rfl, Nat.le_of_ble_eq_true rfl⟩ (fun H locs Q1 eQ hw => ?_)
  subst eQ
  have hw : y_W D cI cC cL A s H locs (cWd cI cC cL Q1 jZ0 ++ []) := y_W_eq hw (List.append_nil _).symm
  have P : PW jZ0 jLn0 jTx0 0 (fun _ => jLn0) := PW_0 _
  obtain ⟨hw, P⟩ := y_norm hw P ck_new
  refine lv_astore_n (lv' := [(0, .ref (Q1 8 0))]) S.1 S.2.1 dL_lines_7 rfl hl (by decide) rfl (fun ls hl => ?_)
  refine lv_aload_n S.1 S.2.1 dL_lines_8 rfl (lv_at hl 0 rfl) ?_
  refine q_undo_no rfl (rest := []) S hw P hl.1 (cwV 0 S.2.2.2.2 gL_lines_X5_undo rfl rfl rfl (by decide +kernel) ⟨Nat.le_of_ble_eq_true rfl, Nat.le_of_ble_eq_true rfl⟩) (Nat.le_of_ble_eq_true rfl) dL_lines_9 ⟨Nat.le_of_ble_eq_true rfl, Nat.le_of_ble_eq_true rfl⟩ (fun H locs hw => ?_)
  refine lv_ldc (v := (-2000002)) S.1 S.2.1 S.2.2.2.1 (S.2.2.2.2 _ k_L_lines_84) dL_lines_12 ?_
  refine lv_icmp_ne (tgt := 181) S.1 S.2.1 dL_lines_14 (by decide) (fun c => absurd (by decide) c) (fun _ => ?_) 
  refine lv_aload_n S.1 S.2.1 dL_lines_17 rfl (lv_at hl 0 rfl) ?_
  refine q_safe lU0k (by decide) (rest := []) S hw P hl.1 (cwV 0 S.2.2.2.2 gL_lines_X5_safe rfl rfl rfl (by decide +kernel) ⟨Nat.le_of_ble_eq_true rfl, Nat.le_of_ble_eq_true rfl⟩) (Nat.le_of_ble_eq_true rfl) dL_lines_18 ⟨Nat.le_of_ble_eq_true rfl, Nat.le_of_ble_eq_true rfl⟩ (fun H locs Z hw P => ?_)
  refine y_top (y := 10000) (ck_li_18) ?_
  refine lv_sipush (v := 10000) S.1 S.2.1 dL_lines_21 (by decide) ?_
  refine lv_icmp_ne (tgt := 181) S.1 S.2.1 dL_lines_24 (by decide) (fun c => absurd (by decide) c) (fun _ => ?_) 
  refine lv_aload_n S.1 S.2.1 dL_lines_27 rfl (lv_at hl 0 rfl) ?_
  refine q_emptyAfter lU0k (by decide) (rest := []) S hw P hl.1 (cwV 0 S.2.2.2.2 gL_lines_X5_emptyAfter rfl rfl rfl (by decide +kernel) ⟨Nat.le_of_ble_eq_true rfl, Nat.le_of_ble_eq_true rfl⟩) (Nat.le_of_ble_eq_true rfl) dL_lines_28 ⟨Nat.le_of_ble_eq_true rfl, Nat.le_of_ble_eq_true rfl⟩ (fun H locs Z hw P => ?_)
  refine y_top (y := 0) (ck_li_28) ?_
  refine lv_if_ne (tgt := 181) S.1 S.2.1 dL_lines_31 (by decide) (fun c => absurd (by decide) c) (fun _ => ?_) 
  refine lv_aload_n S.1 S.2.1 dL_lines_34 rfl (lv_at hl 0 rfl) ?_
  refine lv_iconst (v := 0) S.1 S.2.1 dL_lines_35 (by decide) ?_
  refine q_worn lU0k (by decide) (by decide) (by decide) (rest := []) S hw P hl.1 (cwV 1 S.2.2.2.2 gL_lines_X5_worn rfl rfl rfl (by decide +kernel) ⟨Nat.le_of_ble_eq_true rfl, Nat.le_of_ble_eq_true rfl⟩) (Nat.le_of_ble_eq_true rfl) dL_lines_36 ⟨Nat.le_of_ble_eq_true rfl, Nat.le_of_ble_eq_true rfl⟩ (fun H locs Z hw P => ?_)
  refine y_top (y := 0) (ck_li_36) ?_
  refine lv_if_ne (tgt := 181) S.1 S.2.1 dL_lines_39 (by decide) (fun c => absurd (by decide) c) (fun _ => ?_) 
  refine lv_aload_n S.1 S.2.1 dL_lines_42 rfl (lv_at hl 0 rfl) ?_
  refine lv_iconst (v := 1) S.1 S.2.1 dL_lines_43 (by decide) ?_
  refine q_worn lU0k (by decide) (by decide) (by decide) (rest := []) S hw P hl.1 (cwV 1 S.2.2.2.2 gL_lines_X5_worn rfl rfl rfl (by decide +kernel) ⟨Nat.le_of_ble_eq_true rfl, Nat.le_of_ble_eq_true rfl⟩) (Nat.le_of_ble_eq_true rfl) dL_lines_44 ⟨Nat.le_of_ble_eq_true rfl, Nat.le_of_ble_eq_true rfl⟩ (fun H locs Z hw P => ?_)
  refine y_top (y := 10000) (ck_li_44) ?_
  refine lv_sipush (v := 10000) S.1 S.2.1 dL_lines_47 (by decide) ?_
  refine lv_icmp_ne (tgt := 181) S.1 S.2.1 dL_lines_50 (by decide) (fun c => absurd (by decide) c) (fun _ => ?_) 
  refine lv_aload_n S.1 S.2.1 dL_lines_53 rfl (lv_at hl 0 rfl) ?_
  refine lv_iconst (v := 0) S.1 S.2.1 dL_lines_54 (by decide) ?_
  refine q_errors lU0k (by decide) (by decide) cf_lU0 (rest := []) S hw P hl.1 (cwV 1 S.2.2.2.2 gL_lines_X5_errors rfl rfl rfl (by decide +kernel) ⟨Nat.le_of_ble_eq_true rfl, Nat.le_of_ble_eq_true rfl⟩) (Nat.le_of_ble_eq_true rfl) dL_lines_55 ⟨Nat.le_of_ble_eq_true rfl, Nat.le_of_ble_eq_true rfl⟩ (fun H locs hw => ?_)
  refine y_top (y := 0) (ck_li_55) ?_
  refine lv_if_ne (tgt := 181) S.1 S.2.1 dL_lines_58 (by decide) (fun c => absurd (by decide) c) (fun _ => ?_) 
  refine lv_aload_n S.1 S.2.1 dL_lines_61 rfl (lv_at hl 0 rfl) ?_
  refine lv_iconst (v := 1) S.1 S.2.1 dL_lines_62 (by decide) ?_
  refine q_errors lU0k (by decide) (by decide) cf_lU0 (rest := []) S hw P hl.1 (cwV 1 S.2.2.2.2 gL_lines_X5_errors rfl rfl rfl (by decide +kernel) ⟨Nat.le_of_ble_eq_true rfl, Nat.le_of_ble_eq_true rfl⟩) (Nat.le_of_ble_eq_true rfl) dL_lines_63 ⟨Nat.le_of_ble_eq_true rfl, Nat.le_of_ble_eq_true rfl⟩ (fun H locs hw => ?_)
  refine y_top (y := (-2000004)) (ck_li_63) ?_
  refine lv_ldc (v := (-2000004)) S.1 S.2.1 S.2.2.2.1 (S.2.2.2.2 _ k_L_lines_52) dL_lines_66 ?_
  refine lv_icmp_ne (tgt := 181) S.1 S.2.1 dL_lines_68 (by decide) (fun c => absurd (by decide) c) (fun _ => ?_) 
  refine lv_aload_n S.1 S.2.1 dL_lines_71 rfl (lv_at hl 0 rfl) ?_
  refine lv_sipush (v := 1000) S.1 S.2.1 dL_lines_72 (by decide) ?_
  refine q_give lU0k (by decide) (by decide) (by decide) ck_li_75h (rest := []) S hw P hl.1 (cwV 1 S.2.2.2.2 gL_lines_X5_give rfl rfl rfl (by decide +kernel) ⟨Nat.le_of_ble_eq_true rfl, Nat.le_of_ble_eq_true rfl⟩) (Nat.le_of_ble_eq_true rfl) dL_lines_75 ⟨Nat.le_of_ble_eq_true rfl, Nat.le_of_ble_eq_true rfl⟩ (fun H locs Z hw P => ?_)
  refine y_top (y := 1) (ck_li_75) ?_
  obtain ⟨hw, P⟩ := y_norm hw P ck_li_75e
  refine lv_iconst (v := 1) S.1 S.2.1 dL_lines_78 (by decide) ?_
  refine lv_icmp_ne (tgt := 181) S.1 S.2.1 dL_lines_79 (by decide) (fun c => absurd (by decide) c) (fun _ => ?_) 
  refine lv_aload_n S.1 S.2.1 dL_lines_82 rfl (lv_at hl 0 rfl) ?_
  refine lv_iconst (v := 3) S.1 S.2.1 dL_lines_83 (by decide) ?_
  refine q_idle lU1k (by decide) (by decide) (by decide) ck_li_84h (rest := []) S hw P hl.1 (cwV 1 S.2.2.2.2 gL_lines_X5_idle rfl rfl rfl (by decide +kernel) ⟨Nat.le_of_ble_eq_true rfl, Nat.le_of_ble_eq_true rfl⟩) (Nat.le_of_ble_eq_true rfl) dL_lines_84 ⟨Nat.le_of_ble_eq_true rfl, Nat.le_of_ble_eq_true rfl⟩ (fun H locs Z hw P => ?_)
  refine y_top (y := 3) (ck_li_84) ?_
  obtain ⟨hw, P⟩ := y_norm hw P ck_li_84e
  refine lv_iconst (v := 3) S.1 S.2.1 dL_lines_87 (by decide) ?_
  refine lv_icmp_ne (tgt := 181) S.1 S.2.1 dL_lines_88 (by decide) (fun c => absurd (by decide) c) (fun _ => ?_) 
  refine lv_aload_n S.1 S.2.1 dL_lines_91 rfl (lv_at hl 0 rfl) ?_
  refine lv_iconst (v := 4) S.1 S.2.1 dL_lines_92 (by decide) ?_
  refine q_account lU2k (by decide) (rest := []) S hw P hl.1 (cwV 1 S.2.2.2.2 gL_lines_X5_account rfl rfl rfl (by decide +kernel) ⟨Nat.le_of_ble_eq_true rfl, Nat.le_of_ble_eq_true rfl⟩) (Nat.le_of_ble_eq_true rfl) dL_lines_93 ⟨Nat.le_of_ble_eq_true rfl, Nat.le_of_ble_eq_true rfl⟩ (fun H locs hw => ?_)
  refine y_top (y := 1000) ((jAcc_l (Z2 := fun _ => lU2) rfl).trans ck_li_93) ?_
  refine lv_sipush (v := 1000) S.1 S.2.1 dL_lines_96 (by decide) ?_
  refine lv_icmp_ne (tgt := 181) S.1 S.2.1 dL_lines_99 (by decide) (fun c => absurd (by decide) c) (fun _ => ?_) 
  refine lv_aload_n S.1 S.2.1 dL_lines_102 rfl (lv_at hl 0 rfl) ?_
  refine lv_iconst (v := 2) S.1 S.2.1 dL_lines_103 (by decide) ?_
  refine q_count  (rest := []) S hw P hl.1 (cwV 1 S.2.2.2.2 gL_lines_X5_count rfl rfl rfl (by decide +kernel) ⟨Nat.le_of_ble_eq_true rfl, Nat.le_of_ble_eq_true rfl⟩) (Nat.le_of_ble_eq_true rfl) dL_lines_104 ⟨Nat.le_of_ble_eq_true rfl, Nat.le_of_ble_eq_true rfl⟩ (fun H locs hw => ?_)
  refine y_top (y := 0) ((jCount_l (Z2 := fun _ => lU2) rfl (by decide) (by decide)).trans ck_li_104) ?_
  refine lv_if_ne (tgt := 181) S.1 S.2.1 dL_lines_107 (by decide) (fun c => absurd (by decide) c) (fun _ => ?_) 
  refine lv_aload_n S.1 S.2.1 dL_lines_110 rfl (lv_at hl 0 rfl) ?_
  refine lv_iconst (v := 0) S.1 S.2.1 dL_lines_111 (by decide) ?_
  refine q_give lU2k (by decide) (by decide) (by decide) ck_li_112h (rest := []) S hw P hl.1 (cwV 1 S.2.2.2.2 gL_lines_X5_give rfl rfl rfl (by decide +kernel) ⟨Nat.le_of_ble_eq_true rfl, Nat.le_of_ble_eq_true rfl⟩) (Nat.le_of_ble_eq_true rfl) dL_lines_112 ⟨Nat.le_of_ble_eq_true rfl, Nat.le_of_ble_eq_true rfl⟩ (fun H locs Z hw P => ?_)
  refine y_top (y := 1) (ck_li_112) ?_
  obtain ⟨hw, P⟩ := y_norm hw P ck_li_112e
  refine lv_iconst (v := 1) S.1 S.2.1 dL_lines_115 (by decide) ?_
  refine lv_icmp_ne (tgt := 181) S.1 S.2.1 dL_lines_116 (by decide) (fun c => absurd (by decide) c) (fun _ => ?_) 
  refine lv_aload_n S.1 S.2.1 dL_lines_119 rfl (lv_at hl 0 rfl) ?_
  refine lv_iconst (v := 2) S.1 S.2.1 dL_lines_120 (by decide) ?_
  refine q_count  (rest := []) S hw P hl.1 (cwV 1 S.2.2.2.2 gL_lines_X5_count rfl rfl rfl (by decide +kernel) ⟨Nat.le_of_ble_eq_true rfl, Nat.le_of_ble_eq_true rfl⟩) (Nat.le_of_ble_eq_true rfl) dL_lines_121 ⟨Nat.le_of_ble_eq_true rfl, Nat.le_of_ble_eq_true rfl⟩ (fun H locs hw => ?_)
  refine y_top (y := 1) ((jCount_l (Z2 := fun _ => lU3) rfl (by decide) (by decide)).trans ck_li_121) ?_
  refine lv_iconst (v := 1) S.1 S.2.1 dL_lines_124 (by decide) ?_
  refine lv_icmp_ne (tgt := 181) S.1 S.2.1 dL_lines_125 (by decide) (fun c => absurd (by decide) c) (fun _ => ?_) 
  refine lv_aload_n S.1 S.2.1 dL_lines_128 rfl (lv_at hl 0 rfl) ?_
  refine lv_iconst (v := 0) S.1 S.2.1 dL_lines_129 (by decide) ?_
  refine lv_iconst (v := 4) S.1 S.2.1 dL_lines_130 (by decide) ?_
  refine lv_sipush (v := 1000) S.1 S.2.1 dL_lines_131 (by decide) ?_
  refine lv_sipush (v := 1000) S.1 S.2.1 dL_lines_134 (by decide) ?_
  refine lv_ldc (v := (-2000004)) S.1 S.2.1 S.2.2.2.1 (S.2.2.2.2 _ k_L_lines_52) dL_lines_137 ?_
  refine lv_iconst (v := 0) S.1 S.2.1 dL_lines_139 (by decide) ?_
  refine ly_sI (As := [.ref (Q1 8 0), .int 0, .int 4, .int 1000, .int 1000, .int (-2000004), .int 0]) (rest := []) S hw hl.1 (c_L_isOutput l D cI cC cL _ _ _ _ _ _ P 4 999 lU3k (by decide) (by decide) 0 4 1000 1000 (-2000004) 0 ck_li_140_0 ck_li_140_1 ck_li_140_2 ck_li_140_3 ck_li_140_4 ck_li_140_5) (va_cwS 7 S.2.2.2.2 gL_lines_L_isOutput rfl rfl rfl (by decide +kernel) ⟨Nat.le_of_ble_eq_true rfl, Nat.le_of_ble_eq_true rfl⟩) rfl (Nat.le_of_ble_eq_true rfl) dL_lines_140 rfl ⟨Nat.le_of_ble_eq_true rfl, Nat.le_of_ble_eq_true rfl⟩ (fun H locs x hx hw => ?_)
  subst hx
  refine lv_if_eq (tgt := 181) S.1 S.2.1 dL_lines_143 (by decide) (fun c => absurd c (by decide)) (fun _ => ?_) 
  refine lv_aload_n S.1 S.2.1 dL_lines_146 rfl (lv_at hl 0 rfl) ?_
  refine lv_iconst (v := 0) S.1 S.2.1 dL_lines_147 (by decide) ?_
  refine q_errors lU3k (by decide) (by decide) cf_lU3 (rest := []) S hw P hl.1 (cwV 1 S.2.2.2.2 gL_lines_X5_errors rfl rfl rfl (by decide +kernel) ⟨Nat.le_of_ble_eq_true rfl, Nat.le_of_ble_eq_true rfl⟩) (Nat.le_of_ble_eq_true rfl) dL_lines_148 ⟨Nat.le_of_ble_eq_true rfl, Nat.le_of_ble_eq_true rfl⟩ (fun H locs hw => ?_)
  refine y_top (y := 1) (ck_li_148) ?_
  refine lv_iconst (v := 1) S.1 S.2.1 dL_lines_151 (by decide) ?_
  refine lv_icmp_ne (tgt := 181) S.1 S.2.1 dL_lines_152 (by decide) (fun c => absurd (by decide) c) (fun _ => ?_) 
  refine lv_aload_n S.1 S.2.1 dL_lines_155 rfl (lv_at hl 0 rfl) ?_
  refine lv_iconst (v := 1) S.1 S.2.1 dL_lines_156 (by decide) ?_
  refine q_errors lU3k (by decide) (by decide) cf_lU3 (rest := []) S hw P hl.1 (cwV 1 S.2.2.2.2 gL_lines_X5_errors rfl rfl rfl (by decide +kernel) ⟨Nat.le_of_ble_eq_true rfl, Nat.le_of_ble_eq_true rfl⟩) (Nat.le_of_ble_eq_true rfl) dL_lines_157 ⟨Nat.le_of_ble_eq_true rfl, Nat.le_of_ble_eq_true rfl⟩ (fun H locs hw => ?_)
  refine y_top (y := 0) (ck_li_157) ?_
  refine lv_if_ne (tgt := 181) S.1 S.2.1 dL_lines_160 (by decide) (fun c => absurd (by decide) c) (fun _ => ?_) 
  refine lv_aload_n S.1 S.2.1 dL_lines_163 rfl (lv_at hl 0 rfl) ?_
  refine lv_iconst (v := 2) S.1 S.2.1 dL_lines_164 (by decide) ?_
  refine q_errors lU3k (by decide) (by decide) cf_lU3 (rest := []) S hw P hl.1 (cwV 1 S.2.2.2.2 gL_lines_X5_errors rfl rfl rfl (by decide +kernel) ⟨Nat.le_of_ble_eq_true rfl, Nat.le_of_ble_eq_true rfl⟩) (Nat.le_of_ble_eq_true rfl) dL_lines_165 ⟨Nat.le_of_ble_eq_true rfl, Nat.le_of_ble_eq_true rfl⟩ (fun H locs hw => ?_)
  refine y_top (y := 100000000) (ck_li_165) ?_
  refine lv_ldc (v := 100000000) S.1 S.2.1 S.2.2.2.1 (S.2.2.2.2 _ k_L_lines_95) dL_lines_168 ?_
  refine lv_icmp_ne (tgt := 181) S.1 S.2.1 dL_lines_170 (by decide) (fun c => absurd (by decide) c) (fun _ => ?_) 
  refine lv_aload_n S.1 S.2.1 dL_lines_173 rfl (lv_at hl 0 rfl) ?_
  refine lv_iconst (v := 3) S.1 S.2.1 dL_lines_174 (by decide) ?_
  refine q_errors lU3k (by decide) (by decide) cf_lU3 (rest := []) S hw P hl.1 (cwV 1 S.2.2.2.2 gL_lines_X5_errors rfl rfl rfl (by decide +kernel) ⟨Nat.le_of_ble_eq_true rfl, Nat.le_of_ble_eq_true rfl⟩) (Nat.le_of_ble_eq_true rfl) dL_lines_175 ⟨Nat.le_of_ble_eq_true rfl, Nat.le_of_ble_eq_true rfl⟩ (fun H locs hw => ?_)
  refine y_top (y := 0) (ck_li_175) ?_
  refine lv_if_eq (tgt := 183) S.1 S.2.1 dL_lines_178 (by decide) (fun _ => ?_) (fun c => absurd (by decide) c) 
  refine lv_aload_n S.1 S.2.1 dL_lines_183 rfl (lv_at hl 0 rfl) ?_
  refine lv_iconst (v := 0) S.1 S.2.1 dL_lines_184 (by decide) ?_
  refine lv_bipush (v := 100) S.1 S.2.1 dL_lines_185 (by decide) ?_
  refine lv_iconst (v := 0) S.1 S.2.1 dL_lines_187 (by decide) ?_
  refine q_stage lU3k (by decide) (show ¬ jHas (0 : Int32) (lU3 0 0) = 0 from ck_li_188h) (by decide) (by decide) (rest := []) S hw P hl.1 (cwV 3 S.2.2.2.2 gL_lines_X5_stage rfl rfl rfl (by decide +kernel) ⟨Nat.le_of_ble_eq_true rfl, Nat.le_of_ble_eq_true rfl⟩) (Nat.le_of_ble_eq_true rfl) dL_lines_188 ⟨Nat.le_of_ble_eq_true rfl, Nat.le_of_ble_eq_true rfl⟩ (fun H locs Z hw P => ?_)
  refine y_top (y := 0) (ck_li_188) ?_
  obtain ⟨hw, P⟩ := y_norm hw P ck_li_188e
  refine lv_if_ne (tgt := 322) S.1 S.2.1 dL_lines_191 (by decide) (fun c => absurd (by decide) c) (fun _ => ?_) 
  refine lv_aload_n S.1 S.2.1 dL_lines_194 rfl (lv_at hl 0 rfl) ?_
  refine lv_iconst (v := 2) S.1 S.2.1 dL_lines_195 (by decide) ?_
  refine q_begin (by decide) (rest := []) S hw P hl.1 (cwV 1 S.2.2.2.2 gL_lines_X5_begin rfl rfl rfl (by decide +kernel) ⟨Nat.le_of_ble_eq_true rfl, Nat.le_of_ble_eq_true rfl⟩) (Nat.le_of_ble_eq_true rfl) dL_lines_196 ⟨Nat.le_of_ble_eq_true rfl, Nat.le_of_ble_eq_true rfl⟩ (fun H locs Z hw P => ?_)
  refine y_top (y := 5) (ck_li_196) ?_
  obtain ⟨hw, P⟩ := y_norm hw P ck_li_196e
  refine lv_iconst (v := 5) S.1 S.2.1 dL_lines_199 (by decide) ?_
  refine lv_icmp_ne (tgt := 322) S.1 S.2.1 dL_lines_200 (by decide) (fun c => absurd (by decide) c) (fun _ => ?_) 
  refine lv_aload_n S.1 S.2.1 dL_lines_203 rfl (lv_at hl 0 rfl) ?_
  refine lv_iconst (v := 0) S.1 S.2.1 dL_lines_204 (by decide) ?_
  refine lv_iconst (v := 1) S.1 S.2.1 dL_lines_205 (by decide) ?_
  refine q_stageOf lU5k (by decide) (rest := []) S hw P hl.1 (cwV 2 S.2.2.2.2 gL_lines_X5_stageOf rfl rfl rfl (by decide +kernel) ⟨Nat.le_of_ble_eq_true rfl, Nat.le_of_ble_eq_true rfl⟩) (Nat.le_of_ble_eq_true rfl) dL_lines_206 ⟨Nat.le_of_ble_eq_true rfl, Nat.le_of_ble_eq_true rfl⟩ (fun H locs hw => ?_)
  refine y_top (y := 100) (ck_li_206) ?_
  refine lv_bipush (v := 100) S.1 S.2.1 dL_lines_209 (by decide) ?_
  refine lv_icmp_ne (tgt := 322) S.1 S.2.1 dL_lines_211 (by decide) (fun c => absurd (by decide) c) (fun _ => ?_) 
  refine lv_aload_n S.1 S.2.1 dL_lines_214 rfl (lv_at hl 0 rfl) ?_
  refine lv_iconst (v := 0) S.1 S.2.1 dL_lines_215 (by decide) ?_
  refine q_account lU5k (by decide) (rest := []) S hw P hl.1 (cwV 1 S.2.2.2.2 gL_lines_X5_account rfl rfl rfl (by decide +kernel) ⟨Nat.le_of_ble_eq_true rfl, Nat.le_of_ble_eq_true rfl⟩) (Nat.le_of_ble_eq_true rfl) dL_lines_216 ⟨Nat.le_of_ble_eq_true rfl, Nat.le_of_ble_eq_true rfl⟩ (fun H locs hw => ?_)
  refine y_top (y := 0) ((jAcc_l (Z2 := fun _ => lU5) rfl).trans ck_li_216) ?_
  refine lv_if_ne (tgt := 322) S.1 S.2.1 dL_lines_219 (by decide) (fun c => absurd (by decide) c) (fun _ => ?_) 
  refine lv_aload_n S.1 S.2.1 dL_lines_222 rfl (lv_at hl 0 rfl) ?_
  refine lv_sipush (v := 1000) S.1 S.2.1 dL_lines_223 (by decide) ?_
  refine q_give lU5k (by decide) (by decide) (by decide) ck_li_226h (rest := []) S hw P hl.1 (cwV 1 S.2.2.2.2 gL_lines_X5_give rfl rfl rfl (by decide +kernel) ⟨Nat.le_of_ble_eq_true rfl, Nat.le_of_ble_eq_true rfl⟩) (Nat.le_of_ble_eq_true rfl) dL_lines_226 ⟨Nat.le_of_ble_eq_true rfl, Nat.le_of_ble_eq_true rfl⟩ (fun H locs Z hw P => ?_)
  refine y_top (y := 1) (ck_li_226) ?_
  obtain ⟨hw, P⟩ := y_norm hw P ck_li_226e
  refine lv_iconst (v := 1) S.1 S.2.1 dL_lines_229 (by decide) ?_
  refine lv_icmp_ne (tgt := 322) S.1 S.2.1 dL_lines_230 (by decide) (fun c => absurd (by decide) c) (fun _ => ?_) 
  refine lv_aload_n S.1 S.2.1 dL_lines_233 rfl (lv_at hl 0 rfl) ?_
  refine lv_iconst (v := 1) S.1 S.2.1 dL_lines_234 (by decide) ?_
  refine q_idle lU6k (by decide) (by decide) (by decide) ck_li_235h (rest := []) S hw P hl.1 (cwV 1 S.2.2.2.2 gL_lines_X5_idle rfl rfl rfl (by decide +kernel) ⟨Nat.le_of_ble_eq_true rfl, Nat.le_of_ble_eq_true rfl⟩) (Nat.le_of_ble_eq_true rfl) dL_lines_235 ⟨Nat.le_of_ble_eq_true rfl, Nat.le_of_ble_eq_true rfl⟩ (fun H locs Z hw P => ?_)
  refine y_top (y := 1) (ck_li_235) ?_
  obtain ⟨hw, P⟩ := y_norm hw P ck_li_235e
  refine lv_iconst (v := 1) S.1 S.2.1 dL_lines_238 (by decide) ?_
  refine lv_icmp_ne (tgt := 322) S.1 S.2.1 dL_lines_239 (by decide) (fun c => absurd (by decide) c) (fun _ => ?_) 
  refine lv_aload_n S.1 S.2.1 dL_lines_242 rfl (lv_at hl 0 rfl) ?_
  refine lv_iconst (v := 0) S.1 S.2.1 dL_lines_243 (by decide) ?_
  refine lv_iconst (v := 0) S.1 S.2.1 dL_lines_244 (by decide) ?_
  refine q_stageOf lU7k (by decide) (rest := []) S hw P hl.1 (cwV 2 S.2.2.2.2 gL_lines_X5_stageOf rfl rfl rfl (by decide +kernel) ⟨Nat.le_of_ble_eq_true rfl, Nat.le_of_ble_eq_true rfl⟩) (Nat.le_of_ble_eq_true rfl) dL_lines_245 ⟨Nat.le_of_ble_eq_true rfl, Nat.le_of_ble_eq_true rfl⟩ (fun H locs hw => ?_)
  refine y_top (y := 100) (ck_li_245) ?_
  refine lv_bipush (v := 100) S.1 S.2.1 dL_lines_248 (by decide) ?_
  refine lv_icmp_ne (tgt := 322) S.1 S.2.1 dL_lines_250 (by decide) (fun c => absurd (by decide) c) (fun _ => ?_) 
  refine lv_aload_n S.1 S.2.1 dL_lines_253 rfl (lv_at hl 0 rfl) ?_
  refine lv_iconst (v := 1) S.1 S.2.1 dL_lines_254 (by decide) ?_
  refine lv_iconst (v := 0) S.1 S.2.1 dL_lines_255 (by decide) ?_
  refine q_stageOf lU7k (by decide) (rest := []) S hw P hl.1 (cwV 2 S.2.2.2.2 gL_lines_X5_stageOf rfl rfl rfl (by decide +kernel) ⟨Nat.le_of_ble_eq_true rfl, Nat.le_of_ble_eq_true rfl⟩) (Nat.le_of_ble_eq_true rfl) dL_lines_256 ⟨Nat.le_of_ble_eq_true rfl, Nat.le_of_ble_eq_true rfl⟩ (fun H locs hw => ?_)
  refine y_top (y := 900) (ck_li_256) ?_
  refine lv_sipush (v := 900) S.1 S.2.1 dL_lines_259 (by decide) ?_
  refine lv_icmp_ne (tgt := 322) S.1 S.2.1 dL_lines_262 (by decide) (fun c => absurd (by decide) c) (fun _ => ?_) 
  refine lv_aload_n S.1 S.2.1 dL_lines_265 rfl (lv_at hl 0 rfl) ?_
  refine lv_iconst (v := 1) S.1 S.2.1 dL_lines_266 (by decide) ?_
  refine q_idle lU7k (by decide) (by decide) (by decide) ck_li_267h (rest := []) S hw P hl.1 (cwV 1 S.2.2.2.2 gL_lines_X5_idle rfl rfl rfl (by decide +kernel) ⟨Nat.le_of_ble_eq_true rfl, Nat.le_of_ble_eq_true rfl⟩) (Nat.le_of_ble_eq_true rfl) dL_lines_267 ⟨Nat.le_of_ble_eq_true rfl, Nat.le_of_ble_eq_true rfl⟩ (fun H locs Z hw P => ?_)
  refine y_top (y := 1) (ck_li_267) ?_
  obtain ⟨hw, P⟩ := y_norm hw P ck_li_267e
  refine lv_iconst (v := 1) S.1 S.2.1 dL_lines_270 (by decide) ?_
  refine lv_icmp_ne (tgt := 322) S.1 S.2.1 dL_lines_271 (by decide) (fun c => absurd (by decide) c) (fun _ => ?_) 
  refine lv_aload_n S.1 S.2.1 dL_lines_274 rfl (lv_at hl 0 rfl) ?_
  refine lv_iconst (v := 0) S.1 S.2.1 dL_lines_275 (by decide) ?_
  refine lv_iconst (v := 2) S.1 S.2.1 dL_lines_276 (by decide) ?_
  refine lv_sipush (v := 1000) S.1 S.2.1 dL_lines_277 (by decide) ?_
  refine lv_sipush (v := 900) S.1 S.2.1 dL_lines_280 (by decide) ?_
  refine lv_ldc (v := (-2000004)) S.1 S.2.1 S.2.2.2.1 (S.2.2.2.2 _ k_L_lines_52) dL_lines_283 ?_
  refine lv_iconst (v := 0) S.1 S.2.1 dL_lines_285 (by decide) ?_
  refine ly_sI (As := [.ref (Q1 8 0), .int 0, .int 2, .int 1000, .int 900, .int (-2000004), .int 0]) (rest := []) S hw hl.1 (c_L_isOutput l D cI cC cL _ _ _ _ _ _ P 2 999 lU8k (by decide) (by decide) 0 2 1000 900 (-2000004) 0 ck_li_286_0 ck_li_286_1 ck_li_286_2 ck_li_286_3 ck_li_286_4 ck_li_286_5) (va_cwS 7 S.2.2.2.2 gL_lines_L_isOutput rfl rfl rfl (by decide +kernel) ⟨Nat.le_of_ble_eq_true rfl, Nat.le_of_ble_eq_true rfl⟩) rfl (Nat.le_of_ble_eq_true rfl) dL_lines_286 rfl ⟨Nat.le_of_ble_eq_true rfl, Nat.le_of_ble_eq_true rfl⟩ (fun H locs x hx hw => ?_)
  subst hx
  refine lv_if_eq (tgt := 322) S.1 S.2.1 dL_lines_289 (by decide) (fun c => absurd c (by decide)) (fun _ => ?_) 
  refine lv_aload_n S.1 S.2.1 dL_lines_292 rfl (lv_at hl 0 rfl) ?_
  refine lv_iconst (v := 1) S.1 S.2.1 dL_lines_293 (by decide) ?_
  refine q_errors lU8k (by decide) (by decide) cf_lU8 (rest := []) S hw P hl.1 (cwV 1 S.2.2.2.2 gL_lines_X5_errors rfl rfl rfl (by decide +kernel) ⟨Nat.le_of_ble_eq_true rfl, Nat.le_of_ble_eq_true rfl⟩) (Nat.le_of_ble_eq_true rfl) dL_lines_294 ⟨Nat.le_of_ble_eq_true rfl, Nat.le_of_ble_eq_true rfl⟩ (fun H locs hw => ?_)
  refine y_top (y := 100) (ck_li_294) ?_
  refine lv_bipush (v := 100) S.1 S.2.1 dL_lines_297 (by decide) ?_
  refine lv_icmp_ne (tgt := 322) S.1 S.2.1 dL_lines_299 (by decide) (fun c => absurd (by decide) c) (fun _ => ?_) 
  refine lv_aload_n S.1 S.2.1 dL_lines_302 rfl (lv_at hl 0 rfl) ?_
  refine lv_iconst (v := 2) S.1 S.2.1 dL_lines_303 (by decide) ?_
  refine q_errors lU8k (by decide) (by decide) cf_lU8 (rest := []) S hw P hl.1 (cwV 1 S.2.2.2.2 gL_lines_X5_errors rfl rfl rfl (by decide +kernel) ⟨Nat.le_of_ble_eq_true rfl, Nat.le_of_ble_eq_true rfl⟩) (Nat.le_of_ble_eq_true rfl) dL_lines_304 ⟨Nat.le_of_ble_eq_true rfl, Nat.le_of_ble_eq_true rfl⟩ (fun H locs hw => ?_)
  refine y_top (y := 99999900) (ck_li_304) ?_
  refine lv_ldc (v := 99999900) S.1 S.2.1 S.2.2.2.1 (S.2.2.2.2 _ k_L_lines_96) dL_lines_307 ?_
  refine lv_icmp_ne (tgt := 322) S.1 S.2.1 dL_lines_309 (by decide) (fun c => absurd (by decide) c) (fun _ => ?_) 
  refine lv_aload_n S.1 S.2.1 dL_lines_312 rfl (lv_at hl 0 rfl) ?_
  refine lv_iconst (v := 3) S.1 S.2.1 dL_lines_313 (by decide) ?_
  refine q_errors lU8k (by decide) (by decide) cf_lU8 (rest := []) S hw P hl.1 (cwV 1 S.2.2.2.2 gL_lines_X5_errors rfl rfl rfl (by decide +kernel) ⟨Nat.le_of_ble_eq_true rfl, Nat.le_of_ble_eq_true rfl⟩) (Nat.le_of_ble_eq_true rfl) dL_lines_314 ⟨Nat.le_of_ble_eq_true rfl, Nat.le_of_ble_eq_true rfl⟩ (fun H locs hw => ?_)
  refine y_top (y := 1120403456) (ck_li_314) ?_
  refine lv_ldc (v := 1120403456) S.1 S.2.1 S.2.2.2.1 (S.2.2.2.2 _ k_L_lines_97) dL_lines_317 ?_
  refine lv_icmp_eq (tgt := 324) S.1 S.2.1 dL_lines_319 (by decide) (fun _ => ?_) (fun c => absurd (by decide) c) 
  refine lv_aload_n S.1 S.2.1 dL_lines_324 rfl (lv_at hl 0 rfl) ?_
  refine lv_sipush (v := 1000) S.1 S.2.1 dL_lines_325 (by decide) ?_
  refine lv_iconst (v := 1) S.1 S.2.1 dL_lines_328 (by decide) ?_
  refine q_echo lU8k (by decide) (by decide) (by decide) (rest := []) S hw P hl.1 (cwV 2 S.2.2.2.2 gL_lines_X5_echo rfl rfl rfl (by decide +kernel) ⟨Nat.le_of_ble_eq_true rfl, Nat.le_of_ble_eq_true rfl⟩) (Nat.le_of_ble_eq_true rfl) dL_lines_329 ⟨Nat.le_of_ble_eq_true rfl, Nat.le_of_ble_eq_true rfl⟩ (fun H locs Z hw P => ?_)
  refine y_top (y := 0) (ck_li_329) ?_
  refine lv_if_ne (tgt := 467) S.1 S.2.1 dL_lines_332 (by decide) (fun c => absurd (by decide) c) (fun _ => ?_) 
  refine lv_aload_n S.1 S.2.1 dL_lines_335 rfl (lv_at hl 0 rfl) ?_
  refine lv_sipush (v := 1000) S.1 S.2.1 dL_lines_336 (by decide) ?_
  refine lv_iconst (v := 2) S.1 S.2.1 dL_lines_339 (by decide) ?_
  refine q_echo lU8k (by decide) (by decide) (by decide) (rest := []) S hw P hl.1 (cwV 2 S.2.2.2.2 gL_lines_X5_echo rfl rfl rfl (by decide +kernel) ⟨Nat.le_of_ble_eq_true rfl, Nat.le_of_ble_eq_true rfl⟩) (Nat.le_of_ble_eq_true rfl) dL_lines_340 ⟨Nat.le_of_ble_eq_true rfl, Nat.le_of_ble_eq_true rfl⟩ (fun H locs Z hw P => ?_)
  refine y_top (y := 900) (ck_li_340) ?_
  refine lv_sipush (v := 900) S.1 S.2.1 dL_lines_343 (by decide) ?_
  refine lv_icmp_ne (tgt := 467) S.1 S.2.1 dL_lines_346 (by decide) (fun c => absurd (by decide) c) (fun _ => ?_) 
  refine lv_aload_n S.1 S.2.1 dL_lines_349 rfl (lv_at hl 0 rfl) ?_
  refine lv_sipush (v := 1000) S.1 S.2.1 dL_lines_350 (by decide) ?_
  refine lv_iconst (v := 3) S.1 S.2.1 dL_lines_353 (by decide) ?_
  refine q_echo lU8k (by decide) (by decide) (by decide) (rest := []) S hw P hl.1 (cwV 2 S.2.2.2.2 gL_lines_X5_echo rfl rfl rfl (by decide +kernel) ⟨Nat.le_of_ble_eq_true rfl, Nat.le_of_ble_eq_true rfl⟩) (Nat.le_of_ble_eq_true rfl) dL_lines_354 ⟨Nat.le_of_ble_eq_true rfl, Nat.le_of_ble_eq_true rfl⟩ (fun H locs Z hw P => ?_)
  refine y_top (y := 90) (ck_li_354) ?_
  refine lv_bipush (v := 90) S.1 S.2.1 dL_lines_357 (by decide) ?_
  refine lv_icmp_ne (tgt := 467) S.1 S.2.1 dL_lines_359 (by decide) (fun c => absurd (by decide) c) (fun _ => ?_) 
  refine lv_aload_n S.1 S.2.1 dL_lines_362 rfl (lv_at hl 0 rfl) ?_
  refine lv_sipush (v := 1000) S.1 S.2.1 dL_lines_363 (by decide) ?_
  refine lv_iconst (v := 4) S.1 S.2.1 dL_lines_366 (by decide) ?_
  refine q_echo lU8k (by decide) (by decide) (by decide) (rest := []) S hw P hl.1 (cwV 2 S.2.2.2.2 gL_lines_X5_echo rfl rfl rfl (by decide +kernel) ⟨Nat.le_of_ble_eq_true rfl, Nat.le_of_ble_eq_true rfl⟩) (Nat.le_of_ble_eq_true rfl) dL_lines_367 ⟨Nat.le_of_ble_eq_true rfl, Nat.le_of_ble_eq_true rfl⟩ (fun H locs Z hw P => ?_)
  refine y_top (y := 9) (ck_li_367) ?_
  refine lv_bipush (v := 9) S.1 S.2.1 dL_lines_370 (by decide) ?_
  refine lv_icmp_ne (tgt := 467) S.1 S.2.1 dL_lines_372 (by decide) (fun c => absurd (by decide) c) (fun _ => ?_) 
  refine lv_aload_n S.1 S.2.1 dL_lines_375 rfl (lv_at hl 0 rfl) ?_
  refine lv_sipush (v := 1000) S.1 S.2.1 dL_lines_376 (by decide) ?_
  refine lv_iconst (v := 5) S.1 S.2.1 dL_lines_379 (by decide) ?_
  refine q_echo lU8k (by decide) (by decide) (by decide) (rest := []) S hw P hl.1 (cwV 2 S.2.2.2.2 gL_lines_X5_echo rfl rfl rfl (by decide +kernel) ⟨Nat.le_of_ble_eq_true rfl, Nat.le_of_ble_eq_true rfl⟩) (Nat.le_of_ble_eq_true rfl) dL_lines_380 ⟨Nat.le_of_ble_eq_true rfl, Nat.le_of_ble_eq_true rfl⟩ (fun H locs Z hw P => ?_)
  refine y_top (y := 1) (ck_li_380) ?_
  refine lv_iconst (v := 1) S.1 S.2.1 dL_lines_383 (by decide) ?_
  refine lv_icmp_ne (tgt := 467) S.1 S.2.1 dL_lines_384 (by decide) (fun c => absurd (by decide) c) (fun _ => ?_) 
  refine lv_aload_n S.1 S.2.1 dL_lines_387 rfl (lv_at hl 0 rfl) ?_
  refine lv_sipush (v := 1000) S.1 S.2.1 dL_lines_388 (by decide) ?_
  refine lv_bipush (v := 6) S.1 S.2.1 dL_lines_391 (by decide) ?_
  refine q_echo lU8k (by decide) (by decide) (by decide) (rest := []) S hw P hl.1 (cwV 2 S.2.2.2.2 gL_lines_X5_echo rfl rfl rfl (by decide +kernel) ⟨Nat.le_of_ble_eq_true rfl, Nat.le_of_ble_eq_true rfl⟩) (Nat.le_of_ble_eq_true rfl) dL_lines_393 ⟨Nat.le_of_ble_eq_true rfl, Nat.le_of_ble_eq_true rfl⟩ (fun H locs Z hw P => ?_)
  refine y_top (y := 0) (ck_li_393) ?_
  refine lv_if_ne (tgt := 467) S.1 S.2.1 dL_lines_396 (by decide) (fun c => absurd (by decide) c) (fun _ => ?_) 
  refine lv_aload_n S.1 S.2.1 dL_lines_399 rfl (lv_at hl 0 rfl) ?_
  refine q_emptyAfter lU8k (by decide) (rest := []) S hw P hl.1 (cwV 0 S.2.2.2.2 gL_lines_X5_emptyAfter rfl rfl rfl (by decide +kernel) ⟨Nat.le_of_ble_eq_true rfl, Nat.le_of_ble_eq_true rfl⟩) (Nat.le_of_ble_eq_true rfl) dL_lines_400 ⟨Nat.le_of_ble_eq_true rfl, Nat.le_of_ble_eq_true rfl⟩ (fun H locs Z hw P => ?_)
  refine y_top (y := 3) (ck_li_400) ?_
  refine lv_iconst (v := 3) S.1 S.2.1 dL_lines_403 (by decide) ?_
  refine lv_icmp_ne (tgt := 467) S.1 S.2.1 dL_lines_404 (by decide) (fun c => absurd (by decide) c) (fun _ => ?_) 
  refine lv_aload_n S.1 S.2.1 dL_lines_407 rfl (lv_at hl 0 rfl) ?_
  refine lv_iconst (v := 0) S.1 S.2.1 dL_lines_408 (by decide) ?_
  refine q_worn lU8k (by decide) (by decide) (by decide) (rest := []) S hw P hl.1 (cwV 1 S.2.2.2.2 gL_lines_X5_worn rfl rfl rfl (by decide +kernel) ⟨Nat.le_of_ble_eq_true rfl, Nat.le_of_ble_eq_true rfl⟩) (Nat.le_of_ble_eq_true rfl) dL_lines_409 ⟨Nat.le_of_ble_eq_true rfl, Nat.le_of_ble_eq_true rfl⟩ (fun H locs Z hw P => ?_)
  refine y_top (y := 0) (ck_li_409) ?_
  refine lv_if_ne (tgt := 467) S.1 S.2.1 dL_lines_412 (by decide) (fun c => absurd (by decide) c) (fun _ => ?_) 
  refine lv_aload_n S.1 S.2.1 dL_lines_415 rfl (lv_at hl 0 rfl) ?_
  refine lv_iconst (v := 1) S.1 S.2.1 dL_lines_416 (by decide) ?_
  refine q_worn lU8k (by decide) (by decide) (by decide) (rest := []) S hw P hl.1 (cwV 1 S.2.2.2.2 gL_lines_X5_worn rfl rfl rfl (by decide +kernel) ⟨Nat.le_of_ble_eq_true rfl, Nat.le_of_ble_eq_true rfl⟩) (Nat.le_of_ble_eq_true rfl) dL_lines_417 ⟨Nat.le_of_ble_eq_true rfl, Nat.le_of_ble_eq_true rfl⟩ (fun H locs Z hw P => ?_)
  refine y_top (y := 10000) (ck_li_417) ?_
  refine lv_sipush (v := 10000) S.1 S.2.1 dL_lines_420 (by decide) ?_
  refine lv_icmp_ne (tgt := 467) S.1 S.2.1 dL_lines_423 (by decide) (fun c => absurd (by decide) c) (fun _ => ?_) 
  refine lv_aload_n S.1 S.2.1 dL_lines_426 rfl (lv_at hl 0 rfl) ?_
  refine q_safe lU8k (by decide) (rest := []) S hw P hl.1 (cwV 0 S.2.2.2.2 gL_lines_X5_safe rfl rfl rfl (by decide +kernel) ⟨Nat.le_of_ble_eq_true rfl, Nat.le_of_ble_eq_true rfl⟩) (Nat.le_of_ble_eq_true rfl) dL_lines_427 ⟨Nat.le_of_ble_eq_true rfl, Nat.le_of_ble_eq_true rfl⟩ (fun H locs Z hw P => ?_)
  refine y_top (y := 10000) (ck_li_427) ?_
  refine lv_sipush (v := 10000) S.1 S.2.1 dL_lines_430 (by decide) ?_
  refine lv_icmp_ne (tgt := 467) S.1 S.2.1 dL_lines_433 (by decide) (fun c => absurd (by decide) c) (fun _ => ?_) 
  refine lv_aload_n S.1 S.2.1 dL_lines_436 rfl (lv_at hl 0 rfl) ?_
  refine lv_iconst (v := 0) S.1 S.2.1 dL_lines_437 (by decide) ?_
  refine lv_sipush (v := 1000) S.1 S.2.1 dL_lines_438 (by decide) ?_
  refine q_set (by decide) (by decide) (rest := []) S hw P hl.1 hX (cwV 2 S.2.2.2.2 gL_lines_X5_set rfl rfl rfl (by decide +kernel) ⟨Nat.le_of_ble_eq_true rfl, Nat.le_of_ble_eq_true rfl⟩) (Nat.le_of_ble_eq_true rfl) dL_lines_441 ⟨Nat.le_of_ble_eq_true rfl, Nat.le_of_ble_eq_true rfl⟩ (fun H locs Z hw P => ?_)
  refine y_top (y := 20000) (ck_li_441) ?_
  obtain ⟨hw, P⟩ := y_norm hw P ck_li_441e
  refine lv_sipush (v := 20000) S.1 S.2.1 dL_lines_444 (by decide) ?_
  refine lv_icmp_ne (tgt := 467) S.1 S.2.1 dL_lines_447 (by decide) (fun c => absurd (by decide) c) (fun _ => ?_) 
  refine lv_aload_n S.1 S.2.1 dL_lines_450 rfl (lv_at hl 0 rfl) ?_
  refine q_safe lU9k (by decide) (rest := []) S hw P hl.1 (cwV 0 S.2.2.2.2 gL_lines_X5_safe rfl rfl rfl (by decide +kernel) ⟨Nat.le_of_ble_eq_true rfl, Nat.le_of_ble_eq_true rfl⟩) (Nat.le_of_ble_eq_true rfl) dL_lines_451 ⟨Nat.le_of_ble_eq_true rfl, Nat.le_of_ble_eq_true rfl⟩ (fun H locs Z hw P => ?_)
  refine y_top (y := 900) (ck_li_451) ?_
  refine lv_sipush (v := 900) S.1 S.2.1 dL_lines_454 (by decide) ?_
  refine lv_icmp_ne (tgt := 467) S.1 S.2.1 dL_lines_457 (by decide) (fun c => absurd (by decide) c) (fun _ => ?_) 
  refine lv_aload_n S.1 S.2.1 dL_lines_460 rfl (lv_at hl 0 rfl) ?_
  refine ly_sX (As := [.ref (Q1 8 0)]) (rest := []) S hw hX hl.1 (c_L_refused l D cI cC cL _ _ _ _ _ _ P 2 999 lU9k (by decide) (by decide) 0 rfl (Nat.zero_le _) (by decide)) (va_cwS 1 S.2.2.2.2 gL_lines_L_refused rfl rfl rfl (by decide +kernel) ⟨Nat.le_of_ble_eq_true rfl, Nat.le_of_ble_eq_true rfl⟩) rfl (Nat.le_of_ble_eq_true rfl) dL_lines_461 rfl ⟨Nat.le_of_ble_eq_true rfl, Nat.le_of_ble_eq_true rfl⟩ (fun H locs x hx hw => ?_)
  subst hx
  refine lv_if_ne (tgt := 469) S.1 S.2.1 dL_lines_464 (by decide) (fun _ => ?_) (fun c => absurd c (by decide)) 
  refine lv_aload_n S.1 S.2.1 dL_lines_469 rfl (lv_at hl 0 rfl) ?_
  refine lv_sipush (v := 5000) S.1 S.2.1 dL_lines_470 (by decide) ?_
  refine q_give lU9k (by decide) (by decide) (by decide) ck_li_473h (rest := []) S hw P hl.1 (cwV 1 S.2.2.2.2 gL_lines_X5_give rfl rfl rfl (by decide +kernel) ⟨Nat.le_of_ble_eq_true rfl, Nat.le_of_ble_eq_true rfl⟩) (Nat.le_of_ble_eq_true rfl) dL_lines_473 ⟨Nat.le_of_ble_eq_true rfl, Nat.le_of_ble_eq_true rfl⟩ (fun H locs Z hw P => ?_)
  refine y_top (y := 1) (ck_li_473) ?_
  obtain ⟨hw, P⟩ := y_norm hw P ck_li_473e
  refine lv_iconst (v := 1) S.1 S.2.1 dL_lines_476 (by decide) ?_
  refine lv_icmp_ne (tgt := 514) S.1 S.2.1 dL_lines_477 (by decide) (fun c => absurd (by decide) c) (fun _ => ?_) 
  refine lv_aload_n S.1 S.2.1 dL_lines_480 rfl (lv_at hl 0 rfl) ?_
  refine lv_iconst (v := 3) S.1 S.2.1 dL_lines_481 (by decide) ?_
  refine q_account lU10k (by decide) (rest := []) S hw P hl.1 (cwV 1 S.2.2.2.2 gL_lines_X5_account rfl rfl rfl (by decide +kernel) ⟨Nat.le_of_ble_eq_true rfl, Nat.le_of_ble_eq_true rfl⟩) (Nat.le_of_ble_eq_true rfl) dL_lines_482 ⟨Nat.le_of_ble_eq_true rfl, Nat.le_of_ble_eq_true rfl⟩ (fun H locs hw => ?_)
  refine y_top (y := 4001) ((jAcc_l (Z2 := fun _ => lU10) rfl).trans ck_li_482) ?_
  refine lv_sipush (v := 4001) S.1 S.2.1 dL_lines_485 (by decide) ?_
  refine lv_icmp_ne (tgt := 514) S.1 S.2.1 dL_lines_488 (by decide) (fun c => absurd (by decide) c) (fun _ => ?_) 
  refine lv_aload_n S.1 S.2.1 dL_lines_491 rfl (lv_at hl 0 rfl) ?_
  refine lv_iconst (v := 0) S.1 S.2.1 dL_lines_492 (by decide) ?_
  refine q_account lU10k (by decide) (rest := []) S hw P hl.1 (cwV 1 S.2.2.2.2 gL_lines_X5_account rfl rfl rfl (by decide +kernel) ⟨Nat.le_of_ble_eq_true rfl, Nat.le_of_ble_eq_true rfl⟩) (Nat.le_of_ble_eq_true rfl) dL_lines_493 ⟨Nat.le_of_ble_eq_true rfl, Nat.le_of_ble_eq_true rfl⟩ (fun H locs hw => ?_)
  refine y_top (y := 6000) ((jAcc_l (Z2 := fun _ => lU10) rfl).trans ck_li_493) ?_
  refine lv_sipush (v := 6000) S.1 S.2.1 dL_lines_496 (by decide) ?_
  refine lv_icmp_ne (tgt := 514) S.1 S.2.1 dL_lines_499 (by decide) (fun c => absurd (by decide) c) (fun _ => ?_) 
  refine lv_aload_n S.1 S.2.1 dL_lines_502 rfl (lv_at hl 0 rfl) ?_
  refine lv_iconst (v := 0) S.1 S.2.1 dL_lines_503 (by decide) ?_
  refine lv_iconst (v := 0) S.1 S.2.1 dL_lines_504 (by decide) ?_
  refine q_stageOf lU10k (by decide) (rest := []) S hw P hl.1 (cwV 2 S.2.2.2.2 gL_lines_X5_stageOf rfl rfl rfl (by decide +kernel) ⟨Nat.le_of_ble_eq_true rfl, Nat.le_of_ble_eq_true rfl⟩) (Nat.le_of_ble_eq_true rfl) dL_lines_505 ⟨Nat.le_of_ble_eq_true rfl, Nat.le_of_ble_eq_true rfl⟩ (fun H locs hw => ?_)
  refine y_top (y := 1000) (ck_li_505) ?_
  refine lv_sipush (v := 1000) S.1 S.2.1 dL_lines_508 (by decide) ?_
  refine lv_icmp_eq (tgt := 516) S.1 S.2.1 dL_lines_511 (by decide) (fun _ => ?_) (fun c => absurd (by decide) c) 
  refine lv_aload_n S.1 S.2.1 dL_lines_516 rfl (lv_at hl 0 rfl) ?_
  refine lv_iconst (v := 3) S.1 S.2.1 dL_lines_517 (by decide) ?_
  refine q_begin (by decide) (rest := []) S hw P hl.1 (cwV 1 S.2.2.2.2 gL_lines_X5_begin rfl rfl rfl (by decide +kernel) ⟨Nat.le_of_ble_eq_true rfl, Nat.le_of_ble_eq_true rfl⟩) (Nat.le_of_ble_eq_true rfl) dL_lines_518 ⟨Nat.le_of_ble_eq_true rfl, Nat.le_of_ble_eq_true rfl⟩ (fun H locs Z hw P => ?_)
  refine y_top (y := 4) (ck_li_518) ?_
  obtain ⟨hw, P⟩ := y_norm hw P ck_li_518e
  refine lv_iconst (v := 4) S.1 S.2.1 dL_lines_521 (by decide) ?_
  refine lv_icmp_ne (tgt := 649) S.1 S.2.1 dL_lines_522 (by decide) (fun c => absurd (by decide) c) (fun _ => ?_) 
  refine lv_aload_n S.1 S.2.1 dL_lines_525 rfl (lv_at hl 0 rfl) ?_
  refine lv_iconst (v := 2) S.1 S.2.1 dL_lines_526 (by decide) ?_
  refine lv_iconst (v := 1) S.1 S.2.1 dL_lines_527 (by decide) ?_
  refine q_stageOf lU11k (by decide) (rest := []) S hw P hl.1 (cwV 2 S.2.2.2.2 gL_lines_X5_stageOf rfl rfl rfl (by decide +kernel) ⟨Nat.le_of_ble_eq_true rfl, Nat.le_of_ble_eq_true rfl⟩) (Nat.le_of_ble_eq_true rfl) dL_lines_528 ⟨Nat.le_of_ble_eq_true rfl, Nat.le_of_ble_eq_true rfl⟩ (fun H locs hw => ?_)
  refine y_top (y := 0) (ck_li_528) ?_
  refine lv_if_ne (tgt := 649) S.1 S.2.1 dL_lines_531 (by decide) (fun c => absurd (by decide) c) (fun _ => ?_) 
  refine lv_aload_n S.1 S.2.1 dL_lines_534 rfl (lv_at hl 0 rfl) ?_
  refine lv_iconst (v := 2) S.1 S.2.1 dL_lines_535 (by decide) ?_
  refine lv_bipush (v := 7) S.1 S.2.1 dL_lines_536 (by decide) ?_
  refine lv_sipush (v := 300) S.1 S.2.1 dL_lines_538 (by decide) ?_
  refine q_stage lU11k (by decide) (show ¬ jHas (2 : Int32) (lU11 0 0) = 0 from ck_li_541h) (by decide) (by decide) (rest := []) S hw P hl.1 (cwV 3 S.2.2.2.2 gL_lines_X5_stage rfl rfl rfl (by decide +kernel) ⟨Nat.le_of_ble_eq_true rfl, Nat.le_of_ble_eq_true rfl⟩) (Nat.le_of_ble_eq_true rfl) dL_lines_541 ⟨Nat.le_of_ble_eq_true rfl, Nat.le_of_ble_eq_true rfl⟩ (fun H locs Z hw P => ?_)
  refine y_top (y := 0) (ck_li_541) ?_
  obtain ⟨hw, P⟩ := y_norm hw P ck_li_541e
  refine lv_if_ne (tgt := 649) S.1 S.2.1 dL_lines_544 (by decide) (fun c => absurd (by decide) c) (fun _ => ?_) 
  refine lv_aload_n S.1 S.2.1 dL_lines_547 rfl (lv_at hl 0 rfl) ?_
  refine lv_iconst (v := 2) S.1 S.2.1 dL_lines_548 (by decide) ?_
  refine q_begin (by decide) (rest := []) S hw P hl.1 (cwV 1 S.2.2.2.2 gL_lines_X5_begin rfl rfl rfl (by decide +kernel) ⟨Nat.le_of_ble_eq_true rfl, Nat.le_of_ble_eq_true rfl⟩) (Nat.le_of_ble_eq_true rfl) dL_lines_549 ⟨Nat.le_of_ble_eq_true rfl, Nat.le_of_ble_eq_true rfl⟩ (fun H locs Z hw P => ?_)
  refine y_top (y := 0) (ck_li_549) ?_
  obtain ⟨hw, P⟩ := y_norm hw P ck_li_549e
  refine lv_if_ne (tgt := 649) S.1 S.2.1 dL_lines_552 (by decide) (fun c => absurd (by decide) c) (fun _ => ?_) 
  refine lv_aload_n S.1 S.2.1 dL_lines_555 rfl (lv_at hl 0 rfl) ?_
  refine lv_iconst (v := 3) S.1 S.2.1 dL_lines_556 (by decide) ?_
  refine q_begin (by decide) (rest := []) S hw P hl.1 (cwV 1 S.2.2.2.2 gL_lines_X5_begin rfl rfl rfl (by decide +kernel) ⟨Nat.le_of_ble_eq_true rfl, Nat.le_of_ble_eq_true rfl⟩) (Nat.le_of_ble_eq_true rfl) dL_lines_557 ⟨Nat.le_of_ble_eq_true rfl, Nat.le_of_ble_eq_true rfl⟩ (fun H locs Z hw P => ?_)
  refine y_top (y := 0) (ck_li_557) ?_
  obtain ⟨hw, P⟩ := y_norm hw P ck_li_557e
  refine lv_if_ne (tgt := 649) S.1 S.2.1 dL_lines_560 (by decide) (fun c => absurd (by decide) c) (fun _ => ?_) 
  refine lv_aload_n S.1 S.2.1 dL_lines_563 rfl (lv_at hl 0 rfl) ?_
  refine lv_iconst (v := 2) S.1 S.2.1 dL_lines_564 (by decide) ?_
  refine lv_iconst (v := 2) S.1 S.2.1 dL_lines_565 (by decide) ?_
  refine q_stageOf lU11k (by decide) (rest := []) S hw P hl.1 (cwV 2 S.2.2.2.2 gL_lines_X5_stageOf rfl rfl rfl (by decide +kernel) ⟨Nat.le_of_ble_eq_true rfl, Nat.le_of_ble_eq_true rfl⟩) (Nat.le_of_ble_eq_true rfl) dL_lines_566 ⟨Nat.le_of_ble_eq_true rfl, Nat.le_of_ble_eq_true rfl⟩ (fun H locs hw => ?_)
  refine y_top (y := 0) (ck_li_566) ?_
  refine lv_if_ne (tgt := 649) S.1 S.2.1 dL_lines_569 (by decide) (fun c => absurd (by decide) c) (fun _ => ?_) 
  refine lv_aload_n S.1 S.2.1 dL_lines_572 rfl (lv_at hl 0 rfl) ?_
  refine lv_iconst (v := 0) S.1 S.2.1 dL_lines_573 (by decide) ?_
  refine lv_iconst (v := 0) S.1 S.2.1 dL_lines_574 (by decide) ?_
  refine lv_bipush (v := 100) S.1 S.2.1 dL_lines_575 (by decide) ?_
  refine q_stage lU11k (by decide) (show ¬ jHas (0 : Int32) (lU11 0 0) = 0 from ck_li_577h) (by decide) (by decide) (rest := []) S hw P hl.1 (cwV 3 S.2.2.2.2 gL_lines_X5_stage rfl rfl rfl (by decide +kernel) ⟨Nat.le_of_ble_eq_true rfl, Nat.le_of_ble_eq_true rfl⟩) (Nat.le_of_ble_eq_true rfl) dL_lines_577 ⟨Nat.le_of_ble_eq_true rfl, Nat.le_of_ble_eq_true rfl⟩ (fun H locs Z hw P => ?_)
  refine y_top (y := 100000) (ck_li_577) ?_
  obtain ⟨hw, P⟩ := y_norm hw P ck_li_577e
  refine lv_ldc (v := 100000) S.1 S.2.1 S.2.2.2.1 (S.2.2.2.2 _ k_L_lines_102) dL_lines_580 ?_
  refine lv_icmp_ne (tgt := 649) S.1 S.2.1 dL_lines_582 (by decide) (fun c => absurd (by decide) c) (fun _ => ?_) 
  refine lv_aload_n S.1 S.2.1 dL_lines_585 rfl (lv_at hl 0 rfl) ?_
  refine lv_sipush (v := 1000) S.1 S.2.1 dL_lines_586 (by decide) ?_
  refine q_give lU14k (by decide) (by decide) (by decide) ck_li_589h (rest := []) S hw P hl.1 (cwV 1 S.2.2.2.2 gL_lines_X5_give rfl rfl rfl (by decide +kernel) ⟨Nat.le_of_ble_eq_true rfl, Nat.le_of_ble_eq_true rfl⟩) (Nat.le_of_ble_eq_true rfl) dL_lines_589 ⟨Nat.le_of_ble_eq_true rfl, Nat.le_of_ble_eq_true rfl⟩ (fun H locs Z hw P => ?_)
  refine y_top (y := 1) (ck_li_589) ?_
  obtain ⟨hw, P⟩ := y_norm hw P ck_li_589e
  refine lv_iconst (v := 1) S.1 S.2.1 dL_lines_592 (by decide) ?_
  refine lv_icmp_ne (tgt := 649) S.1 S.2.1 dL_lines_593 (by decide) (fun c => absurd (by decide) c) (fun _ => ?_) 
  refine lv_aload_n S.1 S.2.1 dL_lines_596 rfl (lv_at hl 0 rfl) ?_
  refine lv_iconst (v := 0) S.1 S.2.1 dL_lines_597 (by decide) ?_
  refine lv_iconst (v := 4) S.1 S.2.1 dL_lines_598 (by decide) ?_
  refine q_stageOf lU15k (by decide) (rest := []) S hw P hl.1 (cwV 2 S.2.2.2.2 gL_lines_X5_stageOf rfl rfl rfl (by decide +kernel) ⟨Nat.le_of_ble_eq_true rfl, Nat.le_of_ble_eq_true rfl⟩) (Nat.le_of_ble_eq_true rfl) dL_lines_599 ⟨Nat.le_of_ble_eq_true rfl, Nat.le_of_ble_eq_true rfl⟩ (fun H locs hw => ?_)
  refine y_top (y := 100) (ck_li_599) ?_
  refine lv_bipush (v := 100) S.1 S.2.1 dL_lines_602 (by decide) ?_
  refine lv_icmp_ne (tgt := 649) S.1 S.2.1 dL_lines_604 (by decide) (fun c => absurd (by decide) c) (fun _ => ?_) 
  refine lv_aload_n S.1 S.2.1 dL_lines_607 rfl (lv_at hl 0 rfl) ?_
  refine lv_iconst (v := 0) S.1 S.2.1 dL_lines_608 (by decide) ?_
  refine lv_iconst (v := 5) S.1 S.2.1 dL_lines_609 (by decide) ?_
  refine q_stageOf lU15k (by decide) (rest := []) S hw P hl.1 (cwV 2 S.2.2.2.2 gL_lines_X5_stageOf rfl rfl rfl (by decide +kernel) ⟨Nat.le_of_ble_eq_true rfl, Nat.le_of_ble_eq_true rfl⟩) (Nat.le_of_ble_eq_true rfl) dL_lines_610 ⟨Nat.le_of_ble_eq_true rfl, Nat.le_of_ble_eq_true rfl⟩ (fun H locs hw => ?_)
  refine y_top (y := 900) (ck_li_610) ?_
  refine lv_sipush (v := 900) S.1 S.2.1 dL_lines_613 (by decide) ?_
  refine lv_icmp_ne (tgt := 649) S.1 S.2.1 dL_lines_616 (by decide) (fun c => absurd (by decide) c) (fun _ => ?_) 
  refine lv_aload_n S.1 S.2.1 dL_lines_619 rfl (lv_at hl 0 rfl) ?_
  refine lv_iconst (v := 1) S.1 S.2.1 dL_lines_620 (by decide) ?_
  refine q_idle lU15k (by decide) (by decide) (by decide) ck_li_621h (rest := []) S hw P hl.1 (cwV 1 S.2.2.2.2 gL_lines_X5_idle rfl rfl rfl (by decide +kernel) ⟨Nat.le_of_ble_eq_true rfl, Nat.le_of_ble_eq_true rfl⟩) (Nat.le_of_ble_eq_true rfl) dL_lines_621 ⟨Nat.le_of_ble_eq_true rfl, Nat.le_of_ble_eq_true rfl⟩ (fun H locs Z hw P => ?_)
  refine y_top (y := 1) (ck_li_621) ?_
  obtain ⟨hw, P⟩ := y_norm hw P ck_li_621e
  refine lv_iconst (v := 1) S.1 S.2.1 dL_lines_624 (by decide) ?_
  refine lv_icmp_ne (tgt := 649) S.1 S.2.1 dL_lines_625 (by decide) (fun c => absurd (by decide) c) (fun _ => ?_) 
  refine lv_aload_n S.1 S.2.1 dL_lines_628 rfl (lv_at hl 0 rfl) ?_
  refine lv_iconst (v := 2) S.1 S.2.1 dL_lines_629 (by decide) ?_
  refine q_account lU16k (by decide) (rest := []) S hw P hl.1 (cwV 1 S.2.2.2.2 gL_lines_X5_account rfl rfl rfl (by decide +kernel) ⟨Nat.le_of_ble_eq_true rfl, Nat.le_of_ble_eq_true rfl⟩) (Nat.le_of_ble_eq_true rfl) dL_lines_630 ⟨Nat.le_of_ble_eq_true rfl, Nat.le_of_ble_eq_true rfl⟩ (fun H locs hw => ?_)
  refine y_top (y := 100) ((jAcc_l (Z2 := fun _ => lU16) rfl).trans ck_li_630) ?_
  refine lv_bipush (v := 100) S.1 S.2.1 dL_lines_633 (by decide) ?_
  refine lv_icmp_ne (tgt := 649) S.1 S.2.1 dL_lines_635 (by decide) (fun c => absurd (by decide) c) (fun _ => ?_) 
  refine lv_aload_n S.1 S.2.1 dL_lines_638 rfl (lv_at hl 0 rfl) ?_
  refine lv_iconst (v := 4) S.1 S.2.1 dL_lines_639 (by decide) ?_
  refine q_account lU16k (by decide) (rest := []) S hw P hl.1 (cwV 1 S.2.2.2.2 gL_lines_X5_account rfl rfl rfl (by decide +kernel) ⟨Nat.le_of_ble_eq_true rfl, Nat.le_of_ble_eq_true rfl⟩) (Nat.le_of_ble_eq_true rfl) dL_lines_640 ⟨Nat.le_of_ble_eq_true rfl, Nat.le_of_ble_eq_true rfl⟩ (fun H locs hw => ?_)
  refine y_top (y := 900) ((jAcc_l (Z2 := fun _ => lU16) rfl).trans ck_li_640) ?_
  refine lv_sipush (v := 900) S.1 S.2.1 dL_lines_643 (by decide) ?_
  refine lv_icmp_eq (tgt := 651) S.1 S.2.1 dL_lines_646 (by decide) (fun _ => ?_) (fun c => absurd (by decide) c) 
  have hw := hw.none
  refine y_new (ci := 5) (fs := [.null, .null, .null, .null]) S hw (C := RX5) (T := TX5) (N := 4) i_L_lines_X5 tyX5_ok w_L_lines_new w_L_lines_newi w_L_lines_newc rfl (fun j hj => by rcases (show j = 0 ∨ j = 1 ∨ j = 2 ∨ j = 3 by omega) with rfl | rfl | rfl | rfl <;> rfl) (Nat.le_of_ble_eq_true rfl) (Nat.le_of_ble_eq_true rfl) dL_lines_651 (fun q2 H hwN => ?_)
  refine lv_dup S.1 S.2.1 dL_lines_654 rfl ?_
  refine y_callNI (rest := [.ref q2]) S hwN hX hl.1 (c_X5_init l D cI cC cL q2) (cwI 0 S.2.2.2.2 gL_lines_X5_init rfl rfl rfl (S.2.2.2.2 _ w_L_lines_newc) (S.2.2.2.2 _ w_L_lines_newl79) (S.2.2.2.2 _ w_L_lines_newm) rfl (by decide +kernel) ⟨Nat.le_of_ble_eq_true rfl, Nat.le_of_ble_eq_true rfl⟩) (Nat.le_of_ble_eq_true rfl) dL_lines_655 ⟨Nat.le_of_ble_eq_true rfl, Nat.le_of_ble_eq_true rfl⟩ (fun H locs Q2 eQ hw => ?_)
  subst eQ
  have hw : y_W D cI cC cL A s H locs (cWd cI cC cL Q2 jZ0 ++ []) := y_W_eq hw (List.append_nil _).symm
  have P : PW jZ0 jLn0 jTx0 0 (fun _ => jLn0) := PW_0 _
  refine lv_astore_n (lv' := [(1, .ref (Q2 8 0)), (0, .ref (Q1 8 0))]) S.1 S.2.1 dL_lines_658 rfl hl (by decide) rfl (fun ls hl => ?_)
  refine lv_iconst (v := 0) S.1 S.2.1 dL_lines_659 (by decide) ?_
  refine lv_istore_n (lv' := [(2, .int 0), (1, .ref (Q2 8 0)), (0, .ref (Q1 8 0))]) S.1 S.2.1 dL_lines_660 rfl hl (by decide) rfl (fun ls hl => ?_)
  have h0 : pIdl jLn0 4 0 0 := pIdl_0
  have lp : ∀ (fuel i : Nat) (H : Heap) (locs : List Loc) (ls : Array Slot) (Z : Nat → U) (u : U) (k : Nat) (g : Nat → U), i ≤ 24 → 24 < i + fuel → y_W D cI cC cL A s H locs (cWd cI cC cL Q2 Z ++ []) → PW Z u jTx0 k g → pIdl u 4 (40 * i) (80 * i) → lv_has ls 3 [(2, .int (nI i)), (1, .ref (Q2 8 0))] → W p l e (y_RN 9 208 150 2122) s mm args below meth c H locs (0 + 1 + 74 + 1 + 74) (0 + 4 + 1057 + 4 + 1057) QQ (F0 mm 661 ls []) := by
    intro fuel
    induction fuel with
    | zero => intro i H locs ls Z u k g h1 h2; exact absurd h2 (by omega)
    | succ fuel ih =>
      intro i H locs ls Z u k g h1 h2 hw P hp hl
      refine lv_iload_n S.1 S.2.1 dL_lines_661 rfl (lv_at hl 0 rfl) ?_
      refine lv_bipush (v := 24) S.1 S.2.1 dL_lines_662 (by decide) ?_
      have hv := hp.1
      refine lv_icmp_ge (tgt := 686) S.1 S.2.1 dL_lines_664 (by decide) (fun c1 => ?_) (fun c1 => ?_)
      · have hi : i = 24 := by have := (nI_leI (a := 24) (b := i) (by omega) (by omega)).mp c1; omega
        subst hi
        refine lv_aload_n S.1 S.2.1 dL_lines_686 rfl (lv_at hl 1 rfl) ?_
        refine lv_bipush (v := 40) S.1 S.2.1 dL_lines_687 (by decide) ?_
        refine q_idle_lim hv (by decide) (by decide) (by decide) (pIdl_lim hp (by decide)) (rest := []) S hw P hl.1 (cwV 1 S.2.2.2.2 gL_lines_X5_idle rfl rfl rfl (by decide +kernel) ⟨Nat.le_of_ble_eq_true rfl, Nat.le_of_ble_eq_true rfl⟩) (Nat.le_of_ble_eq_true rfl) dL_lines_689 ⟨Nat.le_of_ble_eq_true rfl, Nat.le_of_ble_eq_true rfl⟩ (fun H locs hw => ?_)
        refine lv_ldc (v := (-2000003)) S.1 S.2.1 S.2.2.2.1 (S.2.2.2.2 _ k_L_lines_103) dL_lines_692 ?_
        refine lv_icmp_ne (tgt := 764) S.1 S.2.1 dL_lines_694 (by decide) (fun c => absurd (by decide) c) (fun _ => ?_) 
        refine lv_aload_n S.1 S.2.1 dL_lines_697 rfl (lv_at hl 1 rfl) ?_
        refine lv_bipush (v := 39) S.1 S.2.1 dL_lines_698 (by decide) ?_
        refine q_idle hv (by decide) (by decide) (by decide) (pIdl_le hp (by decide) (by decide)) (rest := []) S hw P hl.1 (cwV 1 S.2.2.2.2 gL_lines_X5_idle rfl rfl rfl (by decide +kernel) ⟨Nat.le_of_ble_eq_true rfl, Nat.le_of_ble_eq_true rfl⟩) (Nat.le_of_ble_eq_true rfl) dL_lines_700 ⟨Nat.le_of_ble_eq_true rfl, Nat.le_of_ble_eq_true rfl⟩ (fun H locs Z hw P => ?_)
        refine y_top (y := 39) (pIdl_r (t := 39) hp (by decide)) ?_
        have hp2 : pIdl (jTI u 0 4 39) 4 999 1998 := pIdl_s (t := 39) hp (by decide) (by decide)
        have P : PW _ (jTI u 0 4 39) jTx0 _ _ := P
        generalize jTI u 0 4 39 = u2 at P hp2
        refine lv_bipush (v := 39) S.1 S.2.1 dL_lines_703 (by decide) ?_
        refine lv_icmp_ne (tgt := 764) S.1 S.2.1 dL_lines_705 (by decide) (fun c => absurd (by decide) c) (fun _ => ?_) 
        refine lv_aload_n S.1 S.2.1 dL_lines_708 rfl (lv_at hl 1 rfl) ?_
        refine lv_iconst (v := 1) S.1 S.2.1 dL_lines_709 (by decide) ?_
        refine q_count  (rest := []) S hw P hl.1 (cwV 1 S.2.2.2.2 gL_lines_X5_count rfl rfl rfl (by decide +kernel) ⟨Nat.le_of_ble_eq_true rfl, Nat.le_of_ble_eq_true rfl⟩) (Nat.le_of_ble_eq_true rfl) dL_lines_710 ⟨Nat.le_of_ble_eq_true rfl, Nat.le_of_ble_eq_true rfl⟩ (fun H locs hw => ?_)
        refine y_top (y := 999) ((jCount_1 (qZ u2 jTx0 _)).trans (show u2 11 0 = 999 from hp2.2.2)) ?_
        refine lv_sipush (v := 999) S.1 S.2.1 dL_lines_713 (by decide) ?_
        refine lv_icmp_ne (tgt := 764) S.1 S.2.1 dL_lines_716 (by decide) (fun c => absurd (by decide) c) (fun _ => ?_) 
        refine lv_aload_n S.1 S.2.1 dL_lines_719 rfl (lv_at hl 1 rfl) ?_
        refine lv_iconst (v := 1) S.1 S.2.1 dL_lines_720 (by decide) ?_
        refine q_give_lim hp2.1 (by decide) (by decide) (by decide) (pIdl_lim (t := 1) hp2 (by decide)) (rest := []) S hw P hl.1 (cwV 1 S.2.2.2.2 gL_lines_X5_give rfl rfl rfl (by decide +kernel) ⟨Nat.le_of_ble_eq_true rfl, Nat.le_of_ble_eq_true rfl⟩) (Nat.le_of_ble_eq_true rfl) dL_lines_721 ⟨Nat.le_of_ble_eq_true rfl, Nat.le_of_ble_eq_true rfl⟩ (fun H locs hw => ?_)
        refine lv_ldc (v := (-2000003)) S.1 S.2.1 S.2.2.2.1 (S.2.2.2.2 _ k_L_lines_103) dL_lines_724 ?_
        refine lv_icmp_ne (tgt := 764) S.1 S.2.1 dL_lines_726 (by decide) (fun c => absurd (by decide) c) (fun _ => ?_) 
        refine lv_aload_n S.1 S.2.1 dL_lines_729 rfl (lv_at hl 1 rfl) ?_
        refine lv_iconst (v := (-1)) S.1 S.2.1 dL_lines_730 (by decide) ?_
        refine q_give_inv hp2.1 (by decide) (by decide) (by decide) (rest := []) S hw P hl.1 (cwV 1 S.2.2.2.2 gL_lines_X5_give rfl rfl rfl (by decide +kernel) ⟨Nat.le_of_ble_eq_true rfl, Nat.le_of_ble_eq_true rfl⟩) (Nat.le_of_ble_eq_true rfl) dL_lines_731 ⟨Nat.le_of_ble_eq_true rfl, Nat.le_of_ble_eq_true rfl⟩ (fun H locs hw => ?_)
        refine lv_ldc (v := (-2000001)) S.1 S.2.1 S.2.2.2.1 (S.2.2.2.2 _ k_L_lines_37) dL_lines_734 ?_
        refine lv_icmp_ne (tgt := 764) S.1 S.2.1 dL_lines_736 (by decide) (fun c => absurd (by decide) c) (fun _ => ?_) 
        refine lv_aload_n S.1 S.2.1 dL_lines_739 rfl (lv_at hl 1 rfl) ?_
        refine lv_iconst (v := 2) S.1 S.2.1 dL_lines_740 (by decide) ?_
        refine q_count  (rest := []) S hw P hl.1 (cwV 1 S.2.2.2.2 gL_lines_X5_count rfl rfl rfl (by decide +kernel) ⟨Nat.le_of_ble_eq_true rfl, Nat.le_of_ble_eq_true rfl⟩) (Nat.le_of_ble_eq_true rfl) dL_lines_741 ⟨Nat.le_of_ble_eq_true rfl, Nat.le_of_ble_eq_true rfl⟩ (fun H locs hw => ?_)
        refine y_top (y := 16) ((jCount_2 (qZ u2 jTx0 _)).trans (show jKept u2 = 16 from jKept_n (h := 999) (n := 4) hp2.2.2 hp2.1.1 (by decide) (by decide))) ?_
        refine lv_bipush (v := 16) S.1 S.2.1 dL_lines_744 (by decide) ?_
        refine lv_icmp_ne (tgt := 764) S.1 S.2.1 dL_lines_746 (by decide) (fun c => absurd (by decide) c) (fun _ => ?_) 
        refine lv_aload_n S.1 S.2.1 dL_lines_749 rfl (lv_at hl 1 rfl) ?_
        refine lv_iconst (v := 4) S.1 S.2.1 dL_lines_750 (by decide) ?_
        refine q_begin (by decide) (rest := []) S hw P hl.1 (cwV 1 S.2.2.2.2 gL_lines_X5_begin rfl rfl rfl (by decide +kernel) ⟨Nat.le_of_ble_eq_true rfl, Nat.le_of_ble_eq_true rfl⟩) (Nat.le_of_ble_eq_true rfl) dL_lines_751 ⟨Nat.le_of_ble_eq_true rfl, Nat.le_of_ble_eq_true rfl⟩ (fun H locs Z hw P => ?_)
        refine y_top (y := 999) (hp2.2.2) ?_
        refine lv_sipush (v := 999) S.1 S.2.1 dL_lines_754 (by decide) ?_
        refine lv_icmp_ne (tgt := 764) S.1 S.2.1 dL_lines_757 (by decide) (fun c => absurd (by decide) c) (fun _ => ?_) 
        refine lv_iconst (v := 1) S.1 S.2.1 dL_lines_760 (by decide) ?_
        refine lv_goto (tgt := 765) S.1 S.2.1 dL_lines_761 (by decide) ?_
        exact ret _ _ _ _ _ hw.none rfl dL_lines_765
      · have hi : i < 24 := by
          apply Decidable.byContradiction
          intro hn
          exact c1 ((nI_leI (a := 24) (b := i) (by omega) (by omega)).mpr (by omega))
        refine lv_aload_n S.1 S.2.1 dL_lines_667 rfl (lv_at hl 1 rfl) ?_
        refine lv_bipush (v := 40) S.1 S.2.1 dL_lines_668 (by decide) ?_
        refine q_idle hv (by decide) (by omega) (by decide) (pIdl_le (t := 40) hp (by omega) (by omega)) (rest := []) S hw P hl.1 (cwV 1 S.2.2.2.2 gL_lines_X5_idle rfl rfl rfl (by decide +kernel) ⟨Nat.le_of_ble_eq_true rfl, Nat.le_of_ble_eq_true rfl⟩) (Nat.le_of_ble_eq_true rfl) dL_lines_670 ⟨Nat.le_of_ble_eq_true rfl, Nat.le_of_ble_eq_true rfl⟩ (fun H locs Z hw P => ?_)
        refine y_top (y := 40) (pIdl_r (t := 40) hp (by omega)) ?_
        have hp2 : pIdl (jTI u 0 4 40) 4 (40 * (i + 1)) (80 * (i + 1)) := pIdl_s (t := 40) (h := 40 * i) (B := 80 * i) hp (by omega) (by omega)
        have P : PW _ (jTI u 0 4 40) jTx0 _ _ := P
        generalize jTI u 0 4 40 = u2 at P hp2
        refine lv_bipush (v := 40) S.1 S.2.1 dL_lines_673 (by decide) ?_
        refine lv_icmp_eq (tgt := 680) S.1 S.2.1 dL_lines_675 (by decide) (fun _ => ?_) (fun c => absurd (by decide) c) 
        refine lv_iinc (v := (nI (i + 1))) (lv' := [(2, .int (nI (i + 1))), (1, .ref (Q2 8 0))]) S.1 S.2.1 dL_lines_680 hl (k := 0) rfl (nI_1 _) (by decide) rfl (fun ls hl => ?_)
        refine lv_goto (tgt := 661) S.1 S.2.1 dL_lines_683 (by decide) ?_
        exact ih (i + 1) H locs ls _ _ _ _ (by omega) (by omega) hw P hp2 (lv_sub hl [0, 1] rfl)
  exact lp 25 0 _ _ ls _ _ _ _ (by decide) (by decide) hw P h0 (lv_sub hl [0, 1] rfl)
