/-! texts by words of eight characters -/
def kV (j : Nat) : Int32 := 56 - 8 * nI j
def tySg (word : Int64) (j : Nat) : Int32 := ((word >>> ((kV j : Int32).toInt64 &&& 63)) &&& 255).toInt32
def tyP (word : Int64) : Nat → U × Nat → U × Nat
  | 0, st => st
  | j + 1, st => if tySg word j = 0 then tyP word j st else (tApp (tyP word j st).1 (tyP word j st).2 (tySg word j), (tyP word j st).2 + 1)
def tyB (word : Int64) (st : U × Nat) : Nat → Bool
  | 0 => true
  | j + 1 => (eqI (tySg word j) 0 || (eqI (jOut (tySg word j) 32 126) 0 && Nat.blt (tyP word j st).2 60)) && tyB word st j
theorem tyB_of {word : Int64} {st : U × Nat} : ∀ {n : Nat}, tyB word st n = true → ∀ j, j < n → tySg word j = 0 ∨ (jOut (tySg word j) 32 126 = 0 ∧ (tyP word j st).2 < 60)
  | 0, _, j, hj => absurd hj (Nat.not_lt_zero j)
  | n + 1, h, j, hj => by
    obtain ⟨h1, h2⟩ := y_and (show ((eqI (tySg word n) 0 || (eqI (jOut (tySg word n) 32 126) 0 && Nat.blt (tyP word n st).2 60)) && tyB word st n) = true from h)
    by_cases c : j = n
    · subst c
      rw [Bool.or_eq_true] at h1
      rcases h1 with h1 | h1
      · exact Or.inl (eqI_of h1)
      · obtain ⟨a, b⟩ := y_and h1
        exact Or.inr ⟨eqI_of a, Nat.le_of_ble_eq_true b⟩
    · exact tyB_of h2 j (by omega)
theorem kV_8 {j : Nat} (h : j ≤ 8) : (kV j < 0 → j = 8) ∧ (j = 8 → kV j < 0) := by
  rcases (show j = 0 ∨ j = 1 ∨ j = 2 ∨ j = 3 ∨ j = 4 ∨ j = 5 ∨ j = 6 ∨ j = 7 ∨ j = 8 by omega) with rfl | rfl | rfl | rfl | rfl | rfl | rfl | rfl | rfl <;> decide
theorem kV_s {j : Nat} (h : j < 8) : kV j + (-8) = kV (j + 1) := by
  rcases (show j = 0 ∨ j = 1 ∨ j = 2 ∨ j = 3 ∨ j = 4 ∨ j = 5 ∨ j = 6 ∨ j = 7 by omega) with rfl | rfl | rfl | rfl | rfl | rfl | rfl | rfl <;> decide
theorem tyP_L {word : Int64} {w : U} {L : Nat} (hL : w 1 0 = nI L) : ∀ j, (tyP word j (w, L)).1 1 0 = nI (tyP word j (w, L)).2
  | 0 => hL
  | j + 1 => by
    have ih := tyP_L (word := word) hL j
    unfold tyP
    split
    · exact ih
    · rfl
theorem tyP_60 {word : Int64} {st : U × Nat} (h0 : st.2 ≤ 60) (h : ∀ j, j < 8 → tySg word j = 0 ∨ (jOut (tySg word j) 32 126 = 0 ∧ (tyP word j st).2 < 60)) : ∀ j, j ≤ 8 → (tyP word j st).2 ≤ 60
  | 0, _ => h0
  | j + 1, hj => by
    have ih := tyP_60 h0 h j (by omega)
    unfold tyP
    split
    · exact ih
    · rename_i c
      have := ((h j (by omega)).resolve_left c).2
      show (tyP word j st).2 + 1 ≤ 60
      omega
theorem k_L_types_108 : Cond.constantLong RL 108 (255) ∈ wsL_types := by decide +kernel
set_option maxHeartbeats 1000000 in
set_option maxRecDepth 100000 in
theorem c_L_types (l : Launch) (D : va_G) (cI cC cL : ClassId) (Q : Nat → Nat → Nat) (Z : Nat → U) (w : U) (e6 : Z 6 = w) (L : Nat) (hL : w 1 0 = nI L) (hL2 : L ≤ 60) (word : Int64) (hty : ∀ j, j < 8 → tySg word j = 0 ∨ (jOut (tySg word j) 32 126 = 0 ∧ (tyP word j (w, L)).2 < 60)) : y_MI l yL_types wsL_types 2 43 D cI cC cL [.ref (Q 8 0), .long word] (cWd cI cC cL Q Z) 1 (fun z : Nat → U => cWd cI cC cL Q z) (va_up Z 6 (tyP word 8 (w, L)).1) := by
  refine y_startI (cc := cL_types) (maxL := 6) (ret := some .boolean) (by decide +kernel) rfl (Nat.le_of_ble_eq_true rfl) ⟨_, rfl, fun x h => by rcases h rfl with rfl | rfl <;> rfl⟩ (fun _ => Or.inr rfl) ?_
  intro p e s mm args below meth c A QQ ls S hw ret hl
  have S : CallFix p mm c cL_types 6 s args wsL_types RL := S
  subst e6
  have hw : y_W D cI cC cL A s s.heap [] (cWd cI cC cL Q (va_up Z 6 (tyP word 0 (Z 6, L)).1) ++ []) := y_W_eq hw (List.append_nil _).symm
  have hl : lv_has ls 6 [(0, .ref (Q 8 0)), (1, .long word)] := hl
  have lp : ∀ (fuel j : Nat) (H : Heap) (locs : List Loc) (ls : Array Slot), j ≤ 8 → 8 < j + fuel → y_W D cI cC cL A s H locs (cWd cI cC cL Q (va_up Z 6 (tyP word j (Z 6, L)).1) ++ []) → lv_has ls 6 [(0, .ref (Q 8 0)), (1, .long word), (3, .int 1), (4, .int (kV j))] → W p l e (y_R 2 43) s mm args below meth c H locs 0 0 QQ (F0 mm 6 ls []) := by
    intro fuel
    induction fuel with
    | zero => intro j H locs ls h1 h2; exact absurd h2 (by omega)
    | succ fuel ih =>
      intro j H locs ls h1 h2 hw hl
      refine lv_iload S.1 S.2.1 dL_types_6 (lv_at hl 3 rfl) ?_
      refine lv_if_lt (tgt := 52) S.1 S.2.1 dL_types_8 (by decide) (fun c1 => ?_) (fun c1 => ?_)
      · have hj : j = 8 := (kV_8 h1).1 c1
        subst hj
        refine lv_iload_n S.1 S.2.1 dL_types_52 rfl (lv_at hl 2 rfl) ?_
        exact ret _ _ _ _ _ (y_W_eq hw (List.append_nil _)) rfl dL_types_53
      · have hj : j < 8 := by
          apply Decidable.byContradiction
          intro hn
          exact c1 ((kV_8 h1).2 (by omega))
        refine lv_lload_n S.1 S.2.1 dL_types_11 rfl (lv_at hl 1 rfl) ?_
        refine lv_iload S.1 S.2.1 dL_types_12 (lv_at hl 3 rfl) ?_
        refine lv_lshr (v := (word >>> (((kV j) : Int32).toInt64 &&& 63))) S.1 S.2.1 dL_types_14 rfl ?_
        refine lv_ldc2 (v := 255) S.1 S.2.1 S.2.2.2.1 (S.2.2.2.2 _ k_L_types_108) dL_types_15 ?_
        refine lv_land S.1 S.2.1 dL_types_18 ?_
        refine lv_l2i (v := (((word >>> (((kV j) : Int32).toInt64 &&& 63)) &&& 255) : Int64).toInt32) S.1 S.2.1 dL_types_19 rfl ?_
        refine lv_istore (lv' := [(5, .int (tySg word j)), (0, .ref (Q 8 0)), (1, .long word), (3, .int 1), (4, .int (kV j))]) S.1 S.2.1 dL_types_20 hl (by decide) rfl (fun ls hl => ?_)
        refine lv_iload_n S.1 S.2.1 dL_types_22 rfl (lv_at hl 3 rfl) ?_
        refine lv_if_eq (tgt := 44) S.1 S.2.1 dL_types_23 (by decide) (fun c => absurd c (by decide)) (fun _ => ?_) 
        refine lv_iload S.1 S.2.1 dL_types_26 (lv_at hl 0 rfl) ?_
        have hstep : ∀ (H : Heap) (locs : List Loc) (ls : Array Slot), y_W D cI cC cL A s H locs (cWd cI cC cL Q (va_up Z 6 (tyP word (j + 1) (Z 6, L)).1) ++ []) → lv_has ls 6 [(0, .ref (Q 8 0)), (1, .long word), (3, .int 1), (4, .int (kV j))] → W p l e (y_R 2 43) s mm args below meth c H locs 0 0 QQ (F0 mm 40 ls []) := by
          intro H locs ls hw hl
          refine lv_iconst (v := 1) S.1 S.2.1 dL_types_40 (by decide) ?_
          refine lv_goto (tgt := 45) S.1 S.2.1 dL_types_41 (by decide) ?_
          refine lv_istore_n (lv' := [(3, .int 1), (0, .ref (Q 8 0)), (1, .long word), (4, .int (kV j))]) S.1 S.2.1 dL_types_45 rfl hl (by decide) rfl (fun ls hl => ?_)
          refine lv_iinc (v := (kV (j + 1))) (lv' := [(4, .int (kV (j + 1))), (3, .int 1), (0, .ref (Q 8 0)), (1, .long word)]) S.1 S.2.1 dL_types_46 hl (k := 3) rfl (kV_s hj) (by decide) rfl (fun ls hl => ?_)
          refine lv_goto (tgt := 6) S.1 S.2.1 dL_types_49 (by decide) ?_
          exact ih (j + 1) H locs ls (by omega) (by omega) hw (lv_sub hl [2, 3, 1, 0] rfl)
        refine lv_if_eq (tgt := 40) S.1 S.2.1 dL_types_28 (by decide) (fun c2 => ?_) (fun c2 => ?_)
        · exact hstep H locs ls (by rw [show tyP word (j + 1) (Z 6, L) = (tyP word j (Z 6, L)) from if_pos c2]; exact hw) (lv_sub hl [1, 2, 3, 4] rfl)
        · obtain ⟨hx, hl60⟩ := (hty j hj).resolve_left c2
          refine lv_aload_n S.1 S.2.1 dL_types_31 rfl (lv_at hl 1 rfl) ?_
          refine lv_iload S.1 S.2.1 dL_types_32 (lv_at hl 0 rfl) ?_
          refine ly_cl (As := [.int (tySg word j)]) (Z' := va_up Z 6 (tApp (tyP word j (Z 6, L)).1 (tyP word j (Z 6, L)).2 (tySg word j))) (rest := []) S hw hl.1 (c_X5_type l D cI cC cL Q (va_up Z 6 (tyP word j (Z 6, L)).1) (tySg word j) (tyP word j (Z 6, L)).2 (tyP_L hL j) (by omega)) (by show cWd cI cC cL Q (jTypU (va_up Z 6 (tyP word j (Z 6, L)).1) (tySg word j) (tyP word j (Z 6, L)).2) = _; unfold jTypU; rw [if_neg (not_not_intro hx), if_pos hl60]; rfl) (cwV 1 S.2.2.2.2 gL_types_X5_type rfl rfl rfl (by decide +kernel) ⟨Nat.le_of_ble_eq_true rfl, Nat.le_of_ble_eq_true rfl⟩) rfl (Nat.le_of_ble_eq_true rfl) dL_types_34 rfl ⟨Nat.le_refl _, Nat.le_refl _⟩ (fun H locs x hx hw => ?_)
          subst hx
          refine y_top (y := (nI ((tyP word j (Z 6, L)).2 + 1))) (by unfold jTypR; rw [if_neg (not_not_intro hx), if_pos hl60]) ?_
          refine lv_if_le (tgt := 44) S.1 S.2.1 dL_types_37 (by decide) (fun c3 => absurd ((nI_leI (a := (tyP word j (Z 6, L)).2 + 1) (b := 0) (by omega) (by omega)).mp c3) (by omega)) (fun _ => ?_)
          exact hstep H locs ls (by rw [show tyP word (j + 1) (Z 6, L) = (tApp (tyP word j (Z 6, L)).1 (tyP word j (Z 6, L)).2 (tySg word j), (tyP word j (Z 6, L)).2 + 1) from if_neg c2]; exact hw) (lv_sub hl [1, 2, 3, 4] rfl)
  refine lv_iconst (v := 1) S.1 S.2.1 dL_types_0 (by decide) ?_
  refine lv_istore_n (lv' := [(3, .int 1), (0, .ref (Q 8 0)), (1, .long word)]) S.1 S.2.1 dL_types_1 rfl hl (by decide) rfl (fun ls hl => ?_)
  refine lv_bipush (v := 56) S.1 S.2.1 dL_types_2 (by decide) ?_
  refine lv_istore (lv' := [(4, .int 56), (3, .int 1), (0, .ref (Q 8 0)), (1, .long word)]) S.1 S.2.1 dL_types_4 hl (by decide) rfl (fun ls hl => ?_)
  exact lp 9 0 _ _ ls (Nat.zero_le _) (by omega) hw (lv_sub hl [2, 3, 1, 0] rfl)
def fW (a b : Int64) : U × Nat := tyP b 8 (tyP a 8 (jTx0, 0))
def fA (a b : Int64) : U × Int32 := jScn (fW a b).1 (fW a b).2 4
def fB (a b : Int64) : U × Int32 := jScn (fA a b).1 (fW a b).2 4
def fP (a b : Int64) : U × U := jPl (fW a b).2 4 4 (pCn ((fA a b).1 0) 59 0 (fW a b).2) jLn0 (fB a b).1 0
def fC (a b : Int64) : U × Int32 := jScn (fP a b).2 (fW a b).2 ((fP a b).1 0 0)
def fD (a b : Int64) : U × Int32 := jScn (fC a b).1 (fW a b).2 ((fP a b).1 0 0)
def fE (a b : Int64) : U × Int32 := jScn (fB a b).1 (fW a b).2 4
def fG (a b : Int64) : U × Int32 := jScn (fE a b).1 (fW a b).2 4
def fTy (a b : Int64) : Bool := tyB a (jTx0, 0) 8 && (tyB b (tyP a 8 (jTx0, 0)) 8 && (eqI ((fW a b).1 1 0) (nI (fW a b).2) && Nat.ble (fW a b).2 60))
def fOkB (a b : Int64) : Bool := fTy a b && (eqI (fA a b).2 (-2000004) && (eqI (fB a b).2 (-2000004) && (eqI (fC a b).2 (-2000004) && (eqI (fD a b).2 (-2000004) && (lOkb (fP a b).1 4 999 && (eqI ((fP a b).2 1 0) (nI (fW a b).2) && (decide (jHB 0 0 (pCn ((fA a b).1 0) 115 0 (fW a b).2) ≤ 999) && decide (¬ nI (pCn ((fA a b).1 0) 59 0 (fW a b).2) < 0))))))))
def fBadB (a b : Int64) (x y z : Int32) : Bool := fTy a b && (eqI (jFltR (qZ jLn0 (fW a b).1 0) 0 (fW a b).2) x && (eqI (jFltR (qZ jLn0 (fA a b).1 0) 1 (fW a b).2) y && (eqI (jFltR (qZ jLn0 (fB a b).1 0) 2 (fW a b).2) z && (!(eqI (fG a b).2 (-2000004)) && !(eqI x (-2000004))))))
theorem jFlt_no {Z : Nat → U} {x : Int32} {L : Nat} (hx : jOut x 0 2 = 0) (h : (jScn (Z 6) L (Z 0 0 0)).2 = -2000004) : jFltR Z x L = -2000004 := by
  unfold jFltR
  rw [if_neg (not_not_intro hx), if_neg (not_not_intro h)]
theorem jScn_1 {w : U} {L : Nat} {st : Int32} (hL : w 1 0 = nI L) : (jScn w L st).1 1 0 = nI L := by rw [jScn_o (r := 1) (by decide)]; exact hL
theorem w_L_isFault_new : Cond.classLink RL 14 RX5 ∈ wsL_isFault := by decide +kernel
theorem w_L_isFault_newi : Cond.instantiable RX5 4 ∈ wsL_isFault := by decide +kernel
theorem w_L_isFault_newc : Cond.initialized RX5 ∈ wsL_isFault := by decide +kernel
theorem i_L_isFault_X5 : ∀ w ∈ u_ws RX5 TX5 4, w ∈ wsL_isFault := by decide +kernel
theorem w_L_isFault_newl79 : Cond.methodLink RL 79 yX5_init ∈ wsL_isFault := by decide +kernel
theorem w_L_isFault_newm : Cond.instanceMethod yX5_init ∈ wsL_isFault := by decide +kernel
theorem k_L_isFault_52 : Cond.constant RL 52 (-2000004) ∈ wsL_isFault := by decide +kernel
set_option maxHeartbeats 1000000 in
set_option maxRecDepth 100000 in
theorem c_L_isFault_ok (l : Launch) (D : va_G) (cI cC cL : ClassId) (one other : Int64) (rs cs : Int32) (hB : fOkB one other = true) : y_MNI l yL_isFault wsL_isFault 7 162 75 1061 D cI cC cL [.long one, .long other, .int (-2000004), .int rs, .int cs] [] 1 (fun _ : Unit => ([] : va_W)) () := by
  refine y_startNI (cc := cL_isFault) (maxL := 8) (ret := some .boolean) (by decide +kernel) rfl (Nat.le_of_ble_eq_true rfl) ⟨_, rfl, fun x h => by rcases h rfl with rfl | rfl <;> rfl⟩ (fun _ => Or.inr rfl) ?_
  intro p e s mm args below meth c A QQ ls S hX hw ret hl
  have S : CallFix p mm c cL_isFault 8 s args wsL_isFault RL := S
  have hw : y_W D cI cC cL A s s.heap [] [] := hw
  have hl : lv_has ls 8 [(0, .long one), (2, .long other), (4, .int (-2000004)), (5, .int rs), (6, .int cs)] := hl
  obtain ⟨ht, hb⟩ := y_and hB
  obtain ⟨t1, ht⟩ := y_and ht
  obtain ⟨t2, ht⟩ := y_and ht
  obtain ⟨t3, t4⟩ := y_and ht
  have t3 := eqI_of t3
  have t4 := Nat.le_of_ble_eq_true t4
  obtain ⟨kA, hb⟩ := y_and hb
  have kA := eqI_of kA
  obtain ⟨kB, hb⟩ := y_and hb
  have kB := eqI_of kB
  obtain ⟨kC, hb⟩ := y_and hb
  have kC := eqI_of kC
  obtain ⟨kD, hb⟩ := y_and hb
  have kD := eqI_of kD
  obtain ⟨fk, hb⟩ := y_and hb
  obtain ⟨fl, hb⟩ := y_and hb
  obtain ⟨fh, fn⟩ := y_and hb
  have fk := lOk_of fk
  have fl := eqI_of fl
  have fh := of_decide_eq_true fh
  have fn := of_decide_eq_true fn
  refine y_new (ci := 5) (fs := [.null, .null, .null, .null]) S hw (C := RX5) (T := TX5) (N := 4) i_L_isFault_X5 tyX5_ok w_L_isFault_new w_L_isFault_newi w_L_isFault_newc rfl (fun j hj => by rcases (show j = 0 ∨ j = 1 ∨ j = 2 ∨ j = 3 by omega) with rfl | rfl | rfl | rfl <;> rfl) (Nat.le_of_ble_eq_true rfl) (Nat.le_of_ble_eq_true rfl) dL_isFault_0 (fun q1 H hwN => ?_)
  refine lv_dup S.1 S.2.1 dL_isFault_3 rfl ?_
  refine y_callNI (rest := [.ref q1]) S hwN hX hl.1 (c_X5_init l D cI cC cL q1) (cwI 0 S.2.2.2.2 gL_isFault_X5_init rfl rfl rfl (S.2.2.2.2 _ w_L_isFault_newc) (S.2.2.2.2 _ w_L_isFault_newl79) (S.2.2.2.2 _ w_L_isFault_newm) rfl (by decide +kernel) ⟨Nat.le_of_ble_eq_true rfl, Nat.le_of_ble_eq_true rfl⟩) (Nat.le_of_ble_eq_true rfl) dL_isFault_4 ⟨Nat.le_of_ble_eq_true rfl, Nat.le_of_ble_eq_true rfl⟩ (fun H locs Q1 eQ hw => ?_)
  subst eQ
  have hw : y_W D cI cC cL A s H locs (cWd cI cC cL Q1 jZ0 ++ []) := y_W_eq hw (List.append_nil _).symm
  refine lv_astore (lv' := [(7, .ref (Q1 8 0)), (0, .long one), (2, .long other), (4, .int (-2000004)), (5, .int rs), (6, .int cs)]) S.1 S.2.1 dL_isFault_7 hl (by decide) rfl (fun ls hl => ?_)
  refine lv_aload S.1 S.2.1 dL_isFault_9 (lv_at hl 0 rfl) ?_
  refine lv_lload_n S.1 S.2.1 dL_isFault_11 rfl (lv_at hl 1 rfl) ?_
  refine ly_sI (As := [.ref (Q1 8 0), .long one]) (rest := []) S hw hl.1 (c_L_types l D cI cC cL Q1 jZ0 jTx0 rfl 0 rfl (by decide) one (tyB_of t1)) (va_cwS 2 S.2.2.2.2 gL_isFault_L_types rfl rfl rfl (by decide +kernel) ⟨Nat.le_of_ble_eq_true rfl, Nat.le_of_ble_eq_true rfl⟩) rfl (Nat.le_of_ble_eq_true rfl) dL_isFault_12 rfl ⟨Nat.le_of_ble_eq_true rfl, Nat.le_of_ble_eq_true rfl⟩ (fun H locs x hx hw => ?_)
  subst hx
  have hw : y_W D cI cC cL A s _ _ (cWd cI cC cL Q1 (va_up jZ0 6 (tyP one 8 (jTx0, 0)).1) ++ []) := hw
  refine lv_if_eq (tgt := 38) S.1 S.2.1 dL_isFault_15 (by decide) (fun c => absurd c (by decide)) (fun _ => ?_) 
  refine lv_aload S.1 S.2.1 dL_isFault_18 (lv_at hl 0 rfl) ?_
  refine lv_lload_n S.1 S.2.1 dL_isFault_20 rfl (lv_at hl 2 rfl) ?_
  refine ly_sI (As := [.ref (Q1 8 0), .long other]) (rest := []) S hw hl.1 (c_L_types l D cI cC cL Q1 (va_up jZ0 6 (tyP one 8 (jTx0, 0)).1) (tyP one 8 (jTx0, 0)).1 rfl (tyP one 8 (jTx0, 0)).2 (tyP_L rfl 8) (tyP_60 (by decide) (tyB_of t1) 8 (by decide)) other (tyB_of t2)) (va_cwS 2 S.2.2.2.2 gL_isFault_L_types rfl rfl rfl (by decide +kernel) ⟨Nat.le_of_ble_eq_true rfl, Nat.le_of_ble_eq_true rfl⟩) rfl (Nat.le_of_ble_eq_true rfl) dL_isFault_21 rfl ⟨Nat.le_of_ble_eq_true rfl, Nat.le_of_ble_eq_true rfl⟩ (fun H locs x hx hw => ?_)
  subst hx
  have hw : y_W D cI cC cL A s _ _ (cWd cI cC cL Q1 (va_up jZ0 6 (fW one other).1) ++ []) := hw
  have P : PW (va_up jZ0 6 (fW one other).1) jLn0 (fW one other).1 0 (fun _ => jLn0) := by
      refine ⟨rfl, rfl, by decide, 0, by decide, rfl, rfl, fun i hi => absurd hi (Nat.not_lt_zero i)⟩
  refine lv_if_eq (tgt := 38) S.1 S.2.1 dL_isFault_24 (by decide) (fun c => absurd c (by decide)) (fun _ => ?_) 
  refine lv_aload S.1 S.2.1 dL_isFault_27 (lv_at hl 0 rfl) ?_
  refine lv_iconst (v := 0) S.1 S.2.1 dL_isFault_29 (by decide) ?_
  refine q_fault t3 t4 (by decide) (rest := []) S hw P hl.1 (cwV 1 S.2.2.2.2 gL_isFault_X5_fault rfl rfl rfl (by decide +kernel) ⟨Nat.le_of_ble_eq_true rfl, Nat.le_of_ble_eq_true rfl⟩) (Nat.le_of_ble_eq_true rfl) dL_isFault_30 ⟨Nat.le_of_ble_eq_true rfl, Nat.le_of_ble_eq_true rfl⟩ (fun H locs Z hw P => ?_)
  refine y_top (y := (-2000004)) (jFlt_no (by decide) kA) ?_
  have P : PW _ jLn0 (fA one other).1 _ _ := P
  refine lv_iload S.1 S.2.1 dL_isFault_33 (lv_at hl 3 rfl) ?_
  refine lv_icmp_eq (tgt := 40) S.1 S.2.1 dL_isFault_35 (by decide) (fun _ => ?_) (fun c => absurd (by decide) c) 
  refine lv_iload S.1 S.2.1 dL_isFault_40 (lv_at hl 3 rfl) ?_
  refine lv_ldc (v := (-2000004)) S.1 S.2.1 S.2.2.2.1 (S.2.2.2.2 _ k_L_isFault_52) dL_isFault_42 ?_
  refine lv_icmp_ne (tgt := 85) S.1 S.2.1 dL_isFault_44 (by decide) (fun c => absurd (by decide) c) (fun _ => ?_) 
  refine lv_aload S.1 S.2.1 dL_isFault_47 (lv_at hl 0 rfl) ?_
  refine q_play pIdl_0.1 (by decide) (by decide) (jScn_1 t3) t4 kB fh (rest := []) S hw P hl.1 (cwV 0 S.2.2.2.2 gL_isFault_X5_play rfl rfl rfl (by decide +kernel) ⟨Nat.le_of_ble_eq_true rfl, Nat.le_of_ble_eq_true rfl⟩) (Nat.le_of_ble_eq_true rfl) dL_isFault_49 ⟨Nat.le_of_ble_eq_true rfl, Nat.le_of_ble_eq_true rfl⟩ (fun H locs Z hw P => ?_)
  have P : PW _ (fP one other).1 (fP one other).2 _ _ := P
  refine lv_if_lt (tgt := 81) S.1 S.2.1 dL_isFault_52 (by decide) (fun c => absurd c fn) (fun _ => ?_)
  refine lv_aload S.1 S.2.1 dL_isFault_55 (lv_at hl 0 rfl) ?_
  refine lv_iconst (v := 1) S.1 S.2.1 dL_isFault_57 (by decide) ?_
  refine q_fault fl t4 (by decide) (rest := []) S hw P hl.1 (cwV 1 S.2.2.2.2 gL_isFault_X5_fault rfl rfl rfl (by decide +kernel) ⟨Nat.le_of_ble_eq_true rfl, Nat.le_of_ble_eq_true rfl⟩) (Nat.le_of_ble_eq_true rfl) dL_isFault_58 ⟨Nat.le_of_ble_eq_true rfl, Nat.le_of_ble_eq_true rfl⟩ (fun H locs Z hw P => ?_)
  refine y_top (y := (-2000004)) (jFlt_no (by decide) kC) ?_
  have P : PW _ (fP one other).1 (fC one other).1 _ _ := P
  refine lv_ldc (v := (-2000004)) S.1 S.2.1 S.2.2.2.1 (S.2.2.2.2 _ k_L_isFault_52) dL_isFault_61 ?_
  refine lv_icmp_ne (tgt := 81) S.1 S.2.1 dL_isFault_63 (by decide) (fun c => absurd (by decide) c) (fun _ => ?_) 
  refine lv_aload S.1 S.2.1 dL_isFault_66 (lv_at hl 0 rfl) ?_
  refine lv_iconst (v := 2) S.1 S.2.1 dL_isFault_68 (by decide) ?_
  refine q_fault (jScn_1 fl) t4 (by decide) (rest := []) S hw P hl.1 (cwV 1 S.2.2.2.2 gL_isFault_X5_fault rfl rfl rfl (by decide +kernel) ⟨Nat.le_of_ble_eq_true rfl, Nat.le_of_ble_eq_true rfl⟩) (Nat.le_of_ble_eq_true rfl) dL_isFault_69 ⟨Nat.le_of_ble_eq_true rfl, Nat.le_of_ble_eq_true rfl⟩ (fun H locs Z hw P => ?_)
  refine y_top (y := (-2000004)) (jFlt_no (by decide) kD) ?_
  have P : PW _ (fP one other).1 (fD one other).1 _ _ := P
  refine lv_ldc (v := (-2000004)) S.1 S.2.1 S.2.2.2.1 (S.2.2.2.2 _ k_L_isFault_52) dL_isFault_72 ?_
  refine lv_icmp_ne (tgt := 81) S.1 S.2.1 dL_isFault_74 (by decide) (fun c => absurd (by decide) c) (fun _ => ?_) 
  refine lv_iconst (v := 1) S.1 S.2.1 dL_isFault_77 (by decide) ?_
  refine lv_goto (tgt := 132) S.1 S.2.1 dL_isFault_78 (by decide) ?_
  exact ret _ _ _ _ _ hw.none rfl dL_isFault_132
theorem k_L_isFault_84 : Cond.constant RL 84 (-2000002) ∈ wsL_isFault := by decide +kernel
set_option maxHeartbeats 1000000 in
set_option maxRecDepth 100000 in
theorem c_L_isFault_bad (l : Launch) (D : va_G) (cI cC cL : ClassId) (one other : Int64) (ps rs cs : Int32) (hB : fBadB one other ps rs cs = true) : y_MNI l yL_isFault wsL_isFault 7 162 75 1061 D cI cC cL [.long one, .long other, .int ps, .int rs, .int cs] [] 1 (fun _ : Unit => ([] : va_W)) () := by
  refine y_startNI (cc := cL_isFault) (maxL := 8) (ret := some .boolean) (by decide +kernel) rfl (Nat.le_of_ble_eq_true rfl) ⟨_, rfl, fun x h => by rcases h rfl with rfl | rfl <;> rfl⟩ (fun _ => Or.inr rfl) ?_
  intro p e s mm args below meth c A QQ ls S hX hw ret hl
  have S : CallFix p mm c cL_isFault 8 s args wsL_isFault RL := S
  have hw : y_W D cI cC cL A s s.heap [] [] := hw
  have hl : lv_has ls 8 [(0, .long one), (2, .long other), (4, .int ps), (5, .int rs), (6, .int cs)] := hl
  obtain ⟨ht, hb⟩ := y_and hB
  obtain ⟨t1, ht⟩ := y_and ht
  obtain ⟨t2, ht⟩ := y_and ht
  obtain ⟨t3, t4⟩ := y_and ht
  have t3 := eqI_of t3
  have t4 := Nat.le_of_ble_eq_true t4
  obtain ⟨fx, hb⟩ := y_and hb
  have fx := eqI_of fx
  obtain ⟨fy, hb⟩ := y_and hb
  have fy := eqI_of fy
  obtain ⟨fz, hb⟩ := y_and hb
  have fz := eqI_of fz
  obtain ⟨fe, fp⟩ := y_and hb
  have hne : ¬ ps = -2000004 := fun z => by rw [z] at fp; exact absurd fp (by decide)
  have fE1 : ¬ (fG one other).2 = -2000004 := fun z => by rw [z] at fe; exact absurd fe (by decide)
  refine y_new (ci := 5) (fs := [.null, .null, .null, .null]) S hw (C := RX5) (T := TX5) (N := 4) i_L_isFault_X5 tyX5_ok w_L_isFault_new w_L_isFault_newi w_L_isFault_newc rfl (fun j hj => by rcases (show j = 0 ∨ j = 1 ∨ j = 2 ∨ j = 3 by omega) with rfl | rfl | rfl | rfl <;> rfl) (Nat.le_of_ble_eq_true rfl) (Nat.le_of_ble_eq_true rfl) dL_isFault_0 (fun q1 H hwN => ?_)
  refine lv_dup S.1 S.2.1 dL_isFault_3 rfl ?_
  refine y_callNI (rest := [.ref q1]) S hwN hX hl.1 (c_X5_init l D cI cC cL q1) (cwI 0 S.2.2.2.2 gL_isFault_X5_init rfl rfl rfl (S.2.2.2.2 _ w_L_isFault_newc) (S.2.2.2.2 _ w_L_isFault_newl79) (S.2.2.2.2 _ w_L_isFault_newm) rfl (by decide +kernel) ⟨Nat.le_of_ble_eq_true rfl, Nat.le_of_ble_eq_true rfl⟩) (Nat.le_of_ble_eq_true rfl) dL_isFault_4 ⟨Nat.le_of_ble_eq_true rfl, Nat.le_of_ble_eq_true rfl⟩ (fun H locs Q1 eQ hw => ?_)
  subst eQ
  have hw : y_W D cI cC cL A s H locs (cWd cI cC cL Q1 jZ0 ++ []) := y_W_eq hw (List.append_nil _).symm
  refine lv_astore (lv' := [(7, .ref (Q1 8 0)), (0, .long one), (2, .long other), (4, .int ps), (5, .int rs), (6, .int cs)]) S.1 S.2.1 dL_isFault_7 hl (by decide) rfl (fun ls hl => ?_)
  refine lv_aload S.1 S.2.1 dL_isFault_9 (lv_at hl 0 rfl) ?_
  refine lv_lload_n S.1 S.2.1 dL_isFault_11 rfl (lv_at hl 1 rfl) ?_
  refine ly_sI (As := [.ref (Q1 8 0), .long one]) (rest := []) S hw hl.1 (c_L_types l D cI cC cL Q1 jZ0 jTx0 rfl 0 rfl (by decide) one (tyB_of t1)) (va_cwS 2 S.2.2.2.2 gL_isFault_L_types rfl rfl rfl (by decide +kernel) ⟨Nat.le_of_ble_eq_true rfl, Nat.le_of_ble_eq_true rfl⟩) rfl (Nat.le_of_ble_eq_true rfl) dL_isFault_12 rfl ⟨Nat.le_of_ble_eq_true rfl, Nat.le_of_ble_eq_true rfl⟩ (fun H locs x hx hw => ?_)
  subst hx
  have hw : y_W D cI cC cL A s _ _ (cWd cI cC cL Q1 (va_up jZ0 6 (tyP one 8 (jTx0, 0)).1) ++ []) := hw
  refine lv_if_eq (tgt := 38) S.1 S.2.1 dL_isFault_15 (by decide) (fun c => absurd c (by decide)) (fun _ => ?_) 
  refine lv_aload S.1 S.2.1 dL_isFault_18 (lv_at hl 0 rfl) ?_
  refine lv_lload_n S.1 S.2.1 dL_isFault_20 rfl (lv_at hl 2 rfl) ?_
  refine ly_sI (As := [.ref (Q1 8 0), .long other]) (rest := []) S hw hl.1 (c_L_types l D cI cC cL Q1 (va_up jZ0 6 (tyP one 8 (jTx0, 0)).1) (tyP one 8 (jTx0, 0)).1 rfl (tyP one 8 (jTx0, 0)).2 (tyP_L rfl 8) (tyP_60 (by decide) (tyB_of t1) 8 (by decide)) other (tyB_of t2)) (va_cwS 2 S.2.2.2.2 gL_isFault_L_types rfl rfl rfl (by decide +kernel) ⟨Nat.le_of_ble_eq_true rfl, Nat.le_of_ble_eq_true rfl⟩) rfl (Nat.le_of_ble_eq_true rfl) dL_isFault_21 rfl ⟨Nat.le_of_ble_eq_true rfl, Nat.le_of_ble_eq_true rfl⟩ (fun H locs x hx hw => ?_)
  subst hx
  have hw : y_W D cI cC cL A s _ _ (cWd cI cC cL Q1 (va_up jZ0 6 (fW one other).1) ++ []) := hw
  have P : PW (va_up jZ0 6 (fW one other).1) jLn0 (fW one other).1 0 (fun _ => jLn0) := by
      refine ⟨rfl, rfl, by decide, 0, by decide, rfl, rfl, fun i hi => absurd hi (Nat.not_lt_zero i)⟩
  refine lv_if_eq (tgt := 38) S.1 S.2.1 dL_isFault_24 (by decide) (fun c => absurd c (by decide)) (fun _ => ?_) 
  refine lv_aload S.1 S.2.1 dL_isFault_27 (lv_at hl 0 rfl) ?_
  refine lv_iconst (v := 0) S.1 S.2.1 dL_isFault_29 (by decide) ?_
  refine q_fault t3 t4 (by decide) (rest := []) S hw P hl.1 (cwV 1 S.2.2.2.2 gL_isFault_X5_fault rfl rfl rfl (by decide +kernel) ⟨Nat.le_of_ble_eq_true rfl, Nat.le_of_ble_eq_true rfl⟩) (Nat.le_of_ble_eq_true rfl) dL_isFault_30 ⟨Nat.le_of_ble_eq_true rfl, Nat.le_of_ble_eq_true rfl⟩ (fun H locs Z hw P => ?_)
  refine y_top (y := ps) (fx) ?_
  have P : PW _ jLn0 (fA one other).1 _ _ := P
  refine lv_iload S.1 S.2.1 dL_isFault_33 (lv_at hl 3 rfl) ?_
  refine lv_icmp_eq (tgt := 40) S.1 S.2.1 dL_isFault_35 (by decide) (fun _ => ?_) (fun c => absurd rfl c)
  refine lv_iload S.1 S.2.1 dL_isFault_40 (lv_at hl 3 rfl) ?_
  refine lv_ldc (v := (-2000004)) S.1 S.2.1 S.2.2.2.1 (S.2.2.2.2 _ k_L_isFault_52) dL_isFault_42 ?_
  refine lv_icmp_ne (tgt := 85) S.1 S.2.1 dL_isFault_44 (by decide) (fun _ => ?_) (fun c => absurd c hne)
  refine lv_aload S.1 S.2.1 dL_isFault_85 (lv_at hl 0 rfl) ?_
  refine lv_iconst (v := 1) S.1 S.2.1 dL_isFault_87 (by decide) ?_
  refine q_fault (jScn_1 t3) t4 (by decide) (rest := []) S hw P hl.1 (cwV 1 S.2.2.2.2 gL_isFault_X5_fault rfl rfl rfl (by decide +kernel) ⟨Nat.le_of_ble_eq_true rfl, Nat.le_of_ble_eq_true rfl⟩) (Nat.le_of_ble_eq_true rfl) dL_isFault_88 ⟨Nat.le_of_ble_eq_true rfl, Nat.le_of_ble_eq_true rfl⟩ (fun H locs Z hw P => ?_)
  refine y_top (y := rs) (fy) ?_
  have P : PW _ jLn0 (fB one other).1 _ _ := P
  refine lv_iload S.1 S.2.1 dL_isFault_91 (lv_at hl 4 rfl) ?_
  refine lv_icmp_ne (tgt := 131) S.1 S.2.1 dL_isFault_93 (by decide) (fun c => absurd rfl c) (fun _ => ?_)
  refine lv_aload S.1 S.2.1 dL_isFault_96 (lv_at hl 0 rfl) ?_
  refine lv_iconst (v := 2) S.1 S.2.1 dL_isFault_98 (by decide) ?_
  refine q_fault (jScn_1 (jScn_1 t3)) t4 (by decide) (rest := []) S hw P hl.1 (cwV 1 S.2.2.2.2 gL_isFault_X5_fault rfl rfl rfl (by decide +kernel) ⟨Nat.le_of_ble_eq_true rfl, Nat.le_of_ble_eq_true rfl⟩) (Nat.le_of_ble_eq_true rfl) dL_isFault_99 ⟨Nat.le_of_ble_eq_true rfl, Nat.le_of_ble_eq_true rfl⟩ (fun H locs Z hw P => ?_)
  refine y_top (y := cs) (fz) ?_
  have P : PW _ jLn0 (fE one other).1 _ _ := P
  refine lv_iload S.1 S.2.1 dL_isFault_102 (lv_at hl 5 rfl) ?_
  refine lv_icmp_ne (tgt := 131) S.1 S.2.1 dL_isFault_104 (by decide) (fun c => absurd rfl c) (fun _ => ?_)
  refine lv_aload S.1 S.2.1 dL_isFault_107 (lv_at hl 0 rfl) ?_
  refine q_play_no pIdl_0.1 (by decide) (by decide) (w := (fE one other).1) (jScn_1 (jScn_1 (jScn_1 t3))) t4 (fE1) (rest := []) S hw P hl.1 (cwV 0 S.2.2.2.2 gL_isFault_X5_play rfl rfl rfl (by decide +kernel) ⟨Nat.le_of_ble_eq_true rfl, Nat.le_of_ble_eq_true rfl⟩) (Nat.le_of_ble_eq_true rfl) dL_isFault_109 ⟨Nat.le_of_ble_eq_true rfl, Nat.le_of_ble_eq_true rfl⟩ (fun H locs Z hw P => ?_)
  refine lv_ldc (v := (-2000002)) S.1 S.2.1 S.2.2.2.1 (S.2.2.2.2 _ k_L_isFault_84) dL_isFault_112 ?_
  refine lv_icmp_ne (tgt := 131) S.1 S.2.1 dL_isFault_114 (by decide) (fun c => absurd (by decide) c) (fun _ => ?_) 
  refine lv_aload S.1 S.2.1 dL_isFault_117 (lv_at hl 0 rfl) ?_
  refine lv_bipush (v := 7) S.1 S.2.1 dL_isFault_119 (by decide) ?_
  refine q_count  (rest := []) S hw P hl.1 (cwV 1 S.2.2.2.2 gL_isFault_X5_count rfl rfl rfl (by decide +kernel) ⟨Nat.le_of_ble_eq_true rfl, Nat.le_of_ble_eq_true rfl⟩) (Nat.le_of_ble_eq_true rfl) dL_isFault_121 ⟨Nat.le_of_ble_eq_true rfl, Nat.le_of_ble_eq_true rfl⟩ (fun H locs hw => ?_)
  refine y_top (y := 0) ((jCount_7 _).trans rfl) ?_
  refine lv_if_ne (tgt := 131) S.1 S.2.1 dL_isFault_124 (by decide) (fun c => absurd (by decide) c) (fun _ => ?_) 
  refine lv_iconst (v := 1) S.1 S.2.1 dL_isFault_127 (by decide) ?_
  refine lv_goto (tgt := 132) S.1 S.2.1 dL_isFault_128 (by decide) ?_
  exact ret _ _ _ _ _ hw.none rfl dL_isFault_132
