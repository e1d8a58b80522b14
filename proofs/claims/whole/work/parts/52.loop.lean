/-! the law's loop, the law from its entry -/
set_option maxRecDepth 100000 in
theorem w_law : (Cond.classLink RL 7 RX5 ∈ wsL_law ∧ Cond.instantiable RX5 4 ∈ wsL_law ∧ Cond.initialized RX5 ∈ wsL_law) ∧ (Cond.classLink RL 10 RX6 ∈ wsL_law ∧ Cond.instantiable RX6 13 ∈ wsL_law ∧ Cond.initialized RX6 ∈ wsL_law) ∧ (Cond.methodLink RL 9 yX5_init ∈ wsL_law ∧ Cond.instanceMethod yX5_init ∈ wsL_law) ∧ (Cond.methodLink RL 12 yX6_init ∈ wsL_law ∧ Cond.instanceMethod yX6_init ∈ wsL_law) := by decide +kernel
theorem law_loop {p : Program} {l : Launch} {e : Env} {s : State} {m : MethodId} {below : List Frame} {meth : Method} {c : Code} {D : va_G} {cI cC cL : ClassId} {b L : Nat} {xs : Nat → Int32} {Q : Nat → Nat → Nat} {q : Nat → Nat} (hL : L ≤ 2048) (hr : meth.sig.returnType = ret) (hlocks : meth.locks = false) (S : CallFix p m c cL_law 4 s #[Value.ref b] wsL_law RL) (hX : va_X b L xs s s.heap) (hbl : b < s.heap.size) (hXs : y_X (fun q : Nat => s.heap.size ≤ q) s) :
    ∀ (N i : Nat), L < i + N → i ≤ L → ∀ (H : Heap) (locs : List Loc) (Z : Nat → U) (u : U) (ls : Array Slot), y_W D cI cC cL (fun q : Nat => s.heap.size ≤ q) s H locs (cWd cI cC cL Q Z ++ cMd cI q u) → RR Z u → lv_has ls 4 [(0, .ref b), (1, .ref (Q 8 0)), (2, .ref (q 0)), (3, .int (nI i))] → W p l e room_1 s m #[Value.ref b] below meth c H locs 82 2112 (lw_Z below #[Value.ref b] s) (F0 m 18 ls []) := by
  have hbA : ¬ (fun q : Nat => s.heap.size ≤ q) b := Nat.not_le.mpr hbl
  intro N
  induction N with
  | zero =>
    intro i h1 h2
    exact absurd h1 (by omega)
  | succ N ih =>
    intro i h1 h2 H locs Z u ls hw hR hl
    refine lv_iload_n S.1 S.2.1 dL_law_18 rfl (lv_at hl 3 rfl) ?_
    refine lv_aload_n S.1 S.2.1 dL_law_19 rfl (lv_at hl 0 rfl) ?_
    refine va_slen S.1 S.2.1 hX hbl hbA hw.2.2.2.1 dL_law_20 ?_
    refine lv_iconst (v := nI 4) S.1 S.2.1 dL_law_21 (by decide) ?_
    refine lv_isub S.1 S.2.1 dL_law_22 ?_
    refine lv_icmp_gt (tgt := 641) S.1 S.2.1 dL_law_23 (by decide) (fun _ => ?_) (fun c1 => ?_)
    · refine lv_iconst (v := 1) S.1 S.2.1 dL_law_641 (by decide) ?_
      refine va_forget (fun q hq => hw.2.2.2.1.2.2 q hq) ?_
      refine W.widen (k := 600000) (n := 7302250) (by decide) (by decide) ?_
      refine W.base ?_
      exact lw_ret (Drawn.sameBut.refl s.drawn lw_cs) S.1 S.2.1 hr hlocks dL_law_642
    · have hi : i + 4 ≤ L := by
        have t1 : (nI L - nI 4).toInt = (L : Int) - 4 := pk_sub_toInt (by omega) (by decide)
        have t2 : (nI i).toInt = i := nI_toInt (by omega)
        apply Decidable.byContradiction
        intro hn
        exact c1 (y_ltI.mpr (by show (nI L - nI 4).toInt < (nI i).toInt; omega))
      refine lv_aload_n S.1 S.2.1 dL_law_26 rfl (lv_at hl 0 rfl) ?_
      refine lv_iload_n S.1 S.2.1 dL_law_27 rfl (lv_at hl 3 rfl) ?_
      refine va_sld S.1 S.2.1 hX hbl hbA hw.2.2.2.1 (vp_in_nI (show i < L by omega) (by omega)) dL_law_28 ?_
      refine lv_bipush (v := 31) S.1 S.2.1 dL_law_29 (by decide) ?_
      refine lv_iand S.1 S.2.1 dL_law_31 ?_
      obtain ⟨j, hj, ej⟩ := pk_andE (xs (nI i).toNatClampNeg) (m := 31) 5 (by decide)
      refine y_top ej ?_
      have next : ∀ (H : Heap) (locs : List Loc) (Z : Nat → U) (u : U), y_W D cI cC cL (fun q : Nat => s.heap.size ≤ q) s H locs (cWd cI cC cL Q Z ++ cMd cI q u) → RR Z u → W p l e room_1 s m #[Value.ref b] below meth c H locs 82 2112 (lw_Z below #[Value.ref b] s) (F0 m 635 ls []) := by
        intro H locs Z u hw hR
        refine lv_iinc (v := nI (i + 4)) (lv' := [(3, .int (nI (i + 4))), (0, .ref b), (1, .ref (Q 8 0)), (2, .ref (q 0))]) S.1 S.2.1 dL_law_635 hl (k := 3) rfl (nI_add i 4) (by decide) rfl (fun ls hl => ?_)
        refine lv_goto (tgt := 18) S.1 S.2.1 dL_law_638 (by decide) ?_
        exact ih (i + 4) (by omega) hi H locs Z u ls hw hR (lv_sub hl [1, 2, 3, 0] rfl)
      have hcs : 82 ≤ room_1.cells ∧ 2112 ≤ room_1.slots := ⟨Nat.le_of_ble_eq_true rfl, Nat.le_of_ble_eq_true rfl⟩
      rcases (show j = 0 ∨ j = 1 ∨ j = 2 ∨ j = 3 ∨ j = 4 ∨ j = 5 ∨ j = 6 ∨ j = 7 ∨ j = 8 ∨ j = 9 ∨ j = 10 ∨ j = 11 ∨ j = 12 ∨ j = 13 ∨ j = 14 ∨ j = 15 ∨ j = 16 ∨ j = 17 ∨ j = 18 ∨ j = 19 ∨ j = 20 ∨ 21 ≤ j by omega) with rfl | rfl | rfl | rfl | rfl | rfl | rfl | rfl | rfl | rfl | rfl | rfl | rfl | rfl | rfl | rfl | rfl | rfl | rfl | rfl | rfl | hj2
      · refine lv_tableIn (tgt := 132) S.1 S.2.1 dL_law_32 (by decide) (by decide) (by rfl) (by decide) ?_
        exact law_begin S hX hbl hbA hXs (by omega) hcs hi hw hR hl next
      · refine lv_tableIn (tgt := 155) S.1 S.2.1 dL_law_32 (by decide) (by decide) (by rfl) (by decide) ?_
        exact law_stage S hX hbl hbA hXs (by omega) hcs hi hw hR hl next
      · refine lv_tableIn (tgt := 198) S.1 S.2.1 dL_law_32 (by decide) (by decide) (by rfl) (by decide) ?_
        exact law_set S hX hbl hbA hXs (by omega) hcs hi hw hR hl next
      · refine lv_tableIn (tgt := 231) S.1 S.2.1 dL_law_32 (by decide) (by decide) (by rfl) (by decide) ?_
        exact law_give S hX hbl hbA hXs (by omega) hcs hi hw hR hl next
      · refine lv_tableIn (tgt := 254) S.1 S.2.1 dL_law_32 (by decide) (by decide) (by rfl) (by decide) ?_
        exact law_idle S hX hbl hbA hXs (by omega) hcs hi hw hR hl next
      · refine lv_tableIn (tgt := 277) S.1 S.2.1 dL_law_32 (by decide) (by decide) (by rfl) (by decide) ?_
        exact law_stageOf S hX hbl hbA hXs (by omega) hcs hi hw hR hl next
      · refine lv_tableIn (tgt := 310) S.1 S.2.1 dL_law_32 (by decide) (by decide) (by rfl) (by decide) ?_
        exact law_outputOf S hX hbl hbA hXs (by omega) hcs hi hw hR hl next
      · refine lv_tableIn (tgt := 343) S.1 S.2.1 dL_law_32 (by decide) (by decide) (by rfl) (by decide) ?_
        exact law_pairOf S hX hbl hbA hXs (by omega) hcs hi hw hR hl next
      · refine lv_tableIn (tgt := 376) S.1 S.2.1 dL_law_32 (by decide) (by decide) (by rfl) (by decide) ?_
        exact law_mended S hX hbl hbA hXs (by omega) hcs hi hw hR hl next
      · refine lv_tableIn (tgt := 399) S.1 S.2.1 dL_law_32 (by decide) (by decide) (by rfl) (by decide) ?_
        exact law_errors S hX hbl hbA hXs (by omega) hcs hi hw hR hl next
      · refine lv_tableIn (tgt := 422) S.1 S.2.1 dL_law_32 (by decide) (by decide) (by rfl) (by decide) ?_
        exact law_account S hX hbl hbA hXs (by omega) hcs hi hw hR hl next
      · refine lv_tableIn (tgt := 445) S.1 S.2.1 dL_law_32 (by decide) (by decide) (by rfl) (by decide) ?_
        exact law_echo S hX hbl hbA hXs (by omega) hcs hi hw hR hl next
      · refine lv_tableIn (tgt := 478) S.1 S.2.1 dL_law_32 (by decide) (by decide) (by rfl) (by decide) ?_
        exact law_emptyAfter S hX hbl hbA hXs (by omega) hcs hi hw hR hl next
      · refine lv_tableIn (tgt := 491) S.1 S.2.1 dL_law_32 (by decide) (by decide) (by rfl) (by decide) ?_
        exact law_worn S hX hbl hbA hXs (by omega) hcs hi hw hR hl next
      · refine lv_tableIn (tgt := 514) S.1 S.2.1 dL_law_32 (by decide) (by decide) (by rfl) (by decide) ?_
        exact law_safe S hX hbl hbA hXs (by omega) hcs hi hw hR hl next
      · refine lv_tableIn (tgt := 527) S.1 S.2.1 dL_law_32 (by decide) (by decide) (by rfl) (by decide) ?_
        exact law_count S hX hbl hbA hXs (by omega) hcs hi hw hR hl next
      · refine lv_tableIn (tgt := 550) S.1 S.2.1 dL_law_32 (by decide) (by decide) (by rfl) (by decide) ?_
        exact law_undo S hX hbl hbA hXs (by omega) hcs hi hw hR hl next
      · refine lv_tableIn (tgt := 563) S.1 S.2.1 dL_law_32 (by decide) (by decide) (by rfl) (by decide) ?_
        exact law_type S hX hbl hbA hXs (by omega) hcs hi hw hR hl next
      · refine lv_tableIn (tgt := 586) S.1 S.2.1 dL_law_32 (by decide) (by decide) (by rfl) (by decide) ?_
        exact law_clearText S hX hbl hbA hXs (by omega) hcs hi hw hR hl next
      · refine lv_tableIn (tgt := 599) S.1 S.2.1 dL_law_32 (by decide) (by decide) (by rfl) (by decide) ?_
        exact law_fault S hX hbl hbA hXs (by omega) hcs hi hw hR hl next
      · refine lv_tableIn (tgt := 622) S.1 S.2.1 dL_law_32 (by decide) (by decide) (by rfl) (by decide) ?_
        exact law_play S hX hbl hbA hXs (by omega) hcs hi hw hR hl next
      · refine lv_tableOut (tgt := 635) S.1 S.2.1 dL_law_32 (Or.inr (by rw [nI_toInt (by omega)]; omega)) (by decide) ?_
        exact next H locs Z u hw hR
theorem whole_start {p : Program} {e : Env} {s : State} {m : MethodId} {below : List Frame} {meth : Method} {c : Code} (l : Launch) (hflags : l.flags = flags0) {b L : Nat} {xs : Nat → Int32} (hL : L ≤ 2048) (C0 : lw_At p s m meth c b L xs) : W p l e room_1 s m #[Value.ref b] below meth c s.heap [] 0 0 (lw_Z below #[Value.ref b] s) (entryFrame m ([Value.ref b] : List Value).toArray 4) := by
  obtain ⟨D, cI, cC, cL, hw, hXs⟩ := law_in C0
  obtain ⟨hx, hb, hr, hml, hown, hts, hX, hbl, hlocks, hgv⟩ := C0
  have S : CallFix p m c cL_law 4 s #[Value.ref b] wsL_law RL := ⟨hx, hb, hml, hown, fun w h => hts w (wsL_law_in w h)⟩
  obtain ⟨⟨w1, w2, w3⟩, ⟨w4, w5, w6⟩, ⟨w7, w8⟩, w9, w10⟩ := w_law
  have hl := lv_entry ([.ref b]) (n := 4) (Nat.le_of_ble_eq_true rfl)
  rw [lg_entry_eq]
  generalize (lg_sl ([.ref b]) ++ List.replicate (4 - (lg_sl ([.ref b])).length) Slot.unset).toArray = ls at hl ⊢
  have hl : lv_has ls 4 [(0, .ref b)] := hl
  refine y_new (ci := 5) (fs := [.null, .null, .null, .null]) S hw (C := RX5) (T := TX5) (N := 4) inlX5 tyX5_ok w1 w2 w3 rfl (fun j hj => by rcases (show j = 0 ∨ j = 1 ∨ j = 2 ∨ j = 3 by omega) with rfl | rfl | rfl | rfl <;> rfl) (Nat.le_of_ble_eq_true rfl) (Nat.le_of_ble_eq_true rfl) dL_law_0 (fun q1 H hw => ?_)
  refine lv_dup hx hb dL_law_3 rfl ?_
  refine y_callNI (rest := [.ref q1]) S hw hXs hl.1 (c_X5_init l D cI cC cL q1) (cwI 0 S.2.2.2.2 gL_law_X5_init rfl rfl rfl (S.2.2.2.2 _ w3) (S.2.2.2.2 _ w7) (S.2.2.2.2 _ w8) rfl (by decide +kernel) ⟨Nat.le_of_ble_eq_true rfl, Nat.le_of_ble_eq_true rfl⟩) (Nat.le_of_ble_eq_true rfl) dL_law_4 ⟨Nat.le_of_ble_eq_true rfl, Nat.le_of_ble_eq_true rfl⟩ (fun H locs Q eQ hw1 => ?_)
  subst eQ
  refine lv_astore_n (lv' := [(1, .ref (Q 8 0)), (0, .ref b)]) hx hb dL_law_7 rfl hl (by decide) rfl (fun ls hl => ?_)
  refine y_new (ci := 6) (fs := [.null, .null, .null, .int 0, .null, .int 0, .null, .int 0, .int 0, .int 0, .int 0, .int 0, .null]) S hw1 (C := RX6) (T := TX6) (N := 13) inlX6 tyX6_ok w4 w5 w6 rfl (fun j hj => by rcases (show j = 0 ∨ j = 1 ∨ j = 2 ∨ j = 3 ∨ j = 4 ∨ j = 5 ∨ j = 6 ∨ j = 7 ∨ j = 8 ∨ j = 9 ∨ j = 10 ∨ j = 11 ∨ j = 12 by omega) with rfl | rfl | rfl | rfl | rfl | rfl | rfl | rfl | rfl | rfl | rfl | rfl | rfl <;> rfl) (Nat.le_of_ble_eq_true rfl) (Nat.le_of_ble_eq_true rfl) dL_law_8 (fun q2 H hw2 => ?_)
  refine lv_dup hx hb dL_law_11 rfl ?_
  refine y_callNI (rest := [.ref q2]) S hw2 hXs hl.1 (c_X6_init l D cI cC cL q2) (cwI 0 S.2.2.2.2 gL_law_X6_init rfl rfl rfl (S.2.2.2.2 _ w6) (S.2.2.2.2 _ w9) (S.2.2.2.2 _ w10) rfl (by decide +kernel) ⟨Nat.le_of_ble_eq_true rfl, Nat.le_of_ble_eq_true rfl⟩) (Nat.le_of_ble_eq_true rfl) dL_law_12 ⟨Nat.le_of_ble_eq_true rfl, Nat.le_of_ble_eq_true rfl⟩ (fun H locs q eq hw3 => ?_)
  subst eq
  refine lv_astore_n (lv' := [(2, .ref (q 0)), (1, .ref (Q 8 0)), (0, .ref b)]) hx hb dL_law_15 rfl hl (by decide) rfl (fun ls hl => ?_)
  refine lv_iconst (v := nI 0) hx hb dL_law_16 (by decide) ?_
  refine lv_istore_n (lv' := [(3, .int (nI 0)), (2, .ref (q 0)), (1, .ref (Q 8 0)), (0, .ref b)]) hx hb dL_law_17 rfl hl (by decide) rfl (fun ls hl => ?_)
  exact law_loop hL hr hlocks S hX hbl hXs (L + 1) 0 (by omega) (Nat.zero_le L) H locs jZ0 jMd0 ls hw3 RR_0 (lv_sub hl [3, 2, 1, 0] rfl)
