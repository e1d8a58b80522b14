/-! the law's own walk -/
theorem k_L_law_84 : Cond.constant RL 84 (-2000002) ∈ wsL_law := by decide +kernel
theorem w_L_law_new : Cond.classLink RL 14 RX5 ∈ wsL_law := by decide +kernel
theorem w_L_law_newi : Cond.instantiable RX5 4 ∈ wsL_law := by decide +kernel
theorem w_L_law_newc : Cond.initialized RX5 ∈ wsL_law := by decide +kernel
theorem i_L_law_X5 : ∀ w ∈ u_ws RX5 TX5 4, w ∈ wsL_law := by decide +kernel
theorem w_L_law_newl79 : Cond.methodLink RL 79 yX5_init ∈ wsL_law := by decide +kernel
theorem w_L_law_newm : Cond.instanceMethod yX5_init ∈ wsL_law := by decide +kernel
theorem w_L_law_arl : Cond.arrayClass .long ∈ wsL_law := by decide +kernel
set_option maxHeartbeats 1000000 in
set_option maxRecDepth 100000 in
theorem law_end {p : Program} {l : Launch} {e : Env} {s : State} {m : MethodId} {below : List Frame} {meth : Method} {c : Code} {D : va_G} {cI cC cL : ClassId} {b L : Nat} {xs : Nat → Int32} {Q : Nat → Nat → Nat} {q : Nat} (hL : L ≤ 260) (hr : meth.sig.returnType = ret) (hlocks : meth.locks = false) (S : CallFix p m c cL_law 9 s #[Value.ref b] wsL_law RL) (hXs : va_X b L xs s s.heap) (hbl : b < s.heap.size) (hbA : ¬ (fun q : Nat => s.heap.size ≤ q) b) (hX : y_X (fun q : Nat => s.heap.size ≤ q) s) {a : Nat} {f : Nat → Int64} : ∀ (fuel j k : Nat) (H : Heap) (locs : List Loc) (ls : Array Slot) (Z : Nat → U) (u w : U) (g : Nat → U), k < fuel → a ≤ 24 → y_W D cI cC cL (fun q : Nat => s.heap.size ≤ q) s H locs (cWd cI cC cL Q Z ++ [(q, .inl (D.1 9, 64, .inr (.inl f)))]) → PW Z u w k g → FI a j k u g f → lv_has ls 9 [(0, .ref b), (1, .ref (Q 8 0)), (2, .ref q), (3, .int (nI a)), (4, .int (nI j))] → W p l e room_1 s m #[Value.ref b] below meth c H locs (0 + 150 + 300 + 1575 + 1 + 74 + 1) (0 + 2122 + 4244 + 22281 + 4 + 1057 + 64) (lw_Z below #[Value.ref b] s) (F0 m 379 ls []) := by
  intro fuel
  induction fuel with
  | zero => intro j k H locs ls Z u w g h1; exact absurd h1 (by omega)
  | succ fuel ih =>
    intro j k H locs ls Z u w g h1 ha hw P hF hl
    refine lv_aload_n S.1 S.2.1 dL_law_379 rfl (lv_at hl 1 rfl) ?_
    refine lv_bipush (v := 7) S.1 S.2.1 dL_law_380 (by decide) ?_
    refine q_count  (rest := []) S hw P hl.1 (cwV 1 S.2.2.2.2 gL_law_X5_count rfl rfl rfl (by decide +kernel) ⟨Nat.le_of_ble_eq_true rfl, Nat.le_of_ble_eq_true rfl⟩) (Nat.le_of_ble_eq_true rfl) dL_law_382 ⟨Nat.le_of_ble_eq_true rfl, Nat.le_of_ble_eq_true rfl⟩ (fun H locs hw => ?_)
    refine y_top (y := (nI k)) (jCount_7 _) ?_
    obtain ⟨n, B, hv, h1n, h10, hB2⟩ := hF.2.2.2.1
    refine lv_if_le (tgt := 423) S.1 S.2.1 dL_law_385 (by decide) (fun c1 => ?_) (fun c1 => ?_)
    · have hk : k = 0 := by have := (nI_leI (a := k) (b := 0) (by have := hF.1; omega) (by omega)).mp c1; omega
      refine lv_aload_n S.1 S.2.1 dL_law_423 rfl (lv_at hl 1 rfl) ?_
      refine q_undo_no hk (rest := []) S hw P hl.1 (cwV 0 S.2.2.2.2 gL_law_X5_undo rfl rfl rfl (by decide +kernel) ⟨Nat.le_of_ble_eq_true rfl, Nat.le_of_ble_eq_true rfl⟩) (Nat.le_of_ble_eq_true rfl) dL_law_424 ⟨Nat.le_of_ble_eq_true rfl, Nat.le_of_ble_eq_true rfl⟩ (fun H locs hw => ?_)
      refine lv_ldc (v := (-2000002)) S.1 S.2.1 S.2.2.2.1 (S.2.2.2.2 _ k_L_law_84) dL_law_427 ?_
      refine lv_icmp_ne (tgt := 436) S.1 S.2.1 dL_law_429 (by decide) (fun c => absurd (by decide) c) (fun _ => ?_) 
      refine lv_iconst (v := 1) S.1 S.2.1 dL_law_432 (by decide) ?_
      refine lv_goto (tgt := 437) S.1 S.2.1 dL_law_433 (by decide) ?_
      refine va_forget (fun q hq => hw.2.2.2.1.2.2 q hq) ?_
      refine W.widen (k := 600000) (n := 7302250) (Nat.le_of_ble_eq_true rfl) (Nat.le_of_ble_eq_true rfl) ?_
      refine W.base ?_
      exact lw_ret (Drawn.sameBut.refl s.drawn lw_cs) S.1 S.2.1 hr hlocks dL_law_437
    · have hk : 0 < k := by
        apply Decidable.byContradiction
        intro hn
        exact c1 ((nI_leI (a := k) (b := 0) (by have := hF.1; omega) (by omega)).mpr (by omega))
      refine lv_iload S.1 S.2.1 dL_law_388 (lv_at hl 4 rfl) ?_
      refine lv_iconst (v := 4) S.1 S.2.1 dL_law_390 (by decide) ?_
      refine lv_icmp_gt (tgt := 415) S.1 S.2.1 dL_law_391 (by decide) (fun c2 => absurd ((nI_ltI (a := 4) (b := j) (by omega) (by have := hF.1; omega)).mp c2) (by have := hF.1; omega)) (fun _ => ?_)
      refine lv_aload_n S.1 S.2.1 dL_law_394 rfl (lv_at hl 1 rfl) ?_
      refine ly_sL (As := [.ref (Q 8 0)]) (rest := []) S hw hl.1 (c_L_seen l D cI cC cL Q _ _ _ _ _ P _ _ hv h10 hB2) (va_cwS 1 S.2.2.2.2 gL_law_L_seen rfl rfl rfl (by decide +kernel) ⟨Nat.le_of_ble_eq_true rfl, Nat.le_of_ble_eq_true rfl⟩) rfl (Nat.le_of_ble_eq_true rfl) dL_law_395 rfl ⟨Nat.le_of_ble_eq_true rfl, Nat.le_of_ble_eq_true rfl⟩ (fun H locs x hx hw => ?_)
      subst hx
      have hw : y_W D cI cC cL (fun q : Nat => s.heap.size ≤ q) s _ _ (cWd cI cC cL Q _ ++ _) := hw
      refine lv_aload_n S.1 S.2.1 dL_law_398 rfl (lv_at hl 2 rfl) ?_
      refine lv_iload_n S.1 S.2.1 dL_law_399 rfl (lv_at hl 3 rfl) ?_
      refine lv_iload S.1 S.2.1 dL_law_400 (lv_at hl 4 rfl) ?_
      refine lv_isub S.1 S.2.1 dL_law_402 ?_
      refine y_top (y := nI (a - j)) (pk_sub (by have := hF.2.1; omega)) ?_
      refine y_lald S hw 75 (k := a - j) (n := 64) (f := f) rfl (by omega) (by decide) dL_law_403 ?_
      refine y_topL (y := qSeen u) hF.2.2.1 ?_
      refine W.lcmp S.1 S.2.1 dL_law_404 ?_
      refine y_top (y := 0) (lg_cmp_self _) ?_
      refine lv_if_ne (tgt := 415) S.1 S.2.1 dL_law_405 (by decide) (fun c => absurd (by decide) c) (fun _ => ?_) 
      refine lv_aload_n S.1 S.2.1 dL_law_408 rfl (lv_at hl 1 rfl) ?_
      refine q_undo hk (rest := []) S hw P hl.1 (cwV 0 S.2.2.2.2 gL_law_X5_undo rfl rfl rfl (by decide +kernel) ⟨Nat.le_of_ble_eq_true rfl, Nat.le_of_ble_eq_true rfl⟩) (Nat.le_of_ble_eq_true rfl) dL_law_409 ⟨Nat.le_of_ble_eq_true rfl, Nat.le_of_ble_eq_true rfl⟩ (fun H locs Z hw P => ?_)
      refine lv_if_ge (tgt := 417) S.1 S.2.1 dL_law_412 (by decide) (fun _ => ?_) (fun c => absurd (nI_pos' (n := k - 1) (by have := hF.1; omega)) c)
      refine lv_iinc (v := (nI (j + 1))) (lv' := [(4, .int (nI (j + 1))), (0, .ref b), (1, .ref (Q 8 0)), (2, .ref q), (3, .int (nI a))]) S.1 S.2.1 dL_law_417 hl (k := 4) rfl (nI_1 _) (by decide) rfl (fun ls hl => ?_)
      refine lv_goto (tgt := 379) S.1 S.2.1 dL_law_420 (by decide) ?_
      exact ih (j + 1) (k - 1) H locs ls _ _ _ _ (by omega) ha hw P (FI_s hF hk) (lv_sub hl [1, 2, 3, 4, 0] rfl)
set_option maxHeartbeats 1000000 in
set_option maxRecDepth 100000 in
theorem law_tail {p : Program} {l : Launch} {e : Env} {s : State} {m : MethodId} {below : List Frame} {meth : Method} {c : Code} {D : va_G} {cI cC cL : ClassId} {b L : Nat} {xs : Nat → Int32} {Q : Nat → Nat → Nat} {q : Nat} {i : Nat} (hL : L ≤ 260) (hr : meth.sig.returnType = ret) (hlocks : meth.locks = false) (S : CallFix p m c cL_law 9 s #[Value.ref b] wsL_law RL) (hXs : va_X b L xs s s.heap) (hbl : b < s.heap.size) (hbA : ¬ (fun q : Nat => s.heap.size ≤ q) b) (hX : y_X (fun q : Nat => s.heap.size ≤ q) s) {a k n : Nat} {f : Nat → Int64} {H : Heap} {locs : List Loc} {ls : Array Slot} {Z : Nat → U} {u : U} {g : Nat → U} (ha : a ≤ 24) (hw : y_W D cI cC cL (fun q : Nat => s.heap.size ≤ q) s H locs (cWd cI cC cL Q Z ++ [(q, .inl (D.1 9, 64, .inr (.inl f)))])) (P : PW Z u jTx0 k g) (hG : GI u n (24 * a)) (hH : HI a k g f) (hl : lv_has ls 9 [(0, .ref b), (1, .ref (Q 8 0)), (2, .ref q), (3, .int (nI a)), (4, .int (nI i))]) : W p l e room_1 s m #[Value.ref b] below meth c H locs (0 + 150 + 300 + 1575 + 1 + 74 + 1) (0 + 2122 + 4244 + 22281 + 4 + 1057 + 64) (lw_Z below #[Value.ref b] s) (F0 m 326 ls []) := by
  obtain ⟨hv, h2, h10, hs, he⟩ := id hG
  have k4 := P.k4
  refine lv_aload_n S.1 S.2.1 dL_law_326 rfl (lv_at hl 2 rfl) ?_
  refine lv_iload_n S.1 S.2.1 dL_law_327 rfl (lv_at hl 3 rfl) ?_
  refine lv_aload_n S.1 S.2.1 dL_law_328 rfl (lv_at hl 1 rfl) ?_
  refine ly_sL (As := [.ref (Q 8 0)]) (rest := [.int (nI a), .ref q]) S hw hl.1 (c_L_seen l D cI cC cL Q _ _ _ _ _ P _ _ hv h10 (by omega)) (va_cwS 1 S.2.2.2.2 gL_law_L_seen rfl rfl rfl (by decide +kernel) ⟨Nat.le_of_ble_eq_true rfl, Nat.le_of_ble_eq_true rfl⟩) rfl (Nat.le_of_ble_eq_true rfl) dL_law_329 rfl ⟨Nat.le_of_ble_eq_true rfl, Nat.le_of_ble_eq_true rfl⟩ (fun H locs x hx hw => ?_)
  subst hx
  have hw : y_W D cI cC cL (fun q : Nat => s.heap.size ≤ q) s _ _ (cWd cI cC cL Q _ ++ _) := hw
  refine y_last S hw 75 (k := a) (n := 64) (f := f) (x := qSeen u) rfl (by omega) (by decide) dL_law_332 (ws' := (cWd cI cC cL Q Z ++ [(q, .inl (D.1 9, 64, .inr (.inl (vp_updL f a (qSeen u)))))])) rfl (fun H locs hw => ?_)
  refine lv_aload_n S.1 S.2.1 dL_law_333 rfl (lv_at hl 1 rfl) ?_
  refine lv_iconst (v := 1) S.1 S.2.1 dL_law_334 (by decide) ?_
  refine lv_iconst (v := 0) S.1 S.2.1 dL_law_335 (by decide) ?_
  refine q_set (by decide) (by decide) (rest := []) S hw P hl.1 hX (cwV 2 S.2.2.2.2 gL_law_X5_set rfl rfl rfl (by decide +kernel) ⟨Nat.le_of_ble_eq_true rfl, Nat.le_of_ble_eq_true rfl⟩) (Nat.le_of_ble_eq_true rfl) dL_law_336 ⟨Nat.le_of_ble_eq_true rfl, Nat.le_of_ble_eq_true rfl⟩ (fun H locs Z hw P => ?_)
  obtain ⟨sv, es, ls1⟩ := he 1 (by decide)
  have P : PW _ (va_up u 10 (upd (u 10) 1 0)) jTx0 _ _ := P
  obtain ⟨-, -, h0, r0, eh, lh, -⟩ := id hv
  have hp : pIdl (va_up u 10 (upd (u 10) 1 0)) n h0 (24 * a) := ⟨hv, rfl, eh⟩
  refine y_top (y := nI sv) es ?_
  refine lv_if_lt (tgt := 374) S.1 S.2.1 dL_law_339 (by decide) (fun c => absurd c (nI_nn (by omega))) (fun _ => ?_)
  refine lv_aload_n S.1 S.2.1 dL_law_342 rfl (lv_at hl 1 rfl) ?_
  refine lv_bipush (v := 77) S.1 S.2.1 dL_law_343 (by decide) ?_
  refine q_give hp.1 h10 (by omega) (by decide) (pIdl_le hp (by omega) (by decide)) (rest := []) S hw P hl.1 (cwV 1 S.2.2.2.2 gL_law_X5_give rfl rfl rfl (by decide +kernel) ⟨Nat.le_of_ble_eq_true rfl, Nat.le_of_ble_eq_true rfl⟩) (Nat.le_of_ble_eq_true rfl) dL_law_345 ⟨Nat.le_of_ble_eq_true rfl, Nat.le_of_ble_eq_true rfl⟩ (fun H locs Z hw P => ?_)
  refine y_top (y := 1) (pIdl_r (t := 1) hp (by omega)) ?_
  have hp2 : pIdl (jTI (va_up u 10 (upd (u 10) 1 0)) 77 n 1) n (h0 + 1) (24 * a + 2 * 1) := pIdl_s (t := 1) hp (by omega) (by decide)
  refine lv_iconst (v := 1) S.1 S.2.1 dL_law_348 (by decide) ?_
  refine lv_icmp_ne (tgt := 374) S.1 S.2.1 dL_law_349 (by decide) (fun c => absurd (by decide) c) (fun _ => ?_) 
  refine lv_aload_n S.1 S.2.1 dL_law_352 rfl (lv_at hl 1 rfl) ?_
  refine ly_sX (As := [.ref (Q 8 0)]) (rest := []) S hw hX hl.1 (c_L_refused l D cI cC cL Q _ _ _ _ _ P n (24 * a + 2) (lOk_mono hp2.1 (by omega)) h10 (by omega) 0 rfl (Nat.zero_le _) (by omega)) (va_cwS 1 S.2.2.2.2 gL_law_L_refused rfl rfl rfl (by decide +kernel) ⟨Nat.le_of_ble_eq_true rfl, Nat.le_of_ble_eq_true rfl⟩) rfl (Nat.le_of_ble_eq_true rfl) dL_law_353 rfl ⟨Nat.le_of_ble_eq_true rfl, Nat.le_of_ble_eq_true rfl⟩ (fun H locs x hx hw => ?_)
  subst hx
  have hw : y_W D cI cC cL (fun q : Nat => s.heap.size ≤ q) s _ _ (cWd cI cC cL Q _ ++ _) := hw
  refine lv_if_eq (tgt := 374) S.1 S.2.1 dL_law_356 (by decide) (fun c => absurd c (by decide)) (fun _ => ?_) 
  refine lv_aload_n S.1 S.2.1 dL_law_359 rfl (lv_at hl 1 rfl) ?_
  refine q_undo (by have := kPush_2 (k := k); omega) (rest := []) S hw P hl.1 (cwV 0 S.2.2.2.2 gL_law_X5_undo rfl rfl rfl (by decide +kernel) ⟨Nat.le_of_ble_eq_true rfl, Nat.le_of_ble_eq_true rfl⟩) (Nat.le_of_ble_eq_true rfl) dL_law_360 ⟨Nat.le_of_ble_eq_true rfl, Nat.le_of_ble_eq_true rfl⟩ (fun H locs Z hw P => ?_)
  have P : PW _ (va_up u 10 (upd (u 10) 1 0)) _ _ _ := P
  refine lv_iconst (v := 1) S.1 S.2.1 dL_law_363 (by decide) ?_
  refine lv_icmp_lt (tgt := 374) S.1 S.2.1 dL_law_364 (by decide) (fun c => absurd ((nI_ltI (a := kPush (kPush k) - 1) (b := 1) (by have := kPush_2 (k := k); omega) (by omega)).mp c) (by have := kPush_2 (k := k); omega)) (fun _ => ?_)
  refine lv_aload_n S.1 S.2.1 dL_law_367 rfl (lv_at hl 1 rfl) ?_
  refine q_undo (by have := kPush_2 (k := k); omega) (rest := []) S hw P hl.1 (cwV 0 S.2.2.2.2 gL_law_X5_undo rfl rfl rfl (by decide +kernel) ⟨Nat.le_of_ble_eq_true rfl, Nat.le_of_ble_eq_true rfl⟩) (Nat.le_of_ble_eq_true rfl) dL_law_368 ⟨Nat.le_of_ble_eq_true rfl, Nat.le_of_ble_eq_true rfl⟩ (fun H locs Z hw P => ?_)
  have P : PW _ u _ _ g := P
  refine lv_if_ge (tgt := 376) S.1 S.2.1 dL_law_371 (by decide) (fun _ => ?_) (fun c => absurd (nI_pos' (n := kPush (kPush k) - 1 - 1) (by have := kPush_2 (k := k); omega)) c)
  refine lv_iconst (v := 0) S.1 S.2.1 dL_law_376 (by decide) ?_
  refine lv_istore (lv' := [(4, .int 0), (0, .ref b), (1, .ref (Q 8 0)), (2, .ref q), (3, .int (nI a))]) S.1 S.2.1 dL_law_377 hl (by decide) rfl (fun ls hl => ?_)
  exact law_end hL hr hlocks S hXs hbl hbA hX (kPush (kPush k) - 1 - 1 + 1) 0 _ H locs ls _ _ _ _ (by omega) ha hw P (FI_0 (HI_note hH) k4 updL_s (hG.J (by omega))) (lv_sub hl [1, 2, 3, 4, 0] rfl)
theorem set_ok {j y : Nat} (h1 : 2 ≤ j) (h2 : j ≤ 4) (h3 : 1 ≤ y) (h4 : y ≤ 10000) : jOut (nI y) (sLst (nI j).toNatClampNeg) (sMst (nI j).toNatClampNeg) = 0 := by
  rw [nI_clamp (by omega)]
  rcases (show j = 2 ∨ j = 3 ∨ j = 4 by omega) with rfl | rfl | rfl <;> exact jOut_ok (a := 1) (b := 10000) h3 h4 (by decide)
set_option maxHeartbeats 1000000 in
set_option maxRecDepth 100000 in
theorem law_act {p : Program} {l : Launch} {e : Env} {s : State} {m : MethodId} {below : List Frame} {meth : Method} {c : Code} {D : va_G} {cI cC cL : ClassId} {b L : Nat} {xs : Nat → Int32} {Q : Nat → Nat → Nat} {q : Nat} (hL : L ≤ 260) (hr : meth.sig.returnType = ret) (hlocks : meth.locks = false) (S : CallFix p m c cL_law 9 s #[Value.ref b] wsL_law RL) (hXs : va_X b L xs s s.heap) (hbl : b < s.heap.size) (hbA : ¬ (fun q : Nat => s.heap.size ≤ q) b) (hX : y_X (fun q : Nat => s.heap.size ≤ q) s) {a k n kd i : Nat} {x : Int32} {f : Nat → Int64} {H : Heap} {locs : List Loc} {ls : Array Slot} {Z : Nat → U} {u : U} {g : Nat → U} (hi : a < 24) (hw : y_W D cI cC cL (fun q : Nat => s.heap.size ≤ q) s H locs (cWd cI cC cL Q Z ++ [(q, .inl (D.1 9, 64, .inr (.inl f)))])) (P : PW Z u jTx0 k g) (hG : GI u n (24 * a)) (hl : lv_has ls 9 [(7, .int (nI k)), (6, .int (nI kd)), (5, .int x), (4, .int (nI i)), (3, .int (nI a)), (2, .ref q), (1, .ref (Q 8 0)), (0, .ref b)])
    (hact : ∀ (H : Heap) (locs : List Loc) (Z1 : Nat → U) (u1 : U) (k1 : Nat) (g1 : Nat → U) (d : Int32), y_W D cI cC cL (fun q : Nat => s.heap.size ≤ q) s H locs (cWd cI cC cL Q Z1 ++ [(q, .inl (D.1 9, 64, .inr (.inl f)))]) → PW Z1 u1 jTx0 k1 g1 → pAct u u1 k k1 g g1 a d → W p l e room_1 s m #[Value.ref b] below meth c H locs (0 + 150 + 300 + 1575 + 1 + 74 + 1) (0 + 2122 + 4244 + 22281 + 4 + 1057 + 64) (lw_Z below #[Value.ref b] s) (F0 m 276 ls [.int d])) : W p l e room_1 s m #[Value.ref b] below meth c H locs (0 + 150 + 300 + 1575 + 1 + 74 + 1) (0 + 2122 + 4244 + 22281 + 4 + 1057 + 64) (lw_Z below #[Value.ref b] s) (F0 m 77 ls []) := by
  obtain ⟨hv, h2, h10, hs, he⟩ := id hG
  have k4 := P.k4
  have g1 := qPart_lt (v := x >>> (4 &&& 31)) (n := 3) (by decide)
  have g2 := qPart_lt (v := x >>> (6 &&& 31)) (n := 9) (by decide)
  have g3 := qPart_lt (v := x >>> (6 &&& 31)) (n := 12) (by decide)
  have g4 := qPart_lt (v := x >>> (4 &&& 31)) (n := 10) (by decide)
  have g5 := qPart_lt (v := x >>> (8 &&& 31)) (n := 301) (by decide)
  have g6 := qPart_lt (v := x >>> (13 &&& 31)) (n := 301) (by decide)
  have g7 := qPart_lt (v := x >>> (4 &&& 31)) (n := 9000) (by decide)
  have g8 := qPart_lt (v := x >>> (4 &&& 31)) (n := 6) (by decide)
  have g9 := qPart_lt (v := x >>> (6 &&& 31)) (n := 10000) (by decide)
  have gA := qPart_lt (v := x >>> (4 &&& 31)) (n := 10001) (by decide)
  refine lv_iload S.1 S.2.1 dL_law_77 (lv_at hl 1 rfl) ?_
  refine lv_if_ne (tgt := 131) S.1 S.2.1 dL_law_79 (by decide) (fun n0 => ?_) (fun n0 => ?_)
  · skip
    refine lv_iload S.1 S.2.1 dL_law_131 (lv_at hl 1 rfl) ?_
    refine lv_iconst (v := 1) S.1 S.2.1 dL_law_133 (by decide) ?_
    refine lv_icmp_ne (tgt := 175) S.1 S.2.1 dL_law_134 (by decide) (fun n1 => ?_) (fun n1 => ?_)
    · skip
      refine lv_iload S.1 S.2.1 dL_law_175 (lv_at hl 1 rfl) ?_
      refine lv_iconst (v := 2) S.1 S.2.1 dL_law_177 (by decide) ?_
      refine lv_icmp_ne (tgt := 203) S.1 S.2.1 dL_law_178 (by decide) (fun n2 => ?_) (fun n2 => ?_)
      · skip
        refine lv_iload S.1 S.2.1 dL_law_203 (lv_at hl 1 rfl) ?_
        refine lv_iconst (v := 3) S.1 S.2.1 dL_law_205 (by decide) ?_
        refine lv_icmp_ne (tgt := 226) S.1 S.2.1 dL_law_206 (by decide) (fun n3 => ?_) (fun n3 => ?_)
        · skip
          refine lv_iload S.1 S.2.1 dL_law_226 (lv_at hl 1 rfl) ?_
          refine lv_iconst (v := 4) S.1 S.2.1 dL_law_228 (by decide) ?_
          refine lv_icmp_ne (tgt := 262) S.1 S.2.1 dL_law_229 (by decide) (fun n4 => ?_) (fun n4 => ?_)
          · skip
            refine lv_aload_n S.1 S.2.1 dL_law_262 rfl (lv_at hl 6 rfl) ?_
            refine lv_iload S.1 S.2.1 dL_law_263 (lv_at hl 2 rfl) ?_
            refine lv_iconst (v := 4) S.1 S.2.1 dL_law_265 (by decide) ?_
            refine lv_ishr S.1 S.2.1 dL_law_266 ?_
            refine lv_sipush (v := 10001) S.1 S.2.1 dL_law_267 (by decide) ?_
            refine ly_sI (As := [.int (x >>> (4 &&& 31)), .int 10001]) (rest := [.ref (Q 8 0)]) (wc := []) S hw hl.1 (c_L_part l D cI cC cL (x >>> (4 &&& 31)) 10001 (by decide) (by decide)) (va_cwS 2 S.2.2.2.2 gL_law_L_part rfl rfl rfl (by decide +kernel) ⟨Nat.le_of_ble_eq_true rfl, Nat.le_of_ble_eq_true rfl⟩) rfl (Nat.le_of_ble_eq_true rfl) dL_law_270 rfl ⟨Nat.le_of_ble_eq_true rfl, Nat.le_of_ble_eq_true rfl⟩ (fun H locs x hx hw => ?_)
            subst hx
            have hw : y_W D cI cC cL (fun q : Nat => s.heap.size ≤ q) s H locs (cWd cI cC cL Q Z ++ [(q, .inl (D.1 9, 64, .inr (.inl f)))]) := hw
            by_cases hh : jHB (u 11 0) (u 10 1) 1 ≤ 999
            · skip
              refine q_give hv h10 (by omega) (jOut_ok (a := 0) (b := 10000) (by omega) (by omega) (by decide)) hh (rest := []) S hw P hl.1 (cwV 1 S.2.2.2.2 gL_law_X5_give rfl rfl rfl (by decide +kernel) ⟨Nat.le_of_ble_eq_true rfl, Nat.le_of_ble_eq_true rfl⟩) (Nat.le_of_ble_eq_true rfl) dL_law_273 ⟨Nat.le_of_ble_eq_true rfl, Nat.le_of_ble_eq_true rfl⟩ (fun H locs Z hw P => ?_)
              exact hact _ _ _ _ _ _ _ hw P (pAct_times (k := k) (g := g) (t := 1) hG hi (by omega))
            · skip
              refine q_give_lim hv h10 (by omega) (jOut_ok (a := 0) (b := 10000) (by omega) (by omega) (by decide)) hh (rest := []) S hw P hl.1 (cwV 1 S.2.2.2.2 gL_law_X5_give rfl rfl rfl (by decide +kernel) ⟨Nat.le_of_ble_eq_true rfl, Nat.le_of_ble_eq_true rfl⟩) (Nat.le_of_ble_eq_true rfl) dL_law_273 ⟨Nat.le_of_ble_eq_true rfl, Nat.le_of_ble_eq_true rfl⟩ (fun H locs hw => ?_)
              exact hact _ _ _ _ _ _ _ hw P (pAct_no (by decide))
          · skip
            refine lv_aload_n S.1 S.2.1 dL_law_232 rfl (lv_at hl 6 rfl) ?_
            refine lv_iconst (v := 2) S.1 S.2.1 dL_law_233 (by decide) ?_
            refine lv_iload S.1 S.2.1 dL_law_234 (lv_at hl 2 rfl) ?_
            refine lv_iconst (v := 4) S.1 S.2.1 dL_law_236 (by decide) ?_
            refine lv_ishr S.1 S.2.1 dL_law_237 ?_
            refine lv_iconst (v := 3) S.1 S.2.1 dL_law_238 (by decide) ?_
            refine ly_sI (As := [.int (x >>> (4 &&& 31)), .int 3]) (rest := [.int 2, .ref (Q 8 0)]) (wc := []) S hw hl.1 (c_L_part l D cI cC cL (x >>> (4 &&& 31)) 3 (by decide) (by decide)) (va_cwS 2 S.2.2.2.2 gL_law_L_part rfl rfl rfl (by decide +kernel) ⟨Nat.le_of_ble_eq_true rfl, Nat.le_of_ble_eq_true rfl⟩) rfl (Nat.le_of_ble_eq_true rfl) dL_law_239 rfl ⟨Nat.le_of_ble_eq_true rfl, Nat.le_of_ble_eq_true rfl⟩ (fun H locs x hx hw => ?_)
            subst hx
            have hw : y_W D cI cC cL (fun q : Nat => s.heap.size ≤ q) s H locs (cWd cI cC cL Q Z ++ [(q, .inl (D.1 9, 64, .inr (.inl f)))]) := hw
            refine lv_iadd S.1 S.2.1 dL_law_242 ?_
            refine y_top (y := (nI (2 + (qPart (x >>> (4 &&& 31)) 3)))) (nI_add 2 _) ?_
            refine lv_iconst (v := 1) S.1 S.2.1 dL_law_243 (by decide) ?_
            refine lv_iload S.1 S.2.1 dL_law_244 (lv_at hl 2 rfl) ?_
            refine lv_bipush (v := 6) S.1 S.2.1 dL_law_246 (by decide) ?_
            refine lv_ishr S.1 S.2.1 dL_law_248 ?_
            refine lv_sipush (v := 10000) S.1 S.2.1 dL_law_249 (by decide) ?_
            refine ly_sI (As := [.int (x >>> (6 &&& 31)), .int 10000]) (rest := [.int 1, .int (nI (2 + (qPart (x >>> (4 &&& 31)) 3))), .ref (Q 8 0)]) (wc := []) S hw hl.1 (c_L_part l D cI cC cL (x >>> (6 &&& 31)) 10000 (by decide) (by decide)) (va_cwS 2 S.2.2.2.2 gL_law_L_part rfl rfl rfl (by decide +kernel) ⟨Nat.le_of_ble_eq_true rfl, Nat.le_of_ble_eq_true rfl⟩) rfl (Nat.le_of_ble_eq_true rfl) dL_law_252 rfl ⟨Nat.le_of_ble_eq_true rfl, Nat.le_of_ble_eq_true rfl⟩ (fun H locs x hx hw => ?_)
            subst hx
            have hw : y_W D cI cC cL (fun q : Nat => s.heap.size ≤ q) s H locs (cWd cI cC cL Q Z ++ [(q, .inl (D.1 9, 64, .inr (.inl f)))]) := hw
            refine lv_iadd S.1 S.2.1 dL_law_255 ?_
            refine y_top (y := (nI (1 + (qPart (x >>> (6 &&& 31)) 10000)))) (nI_add 1 _) ?_
            refine q_set (jOut_ok (a := 0) (b := 4) (by omega) (by omega) (by decide)) (set_ok (by omega) (by omega) (by omega) (by omega)) (rest := []) S hw P hl.1 hX (cwV 2 S.2.2.2.2 gL_law_X5_set rfl rfl rfl (by decide +kernel) ⟨Nat.le_of_ble_eq_true rfl, Nat.le_of_ble_eq_true rfl⟩) (Nat.le_of_ble_eq_true rfl) dL_law_256 ⟨Nat.le_of_ble_eq_true rfl, Nat.le_of_ble_eq_true rfl⟩ (fun H locs Z hw P => ?_)
            rw [nI_clamp (by omega)] at P
            refine y_top (y := u 10 ((2 + (qPart (x >>> (4 &&& 31)) 3)))) (by rw [nI_clamp (by omega)]) ?_
            refine lv_goto (tgt := 276) S.1 S.2.1 dL_law_259 (by decide) ?_
            exact hact _ _ _ _ _ _ _ hw P (pAct_set (k := k) (g := g) (j := (2 + (qPart (x >>> (4 &&& 31)) 3))) (y := (1 + (qPart (x >>> (6 &&& 31)) 10000))) hG (by omega) (by omega))
        · skip
          refine lv_aload_n S.1 S.2.1 dL_law_209 rfl (lv_at hl 6 rfl) ?_
          refine lv_iconst (v := 1) S.1 S.2.1 dL_law_210 (by decide) ?_
          refine lv_iload S.1 S.2.1 dL_law_211 (lv_at hl 2 rfl) ?_
          refine lv_iconst (v := 4) S.1 S.2.1 dL_law_213 (by decide) ?_
          refine lv_ishr S.1 S.2.1 dL_law_214 ?_
          refine lv_bipush (v := 6) S.1 S.2.1 dL_law_215 (by decide) ?_
          refine ly_sI (As := [.int (x >>> (4 &&& 31)), .int 6]) (rest := [.int 1, .ref (Q 8 0)]) (wc := []) S hw hl.1 (c_L_part l D cI cC cL (x >>> (4 &&& 31)) 6 (by decide) (by decide)) (va_cwS 2 S.2.2.2.2 gL_law_L_part rfl rfl rfl (by decide +kernel) ⟨Nat.le_of_ble_eq_true rfl, Nat.le_of_ble_eq_true rfl⟩) rfl (Nat.le_of_ble_eq_true rfl) dL_law_217 rfl ⟨Nat.le_of_ble_eq_true rfl, Nat.le_of_ble_eq_true rfl⟩ (fun H locs x hx hw => ?_)
          subst hx
          have hw : y_W D cI cC cL (fun q : Nat => s.heap.size ≤ q) s H locs (cWd cI cC cL Q Z ++ [(q, .inl (D.1 9, 64, .inr (.inl f)))]) := hw
          refine q_set (by decide) (show jOut (nI ((qPart (x >>> (4 &&& 31)) 6))) (nI 0) (nI 12) = 0 from jOut_ok (by omega) (by omega) (by decide)) (rest := []) S hw P hl.1 hX (cwV 2 S.2.2.2.2 gL_law_X5_set rfl rfl rfl (by decide +kernel) ⟨Nat.le_of_ble_eq_true rfl, Nat.le_of_ble_eq_true rfl⟩) (Nat.le_of_ble_eq_true rfl) dL_law_220 ⟨Nat.le_of_ble_eq_true rfl, Nat.le_of_ble_eq_true rfl⟩ (fun H locs Z hw P => ?_)
          refine lv_goto (tgt := 276) S.1 S.2.1 dL_law_223 (by decide) ?_
          exact hact _ _ _ _ _ _ _ hw P (pAct_set (k := k) (g := g) (j := 1) (y := (qPart (x >>> (4 &&& 31)) 6)) hG (by decide) (by omega))
      · skip
        refine lv_aload_n S.1 S.2.1 dL_law_181 rfl (lv_at hl 6 rfl) ?_
        refine lv_iconst (v := 0) S.1 S.2.1 dL_law_182 (by decide) ?_
        refine lv_sipush (v := 1000) S.1 S.2.1 dL_law_183 (by decide) ?_
        refine lv_iload S.1 S.2.1 dL_law_186 (lv_at hl 2 rfl) ?_
        refine lv_iconst (v := 4) S.1 S.2.1 dL_law_188 (by decide) ?_
        refine lv_ishr S.1 S.2.1 dL_law_189 ?_
        refine lv_sipush (v := 9000) S.1 S.2.1 dL_law_190 (by decide) ?_
        refine ly_sI (As := [.int (x >>> (4 &&& 31)), .int 9000]) (rest := [.int 1000, .int 0, .ref (Q 8 0)]) (wc := []) S hw hl.1 (c_L_part l D cI cC cL (x >>> (4 &&& 31)) 9000 (by decide) (by decide)) (va_cwS 2 S.2.2.2.2 gL_law_L_part rfl rfl rfl (by decide +kernel) ⟨Nat.le_of_ble_eq_true rfl, Nat.le_of_ble_eq_true rfl⟩) rfl (Nat.le_of_ble_eq_true rfl) dL_law_193 rfl ⟨Nat.le_of_ble_eq_true rfl, Nat.le_of_ble_eq_true rfl⟩ (fun H locs x hx hw => ?_)
        subst hx
        have hw : y_W D cI cC cL (fun q : Nat => s.heap.size ≤ q) s H locs (cWd cI cC cL Q Z ++ [(q, .inl (D.1 9, 64, .inr (.inl f)))]) := hw
        refine lv_iadd S.1 S.2.1 dL_law_196 ?_
        refine y_top (y := (nI (1000 + (qPart (x >>> (4 &&& 31)) 9000)))) (nI_add 1000 _) ?_
        refine q_set (by decide) (show jOut (nI ((1000 + (qPart (x >>> (4 &&& 31)) 9000)))) (nI 1000) (nI 100000) = 0 from jOut_ok (by omega) (by omega) (by decide)) (rest := []) S hw P hl.1 hX (cwV 2 S.2.2.2.2 gL_law_X5_set rfl rfl rfl (by decide +kernel) ⟨Nat.le_of_ble_eq_true rfl, Nat.le_of_ble_eq_true rfl⟩) (Nat.le_of_ble_eq_true rfl) dL_law_197 ⟨Nat.le_of_ble_eq_true rfl, Nat.le_of_ble_eq_true rfl⟩ (fun H locs Z hw P => ?_)
        refine lv_goto (tgt := 276) S.1 S.2.1 dL_law_200 (by decide) ?_
        exact hact _ _ _ _ _ _ _ hw P (pAct_set (k := k) (g := g) (j := 0) (y := (1000 + (qPart (x >>> (4 &&& 31)) 9000))) hG (by decide) (by omega))
    · skip
      refine lv_aload_n S.1 S.2.1 dL_law_137 rfl (lv_at hl 6 rfl) ?_
      refine lv_iload S.1 S.2.1 dL_law_138 (lv_at hl 2 rfl) ?_
      refine lv_iconst (v := 4) S.1 S.2.1 dL_law_140 (by decide) ?_
      refine lv_ishr S.1 S.2.1 dL_law_141 ?_
      refine lv_bipush (v := 10) S.1 S.2.1 dL_law_142 (by decide) ?_
      refine ly_sI (As := [.int (x >>> (4 &&& 31)), .int 10]) (rest := [.ref (Q 8 0)]) (wc := []) S hw hl.1 (c_L_part l D cI cC cL (x >>> (4 &&& 31)) 10 (by decide) (by decide)) (va_cwS 2 S.2.2.2.2 gL_law_L_part rfl rfl rfl (by decide +kernel) ⟨Nat.le_of_ble_eq_true rfl, Nat.le_of_ble_eq_true rfl⟩) rfl (Nat.le_of_ble_eq_true rfl) dL_law_144 rfl ⟨Nat.le_of_ble_eq_true rfl, Nat.le_of_ble_eq_true rfl⟩ (fun H locs x hx hw => ?_)
      subst hx
      have hw : y_W D cI cC cL (fun q : Nat => s.heap.size ≤ q) s H locs (cWd cI cC cL Q Z ++ [(q, .inl (D.1 9, 64, .inr (.inl f)))]) := hw
      refine lv_iload S.1 S.2.1 dL_law_147 (lv_at hl 2 rfl) ?_
      refine lv_bipush (v := 8) S.1 S.2.1 dL_law_149 (by decide) ?_
      refine lv_ishr S.1 S.2.1 dL_law_151 ?_
      refine lv_sipush (v := 301) S.1 S.2.1 dL_law_152 (by decide) ?_
      refine ly_sI (As := [.int (x >>> (8 &&& 31)), .int 301]) (rest := [.int (nI (qPart (x >>> (4 &&& 31)) 10)), .ref (Q 8 0)]) (wc := []) S hw hl.1 (c_L_part l D cI cC cL (x >>> (8 &&& 31)) 301 (by decide) (by decide)) (va_cwS 2 S.2.2.2.2 gL_law_L_part rfl rfl rfl (by decide +kernel) ⟨Nat.le_of_ble_eq_true rfl, Nat.le_of_ble_eq_true rfl⟩) rfl (Nat.le_of_ble_eq_true rfl) dL_law_155 rfl ⟨Nat.le_of_ble_eq_true rfl, Nat.le_of_ble_eq_true rfl⟩ (fun H locs x hx hw => ?_)
      subst hx
      have hw : y_W D cI cC cL (fun q : Nat => s.heap.size ≤ q) s H locs (cWd cI cC cL Q Z ++ [(q, .inl (D.1 9, 64, .inr (.inl f)))]) := hw
      refine lv_iload S.1 S.2.1 dL_law_158 (lv_at hl 2 rfl) ?_
      refine lv_bipush (v := 13) S.1 S.2.1 dL_law_160 (by decide) ?_
      refine lv_ishr S.1 S.2.1 dL_law_162 ?_
      refine lv_sipush (v := 301) S.1 S.2.1 dL_law_163 (by decide) ?_
      refine ly_sI (As := [.int (x >>> (13 &&& 31)), .int 301]) (rest := [.int (nI (qPart (x >>> (8 &&& 31)) 301)), .int (nI (qPart (x >>> (4 &&& 31)) 10)), .ref (Q 8 0)]) (wc := []) S hw hl.1 (c_L_part l D cI cC cL (x >>> (13 &&& 31)) 301 (by decide) (by decide)) (va_cwS 2 S.2.2.2.2 gL_law_L_part rfl rfl rfl (by decide +kernel) ⟨Nat.le_of_ble_eq_true rfl, Nat.le_of_ble_eq_true rfl⟩) rfl (Nat.le_of_ble_eq_true rfl) dL_law_166 rfl ⟨Nat.le_of_ble_eq_true rfl, Nat.le_of_ble_eq_true rfl⟩ (fun H locs x hx hw => ?_)
      subst hx
      have hw : y_W D cI cC cL (fun q : Nat => s.heap.size ≤ q) s H locs (cWd cI cC cL Q Z ++ [(q, .inl (D.1 9, 64, .inr (.inl f)))]) := hw
      by_cases hh : jHas (nI ((qPart (x >>> (4 &&& 31)) 10))) (u 0 0) = 0
      · skip
        refine q_stage_inv hv h10 (Or.inl hh) (rest := []) S hw P hl.1 (cwV 3 S.2.2.2.2 gL_law_X5_stage rfl rfl rfl (by decide +kernel) ⟨Nat.le_of_ble_eq_true rfl, Nat.le_of_ble_eq_true rfl⟩) (Nat.le_of_ble_eq_true rfl) dL_law_169 ⟨Nat.le_of_ble_eq_true rfl, Nat.le_of_ble_eq_true rfl⟩ (fun H locs hw => ?_)
        refine lv_goto (tgt := 276) S.1 S.2.1 dL_law_172 (by decide) ?_
        exact hact _ _ _ _ _ _ _ hw P (pAct_no (by decide))
      · skip
        refine q_stage hv h10 hh (jOut_ok (a := 0) (b := 300) (by omega) (by omega) (by decide)) (jOut_ok (a := 0) (b := 300) (by omega) (by omega) (by decide)) (rest := []) S hw P hl.1 (cwV 3 S.2.2.2.2 gL_law_X5_stage rfl rfl rfl (by decide +kernel) ⟨Nat.le_of_ble_eq_true rfl, Nat.le_of_ble_eq_true rfl⟩) (Nat.le_of_ble_eq_true rfl) dL_law_169 ⟨Nat.le_of_ble_eq_true rfl, Nat.le_of_ble_eq_true rfl⟩ (fun H locs Z hw P => ?_)
        rw [nI_clamp (by omega)] at P
        refine y_top (y := (1000 : Int32) * u 2 ((qPart (x >>> (4 &&& 31)) 10)) + u 3 ((qPart (x >>> (4 &&& 31)) 10))) (by rw [nI_clamp (by omega)]) ?_
        refine lv_goto (tgt := 276) S.1 S.2.1 dL_law_172 (by decide) ?_
        exact hact _ _ _ _ _ _ _ hw P (pAct_stage (k := k) (g := g) (s := (qPart (x >>> (4 &&& 31)) 10)) (p := (qPart (x >>> (8 &&& 31)) 301)) (q := (qPart (x >>> (13 &&& 31)) 301)) hG (by omega) (by omega) (by omega))
  · skip
    refine lv_iload S.1 S.2.1 dL_law_82 (lv_at hl 2 rfl) ?_
    refine lv_iconst (v := 4) S.1 S.2.1 dL_law_84 (by decide) ?_
    refine lv_ishr S.1 S.2.1 dL_law_85 ?_
    refine lv_iconst (v := 3) S.1 S.2.1 dL_law_86 (by decide) ?_
    refine ly_sI (As := [.int (x >>> (4 &&& 31)), .int 3]) (rest := []) (wc := []) S hw hl.1 (c_L_part l D cI cC cL (x >>> (4 &&& 31)) 3 (by decide) (by decide)) (va_cwS 2 S.2.2.2.2 gL_law_L_part rfl rfl rfl (by decide +kernel) ⟨Nat.le_of_ble_eq_true rfl, Nat.le_of_ble_eq_true rfl⟩) rfl (Nat.le_of_ble_eq_true rfl) dL_law_87 rfl ⟨Nat.le_of_ble_eq_true rfl, Nat.le_of_ble_eq_true rfl⟩ (fun H locs x hx hw => ?_)
    subst hx
    have hw : y_W D cI cC cL (fun q : Nat => s.heap.size ≤ q) s H locs (cWd cI cC cL Q Z ++ [(q, .inl (D.1 9, 64, .inr (.inl f)))]) := hw
    refine lv_if_ne (tgt := 112) S.1 S.2.1 dL_law_90 (by decide) (fun _ => ?_) (fun _ => ?_)
    · skip
      refine lv_aload_n S.1 S.2.1 dL_law_112 rfl (lv_at hl 6 rfl) ?_
      refine lv_iconst (v := 1) S.1 S.2.1 dL_law_113 (by decide) ?_
      refine lv_iload S.1 S.2.1 dL_law_114 (lv_at hl 2 rfl) ?_
      refine lv_bipush (v := 6) S.1 S.2.1 dL_law_116 (by decide) ?_
      refine lv_ishr S.1 S.2.1 dL_law_118 ?_
      refine lv_bipush (v := 12) S.1 S.2.1 dL_law_119 (by decide) ?_
      refine ly_sI (As := [.int (x >>> (6 &&& 31)), .int 12]) (rest := [.int 1, .ref (Q 8 0)]) (wc := []) S hw hl.1 (c_L_part l D cI cC cL (x >>> (6 &&& 31)) 12 (by decide) (by decide)) (va_cwS 2 S.2.2.2.2 gL_law_L_part rfl rfl rfl (by decide +kernel) ⟨Nat.le_of_ble_eq_true rfl, Nat.le_of_ble_eq_true rfl⟩) rfl (Nat.le_of_ble_eq_true rfl) dL_law_121 rfl ⟨Nat.le_of_ble_eq_true rfl, Nat.le_of_ble_eq_true rfl⟩ (fun H locs x hx hw => ?_)
      subst hx
      have hw : y_W D cI cC cL (fun q : Nat => s.heap.size ≤ q) s H locs (cWd cI cC cL Q Z ++ [(q, .inl (D.1 9, 64, .inr (.inl f)))]) := hw
      refine lv_iadd S.1 S.2.1 dL_law_124 ?_
      refine y_top (y := (nI (1 + (qPart (x >>> (6 &&& 31)) 12)))) (nI_add 1 _) ?_
      by_cases hh : jHB (u 11 0) (u 10 1) (nI (1 + (qPart (x >>> (6 &&& 31)) 12))).toNatClampNeg ≤ 999
      · skip
        refine q_idle hv h10 (by omega) (jOut_ok (a := 1) (b := 40) (by omega) (by omega) (by decide)) hh (rest := []) S hw P hl.1 (cwV 1 S.2.2.2.2 gL_law_X5_idle rfl rfl rfl (by decide +kernel) ⟨Nat.le_of_ble_eq_true rfl, Nat.le_of_ble_eq_true rfl⟩) (Nat.le_of_ble_eq_true rfl) dL_law_125 ⟨Nat.le_of_ble_eq_true rfl, Nat.le_of_ble_eq_true rfl⟩ (fun H locs Z hw P => ?_)
        rw [nI_clamp (by omega)] at P
        refine y_top (y := jTI u 0 n ((1 + (qPart (x >>> (6 &&& 31)) 12))) 11 0 - u 11 0) (by rw [nI_clamp (by omega)]) ?_
        refine lv_goto (tgt := 276) S.1 S.2.1 dL_law_128 (by decide) ?_
        exact hact _ _ _ _ _ _ _ hw P (pAct_times (k := k) (g := g) (t := (1 + (qPart (x >>> (6 &&& 31)) 12))) hG hi (by omega))
      · skip
        refine q_idle_lim hv h10 (by omega) (jOut_ok (a := 1) (b := 40) (by omega) (by omega) (by decide)) hh (rest := []) S hw P hl.1 (cwV 1 S.2.2.2.2 gL_law_X5_idle rfl rfl rfl (by decide +kernel) ⟨Nat.le_of_ble_eq_true rfl, Nat.le_of_ble_eq_true rfl⟩) (Nat.le_of_ble_eq_true rfl) dL_law_125 ⟨Nat.le_of_ble_eq_true rfl, Nat.le_of_ble_eq_true rfl⟩ (fun H locs hw => ?_)
        refine lv_goto (tgt := 276) S.1 S.2.1 dL_law_128 (by decide) ?_
        exact hact _ _ _ _ _ _ _ hw P (pAct_no (by decide))
    · skip
      refine lv_aload_n S.1 S.2.1 dL_law_93 rfl (lv_at hl 6 rfl) ?_
      refine lv_iconst (v := 2) S.1 S.2.1 dL_law_94 (by decide) ?_
      refine lv_iload S.1 S.2.1 dL_law_95 (lv_at hl 2 rfl) ?_
      refine lv_bipush (v := 6) S.1 S.2.1 dL_law_97 (by decide) ?_
      refine lv_ishr S.1 S.2.1 dL_law_99 ?_
      refine lv_bipush (v := 9) S.1 S.2.1 dL_law_100 (by decide) ?_
      refine ly_sI (As := [.int (x >>> (6 &&& 31)), .int 9]) (rest := [.int 2, .ref (Q 8 0)]) (wc := []) S hw hl.1 (c_L_part l D cI cC cL (x >>> (6 &&& 31)) 9 (by decide) (by decide)) (va_cwS 2 S.2.2.2.2 gL_law_L_part rfl rfl rfl (by decide +kernel) ⟨Nat.le_of_ble_eq_true rfl, Nat.le_of_ble_eq_true rfl⟩) rfl (Nat.le_of_ble_eq_true rfl) dL_law_102 rfl ⟨Nat.le_of_ble_eq_true rfl, Nat.le_of_ble_eq_true rfl⟩ (fun H locs x hx hw => ?_)
      subst hx
      have hw : y_W D cI cC cL (fun q : Nat => s.heap.size ≤ q) s H locs (cWd cI cC cL Q Z ++ [(q, .inl (D.1 9, 64, .inr (.inl f)))]) := hw
      refine lv_iadd S.1 S.2.1 dL_law_105 ?_
      refine y_top (y := (nI (2 + (qPart (x >>> (6 &&& 31)) 9)))) (nI_add 2 _) ?_
      refine q_begin (jOut_ok (a := 2) (b := 10) (by omega) (by omega) (by decide)) (rest := []) S hw P hl.1 (cwV 1 S.2.2.2.2 gL_law_X5_begin rfl rfl rfl (by decide +kernel) ⟨Nat.le_of_ble_eq_true rfl, Nat.le_of_ble_eq_true rfl⟩) (Nat.le_of_ble_eq_true rfl) dL_law_106 ⟨Nat.le_of_ble_eq_true rfl, Nat.le_of_ble_eq_true rfl⟩ (fun H locs Z hw P => ?_)
      rw [nI_clamp (by omega)] at P
      refine lv_goto (tgt := 276) S.1 S.2.1 dL_law_109 (by decide) ?_
      exact hact _ _ _ _ _ _ _ hw P (pAct_begin (k := k) (g := g) (j := (2 + (qPart (x >>> (6 &&& 31)) 9))) hG hi (by omega) (by omega))
set_option maxHeartbeats 1000000 in
set_option maxRecDepth 100000 in
theorem law_loop {p : Program} {l : Launch} {e : Env} {s : State} {m : MethodId} {below : List Frame} {meth : Method} {c : Code} {D : va_G} {cI cC cL : ClassId} {b L : Nat} {xs : Nat → Int32} {Q : Nat → Nat → Nat} {q : Nat} (hL : L ≤ 260) (hr : meth.sig.returnType = ret) (hlocks : meth.locks = false) (S : CallFix p m c cL_law 9 s #[Value.ref b] wsL_law RL) (hXs : va_X b L xs s s.heap) (hbl : b < s.heap.size) (hbA : ¬ (fun q : Nat => s.heap.size ≤ q) b) (hX : y_X (fun q : Nat => s.heap.size ≤ q) s) : ∀ (fuel i a k n : Nat) (H : Heap) (locs : List Loc) (ls : Array Slot) (Z : Nat → U) (u : U) (g : Nat → U) (f : Nat → Int64), i ≤ 24 → 24 < i + fuel → a ≤ i → y_W D cI cC cL (fun q : Nat => s.heap.size ≤ q) s H locs (cWd cI cC cL Q Z ++ [(q, .inl (D.1 9, 64, .inr (.inl f)))]) → PW Z u jTx0 k g → GI u n (24 * a) → HI a k g f → lv_has ls 9 [(0, .ref b), (1, .ref (Q 8 0)), (2, .ref q), (3, .int (nI a)), (4, .int (nI i))] → W p l e room_1 s m #[Value.ref b] below meth c H locs (0 + 150 + 300 + 1575 + 1 + 74 + 1) (0 + 2122 + 4244 + 22281 + 4 + 1057 + 64) (lw_Z below #[Value.ref b] s) (F0 m 38 ls []) := by
  intro fuel
  induction fuel with
  | zero => intro i a k n H locs ls Z u g f h1 h2; exact absurd h2 (by omega)
  | succ fuel ih =>
    intro i a k n H locs ls Z u g f h1 h2 ha hw P hG hH hl
    refine lv_iload S.1 S.2.1 dL_law_38 (lv_at hl 4 rfl) ?_
    refine lv_bipush (v := 24) S.1 S.2.1 dL_law_40 (by decide) ?_
    refine lv_icmp_ge (tgt := 326) S.1 S.2.1 dL_law_42 (by decide) (fun c1 => ?_) (fun c1 => ?_)
    · exact law_tail hL hr hlocks S hXs hbl hbA hX (by omega) hw P hG hH (lv_sub hl [0, 1, 2, 3, 4] rfl)
    · have hi : i < 24 := by
        apply Decidable.byContradiction
        intro hn
        exact c1 ((nI_leI (a := 24) (b := i) (by omega) (by omega)).mpr (by omega))
      obtain ⟨hv, hn2, h10, hs, he⟩ := id hG
      refine lv_aload_n S.1 S.2.1 dL_law_45 rfl (lv_at hl 0 rfl) ?_
      refine lv_iload S.1 S.2.1 dL_law_46 (lv_at hl 4 rfl) ?_
      refine ly_sS (As := [.ref b, .int (nI i)]) (rest := []) S hw hXs hbl hbA hl.1 (c_L_drawn l D cI cC cL b L i xs (by omega) (by omega)) (va_cwS 2 S.2.2.2.2 gL_law_L_drawn rfl rfl rfl (by decide +kernel) ⟨Nat.le_of_ble_eq_true rfl, Nat.le_of_ble_eq_true rfl⟩) rfl (Nat.le_of_ble_eq_true rfl) dL_law_48 rfl ⟨Nat.le_of_ble_eq_true rfl, Nat.le_of_ble_eq_true rfl⟩ (fun H locs x hw => ?_)
      refine lv_istore (lv' := [(5, .int x), (0, .ref b), (1, .ref (Q 8 0)), (2, .ref q), (3, .int (nI a)), (4, .int (nI i))]) S.1 S.2.1 dL_law_51 hl (by decide) rfl (fun ls hl => ?_)
      refine lv_iload S.1 S.2.1 dL_law_53 (lv_at hl 0 rfl) ?_
      refine lv_bipush (v := 9) S.1 S.2.1 dL_law_55 (by decide) ?_
      refine ly_sI (As := [.int x, .int 9]) (rest := []) (wc := []) S hw hl.1 (c_L_part l D cI cC cL x 9 (by decide) (by decide)) (va_cwS 2 S.2.2.2.2 gL_law_L_part rfl rfl rfl (by decide +kernel) ⟨Nat.le_of_ble_eq_true rfl, Nat.le_of_ble_eq_true rfl⟩) rfl (Nat.le_of_ble_eq_true rfl) dL_law_57 rfl ⟨Nat.le_of_ble_eq_true rfl, Nat.le_of_ble_eq_true rfl⟩ (fun H locs x hx hw => ?_)
      subst hx
      have hw : y_W D cI cC cL (fun q : Nat => s.heap.size ≤ q) s H locs (cWd cI cC cL Q Z ++ [(q, .inl (D.1 9, 64, .inr (.inl f)))]) := hw
      refine lv_istore (lv' := [(6, .int (nI (qPart x 9))), (5, .int x), (0, .ref b), (1, .ref (Q 8 0)), (2, .ref q), (3, .int (nI a)), (4, .int (nI i))]) S.1 S.2.1 dL_law_60 hl (by decide) rfl (fun ls hl => ?_)
      refine lv_aload_n S.1 S.2.1 dL_law_62 rfl (lv_at hl 4 rfl) ?_
      refine lv_iload_n S.1 S.2.1 dL_law_63 rfl (lv_at hl 5 rfl) ?_
      refine lv_aload_n S.1 S.2.1 dL_law_64 rfl (lv_at hl 3 rfl) ?_
      refine ly_sL (As := [.ref (Q 8 0)]) (rest := [.int (nI a), .ref q]) S hw hl.1 (c_L_seen l D cI cC cL Q _ _ _ _ _ P _ _ hv h10 (by omega)) (va_cwS 1 S.2.2.2.2 gL_law_L_seen rfl rfl rfl (by decide +kernel) ⟨Nat.le_of_ble_eq_true rfl, Nat.le_of_ble_eq_true rfl⟩) rfl (Nat.le_of_ble_eq_true rfl) dL_law_65 rfl ⟨Nat.le_of_ble_eq_true rfl, Nat.le_of_ble_eq_true rfl⟩ (fun H locs x hx hw => ?_)
      subst hx
      have hw : y_W D cI cC cL (fun q : Nat => s.heap.size ≤ q) s _ _ (cWd cI cC cL Q _ ++ _) := hw
      refine y_last S hw 75 (k := a) (n := 64) (f := f) (x := qSeen u) rfl (by omega) (by decide) dL_law_68 (ws' := (cWd cI cC cL Q Z ++ [(q, .inl (D.1 9, 64, .inr (.inl (vp_updL f a (qSeen u)))))])) rfl (fun H locs hw => ?_)
      refine lv_aload_n S.1 S.2.1 dL_law_69 rfl (lv_at hl 3 rfl) ?_
      refine lv_bipush (v := 7) S.1 S.2.1 dL_law_70 (by decide) ?_
      refine q_count  (rest := []) S hw P hl.1 (cwV 1 S.2.2.2.2 gL_law_X5_count rfl rfl rfl (by decide +kernel) ⟨Nat.le_of_ble_eq_true rfl, Nat.le_of_ble_eq_true rfl⟩) (Nat.le_of_ble_eq_true rfl) dL_law_72 ⟨Nat.le_of_ble_eq_true rfl, Nat.le_of_ble_eq_true rfl⟩ (fun H locs hw => ?_)
      refine y_top (y := (nI k)) (jCount_7 _) ?_
      refine lv_istore (lv' := [(7, .int (nI k)), (6, .int (nI (qPart x 9))), (5, .int x), (0, .ref b), (1, .ref (Q 8 0)), (2, .ref q), (3, .int (nI a)), (4, .int (nI i))]) S.1 S.2.1 dL_law_75 hl (by decide) rfl (fun ls hl => ?_)
      refine law_act hL hr hlocks S hXs hbl hbA hX (a := a) (k := k) (n := n) (kd := qPart x 9) (i := i) (x := x) (by omega) hw P hG (lv_sub hl [0, 1, 2, 7, 6, 5, 4, 3] rfl) (fun H locs Z1 u1 k1 g1 d hw P1 hA => ?_)
      refine lv_istore (lv' := [(8, .int d), (7, .int (nI k)), (6, .int (nI (qPart x 9))), (5, .int x), (0, .ref b), (1, .ref (Q 8 0)), (2, .ref q), (3, .int (nI a)), (4, .int (nI i))]) S.1 S.2.1 dL_law_276 hl (by decide) rfl (fun ls hl => ?_)
      refine lv_iload S.1 S.2.1 dL_law_278 (lv_at hl 0 rfl) ?_
      refine lv_if_ge (tgt := 307) S.1 S.2.1 dL_law_280 (by decide) (fun c2 => ?_) (fun c2 => ?_)
      · rcases hA with ⟨d0, rfl, rfl, n1, hG1⟩ | ⟨d0, -, -, -⟩
        · skip
          refine lv_iload_n S.1 S.2.1 dL_law_307 rfl (lv_at hl 7 rfl) ?_
          refine lv_iload S.1 S.2.1 dL_law_308 (lv_at hl 0 rfl) ?_
          refine lv_if_ge (tgt := 317) S.1 S.2.1 dL_law_310 (by decide) (fun _ => ?_) (fun c => absurd c2 c)
          refine lv_iconst (v := 1) S.1 S.2.1 dL_law_317 (by decide) ?_
          refine lv_iadd S.1 S.2.1 dL_law_318 ?_
          refine y_top (y := nI (a + 1)) (nI_1 _) ?_
          refine lv_istore_n (lv' := [(3, .int (nI (a + 1))), (8, .int d), (7, .int (nI k)), (6, .int (nI (qPart x 9))), (5, .int x), (0, .ref b), (1, .ref (Q 8 0)), (2, .ref q), (4, .int (nI i))]) S.1 S.2.1 dL_law_319 rfl hl (by decide) rfl (fun ls hl => ?_)
          refine lv_iinc (v := (nI (i + 1))) (lv' := [(4, .int (nI (i + 1))), (3, .int (nI (a + 1))), (8, .int d), (7, .int (nI k)), (6, .int (nI (qPart x 9))), (5, .int x), (0, .ref b), (1, .ref (Q 8 0)), (2, .ref q)]) S.1 S.2.1 dL_law_320 hl (k := 8) rfl (nI_1 _) (by decide) rfl (fun ls hl => ?_)
          refine lv_goto (tgt := 38) S.1 S.2.1 dL_law_323 (by decide) ?_
          exact ih (i + 1) (a + 1) _ n1 H locs ls _ _ _ _ (by omega) (by omega) (by omega) hw P1 hG1 (HI_push (HI_note hH) updL_s (hG.J (by omega))) (lv_sub hl [6, 7, 8, 1, 0] rfl)
        · exact absurd d0 (Int32.not_lt.mpr c2)
      · rcases hA with ⟨d0, -, -, -⟩ | ⟨d0, rfl, rfl, rfl⟩
        · exact absurd (Int32.not_le.mp c2) d0
        · have P := P1
          refine lv_aload_n S.1 S.2.1 dL_law_283 rfl (lv_at hl 5 rfl) ?_
          refine lv_bipush (v := 7) S.1 S.2.1 dL_law_284 (by decide) ?_
          refine q_count  (rest := []) S hw P hl.1 (cwV 1 S.2.2.2.2 gL_law_X5_count rfl rfl rfl (by decide +kernel) ⟨Nat.le_of_ble_eq_true rfl, Nat.le_of_ble_eq_true rfl⟩) (Nat.le_of_ble_eq_true rfl) dL_law_286 ⟨Nat.le_of_ble_eq_true rfl, Nat.le_of_ble_eq_true rfl⟩ (fun H locs hw => ?_)
          refine y_top (y := (nI k1)) (jCount_7 _) ?_
          refine lv_iload S.1 S.2.1 dL_law_289 (lv_at hl 1 rfl) ?_
          refine lv_icmp_ne (tgt := 305) S.1 S.2.1 dL_law_291 (by decide) (fun c => absurd rfl c) (fun _ => ?_)
          refine lv_aload_n S.1 S.2.1 dL_law_294 rfl (lv_at hl 5 rfl) ?_
          refine ly_sL (As := [.ref (Q 8 0)]) (rest := []) S hw hl.1 (c_L_seen l D cI cC cL Q _ _ _ _ _ P _ _ hv h10 (by omega)) (va_cwS 1 S.2.2.2.2 gL_law_L_seen rfl rfl rfl (by decide +kernel) ⟨Nat.le_of_ble_eq_true rfl, Nat.le_of_ble_eq_true rfl⟩) rfl (Nat.le_of_ble_eq_true rfl) dL_law_295 rfl ⟨Nat.le_of_ble_eq_true rfl, Nat.le_of_ble_eq_true rfl⟩ (fun H locs x hx hw => ?_)
          subst hx
          have hw : y_W D cI cC cL (fun q : Nat => s.heap.size ≤ q) s _ _ (cWd cI cC cL Q _ ++ _) := hw
          refine lv_aload_n S.1 S.2.1 dL_law_298 rfl (lv_at hl 6 rfl) ?_
          refine lv_iload_n S.1 S.2.1 dL_law_299 rfl (lv_at hl 7 rfl) ?_
          refine y_lald S hw 75 (k := a) (n := 64) (f := vp_updL f a (qSeen u1)) rfl (by omega) (by decide) dL_law_300 ?_
          refine y_topL (y := qSeen u1) updL_s ?_
          refine W.lcmp S.1 S.2.1 dL_law_301 ?_
          refine y_top (y := 0) (lg_cmp_self _) ?_
          refine lv_if_eq (tgt := 307) S.1 S.2.1 dL_law_302 (by decide) (fun _ => ?_) (fun c => absurd (by decide) c) 
          refine lv_iload_n S.1 S.2.1 dL_law_307 rfl (lv_at hl 7 rfl) ?_
          refine lv_iload S.1 S.2.1 dL_law_308 (lv_at hl 0 rfl) ?_
          refine lv_if_ge (tgt := 317) S.1 S.2.1 dL_law_310 (by decide) (fun c => absurd c c2) (fun _ => ?_)
          refine lv_iconst (v := 0) S.1 S.2.1 dL_law_313 (by decide) ?_
          refine lv_goto (tgt := 318) S.1 S.2.1 dL_law_314 (by decide) ?_
          refine lv_iadd S.1 S.2.1 dL_law_318 ?_
          refine y_top (y := nI a) (nI_add a 0) ?_
          refine lv_istore_n (lv' := [(3, .int (nI a)), (8, .int d), (7, .int (nI k1)), (6, .int (nI (qPart x 9))), (5, .int x), (0, .ref b), (1, .ref (Q 8 0)), (2, .ref q), (4, .int (nI i))]) S.1 S.2.1 dL_law_319 rfl hl (by decide) rfl (fun ls hl => ?_)
          refine lv_iinc (v := (nI (i + 1))) (lv' := [(4, .int (nI (i + 1))), (3, .int (nI a)), (8, .int d), (7, .int (nI k1)), (6, .int (nI (qPart x 9))), (5, .int x), (0, .ref b), (1, .ref (Q 8 0)), (2, .ref q)]) S.1 S.2.1 dL_law_320 hl (k := 8) rfl (nI_1 _) (by decide) rfl (fun ls hl => ?_)
          refine lv_goto (tgt := 38) S.1 S.2.1 dL_law_323 (by decide) ?_
          exact ih (i + 1) a k1 n H locs ls _ _ _ _ (by omega) (by omega) (by omega) hw P hG (HI_note hH) (lv_sub hl [6, 7, 8, 1, 0] rfl)
set_option maxHeartbeats 1000000 in
set_option maxRecDepth 100000 in
theorem whole_start {p : Program} {e : Env} {s : State} {m : MethodId} {below : List Frame} {meth : Method} {c : Code} (l : Launch) (hflags : l.flags = flags0) {b L : Nat} {xs : Nat → Int32} (hL : L ≤ 260) (C0 : lw_At p s m meth c b L xs) : W p l e room_1 s m #[Value.ref b] below meth c s.heap [] 0 0 (lw_Z below #[Value.ref b] s) (entryFrame m ([Value.ref b] : List Value).toArray 9) := by
  obtain ⟨D, cI, cC, cL, hw, hX⟩ := law_in C0
  obtain ⟨hx, hb, hr, hml, hown, hts, hXs, hbl, hlocks, hgv⟩ := C0
  have hbA : ¬ (fun q : Nat => s.heap.size ≤ q) b := Nat.not_le.mpr hbl
  have S : CallFix p m c cL_law 9 s #[Value.ref b] wsL_law RL := ⟨hx, hb, hml, hown, fun w h => hts w (wsL_law_in w h)⟩
  have hl := lv_entry ([.ref b]) (n := 9) (Nat.le_of_ble_eq_true rfl)
  rw [lg_entry_eq]
  generalize (lg_sl ([.ref b]) ++ List.replicate (9 - (lg_sl ([.ref b])).length) Slot.unset).toArray = ls at hl ⊢
  have hl : lv_has ls 9 [(0, .ref b)] := hl
  have hw : y_W D cI cC cL (fun q : Nat => s.heap.size ≤ q) s s.heap [] (([] : va_W) ++ []) := hw
  refine ly_sN (As := []) (rest := []) S hw hX hl.1 (c_L_lines l D cI cC cL) (va_cwS 0 S.2.2.2.2 gL_law_L_lines rfl rfl rfl (by decide +kernel) ⟨Nat.le_of_ble_eq_true rfl, Nat.le_of_ble_eq_true rfl⟩) rfl (Nat.le_of_ble_eq_true rfl) dL_law_0 rfl ⟨Nat.le_of_ble_eq_true rfl, Nat.le_of_ble_eq_true rfl⟩ (fun H locs x hx hw => ?_)
  subst hx
  have hw : y_W D cI cC cL (fun q : Nat => s.heap.size ≤ q) s H locs (([] : va_W) ++ []) := hw
  refine lv_if_eq (tgt := 18) S.1 S.2.1 dL_law_3 (by decide) (fun c => absurd c (by decide)) (fun _ => ?_) 
  refine ly_sN (As := []) (rest := []) S hw hX hl.1 (c_L_references l D cI cC cL) (va_cwS 0 S.2.2.2.2 gL_law_L_references rfl rfl rfl (by decide +kernel) ⟨Nat.le_of_ble_eq_true rfl, Nat.le_of_ble_eq_true rfl⟩) rfl (Nat.le_of_ble_eq_true rfl) dL_law_6 rfl ⟨Nat.le_of_ble_eq_true rfl, Nat.le_of_ble_eq_true rfl⟩ (fun H locs x hx hw => ?_)
  subst hx
  have hw : y_W D cI cC cL (fun q : Nat => s.heap.size ≤ q) s H locs (([] : va_W) ++ []) := hw
  refine lv_if_eq (tgt := 18) S.1 S.2.1 dL_law_9 (by decide) (fun c => absurd c (by decide)) (fun _ => ?_) 
  refine ly_sN (As := []) (rest := []) S hw hX hl.1 (c_L_texts l D cI cC cL) (va_cwS 0 S.2.2.2.2 gL_law_L_texts rfl rfl rfl (by decide +kernel) ⟨Nat.le_of_ble_eq_true rfl, Nat.le_of_ble_eq_true rfl⟩) rfl (Nat.le_of_ble_eq_true rfl) dL_law_12 rfl ⟨Nat.le_of_ble_eq_true rfl, Nat.le_of_ble_eq_true rfl⟩ (fun H locs x hx hw => ?_)
  subst hx
  have hw : y_W D cI cC cL (fun q : Nat => s.heap.size ≤ q) s H locs (([] : va_W) ++ []) := hw
  refine lv_if_ne (tgt := 20) S.1 S.2.1 dL_law_15 (by decide) (fun _ => ?_) (fun c => absurd c (by decide)) 
  refine y_new (ci := 5) (fs := [.null, .null, .null, .null]) S hw (C := RX5) (T := TX5) (N := 4) i_L_law_X5 tyX5_ok w_L_law_new w_L_law_newi w_L_law_newc rfl (fun j hj => by rcases (show j = 0 ∨ j = 1 ∨ j = 2 ∨ j = 3 by omega) with rfl | rfl | rfl | rfl <;> rfl) (Nat.le_of_ble_eq_true rfl) (Nat.le_of_ble_eq_true rfl) dL_law_20 (fun q1 H hwN => ?_)
  refine lv_dup S.1 S.2.1 dL_law_23 rfl ?_
  refine y_callNI (rest := [.ref q1]) S hwN hX hl.1 (c_X5_init l D cI cC cL q1) (cwI 0 S.2.2.2.2 gL_law_X5_init rfl rfl rfl (S.2.2.2.2 _ w_L_law_newc) (S.2.2.2.2 _ w_L_law_newl79) (S.2.2.2.2 _ w_L_law_newm) rfl (by decide +kernel) ⟨Nat.le_of_ble_eq_true rfl, Nat.le_of_ble_eq_true rfl⟩) (Nat.le_of_ble_eq_true rfl) dL_law_24 ⟨Nat.le_of_ble_eq_true rfl, Nat.le_of_ble_eq_true rfl⟩ (fun H locs Q1 eQ hw => ?_)
  subst eQ
  refine lv_astore_n (lv' := [(1, .ref (Q1 8 0)), (0, .ref b)]) S.1 S.2.1 dL_law_27 rfl hl (by decide) rfl (fun ls hl => ?_)
  have hw : y_W D cI cC cL (fun q : Nat => s.heap.size ≤ q) s H locs (cWd cI cC cL Q1 jZ0) := hw
  refine lv_bipush (v := 64) S.1 S.2.1 dL_law_28 (by decide) ?_
  refine y_newJ (n := 64) (N := 64) S hw w_L_law_arl (by decide) (by decide) (by decide) (Nat.le_of_ble_eq_true rfl) (Nat.le_of_ble_eq_true rfl) dL_law_30 (fun q H hw => ?_)
  refine lv_astore_n (lv' := [(2, .ref q), (1, .ref (Q1 8 0)), (0, .ref b)]) S.1 S.2.1 dL_law_32 rfl hl (by decide) rfl (fun ls hl => ?_)
  refine lv_iconst (v := 0) S.1 S.2.1 dL_law_33 (by decide) ?_
  refine lv_istore_n (lv' := [(3, .int 0), (2, .ref q), (1, .ref (Q1 8 0)), (0, .ref b)]) S.1 S.2.1 dL_law_34 rfl hl (by decide) rfl (fun ls hl => ?_)
  refine lv_iconst (v := 0) S.1 S.2.1 dL_law_35 (by decide) ?_
  refine lv_istore (lv' := [(4, .int 0), (3, .int 0), (2, .ref q), (1, .ref (Q1 8 0)), (0, .ref b)]) S.1 S.2.1 dL_law_36 hl (by decide) rfl (fun ls hl => ?_)
  exact law_loop hL hr hlocks S hXs hbl hbA hX 25 0 0 0 4 H locs ls jZ0 jLn0 (fun _ => jLn0) (fun _ => 0) (by decide) (by decide) (by decide) hw (PW_0 _) GI_0 HI_0 (lv_sub hl [4, 3, 2, 1, 0] rfl)
