/-! the law: each of the calls, from its place in the law on to the end of the switch -/
theorem op_empR {Z : Nat → U} {u : U} {n h r fi k L : Nat} (H : RRp Z u n h r fi k L) : (jEA (Z 0 10 0) n 401 0 (stMix (Z 0) (Z 5))).2 = mEmpR (u 0) n ∧ RR (va_up Z 5 (jEA (Z 0 10 0) n 401 0 (stMix (Z 0) (Z 5))).1) (va_up u 1 (mEmp n 400 (mTry (u 0) n 0) 0).1) := ⟨by unfold mEmpR; exact op_emp H rfl rfl, RR_try H⟩
theorem op_safeR {Z : Nat → U} {u : U} {n h r fi k L : Nat} (H : RRp Z u n h r fi k L) : nI (jSf (Z 0 10 0) n 8193 8192 0 (stMix (Z 0) (Z 5))).2 = nI (mSf (u 0) n 10001 0 10000 (u 1)).1 ∧ RR (va_up Z 5 (jSf (Z 0 10 0) n 8193 8192 0 (stMix (Z 0) (Z 5))).1) (va_up u 1 (mSf (u 0) n 10001 0 10000 (u 1)).2) := ⟨op_safe H rfl rfl rfl, RR_try H⟩
section YK
variable {p : Program} {l : Launch} {e : Env} {s : State} {m : MethodId} {below : List Frame} {meth : Method} {c : Code} {H : Heap} {locs : List Loc} {cells slots : Nat} {QQ : State → Prop}
variable {ls : Array Slot} {D : va_G} {cI cC cL : ClassId} {A : Nat → Prop} {b L i : Nat} {xs : Nat → Int32} {Q : Nat → Nat → Nat} {q : Nat → Nat} {Z : Nat → U} {u : U}
theorem law_begin (S : CallFix p m c cL_law 4 s #[Value.ref b] wsL_law RL) (hX : va_X b L xs s s.heap) (hbl : b < s.heap.size) (hbA : ¬ A b) (hXs : y_X A s) (hL : L < 2 ^ 31) (hcs : cells ≤ room_1.cells ∧ slots ≤ room_1.slots) (hi : i + 4 ≤ L) (hw : y_W D cI cC cL A s H locs (cWd cI cC cL Q Z ++ cMd cI q u)) (hR : RR Z u) (hl : lv_has ls 4 [(0, .ref b), (1, .ref (Q 8 0)), (2, .ref (q 0)), (3, .int (nI i))])
    (next : ∀ (H : Heap) (locs : List Loc) (Z : Nat → U) (u : U), y_W D cI cC cL A s H locs (cWd cI cC cL Q Z ++ cMd cI q u) → RR Z u → W p l e room_1 s m #[Value.ref b] below meth c H locs cells slots QQ (F0 m 635 ls [])) : W p l e room_1 s m #[Value.ref b] below meth c H locs cells slots QQ (F0 m 132 ls []) := by
  obtain ⟨n, h, r, fi, k, L2, R⟩ := hR
  obtain ⟨f4, k4, ef, ek, em, -⟩ := R.hi
  obtain ⟨n2, n10, nv, nf⟩ := LRel_n R.ln
  obtain ⟨t60, -, tv, tm⟩ := R.tx
  have hv := LRel_lOk (B := 999) R.ln R.hh
  have hmo := LRel_mOk (B := 999) R.ln R.hh
  have eh := (LRel_h R.ln).1
  have hh := R.hh
  have hop := op_begin (x := (xs (i + 1))) R
  refine lv_aload_n S.1 S.2.1 dL_law_132 rfl (lv_at hl 1 rfl) ?_
  refine ly_arg (j := 1) S hX hbl hbA hw (lv_at hl 0 rfl) (lv_at hl 3 rfl) (by omega) hL (by decide) dL_law_133 dL_law_134 dL_law_135 dL_law_136 dL_law_137 ?_
  refine ly_cl (As := [.int (xs (i + 1))]) (rest := []) (Z' := (jBegU Z (xs (i + 1)) fi k)) S hw hl.1 (c_X5_begin l D cI cC cL Q Z (xs (i + 1)) fi k ef f4 ek k4) rfl (cwV 1 S.2.2.2.2 gL_law_X5_begin rfl rfl rfl (by decide +kernel) ⟨Nat.le_of_ble_eq_true rfl, Nat.le_of_ble_eq_true rfl⟩) rfl (Nat.le_of_ble_eq_true rfl) dL_law_138 rfl hcs (fun H locs r1 er1 hw => ?_)
  refine lv_aload_n S.1 S.2.1 dL_law_141 rfl (lv_at hl 2 rfl) ?_
  refine ly_arg (j := 1) S hX hbl hbA hw (lv_at hl 0 rfl) (lv_at hl 3 rfl) (by omega) hL (by decide) dL_law_142 dL_law_143 dL_law_144 dL_law_145 dL_law_146 ?_
  refine ly_md (As := [.int (xs (i + 1))]) (rest := [.int r1]) (u' := (mBeginU u (xs (i + 1)) n k)) S hw hl.1 (c_X6_begin l D cI cC cL q u (xs (i + 1)) n nf n10 k em k4) rfl (cwV 1 S.2.2.2.2 gL_law_X6_begin rfl rfl rfl (by decide +kernel) ⟨Nat.le_of_ble_eq_true rfl, Nat.le_of_ble_eq_true rfl⟩) rfl (Nat.le_of_ble_eq_true rfl) dL_law_147 rfl hcs (fun H locs r2 er2 hw => ?_)
  refine lv_icmp_eq (tgt := 635) S.1 S.2.1 dL_law_150 (by decide) (fun _ => ?_) (fun c1 => ?_)
  · exact next _ _ _ _ hw hop.2
  · exact absurd (er1.trans (hop.1.trans er2.symm)) c1
theorem law_stage (S : CallFix p m c cL_law 4 s #[Value.ref b] wsL_law RL) (hX : va_X b L xs s s.heap) (hbl : b < s.heap.size) (hbA : ¬ A b) (hXs : y_X A s) (hL : L < 2 ^ 31) (hcs : cells ≤ room_1.cells ∧ slots ≤ room_1.slots) (hi : i + 4 ≤ L) (hw : y_W D cI cC cL A s H locs (cWd cI cC cL Q Z ++ cMd cI q u)) (hR : RR Z u) (hl : lv_has ls 4 [(0, .ref b), (1, .ref (Q 8 0)), (2, .ref (q 0)), (3, .int (nI i))])
    (next : ∀ (H : Heap) (locs : List Loc) (Z : Nat → U) (u : U), y_W D cI cC cL A s H locs (cWd cI cC cL Q Z ++ cMd cI q u) → RR Z u → W p l e room_1 s m #[Value.ref b] below meth c H locs cells slots QQ (F0 m 635 ls [])) : W p l e room_1 s m #[Value.ref b] below meth c H locs cells slots QQ (F0 m 155 ls []) := by
  obtain ⟨n, h, r, fi, k, L2, R⟩ := hR
  obtain ⟨f4, k4, ef, ek, em, -⟩ := R.hi
  obtain ⟨n2, n10, nv, nf⟩ := LRel_n R.ln
  obtain ⟨t60, -, tv, tm⟩ := R.tx
  have hv := LRel_lOk (B := 999) R.ln R.hh
  have hmo := LRel_mOk (B := 999) R.ln R.hh
  have eh := (LRel_h R.ln).1
  have hh := R.hh
  have hop := op_stage (x := (xs (i + 1))) (y := (xs (i + 2))) (z := (xs (i + 3))) R
  refine lv_aload_n S.1 S.2.1 dL_law_155 rfl (lv_at hl 1 rfl) ?_
  refine ly_arg (j := 1) S hX hbl hbA hw (lv_at hl 0 rfl) (lv_at hl 3 rfl) (by omega) hL (by decide) dL_law_156 dL_law_157 dL_law_158 dL_law_159 dL_law_160 ?_
  refine ly_arg (j := 2) S hX hbl hbA hw (lv_at hl 0 rfl) (lv_at hl 3 rfl) (by omega) hL (by decide) dL_law_161 dL_law_162 dL_law_163 dL_law_164 dL_law_165 ?_
  refine ly_arg (j := 3) S hX hbl hbA hw (lv_at hl 0 rfl) (lv_at hl 3 rfl) (by omega) hL (by decide) dL_law_166 dL_law_167 dL_law_168 dL_law_169 dL_law_170 ?_
  refine ly_cl (As := [.int (xs (i + 1)), .int (xs (i + 2)), .int (xs (i + 3))]) (rest := []) (Z' := (jStgU Z (xs (i + 1)) (xs (i + 2)) (xs (i + 3)) fi k)) S hw hl.1 (c_X5_stage l D cI cC cL Q Z (xs (i + 1)) (xs (i + 2)) (xs (i + 3)) n nv n10 fi k ef f4 ek k4) rfl (cwV 3 S.2.2.2.2 gL_law_X5_stage rfl rfl rfl (by decide +kernel) ⟨Nat.le_of_ble_eq_true rfl, Nat.le_of_ble_eq_true rfl⟩) rfl (Nat.le_of_ble_eq_true rfl) dL_law_171 rfl hcs (fun H locs r1 er1 hw => ?_)
  refine lv_aload_n S.1 S.2.1 dL_law_174 rfl (lv_at hl 2 rfl) ?_
  refine ly_arg (j := 1) S hX hbl hbA hw (lv_at hl 0 rfl) (lv_at hl 3 rfl) (by omega) hL (by decide) dL_law_175 dL_law_176 dL_law_177 dL_law_178 dL_law_179 ?_
  refine ly_arg (j := 2) S hX hbl hbA hw (lv_at hl 0 rfl) (lv_at hl 3 rfl) (by omega) hL (by decide) dL_law_180 dL_law_181 dL_law_182 dL_law_183 dL_law_184 ?_
  refine ly_arg (j := 3) S hX hbl hbA hw (lv_at hl 0 rfl) (lv_at hl 3 rfl) (by omega) hL (by decide) dL_law_185 dL_law_186 dL_law_187 dL_law_188 dL_law_189 ?_
  refine ly_md (As := [.int (xs (i + 1)), .int (xs (i + 2)), .int (xs (i + 3))]) (rest := [.int r1]) (u' := (mStageU u (xs (i + 1)) (xs (i + 2)) (xs (i + 3)) k)) S hw hl.1 (c_X6_stage l D cI cC cL q u (xs (i + 1)) (xs (i + 2)) (xs (i + 3)) n nf n10 (by omega) k em k4) rfl (cwV 3 S.2.2.2.2 gL_law_X6_stage rfl rfl rfl (by decide +kernel) ⟨Nat.le_of_ble_eq_true rfl, Nat.le_of_ble_eq_true rfl⟩) rfl (Nat.le_of_ble_eq_true rfl) dL_law_190 rfl hcs (fun H locs r2 er2 hw => ?_)
  refine lv_icmp_eq (tgt := 635) S.1 S.2.1 dL_law_193 (by decide) (fun _ => ?_) (fun c1 => ?_)
  · exact next _ _ _ _ hw hop.2
  · exact absurd (er1.trans (hop.1.trans er2.symm)) c1
theorem law_set (S : CallFix p m c cL_law 4 s #[Value.ref b] wsL_law RL) (hX : va_X b L xs s s.heap) (hbl : b < s.heap.size) (hbA : ¬ A b) (hXs : y_X A s) (hL : L < 2 ^ 31) (hcs : cells ≤ room_1.cells ∧ slots ≤ room_1.slots) (hi : i + 4 ≤ L) (hw : y_W D cI cC cL A s H locs (cWd cI cC cL Q Z ++ cMd cI q u)) (hR : RR Z u) (hl : lv_has ls 4 [(0, .ref b), (1, .ref (Q 8 0)), (2, .ref (q 0)), (3, .int (nI i))])
    (next : ∀ (H : Heap) (locs : List Loc) (Z : Nat → U) (u : U), y_W D cI cC cL A s H locs (cWd cI cC cL Q Z ++ cMd cI q u) → RR Z u → W p l e room_1 s m #[Value.ref b] below meth c H locs cells slots QQ (F0 m 635 ls [])) : W p l e room_1 s m #[Value.ref b] below meth c H locs cells slots QQ (F0 m 198 ls []) := by
  obtain ⟨n, h, r, fi, k, L2, R⟩ := hR
  obtain ⟨f4, k4, ef, ek, em, -⟩ := R.hi
  obtain ⟨n2, n10, nv, nf⟩ := LRel_n R.ln
  obtain ⟨t60, -, tv, tm⟩ := R.tx
  have hv := LRel_lOk (B := 999) R.ln R.hh
  have hmo := LRel_mOk (B := 999) R.ln R.hh
  have eh := (LRel_h R.ln).1
  have hh := R.hh
  have hop := op_set (x := (xs (i + 1))) (y := (xs (i + 2))) R
  refine lv_aload_n S.1 S.2.1 dL_law_198 rfl (lv_at hl 1 rfl) ?_
  refine ly_arg (j := 1) S hX hbl hbA hw (lv_at hl 0 rfl) (lv_at hl 3 rfl) (by omega) hL (by decide) dL_law_199 dL_law_200 dL_law_201 dL_law_202 dL_law_203 ?_
  refine ly_arg (j := 2) S hX hbl hbA hw (lv_at hl 0 rfl) (lv_at hl 3 rfl) (by omega) hL (by decide) dL_law_204 dL_law_205 dL_law_206 dL_law_207 dL_law_208 ?_
  refine ly_clX (As := [.int (xs (i + 1)), .int (xs (i + 2))]) (rest := []) (Z' := (jSetU Z (xs (i + 1)) (xs (i + 2)) fi k)) S hw hXs hl.1 (c_X5_set l D cI cC cL Q Z (xs (i + 1)) (xs (i + 2)) fi k ef f4 ek k4) rfl (cwV 2 S.2.2.2.2 gL_law_X5_set rfl rfl rfl (by decide +kernel) ⟨Nat.le_of_ble_eq_true rfl, Nat.le_of_ble_eq_true rfl⟩) rfl (Nat.le_of_ble_eq_true rfl) dL_law_209 rfl hcs (fun H locs r1 er1 hw => ?_)
  refine lv_aload_n S.1 S.2.1 dL_law_212 rfl (lv_at hl 2 rfl) ?_
  refine ly_arg (j := 1) S hX hbl hbA hw (lv_at hl 0 rfl) (lv_at hl 3 rfl) (by omega) hL (by decide) dL_law_213 dL_law_214 dL_law_215 dL_law_216 dL_law_217 ?_
  refine ly_arg (j := 2) S hX hbl hbA hw (lv_at hl 0 rfl) (lv_at hl 3 rfl) (by omega) hL (by decide) dL_law_218 dL_law_219 dL_law_220 dL_law_221 dL_law_222 ?_
  refine ly_md (As := [.int (xs (i + 1)), .int (xs (i + 2))]) (rest := [.int r1]) (u' := (mSetU u (xs (i + 1)) (xs (i + 2)) k)) S hw hl.1 (c_X6_set l D cI cC cL q u (xs (i + 1)) (xs (i + 2)) k em k4) rfl (cwV 2 S.2.2.2.2 gL_law_X6_set rfl rfl rfl (by decide +kernel) ⟨Nat.le_of_ble_eq_true rfl, Nat.le_of_ble_eq_true rfl⟩) rfl (Nat.le_of_ble_eq_true rfl) dL_law_223 rfl hcs (fun H locs r2 er2 hw => ?_)
  refine lv_icmp_eq (tgt := 635) S.1 S.2.1 dL_law_226 (by decide) (fun _ => ?_) (fun c1 => ?_)
  · exact next _ _ _ _ hw hop.2
  · exact absurd (er1.trans (hop.1.trans er2.symm)) c1
theorem law_give (S : CallFix p m c cL_law 4 s #[Value.ref b] wsL_law RL) (hX : va_X b L xs s s.heap) (hbl : b < s.heap.size) (hbA : ¬ A b) (hXs : y_X A s) (hL : L < 2 ^ 31) (hcs : cells ≤ room_1.cells ∧ slots ≤ room_1.slots) (hi : i + 4 ≤ L) (hw : y_W D cI cC cL A s H locs (cWd cI cC cL Q Z ++ cMd cI q u)) (hR : RR Z u) (hl : lv_has ls 4 [(0, .ref b), (1, .ref (Q 8 0)), (2, .ref (q 0)), (3, .int (nI i))])
    (next : ∀ (H : Heap) (locs : List Loc) (Z : Nat → U) (u : U), y_W D cI cC cL A s H locs (cWd cI cC cL Q Z ++ cMd cI q u) → RR Z u → W p l e room_1 s m #[Value.ref b] below meth c H locs cells slots QQ (F0 m 635 ls [])) : W p l e room_1 s m #[Value.ref b] below meth c H locs cells slots QQ (F0 m 231 ls []) := by
  obtain ⟨n, h, r, fi, k, L2, R⟩ := hR
  obtain ⟨f4, k4, ef, ek, em, -⟩ := R.hi
  obtain ⟨n2, n10, nv, nf⟩ := LRel_n R.ln
  obtain ⟨t60, -, tv, tm⟩ := R.tx
  have hv := LRel_lOk (B := 999) R.ln R.hh
  have hmo := LRel_mOk (B := 999) R.ln R.hh
  have eh := (LRel_h R.ln).1
  have hh := R.hh
  have hop := op_give (x := (xs (i + 1))) R
  refine lv_aload_n S.1 S.2.1 dL_law_231 rfl (lv_at hl 1 rfl) ?_
  refine ly_arg (j := 1) S hX hbl hbA hw (lv_at hl 0 rfl) (lv_at hl 3 rfl) (by omega) hL (by decide) dL_law_232 dL_law_233 dL_law_234 dL_law_235 dL_law_236 ?_
  refine ly_cl (As := [.int (xs (i + 1))]) (rest := []) (Z' := (jGivU Z (xs (i + 1)) n fi k)) S hw hl.1 (c_X5_give l D cI cC cL Q Z (xs (i + 1)) n 999 hv n10 (by decide) fi k ef f4 ek k4) rfl (cwV 1 S.2.2.2.2 gL_law_X5_give rfl rfl rfl (by decide +kernel) ⟨Nat.le_of_ble_eq_true rfl, Nat.le_of_ble_eq_true rfl⟩) rfl (Nat.le_of_ble_eq_true rfl) dL_law_237 rfl hcs (fun H locs r1 er1 hw => ?_)
  refine lv_aload_n S.1 S.2.1 dL_law_240 rfl (lv_at hl 2 rfl) ?_
  refine ly_arg (j := 1) S hX hbl hbA hw (lv_at hl 0 rfl) (lv_at hl 3 rfl) (by omega) hL (by decide) dL_law_241 dL_law_242 dL_law_243 dL_law_244 dL_law_245 ?_
  refine ly_md (As := [.int (xs (i + 1))]) (rest := [.int r1]) (u' := (mGiveU u (xs (i + 1)) n k)) S hw hl.1 (c_X6_give l D cI cC cL q u (xs (i + 1)) n 999 hmo n10 (by decide) k em k4) rfl (cwV 1 S.2.2.2.2 gL_law_X6_give rfl rfl rfl (by decide +kernel) ⟨Nat.le_of_ble_eq_true rfl, Nat.le_of_ble_eq_true rfl⟩) rfl (Nat.le_of_ble_eq_true rfl) dL_law_246 rfl hcs (fun H locs r2 er2 hw => ?_)
  refine lv_icmp_eq (tgt := 635) S.1 S.2.1 dL_law_249 (by decide) (fun _ => ?_) (fun c1 => ?_)
  · exact next _ _ _ _ hw hop.2
  · exact absurd (er1.trans (hop.1.trans er2.symm)) c1
theorem law_idle (S : CallFix p m c cL_law 4 s #[Value.ref b] wsL_law RL) (hX : va_X b L xs s s.heap) (hbl : b < s.heap.size) (hbA : ¬ A b) (hXs : y_X A s) (hL : L < 2 ^ 31) (hcs : cells ≤ room_1.cells ∧ slots ≤ room_1.slots) (hi : i + 4 ≤ L) (hw : y_W D cI cC cL A s H locs (cWd cI cC cL Q Z ++ cMd cI q u)) (hR : RR Z u) (hl : lv_has ls 4 [(0, .ref b), (1, .ref (Q 8 0)), (2, .ref (q 0)), (3, .int (nI i))])
    (next : ∀ (H : Heap) (locs : List Loc) (Z : Nat → U) (u : U), y_W D cI cC cL A s H locs (cWd cI cC cL Q Z ++ cMd cI q u) → RR Z u → W p l e room_1 s m #[Value.ref b] below meth c H locs cells slots QQ (F0 m 635 ls [])) : W p l e room_1 s m #[Value.ref b] below meth c H locs cells slots QQ (F0 m 254 ls []) := by
  obtain ⟨n, h, r, fi, k, L2, R⟩ := hR
  obtain ⟨f4, k4, ef, ek, em, -⟩ := R.hi
  obtain ⟨n2, n10, nv, nf⟩ := LRel_n R.ln
  obtain ⟨t60, -, tv, tm⟩ := R.tx
  have hv := LRel_lOk (B := 999) R.ln R.hh
  have hmo := LRel_mOk (B := 999) R.ln R.hh
  have eh := (LRel_h R.ln).1
  have hh := R.hh
  have hop := op_idle (x := (xs (i + 1))) R
  refine lv_aload_n S.1 S.2.1 dL_law_254 rfl (lv_at hl 1 rfl) ?_
  refine ly_arg (j := 1) S hX hbl hbA hw (lv_at hl 0 rfl) (lv_at hl 3 rfl) (by omega) hL (by decide) dL_law_255 dL_law_256 dL_law_257 dL_law_258 dL_law_259 ?_
  refine ly_cl (As := [.int (xs (i + 1))]) (rest := []) (Z' := (jIdlU Z (xs (i + 1)) n fi k)) S hw hl.1 (c_X5_idle l D cI cC cL Q Z (xs (i + 1)) n 999 hv n10 (by decide) fi k ef f4 ek k4) rfl (cwV 1 S.2.2.2.2 gL_law_X5_idle rfl rfl rfl (by decide +kernel) ⟨Nat.le_of_ble_eq_true rfl, Nat.le_of_ble_eq_true rfl⟩) rfl (Nat.le_of_ble_eq_true rfl) dL_law_260 rfl hcs (fun H locs r1 er1 hw => ?_)
  refine lv_aload_n S.1 S.2.1 dL_law_263 rfl (lv_at hl 2 rfl) ?_
  refine ly_arg (j := 1) S hX hbl hbA hw (lv_at hl 0 rfl) (lv_at hl 3 rfl) (by omega) hL (by decide) dL_law_264 dL_law_265 dL_law_266 dL_law_267 dL_law_268 ?_
  refine ly_md (As := [.int (xs (i + 1))]) (rest := [.int r1]) (u' := (mIdleU u (xs (i + 1)) n k)) S hw hl.1 (c_X6_idle l D cI cC cL q u (xs (i + 1)) n 999 hmo n10 (by decide) k em k4) rfl (cwV 1 S.2.2.2.2 gL_law_X6_idle rfl rfl rfl (by decide +kernel) ⟨Nat.le_of_ble_eq_true rfl, Nat.le_of_ble_eq_true rfl⟩) rfl (Nat.le_of_ble_eq_true rfl) dL_law_269 rfl hcs (fun H locs r2 er2 hw => ?_)
  refine lv_icmp_eq (tgt := 635) S.1 S.2.1 dL_law_272 (by decide) (fun _ => ?_) (fun c1 => ?_)
  · exact next _ _ _ _ hw hop.2
  · exact absurd (er1.trans (hop.1.trans er2.symm)) c1
theorem law_stageOf (S : CallFix p m c cL_law 4 s #[Value.ref b] wsL_law RL) (hX : va_X b L xs s s.heap) (hbl : b < s.heap.size) (hbA : ¬ A b) (hXs : y_X A s) (hL : L < 2 ^ 31) (hcs : cells ≤ room_1.cells ∧ slots ≤ room_1.slots) (hi : i + 4 ≤ L) (hw : y_W D cI cC cL A s H locs (cWd cI cC cL Q Z ++ cMd cI q u)) (hR : RR Z u) (hl : lv_has ls 4 [(0, .ref b), (1, .ref (Q 8 0)), (2, .ref (q 0)), (3, .int (nI i))])
    (next : ∀ (H : Heap) (locs : List Loc) (Z : Nat → U) (u : U), y_W D cI cC cL A s H locs (cWd cI cC cL Q Z ++ cMd cI q u) → RR Z u → W p l e room_1 s m #[Value.ref b] below meth c H locs cells slots QQ (F0 m 635 ls [])) : W p l e room_1 s m #[Value.ref b] below meth c H locs cells slots QQ (F0 m 277 ls []) := by
  obtain ⟨n, h, r, fi, k, L2, R⟩ := hR
  obtain ⟨f4, k4, ef, ek, em, -⟩ := R.hi
  obtain ⟨n2, n10, nv, nf⟩ := LRel_n R.ln
  obtain ⟨t60, -, tv, tm⟩ := R.tx
  have hv := LRel_lOk (B := 999) R.ln R.hh
  have hmo := LRel_mOk (B := 999) R.ln R.hh
  have eh := (LRel_h R.ln).1
  have hh := R.hh
  have hop := (⟨op_stageOf (x := (xs (i + 1))) (y := (xs (i + 2))) R, RR_self R⟩ : _ ∧ _)
  refine lv_aload_n S.1 S.2.1 dL_law_277 rfl (lv_at hl 1 rfl) ?_
  refine ly_arg (j := 1) S hX hbl hbA hw (lv_at hl 0 rfl) (lv_at hl 3 rfl) (by omega) hL (by decide) dL_law_278 dL_law_279 dL_law_280 dL_law_281 dL_law_282 ?_
  refine ly_arg (j := 2) S hX hbl hbA hw (lv_at hl 0 rfl) (lv_at hl 3 rfl) (by omega) hL (by decide) dL_law_283 dL_law_284 dL_law_285 dL_law_286 dL_law_287 ?_
  refine ly_cl (As := [.int (xs (i + 1)), .int (xs (i + 2))]) (rest := []) (Z' := Z) S hw hl.1 (c_X5_stageOf l D cI cC cL Q Z (xs (i + 1)) (xs (i + 2)) n nv n10) rfl (cwV 2 S.2.2.2.2 gL_law_X5_stageOf rfl rfl rfl (by decide +kernel) ⟨Nat.le_of_ble_eq_true rfl, Nat.le_of_ble_eq_true rfl⟩) rfl (Nat.le_of_ble_eq_true rfl) dL_law_288 rfl hcs (fun H locs r1 er1 hw => ?_)
  refine lv_aload_n S.1 S.2.1 dL_law_291 rfl (lv_at hl 2 rfl) ?_
  refine ly_arg (j := 1) S hX hbl hbA hw (lv_at hl 0 rfl) (lv_at hl 3 rfl) (by omega) hL (by decide) dL_law_292 dL_law_293 dL_law_294 dL_law_295 dL_law_296 ?_
  refine ly_arg (j := 2) S hX hbl hbA hw (lv_at hl 0 rfl) (lv_at hl 3 rfl) (by omega) hL (by decide) dL_law_297 dL_law_298 dL_law_299 dL_law_300 dL_law_301 ?_
  refine ly_md (As := [.int (xs (i + 1)), .int (xs (i + 2))]) (rest := [.int r1]) (u' := u) S hw hl.1 (c_X6_stageOf l D cI cC cL q u (xs (i + 1)) (xs (i + 2)) n nf n10 (by omega)) rfl (cwV 2 S.2.2.2.2 gL_law_X6_stageOf rfl rfl rfl (by decide +kernel) ⟨Nat.le_of_ble_eq_true rfl, Nat.le_of_ble_eq_true rfl⟩) rfl (Nat.le_of_ble_eq_true rfl) dL_law_302 rfl hcs (fun H locs r2 er2 hw => ?_)
  refine lv_icmp_eq (tgt := 635) S.1 S.2.1 dL_law_305 (by decide) (fun _ => ?_) (fun c1 => ?_)
  · exact next _ _ _ _ hw hop.2
  · exact absurd (er1.trans (hop.1.trans er2.symm)) c1
theorem law_outputOf (S : CallFix p m c cL_law 4 s #[Value.ref b] wsL_law RL) (hX : va_X b L xs s s.heap) (hbl : b < s.heap.size) (hbA : ¬ A b) (hXs : y_X A s) (hL : L < 2 ^ 31) (hcs : cells ≤ room_1.cells ∧ slots ≤ room_1.slots) (hi : i + 4 ≤ L) (hw : y_W D cI cC cL A s H locs (cWd cI cC cL Q Z ++ cMd cI q u)) (hR : RR Z u) (hl : lv_has ls 4 [(0, .ref b), (1, .ref (Q 8 0)), (2, .ref (q 0)), (3, .int (nI i))])
    (next : ∀ (H : Heap) (locs : List Loc) (Z : Nat → U) (u : U), y_W D cI cC cL A s H locs (cWd cI cC cL Q Z ++ cMd cI q u) → RR Z u → W p l e room_1 s m #[Value.ref b] below meth c H locs cells slots QQ (F0 m 635 ls [])) : W p l e room_1 s m #[Value.ref b] below meth c H locs cells slots QQ (F0 m 310 ls []) := by
  obtain ⟨n, h, r, fi, k, L2, R⟩ := hR
  obtain ⟨f4, k4, ef, ek, em, -⟩ := R.hi
  obtain ⟨n2, n10, nv, nf⟩ := LRel_n R.ln
  obtain ⟨t60, -, tv, tm⟩ := R.tx
  have hv := LRel_lOk (B := 999) R.ln R.hh
  have hmo := LRel_mOk (B := 999) R.ln R.hh
  have eh := (LRel_h R.ln).1
  have hh := R.hh
  have hop := (⟨op_outputOf (x := (xs (i + 1))) (y := (xs (i + 2))) R, RR_self R⟩ : _ ∧ _)
  refine lv_aload_n S.1 S.2.1 dL_law_310 rfl (lv_at hl 1 rfl) ?_
  refine ly_arg (j := 1) S hX hbl hbA hw (lv_at hl 0 rfl) (lv_at hl 3 rfl) (by omega) hL (by decide) dL_law_311 dL_law_312 dL_law_313 dL_law_314 dL_law_315 ?_
  refine ly_arg (j := 2) S hX hbl hbA hw (lv_at hl 0 rfl) (lv_at hl 3 rfl) (by omega) hL (by decide) dL_law_316 dL_law_317 dL_law_318 dL_law_319 dL_law_320 ?_
  refine ly_cl (As := [.int (xs (i + 1)), .int (xs (i + 2))]) (rest := []) (Z' := Z) S hw hl.1 (c_X5_outputOf l D cI cC cL Q Z (xs (i + 1)) (xs (i + 2)) n h nv n10 eh (by omega)) rfl (cwV 2 S.2.2.2.2 gL_law_X5_outputOf rfl rfl rfl (by decide +kernel) ⟨Nat.le_of_ble_eq_true rfl, Nat.le_of_ble_eq_true rfl⟩) rfl (Nat.le_of_ble_eq_true rfl) dL_law_321 rfl hcs (fun H locs r1 er1 hw => ?_)
  refine lv_aload_n S.1 S.2.1 dL_law_324 rfl (lv_at hl 2 rfl) ?_
  refine ly_arg (j := 1) S hX hbl hbA hw (lv_at hl 0 rfl) (lv_at hl 3 rfl) (by omega) hL (by decide) dL_law_325 dL_law_326 dL_law_327 dL_law_328 dL_law_329 ?_
  refine ly_arg (j := 2) S hX hbl hbA hw (lv_at hl 0 rfl) (lv_at hl 3 rfl) (by omega) hL (by decide) dL_law_330 dL_law_331 dL_law_332 dL_law_333 dL_law_334 ?_
  refine ly_md (As := [.int (xs (i + 1)), .int (xs (i + 2))]) (rest := [.int r1]) (u' := u) S hw hl.1 (c_X6_outputOf l D cI cC cL q u (xs (i + 1)) (xs (i + 2)) (jKp h n) (LRel_kp R.ln) (jKp_16 h n)) rfl (cwV 2 S.2.2.2.2 gL_law_X6_outputOf rfl rfl rfl (by decide +kernel) ⟨Nat.le_of_ble_eq_true rfl, Nat.le_of_ble_eq_true rfl⟩) rfl (Nat.le_of_ble_eq_true rfl) dL_law_335 rfl hcs (fun H locs r2 er2 hw => ?_)
  refine lv_icmp_eq (tgt := 635) S.1 S.2.1 dL_law_338 (by decide) (fun _ => ?_) (fun c1 => ?_)
  · exact next _ _ _ _ hw hop.2
  · exact absurd (er1.trans (hop.1.trans er2.symm)) c1
theorem law_pairOf (S : CallFix p m c cL_law 4 s #[Value.ref b] wsL_law RL) (hX : va_X b L xs s s.heap) (hbl : b < s.heap.size) (hbA : ¬ A b) (hXs : y_X A s) (hL : L < 2 ^ 31) (hcs : cells ≤ room_1.cells ∧ slots ≤ room_1.slots) (hi : i + 4 ≤ L) (hw : y_W D cI cC cL A s H locs (cWd cI cC cL Q Z ++ cMd cI q u)) (hR : RR Z u) (hl : lv_has ls 4 [(0, .ref b), (1, .ref (Q 8 0)), (2, .ref (q 0)), (3, .int (nI i))])
    (next : ∀ (H : Heap) (locs : List Loc) (Z : Nat → U) (u : U), y_W D cI cC cL A s H locs (cWd cI cC cL Q Z ++ cMd cI q u) → RR Z u → W p l e room_1 s m #[Value.ref b] below meth c H locs cells slots QQ (F0 m 635 ls [])) : W p l e room_1 s m #[Value.ref b] below meth c H locs cells slots QQ (F0 m 343 ls []) := by
  obtain ⟨n, h, r, fi, k, L2, R⟩ := hR
  obtain ⟨f4, k4, ef, ek, em, -⟩ := R.hi
  obtain ⟨n2, n10, nv, nf⟩ := LRel_n R.ln
  obtain ⟨t60, -, tv, tm⟩ := R.tx
  have hv := LRel_lOk (B := 999) R.ln R.hh
  have hmo := LRel_mOk (B := 999) R.ln R.hh
  have eh := (LRel_h R.ln).1
  have hh := R.hh
  have hop := (⟨op_pairOf (x := (xs (i + 1))) (y := (xs (i + 2))) R, RR_self R⟩ : _ ∧ _)
  refine lv_aload_n S.1 S.2.1 dL_law_343 rfl (lv_at hl 1 rfl) ?_
  refine ly_arg (j := 1) S hX hbl hbA hw (lv_at hl 0 rfl) (lv_at hl 3 rfl) (by omega) hL (by decide) dL_law_344 dL_law_345 dL_law_346 dL_law_347 dL_law_348 ?_
  refine ly_arg (j := 2) S hX hbl hbA hw (lv_at hl 0 rfl) (lv_at hl 3 rfl) (by omega) hL (by decide) dL_law_349 dL_law_350 dL_law_351 dL_law_352 dL_law_353 ?_
  refine ly_cl (As := [.int (xs (i + 1)), .int (xs (i + 2))]) (rest := []) (Z' := Z) S hw hl.1 (c_X5_pairOf l D cI cC cL Q Z (xs (i + 1)) (xs (i + 2))) rfl (cwV 2 S.2.2.2.2 gL_law_X5_pairOf rfl rfl rfl (by decide +kernel) ⟨Nat.le_of_ble_eq_true rfl, Nat.le_of_ble_eq_true rfl⟩) rfl (Nat.le_of_ble_eq_true rfl) dL_law_354 rfl hcs (fun H locs r1 er1 hw => ?_)
  refine lv_aload_n S.1 S.2.1 dL_law_357 rfl (lv_at hl 2 rfl) ?_
  refine ly_arg (j := 1) S hX hbl hbA hw (lv_at hl 0 rfl) (lv_at hl 3 rfl) (by omega) hL (by decide) dL_law_358 dL_law_359 dL_law_360 dL_law_361 dL_law_362 ?_
  refine ly_arg (j := 2) S hX hbl hbA hw (lv_at hl 0 rfl) (lv_at hl 3 rfl) (by omega) hL (by decide) dL_law_363 dL_law_364 dL_law_365 dL_law_366 dL_law_367 ?_
  refine ly_md (As := [.int (xs (i + 1)), .int (xs (i + 2))]) (rest := [.int r1]) (u' := u) S hw hl.1 (c_X6_pairOf l D cI cC cL q u (xs (i + 1)) (xs (i + 2))) rfl (cwV 2 S.2.2.2.2 gL_law_X6_pairOf rfl rfl rfl (by decide +kernel) ⟨Nat.le_of_ble_eq_true rfl, Nat.le_of_ble_eq_true rfl⟩) rfl (Nat.le_of_ble_eq_true rfl) dL_law_368 rfl hcs (fun H locs r2 er2 hw => ?_)
  refine lv_icmp_eq (tgt := 635) S.1 S.2.1 dL_law_371 (by decide) (fun _ => ?_) (fun c1 => ?_)
  · exact next _ _ _ _ hw hop.2
  · exact absurd (er1.trans (hop.1.trans er2.symm)) c1
theorem law_mended (S : CallFix p m c cL_law 4 s #[Value.ref b] wsL_law RL) (hX : va_X b L xs s s.heap) (hbl : b < s.heap.size) (hbA : ¬ A b) (hXs : y_X A s) (hL : L < 2 ^ 31) (hcs : cells ≤ room_1.cells ∧ slots ≤ room_1.slots) (hi : i + 4 ≤ L) (hw : y_W D cI cC cL A s H locs (cWd cI cC cL Q Z ++ cMd cI q u)) (hR : RR Z u) (hl : lv_has ls 4 [(0, .ref b), (1, .ref (Q 8 0)), (2, .ref (q 0)), (3, .int (nI i))])
    (next : ∀ (H : Heap) (locs : List Loc) (Z : Nat → U) (u : U), y_W D cI cC cL A s H locs (cWd cI cC cL Q Z ++ cMd cI q u) → RR Z u → W p l e room_1 s m #[Value.ref b] below meth c H locs cells slots QQ (F0 m 635 ls [])) : W p l e room_1 s m #[Value.ref b] below meth c H locs cells slots QQ (F0 m 376 ls []) := by
  obtain ⟨n, h, r, fi, k, L2, R⟩ := hR
  obtain ⟨f4, k4, ef, ek, em, -⟩ := R.hi
  obtain ⟨n2, n10, nv, nf⟩ := LRel_n R.ln
  obtain ⟨t60, -, tv, tm⟩ := R.tx
  have hv := LRel_lOk (B := 999) R.ln R.hh
  have hmo := LRel_mOk (B := 999) R.ln R.hh
  have eh := (LRel_h R.ln).1
  have hh := R.hh
  have hop := op_mended (x := (xs (i + 1))) R
  refine lv_aload_n S.1 S.2.1 dL_law_376 rfl (lv_at hl 1 rfl) ?_
  refine ly_arg (j := 1) S hX hbl hbA hw (lv_at hl 0 rfl) (lv_at hl 3 rfl) (by omega) hL (by decide) dL_law_377 dL_law_378 dL_law_379 dL_law_380 dL_law_381 ?_
  refine ly_cl (As := [.int (xs (i + 1))]) (rest := []) (Z' := Z) S hw hl.1 (c_X5_mended l D cI cC cL Q Z (xs (i + 1))) rfl (cwV 1 S.2.2.2.2 gL_law_X5_mended rfl rfl rfl (by decide +kernel) ⟨Nat.le_of_ble_eq_true rfl, Nat.le_of_ble_eq_true rfl⟩) rfl (Nat.le_of_ble_eq_true rfl) dL_law_382 rfl hcs (fun H locs r1 er1 hw => ?_)
  refine lv_aload_n S.1 S.2.1 dL_law_385 rfl (lv_at hl 2 rfl) ?_
  refine ly_arg (j := 1) S hX hbl hbA hw (lv_at hl 0 rfl) (lv_at hl 3 rfl) (by omega) hL (by decide) dL_law_386 dL_law_387 dL_law_388 dL_law_389 dL_law_390 ?_
  refine ly_md (As := [.int (xs (i + 1))]) (rest := [.int r1]) (u' := (mMendedU u (xs (i + 1)))) S hw hl.1 (c_X6_mended l D cI cC cL q u (xs (i + 1))) rfl (cwV 1 S.2.2.2.2 gL_law_X6_mended rfl rfl rfl (by decide +kernel) ⟨Nat.le_of_ble_eq_true rfl, Nat.le_of_ble_eq_true rfl⟩) rfl (Nat.le_of_ble_eq_true rfl) dL_law_391 rfl hcs (fun H locs r2 er2 hw => ?_)
  refine lv_icmp_eq (tgt := 635) S.1 S.2.1 dL_law_394 (by decide) (fun _ => ?_) (fun c1 => ?_)
  · exact next _ _ _ _ hw hop.2
  · exact absurd (er1.trans (hop.1.trans er2.symm)) c1
theorem law_errors (S : CallFix p m c cL_law 4 s #[Value.ref b] wsL_law RL) (hX : va_X b L xs s s.heap) (hbl : b < s.heap.size) (hbA : ¬ A b) (hXs : y_X A s) (hL : L < 2 ^ 31) (hcs : cells ≤ room_1.cells ∧ slots ≤ room_1.slots) (hi : i + 4 ≤ L) (hw : y_W D cI cC cL A s H locs (cWd cI cC cL Q Z ++ cMd cI q u)) (hR : RR Z u) (hl : lv_has ls 4 [(0, .ref b), (1, .ref (Q 8 0)), (2, .ref (q 0)), (3, .int (nI i))])
    (next : ∀ (H : Heap) (locs : List Loc) (Z : Nat → U) (u : U), y_W D cI cC cL A s H locs (cWd cI cC cL Q Z ++ cMd cI q u) → RR Z u → W p l e room_1 s m #[Value.ref b] below meth c H locs cells slots QQ (F0 m 635 ls [])) : W p l e room_1 s m #[Value.ref b] below meth c H locs cells slots QQ (F0 m 399 ls []) := by
  obtain ⟨n, h, r, fi, k, L2, R⟩ := hR
  obtain ⟨f4, k4, ef, ek, em, -⟩ := R.hi
  obtain ⟨n2, n10, nv, nf⟩ := LRel_n R.ln
  obtain ⟨t60, -, tv, tm⟩ := R.tx
  have hv := LRel_lOk (B := 999) R.ln R.hh
  have hmo := LRel_mOk (B := 999) R.ln R.hh
  have eh := (LRel_h R.ln).1
  have hh := R.hh
  have hop := (⟨ers_eq (x := (xs (i + 1))) R.ln, RR_self R⟩ : _ ∧ _)
  refine lv_aload_n S.1 S.2.1 dL_law_399 rfl (lv_at hl 1 rfl) ?_
  refine ly_arg (j := 1) S hX hbl hbA hw (lv_at hl 0 rfl) (lv_at hl 3 rfl) (by omega) hL (by decide) dL_law_400 dL_law_401 dL_law_402 dL_law_403 dL_law_404 ?_
  refine ly_cl (As := [.int (xs (i + 1))]) (rest := []) (Z' := Z) S hw hl.1 (c_X5_errors l D cI cC cL Q Z (xs (i + 1)) n h nv n10 eh (by omega) (hfd_j R.ln)) rfl (cwV 1 S.2.2.2.2 gL_law_X5_errors rfl rfl rfl (by decide +kernel) ⟨Nat.le_of_ble_eq_true rfl, Nat.le_of_ble_eq_true rfl⟩) rfl (Nat.le_of_ble_eq_true rfl) dL_law_405 rfl hcs (fun H locs r1 er1 hw => ?_)
  refine lv_aload_n S.1 S.2.1 dL_law_408 rfl (lv_at hl 2 rfl) ?_
  refine ly_arg (j := 1) S hX hbl hbA hw (lv_at hl 0 rfl) (lv_at hl 3 rfl) (by omega) hL (by decide) dL_law_409 dL_law_410 dL_law_411 dL_law_412 dL_law_413 ?_
  refine ly_md (As := [.int (xs (i + 1))]) (rest := [.int r1]) (u' := u) S hw hl.1 (c_X6_errors l D cI cC cL q u (xs (i + 1)) (jKp h n) (LRel_kp R.ln) (jKp_16 h n) (hfd_m R.ln)) rfl (cwV 1 S.2.2.2.2 gL_law_X6_errors rfl rfl rfl (by decide +kernel) ⟨Nat.le_of_ble_eq_true rfl, Nat.le_of_ble_eq_true rfl⟩) rfl (Nat.le_of_ble_eq_true rfl) dL_law_414 rfl hcs (fun H locs r2 er2 hw => ?_)
  refine lv_icmp_eq (tgt := 635) S.1 S.2.1 dL_law_417 (by decide) (fun _ => ?_) (fun c1 => ?_)
  · exact next _ _ _ _ hw hop.2
  · exact absurd (er1.trans (hop.1.trans er2.symm)) c1
theorem law_account (S : CallFix p m c cL_law 4 s #[Value.ref b] wsL_law RL) (hX : va_X b L xs s s.heap) (hbl : b < s.heap.size) (hbA : ¬ A b) (hXs : y_X A s) (hL : L < 2 ^ 31) (hcs : cells ≤ room_1.cells ∧ slots ≤ room_1.slots) (hi : i + 4 ≤ L) (hw : y_W D cI cC cL A s H locs (cWd cI cC cL Q Z ++ cMd cI q u)) (hR : RR Z u) (hl : lv_has ls 4 [(0, .ref b), (1, .ref (Q 8 0)), (2, .ref (q 0)), (3, .int (nI i))])
    (next : ∀ (H : Heap) (locs : List Loc) (Z : Nat → U) (u : U), y_W D cI cC cL A s H locs (cWd cI cC cL Q Z ++ cMd cI q u) → RR Z u → W p l e room_1 s m #[Value.ref b] below meth c H locs cells slots QQ (F0 m 635 ls [])) : W p l e room_1 s m #[Value.ref b] below meth c H locs cells slots QQ (F0 m 422 ls []) := by
  obtain ⟨n, h, r, fi, k, L2, R⟩ := hR
  obtain ⟨f4, k4, ef, ek, em, -⟩ := R.hi
  obtain ⟨n2, n10, nv, nf⟩ := LRel_n R.ln
  obtain ⟨t60, -, tv, tm⟩ := R.tx
  have hv := LRel_lOk (B := 999) R.ln R.hh
  have hmo := LRel_mOk (B := 999) R.ln R.hh
  have eh := (LRel_h R.ln).1
  have hh := R.hh
  have hop := (⟨op_account (x := (xs (i + 1))) R, RR_self R⟩ : _ ∧ _)
  refine lv_aload_n S.1 S.2.1 dL_law_422 rfl (lv_at hl 1 rfl) ?_
  refine ly_arg (j := 1) S hX hbl hbA hw (lv_at hl 0 rfl) (lv_at hl 3 rfl) (by omega) hL (by decide) dL_law_423 dL_law_424 dL_law_425 dL_law_426 dL_law_427 ?_
  refine ly_cl (As := [.int (xs (i + 1))]) (rest := []) (Z' := Z) S hw hl.1 (c_X5_account l D cI cC cL Q Z (xs (i + 1)) n nv n10) rfl (cwV 1 S.2.2.2.2 gL_law_X5_account rfl rfl rfl (by decide +kernel) ⟨Nat.le_of_ble_eq_true rfl, Nat.le_of_ble_eq_true rfl⟩) rfl (Nat.le_of_ble_eq_true rfl) dL_law_428 rfl hcs (fun H locs r1 er1 hw => ?_)
  refine lv_aload_n S.1 S.2.1 dL_law_431 rfl (lv_at hl 2 rfl) ?_
  refine ly_arg (j := 1) S hX hbl hbA hw (lv_at hl 0 rfl) (lv_at hl 3 rfl) (by omega) hL (by decide) dL_law_432 dL_law_433 dL_law_434 dL_law_435 dL_law_436 ?_
  refine ly_md (As := [.int (xs (i + 1))]) (rest := [.int r1]) (u' := u) S hw hl.1 (c_X6_account l D cI cC cL q u (xs (i + 1)) n nf n10) rfl (cwV 1 S.2.2.2.2 gL_law_X6_account rfl rfl rfl (by decide +kernel) ⟨Nat.le_of_ble_eq_true rfl, Nat.le_of_ble_eq_true rfl⟩) rfl (Nat.le_of_ble_eq_true rfl) dL_law_437 rfl hcs (fun H locs r2 er2 hw => ?_)
  refine lv_icmp_eq (tgt := 635) S.1 S.2.1 dL_law_440 (by decide) (fun _ => ?_) (fun c1 => ?_)
  · exact next _ _ _ _ hw hop.2
  · exact absurd (er1.trans (hop.1.trans er2.symm)) c1
theorem law_echo (S : CallFix p m c cL_law 4 s #[Value.ref b] wsL_law RL) (hX : va_X b L xs s s.heap) (hbl : b < s.heap.size) (hbA : ¬ A b) (hXs : y_X A s) (hL : L < 2 ^ 31) (hcs : cells ≤ room_1.cells ∧ slots ≤ room_1.slots) (hi : i + 4 ≤ L) (hw : y_W D cI cC cL A s H locs (cWd cI cC cL Q Z ++ cMd cI q u)) (hR : RR Z u) (hl : lv_has ls 4 [(0, .ref b), (1, .ref (Q 8 0)), (2, .ref (q 0)), (3, .int (nI i))])
    (next : ∀ (H : Heap) (locs : List Loc) (Z : Nat → U) (u : U), y_W D cI cC cL A s H locs (cWd cI cC cL Q Z ++ cMd cI q u) → RR Z u → W p l e room_1 s m #[Value.ref b] below meth c H locs cells slots QQ (F0 m 635 ls [])) : W p l e room_1 s m #[Value.ref b] below meth c H locs cells slots QQ (F0 m 445 ls []) := by
  obtain ⟨n, h, r, fi, k, L2, R⟩ := hR
  obtain ⟨f4, k4, ef, ek, em, -⟩ := R.hi
  obtain ⟨n2, n10, nv, nf⟩ := LRel_n R.ln
  obtain ⟨t60, -, tv, tm⟩ := R.tx
  have hv := LRel_lOk (B := 999) R.ln R.hh
  have hmo := LRel_mOk (B := 999) R.ln R.hh
  have eh := (LRel_h R.ln).1
  have hh := R.hh
  have hop := op_echo (x := (xs (i + 1))) (y := (xs (i + 2))) R
  refine lv_aload_n S.1 S.2.1 dL_law_445 rfl (lv_at hl 1 rfl) ?_
  refine ly_arg (j := 1) S hX hbl hbA hw (lv_at hl 0 rfl) (lv_at hl 3 rfl) (by omega) hL (by decide) dL_law_446 dL_law_447 dL_law_448 dL_law_449 dL_law_450 ?_
  refine ly_arg (j := 2) S hX hbl hbA hw (lv_at hl 0 rfl) (lv_at hl 3 rfl) (by omega) hL (by decide) dL_law_451 dL_law_452 dL_law_453 dL_law_454 dL_law_455 ?_
  refine ly_cl (As := [.int (xs (i + 1)), .int (xs (i + 2))]) (rest := []) (Z' := (jEchU Z (xs (i + 1)) (xs (i + 2)) n)) S hw hl.1 (c_X5_echo l D cI cC cL Q Z (xs (i + 1)) (xs (i + 2)) n nv n10) rfl (cwV 2 S.2.2.2.2 gL_law_X5_echo rfl rfl rfl (by decide +kernel) ⟨Nat.le_of_ble_eq_true rfl, Nat.le_of_ble_eq_true rfl⟩) rfl (Nat.le_of_ble_eq_true rfl) dL_law_456 rfl hcs (fun H locs r1 er1 hw => ?_)
  refine lv_aload_n S.1 S.2.1 dL_law_459 rfl (lv_at hl 2 rfl) ?_
  refine ly_arg (j := 1) S hX hbl hbA hw (lv_at hl 0 rfl) (lv_at hl 3 rfl) (by omega) hL (by decide) dL_law_460 dL_law_461 dL_law_462 dL_law_463 dL_law_464 ?_
  refine ly_arg (j := 2) S hX hbl hbA hw (lv_at hl 0 rfl) (lv_at hl 3 rfl) (by omega) hL (by decide) dL_law_465 dL_law_466 dL_law_467 dL_law_468 dL_law_469 ?_
  refine ly_md (As := [.int (xs (i + 1)), .int (xs (i + 2))]) (rest := [.int r1]) (u' := (mEchoU u (xs (i + 1)) (xs (i + 2)) n)) S hw hl.1 (c_X6_echo l D cI cC cL q u (xs (i + 1)) (xs (i + 2)) n nf n10) rfl (cwV 2 S.2.2.2.2 gL_law_X6_echo rfl rfl rfl (by decide +kernel) ⟨Nat.le_of_ble_eq_true rfl, Nat.le_of_ble_eq_true rfl⟩) rfl (Nat.le_of_ble_eq_true rfl) dL_law_470 rfl hcs (fun H locs r2 er2 hw => ?_)
  refine lv_icmp_eq (tgt := 635) S.1 S.2.1 dL_law_473 (by decide) (fun _ => ?_) (fun c1 => ?_)
  · exact next _ _ _ _ hw hop.2
  · exact absurd (er1.trans (hop.1.trans er2.symm)) c1
theorem law_emptyAfter (S : CallFix p m c cL_law 4 s #[Value.ref b] wsL_law RL) (hX : va_X b L xs s s.heap) (hbl : b < s.heap.size) (hbA : ¬ A b) (hXs : y_X A s) (hL : L < 2 ^ 31) (hcs : cells ≤ room_1.cells ∧ slots ≤ room_1.slots) (hi : i + 4 ≤ L) (hw : y_W D cI cC cL A s H locs (cWd cI cC cL Q Z ++ cMd cI q u)) (hR : RR Z u) (hl : lv_has ls 4 [(0, .ref b), (1, .ref (Q 8 0)), (2, .ref (q 0)), (3, .int (nI i))])
    (next : ∀ (H : Heap) (locs : List Loc) (Z : Nat → U) (u : U), y_W D cI cC cL A s H locs (cWd cI cC cL Q Z ++ cMd cI q u) → RR Z u → W p l e room_1 s m #[Value.ref b] below meth c H locs cells slots QQ (F0 m 635 ls [])) : W p l e room_1 s m #[Value.ref b] below meth c H locs cells slots QQ (F0 m 478 ls []) := by
  obtain ⟨n, h, r, fi, k, L2, R⟩ := hR
  obtain ⟨f4, k4, ef, ek, em, -⟩ := R.hi
  obtain ⟨n2, n10, nv, nf⟩ := LRel_n R.ln
  obtain ⟨t60, -, tv, tm⟩ := R.tx
  have hv := LRel_lOk (B := 999) R.ln R.hh
  have hmo := LRel_mOk (B := 999) R.ln R.hh
  have eh := (LRel_h R.ln).1
  have hh := R.hh
  have hop := op_empR R
  refine lv_aload_n S.1 S.2.1 dL_law_478 rfl (lv_at hl 1 rfl) ?_
  refine ly_cl (As := []) (rest := []) (Z' := (va_up Z 5 (jEA (Z 0 10 0) n 401 0 (stMix (Z 0) (Z 5))).1)) S hw hl.1 (c_X5_emptyAfter l D cI cC cL Q Z n nv n10) rfl (cwV 0 S.2.2.2.2 gL_law_X5_emptyAfter rfl rfl rfl (by decide +kernel) ⟨Nat.le_of_ble_eq_true rfl, Nat.le_of_ble_eq_true rfl⟩) rfl (Nat.le_of_ble_eq_true rfl) dL_law_479 rfl hcs (fun H locs r1 er1 hw => ?_)
  refine lv_aload_n S.1 S.2.1 dL_law_482 rfl (lv_at hl 2 rfl) ?_
  refine ly_md (As := []) (rest := [.int r1]) (u' := (va_up u 1 (mEmp n 400 (mTry (u 0) n 0) 0).1)) S hw hl.1 (c_X6_emptyAfter l D cI cC cL q u n nf n10) rfl (cwV 0 S.2.2.2.2 gL_law_X6_emptyAfter rfl rfl rfl (by decide +kernel) ⟨Nat.le_of_ble_eq_true rfl, Nat.le_of_ble_eq_true rfl⟩) rfl (Nat.le_of_ble_eq_true rfl) dL_law_483 rfl hcs (fun H locs r2 er2 hw => ?_)
  refine lv_icmp_eq (tgt := 635) S.1 S.2.1 dL_law_486 (by decide) (fun _ => ?_) (fun c1 => ?_)
  · exact next _ _ _ _ hw hop.2
  · exact absurd (er1.trans (hop.1.trans er2.symm)) c1
theorem law_worn (S : CallFix p m c cL_law 4 s #[Value.ref b] wsL_law RL) (hX : va_X b L xs s s.heap) (hbl : b < s.heap.size) (hbA : ¬ A b) (hXs : y_X A s) (hL : L < 2 ^ 31) (hcs : cells ≤ room_1.cells ∧ slots ≤ room_1.slots) (hi : i + 4 ≤ L) (hw : y_W D cI cC cL A s H locs (cWd cI cC cL Q Z ++ cMd cI q u)) (hR : RR Z u) (hl : lv_has ls 4 [(0, .ref b), (1, .ref (Q 8 0)), (2, .ref (q 0)), (3, .int (nI i))])
    (next : ∀ (H : Heap) (locs : List Loc) (Z : Nat → U) (u : U), y_W D cI cC cL A s H locs (cWd cI cC cL Q Z ++ cMd cI q u) → RR Z u → W p l e room_1 s m #[Value.ref b] below meth c H locs cells slots QQ (F0 m 635 ls [])) : W p l e room_1 s m #[Value.ref b] below meth c H locs cells slots QQ (F0 m 491 ls []) := by
  obtain ⟨n, h, r, fi, k, L2, R⟩ := hR
  obtain ⟨f4, k4, ef, ek, em, -⟩ := R.hi
  obtain ⟨n2, n10, nv, nf⟩ := LRel_n R.ln
  obtain ⟨t60, -, tv, tm⟩ := R.tx
  have hv := LRel_lOk (B := 999) R.ln R.hh
  have hmo := LRel_mOk (B := 999) R.ln R.hh
  have eh := (LRel_h R.ln).1
  have hh := R.hh
  have hop := op_worn (x := (xs (i + 1))) R
  refine lv_aload_n S.1 S.2.1 dL_law_491 rfl (lv_at hl 1 rfl) ?_
  refine ly_arg (j := 1) S hX hbl hbA hw (lv_at hl 0 rfl) (lv_at hl 3 rfl) (by omega) hL (by decide) dL_law_492 dL_law_493 dL_law_494 dL_law_495 dL_law_496 ?_
  refine ly_cl (As := [.int (xs (i + 1))]) (rest := []) (Z' := (jWoU Z (xs (i + 1)) n)) S hw hl.1 (c_X5_worn l D cI cC cL Q Z (xs (i + 1)) n nv n10 (by omega)) rfl (cwV 1 S.2.2.2.2 gL_law_X5_worn rfl rfl rfl (by decide +kernel) ⟨Nat.le_of_ble_eq_true rfl, Nat.le_of_ble_eq_true rfl⟩) rfl (Nat.le_of_ble_eq_true rfl) dL_law_497 rfl hcs (fun H locs r1 er1 hw => ?_)
  refine lv_aload_n S.1 S.2.1 dL_law_500 rfl (lv_at hl 2 rfl) ?_
  refine ly_arg (j := 1) S hX hbl hbA hw (lv_at hl 0 rfl) (lv_at hl 3 rfl) (by omega) hL (by decide) dL_law_501 dL_law_502 dL_law_503 dL_law_504 dL_law_505 ?_
  refine ly_md (As := [.int (xs (i + 1))]) (rest := [.int r1]) (u' := (mWornU u (xs (i + 1)) n)) S hw hl.1 (c_X6_worn l D cI cC cL q u (xs (i + 1)) n nf n10) rfl (cwV 1 S.2.2.2.2 gL_law_X6_worn rfl rfl rfl (by decide +kernel) ⟨Nat.le_of_ble_eq_true rfl, Nat.le_of_ble_eq_true rfl⟩) rfl (Nat.le_of_ble_eq_true rfl) dL_law_506 rfl hcs (fun H locs r2 er2 hw => ?_)
  refine lv_icmp_eq (tgt := 635) S.1 S.2.1 dL_law_509 (by decide) (fun _ => ?_) (fun c1 => ?_)
  · exact next _ _ _ _ hw hop.2
  · exact absurd (er1.trans (hop.1.trans er2.symm)) c1
theorem law_safe (S : CallFix p m c cL_law 4 s #[Value.ref b] wsL_law RL) (hX : va_X b L xs s s.heap) (hbl : b < s.heap.size) (hbA : ¬ A b) (hXs : y_X A s) (hL : L < 2 ^ 31) (hcs : cells ≤ room_1.cells ∧ slots ≤ room_1.slots) (hi : i + 4 ≤ L) (hw : y_W D cI cC cL A s H locs (cWd cI cC cL Q Z ++ cMd cI q u)) (hR : RR Z u) (hl : lv_has ls 4 [(0, .ref b), (1, .ref (Q 8 0)), (2, .ref (q 0)), (3, .int (nI i))])
    (next : ∀ (H : Heap) (locs : List Loc) (Z : Nat → U) (u : U), y_W D cI cC cL A s H locs (cWd cI cC cL Q Z ++ cMd cI q u) → RR Z u → W p l e room_1 s m #[Value.ref b] below meth c H locs cells slots QQ (F0 m 635 ls [])) : W p l e room_1 s m #[Value.ref b] below meth c H locs cells slots QQ (F0 m 514 ls []) := by
  obtain ⟨n, h, r, fi, k, L2, R⟩ := hR
  obtain ⟨f4, k4, ef, ek, em, -⟩ := R.hi
  obtain ⟨n2, n10, nv, nf⟩ := LRel_n R.ln
  obtain ⟨t60, -, tv, tm⟩ := R.tx
  have hv := LRel_lOk (B := 999) R.ln R.hh
  have hmo := LRel_mOk (B := 999) R.ln R.hh
  have eh := (LRel_h R.ln).1
  have hh := R.hh
  have hop := op_safeR R
  refine lv_aload_n S.1 S.2.1 dL_law_514 rfl (lv_at hl 1 rfl) ?_
  refine ly_cl (As := []) (rest := []) (Z' := (va_up Z 5 (jSf (Z 0 10 0) n 8193 8192 0 (stMix (Z 0) (Z 5))).1)) S hw hl.1 (c_X5_safe l D cI cC cL Q Z n nv n10) rfl (cwV 0 S.2.2.2.2 gL_law_X5_safe rfl rfl rfl (by decide +kernel) ⟨Nat.le_of_ble_eq_true rfl, Nat.le_of_ble_eq_true rfl⟩) rfl (Nat.le_of_ble_eq_true rfl) dL_law_515 rfl hcs (fun H locs r1 er1 hw => ?_)
  refine lv_aload_n S.1 S.2.1 dL_law_518 rfl (lv_at hl 2 rfl) ?_
  refine ly_md (As := []) (rest := [.int r1]) (u' := (va_up u 1 (mSf (u 0) n 10001 0 10000 (u 1)).2)) S hw hl.1 (c_X6_safe l D cI cC cL q u n nf n10) rfl (cwV 0 S.2.2.2.2 gL_law_X6_safe rfl rfl rfl (by decide +kernel) ⟨Nat.le_of_ble_eq_true rfl, Nat.le_of_ble_eq_true rfl⟩) rfl (Nat.le_of_ble_eq_true rfl) dL_law_519 rfl hcs (fun H locs r2 er2 hw => ?_)
  refine lv_icmp_eq (tgt := 635) S.1 S.2.1 dL_law_522 (by decide) (fun _ => ?_) (fun c1 => ?_)
  · exact next _ _ _ _ hw hop.2
  · exact absurd (er1.trans (hop.1.trans er2.symm)) c1
theorem law_count (S : CallFix p m c cL_law 4 s #[Value.ref b] wsL_law RL) (hX : va_X b L xs s s.heap) (hbl : b < s.heap.size) (hbA : ¬ A b) (hXs : y_X A s) (hL : L < 2 ^ 31) (hcs : cells ≤ room_1.cells ∧ slots ≤ room_1.slots) (hi : i + 4 ≤ L) (hw : y_W D cI cC cL A s H locs (cWd cI cC cL Q Z ++ cMd cI q u)) (hR : RR Z u) (hl : lv_has ls 4 [(0, .ref b), (1, .ref (Q 8 0)), (2, .ref (q 0)), (3, .int (nI i))])
    (next : ∀ (H : Heap) (locs : List Loc) (Z : Nat → U) (u : U), y_W D cI cC cL A s H locs (cWd cI cC cL Q Z ++ cMd cI q u) → RR Z u → W p l e room_1 s m #[Value.ref b] below meth c H locs cells slots QQ (F0 m 635 ls [])) : W p l e room_1 s m #[Value.ref b] below meth c H locs cells slots QQ (F0 m 527 ls []) := by
  obtain ⟨n, h, r, fi, k, L2, R⟩ := hR
  obtain ⟨f4, k4, ef, ek, em, -⟩ := R.hi
  obtain ⟨n2, n10, nv, nf⟩ := LRel_n R.ln
  obtain ⟨t60, -, tv, tm⟩ := R.tx
  have hv := LRel_lOk (B := 999) R.ln R.hh
  have hmo := LRel_mOk (B := 999) R.ln R.hh
  have eh := (LRel_h R.ln).1
  have hh := R.hh
  have hop := (⟨op_count (x := (xs (i + 1))) R, RR_self R⟩ : _ ∧ _)
  refine lv_aload_n S.1 S.2.1 dL_law_527 rfl (lv_at hl 1 rfl) ?_
  refine ly_arg (j := 1) S hX hbl hbA hw (lv_at hl 0 rfl) (lv_at hl 3 rfl) (by omega) hL (by decide) dL_law_528 dL_law_529 dL_law_530 dL_law_531 dL_law_532 ?_
  refine ly_cl (As := [.int (xs (i + 1))]) (rest := []) (Z' := Z) S hw hl.1 (c_X5_count l D cI cC cL Q Z (xs (i + 1))) rfl (cwV 1 S.2.2.2.2 gL_law_X5_count rfl rfl rfl (by decide +kernel) ⟨Nat.le_of_ble_eq_true rfl, Nat.le_of_ble_eq_true rfl⟩) rfl (Nat.le_of_ble_eq_true rfl) dL_law_533 rfl hcs (fun H locs r1 er1 hw => ?_)
  refine lv_aload_n S.1 S.2.1 dL_law_536 rfl (lv_at hl 2 rfl) ?_
  refine ly_arg (j := 1) S hX hbl hbA hw (lv_at hl 0 rfl) (lv_at hl 3 rfl) (by omega) hL (by decide) dL_law_537 dL_law_538 dL_law_539 dL_law_540 dL_law_541 ?_
  refine ly_md (As := [.int (xs (i + 1))]) (rest := [.int r1]) (u' := u) S hw hl.1 (c_X6_count l D cI cC cL q u (xs (i + 1))) rfl (cwV 1 S.2.2.2.2 gL_law_X6_count rfl rfl rfl (by decide +kernel) ⟨Nat.le_of_ble_eq_true rfl, Nat.le_of_ble_eq_true rfl⟩) rfl (Nat.le_of_ble_eq_true rfl) dL_law_542 rfl hcs (fun H locs r2 er2 hw => ?_)
  refine lv_icmp_eq (tgt := 635) S.1 S.2.1 dL_law_545 (by decide) (fun _ => ?_) (fun c1 => ?_)
  · exact next _ _ _ _ hw hop.2
  · exact absurd (er1.trans (hop.1.trans er2.symm)) c1
theorem law_undo (S : CallFix p m c cL_law 4 s #[Value.ref b] wsL_law RL) (hX : va_X b L xs s s.heap) (hbl : b < s.heap.size) (hbA : ¬ A b) (hXs : y_X A s) (hL : L < 2 ^ 31) (hcs : cells ≤ room_1.cells ∧ slots ≤ room_1.slots) (hi : i + 4 ≤ L) (hw : y_W D cI cC cL A s H locs (cWd cI cC cL Q Z ++ cMd cI q u)) (hR : RR Z u) (hl : lv_has ls 4 [(0, .ref b), (1, .ref (Q 8 0)), (2, .ref (q 0)), (3, .int (nI i))])
    (next : ∀ (H : Heap) (locs : List Loc) (Z : Nat → U) (u : U), y_W D cI cC cL A s H locs (cWd cI cC cL Q Z ++ cMd cI q u) → RR Z u → W p l e room_1 s m #[Value.ref b] below meth c H locs cells slots QQ (F0 m 635 ls [])) : W p l e room_1 s m #[Value.ref b] below meth c H locs cells slots QQ (F0 m 550 ls []) := by
  obtain ⟨n, h, r, fi, k, L2, R⟩ := hR
  obtain ⟨f4, k4, ef, ek, em, -⟩ := R.hi
  obtain ⟨n2, n10, nv, nf⟩ := LRel_n R.ln
  obtain ⟨t60, -, tv, tm⟩ := R.tx
  have hv := LRel_lOk (B := 999) R.ln R.hh
  have hmo := LRel_mOk (B := 999) R.ln R.hh
  have eh := (LRel_h R.ln).1
  have hh := R.hh
  have hop := op_undo R
  refine lv_aload_n S.1 S.2.1 dL_law_550 rfl (lv_at hl 1 rfl) ?_
  refine ly_cl (As := []) (rest := []) (Z' := (jUndoU Z fi k)) S hw hl.1 (c_X5_undo l D cI cC cL Q Z fi k ef f4 ek k4) rfl (cwV 0 S.2.2.2.2 gL_law_X5_undo rfl rfl rfl (by decide +kernel) ⟨Nat.le_of_ble_eq_true rfl, Nat.le_of_ble_eq_true rfl⟩) rfl (Nat.le_of_ble_eq_true rfl) dL_law_551 rfl hcs (fun H locs r1 er1 hw => ?_)
  refine lv_aload_n S.1 S.2.1 dL_law_554 rfl (lv_at hl 2 rfl) ?_
  refine ly_md (As := []) (rest := [.int r1]) (u' := (mUndoU u k)) S hw hl.1 (c_X6_undo l D cI cC cL q u k em k4) rfl (cwV 0 S.2.2.2.2 gL_law_X6_undo rfl rfl rfl (by decide +kernel) ⟨Nat.le_of_ble_eq_true rfl, Nat.le_of_ble_eq_true rfl⟩) rfl (Nat.le_of_ble_eq_true rfl) dL_law_555 rfl hcs (fun H locs r2 er2 hw => ?_)
  refine lv_icmp_eq (tgt := 635) S.1 S.2.1 dL_law_558 (by decide) (fun _ => ?_) (fun c1 => ?_)
  · exact next _ _ _ _ hw hop.2
  · exact absurd (er1.trans (hop.1.trans er2.symm)) c1
theorem law_type (S : CallFix p m c cL_law 4 s #[Value.ref b] wsL_law RL) (hX : va_X b L xs s s.heap) (hbl : b < s.heap.size) (hbA : ¬ A b) (hXs : y_X A s) (hL : L < 2 ^ 31) (hcs : cells ≤ room_1.cells ∧ slots ≤ room_1.slots) (hi : i + 4 ≤ L) (hw : y_W D cI cC cL A s H locs (cWd cI cC cL Q Z ++ cMd cI q u)) (hR : RR Z u) (hl : lv_has ls 4 [(0, .ref b), (1, .ref (Q 8 0)), (2, .ref (q 0)), (3, .int (nI i))])
    (next : ∀ (H : Heap) (locs : List Loc) (Z : Nat → U) (u : U), y_W D cI cC cL A s H locs (cWd cI cC cL Q Z ++ cMd cI q u) → RR Z u → W p l e room_1 s m #[Value.ref b] below meth c H locs cells slots QQ (F0 m 635 ls [])) : W p l e room_1 s m #[Value.ref b] below meth c H locs cells slots QQ (F0 m 563 ls []) := by
  obtain ⟨n, h, r, fi, k, L2, R⟩ := hR
  obtain ⟨f4, k4, ef, ek, em, -⟩ := R.hi
  obtain ⟨n2, n10, nv, nf⟩ := LRel_n R.ln
  obtain ⟨t60, -, tv, tm⟩ := R.tx
  have hv := LRel_lOk (B := 999) R.ln R.hh
  have hmo := LRel_mOk (B := 999) R.ln R.hh
  have eh := (LRel_h R.ln).1
  have hh := R.hh
  have hop := op_type (x := (xs (i + 1))) R
  refine lv_aload_n S.1 S.2.1 dL_law_563 rfl (lv_at hl 1 rfl) ?_
  refine ly_arg (j := 1) S hX hbl hbA hw (lv_at hl 0 rfl) (lv_at hl 3 rfl) (by omega) hL (by decide) dL_law_564 dL_law_565 dL_law_566 dL_law_567 dL_law_568 ?_
  refine ly_cl (As := [.int (xs (i + 1))]) (rest := []) (Z' := (jTypU Z (xs (i + 1)) L2)) S hw hl.1 (c_X5_type l D cI cC cL Q Z (xs (i + 1)) L2 tv t60) rfl (cwV 1 S.2.2.2.2 gL_law_X5_type rfl rfl rfl (by decide +kernel) ⟨Nat.le_of_ble_eq_true rfl, Nat.le_of_ble_eq_true rfl⟩) rfl (Nat.le_of_ble_eq_true rfl) dL_law_569 rfl hcs (fun H locs r1 er1 hw => ?_)
  refine lv_aload_n S.1 S.2.1 dL_law_572 rfl (lv_at hl 2 rfl) ?_
  refine ly_arg (j := 1) S hX hbl hbA hw (lv_at hl 0 rfl) (lv_at hl 3 rfl) (by omega) hL (by decide) dL_law_573 dL_law_574 dL_law_575 dL_law_576 dL_law_577 ?_
  refine ly_md (As := [.int (xs (i + 1))]) (rest := [.int r1]) (u' := (mTypeU u (xs (i + 1)) L2)) S hw hl.1 (c_X6_type l D cI cC cL q u (xs (i + 1)) L2 tm t60) rfl (cwV 1 S.2.2.2.2 gL_law_X6_type rfl rfl rfl (by decide +kernel) ⟨Nat.le_of_ble_eq_true rfl, Nat.le_of_ble_eq_true rfl⟩) rfl (Nat.le_of_ble_eq_true rfl) dL_law_578 rfl hcs (fun H locs r2 er2 hw => ?_)
  refine lv_icmp_eq (tgt := 635) S.1 S.2.1 dL_law_581 (by decide) (fun _ => ?_) (fun c1 => ?_)
  · exact next _ _ _ _ hw hop.2
  · exact absurd (er1.trans (hop.1.trans er2.symm)) c1
theorem law_clearText (S : CallFix p m c cL_law 4 s #[Value.ref b] wsL_law RL) (hX : va_X b L xs s s.heap) (hbl : b < s.heap.size) (hbA : ¬ A b) (hXs : y_X A s) (hL : L < 2 ^ 31) (hcs : cells ≤ room_1.cells ∧ slots ≤ room_1.slots) (hi : i + 4 ≤ L) (hw : y_W D cI cC cL A s H locs (cWd cI cC cL Q Z ++ cMd cI q u)) (hR : RR Z u) (hl : lv_has ls 4 [(0, .ref b), (1, .ref (Q 8 0)), (2, .ref (q 0)), (3, .int (nI i))])
    (next : ∀ (H : Heap) (locs : List Loc) (Z : Nat → U) (u : U), y_W D cI cC cL A s H locs (cWd cI cC cL Q Z ++ cMd cI q u) → RR Z u → W p l e room_1 s m #[Value.ref b] below meth c H locs cells slots QQ (F0 m 635 ls [])) : W p l e room_1 s m #[Value.ref b] below meth c H locs cells slots QQ (F0 m 586 ls []) := by
  obtain ⟨n, h, r, fi, k, L2, R⟩ := hR
  obtain ⟨f4, k4, ef, ek, em, -⟩ := R.hi
  obtain ⟨n2, n10, nv, nf⟩ := LRel_n R.ln
  obtain ⟨t60, -, tv, tm⟩ := R.tx
  have hv := LRel_lOk (B := 999) R.ln R.hh
  have hmo := LRel_mOk (B := 999) R.ln R.hh
  have eh := (LRel_h R.ln).1
  have hh := R.hh
  have hop := op_clear R
  refine lv_aload_n S.1 S.2.1 dL_law_586 rfl (lv_at hl 1 rfl) ?_
  refine ly_cl (As := []) (rest := []) (Z' := (va_up Z 6 (va_up (Z 6) 1 (fun _ => 0)))) S hw hl.1 (c_X5_clearText l D cI cC cL Q Z) rfl (cwV 0 S.2.2.2.2 gL_law_X5_clearText rfl rfl rfl (by decide +kernel) ⟨Nat.le_of_ble_eq_true rfl, Nat.le_of_ble_eq_true rfl⟩) rfl (Nat.le_of_ble_eq_true rfl) dL_law_587 rfl hcs (fun H locs r1 er1 hw => ?_)
  refine lv_aload_n S.1 S.2.1 dL_law_590 rfl (lv_at hl 2 rfl) ?_
  refine ly_md (As := []) (rest := [.int r1]) (u' := (va_up u 5 (fun _ => 0))) S hw hl.1 (c_X6_clearText l D cI cC cL q u) rfl (cwV 0 S.2.2.2.2 gL_law_X6_clearText rfl rfl rfl (by decide +kernel) ⟨Nat.le_of_ble_eq_true rfl, Nat.le_of_ble_eq_true rfl⟩) rfl (Nat.le_of_ble_eq_true rfl) dL_law_591 rfl hcs (fun H locs r2 er2 hw => ?_)
  refine lv_icmp_eq (tgt := 635) S.1 S.2.1 dL_law_594 (by decide) (fun _ => ?_) (fun c1 => ?_)
  · exact next _ _ _ _ hw hop.2
  · exact absurd (er1.trans (hop.1.trans er2.symm)) c1
theorem law_fault (S : CallFix p m c cL_law 4 s #[Value.ref b] wsL_law RL) (hX : va_X b L xs s s.heap) (hbl : b < s.heap.size) (hbA : ¬ A b) (hXs : y_X A s) (hL : L < 2 ^ 31) (hcs : cells ≤ room_1.cells ∧ slots ≤ room_1.slots) (hi : i + 4 ≤ L) (hw : y_W D cI cC cL A s H locs (cWd cI cC cL Q Z ++ cMd cI q u)) (hR : RR Z u) (hl : lv_has ls 4 [(0, .ref b), (1, .ref (Q 8 0)), (2, .ref (q 0)), (3, .int (nI i))])
    (next : ∀ (H : Heap) (locs : List Loc) (Z : Nat → U) (u : U), y_W D cI cC cL A s H locs (cWd cI cC cL Q Z ++ cMd cI q u) → RR Z u → W p l e room_1 s m #[Value.ref b] below meth c H locs cells slots QQ (F0 m 635 ls [])) : W p l e room_1 s m #[Value.ref b] below meth c H locs cells slots QQ (F0 m 599 ls []) := by
  obtain ⟨n, h, r, fi, k, L2, R⟩ := hR
  obtain ⟨f4, k4, ef, ek, em, -⟩ := R.hi
  obtain ⟨n2, n10, nv, nf⟩ := LRel_n R.ln
  obtain ⟨t60, -, tv, tm⟩ := R.tx
  have hv := LRel_lOk (B := 999) R.ln R.hh
  have hmo := LRel_mOk (B := 999) R.ln R.hh
  have eh := (LRel_h R.ln).1
  have hh := R.hh
  have hop := op_fault (x := (xs (i + 1))) R
  refine lv_aload_n S.1 S.2.1 dL_law_599 rfl (lv_at hl 1 rfl) ?_
  refine ly_arg (j := 1) S hX hbl hbA hw (lv_at hl 0 rfl) (lv_at hl 3 rfl) (by omega) hL (by decide) dL_law_600 dL_law_601 dL_law_602 dL_law_603 dL_law_604 ?_
  refine ly_cl (As := [.int (xs (i + 1))]) (rest := []) (Z' := (jFltU Z (xs (i + 1)) L2)) S hw hl.1 (c_X5_fault l D cI cC cL Q Z (xs (i + 1)) L2 tv t60) rfl (cwV 1 S.2.2.2.2 gL_law_X5_fault rfl rfl rfl (by decide +kernel) ⟨Nat.le_of_ble_eq_true rfl, Nat.le_of_ble_eq_true rfl⟩) rfl (Nat.le_of_ble_eq_true rfl) dL_law_605 rfl hcs (fun H locs r1 er1 hw => ?_)
  refine lv_aload_n S.1 S.2.1 dL_law_608 rfl (lv_at hl 2 rfl) ?_
  refine ly_arg (j := 1) S hX hbl hbA hw (lv_at hl 0 rfl) (lv_at hl 3 rfl) (by omega) hL (by decide) dL_law_609 dL_law_610 dL_law_611 dL_law_612 dL_law_613 ?_
  refine ly_md (As := [.int (xs (i + 1))]) (rest := [.int r1]) (u' := (mFaultU u (xs (i + 1)) L2)) S hw hl.1 (c_X6_fault l D cI cC cL q u (xs (i + 1)) L2 tm t60) rfl (cwV 1 S.2.2.2.2 gL_law_X6_fault rfl rfl rfl (by decide +kernel) ⟨Nat.le_of_ble_eq_true rfl, Nat.le_of_ble_eq_true rfl⟩) rfl (Nat.le_of_ble_eq_true rfl) dL_law_614 rfl hcs (fun H locs r2 er2 hw => ?_)
  refine lv_icmp_eq (tgt := 635) S.1 S.2.1 dL_law_617 (by decide) (fun _ => ?_) (fun c1 => ?_)
  · exact next _ _ _ _ hw hop.2
  · exact absurd (er1.trans (hop.1.trans er2.symm)) c1
theorem law_play (S : CallFix p m c cL_law 4 s #[Value.ref b] wsL_law RL) (hX : va_X b L xs s s.heap) (hbl : b < s.heap.size) (hbA : ¬ A b) (hXs : y_X A s) (hL : L < 2 ^ 31) (hcs : cells ≤ room_1.cells ∧ slots ≤ room_1.slots) (hi : i + 4 ≤ L) (hw : y_W D cI cC cL A s H locs (cWd cI cC cL Q Z ++ cMd cI q u)) (hR : RR Z u) (hl : lv_has ls 4 [(0, .ref b), (1, .ref (Q 8 0)), (2, .ref (q 0)), (3, .int (nI i))])
    (next : ∀ (H : Heap) (locs : List Loc) (Z : Nat → U) (u : U), y_W D cI cC cL A s H locs (cWd cI cC cL Q Z ++ cMd cI q u) → RR Z u → W p l e room_1 s m #[Value.ref b] below meth c H locs cells slots QQ (F0 m 635 ls [])) : W p l e room_1 s m #[Value.ref b] below meth c H locs cells slots QQ (F0 m 622 ls []) := by
  obtain ⟨n, h, r, fi, k, L2, R⟩ := hR
  obtain ⟨f4, k4, ef, ek, em, -⟩ := R.hi
  obtain ⟨n2, n10, nv, nf⟩ := LRel_n R.ln
  obtain ⟨t60, -, tv, tm⟩ := R.tx
  have hv := LRel_lOk (B := 999) R.ln R.hh
  have hmo := LRel_mOk (B := 999) R.ln R.hh
  have eh := (LRel_h R.ln).1
  have hh := R.hh
  have hop := op_play R
  refine lv_aload_n S.1 S.2.1 dL_law_622 rfl (lv_at hl 1 rfl) ?_
  refine ly_cl (As := []) (rest := []) (Z' := (jPlayU Z L2 n fi k)) S hw hl.1 (c_X5_play l D cI cC cL Q Z n 999 hv n10 (by decide) fi k ef f4 ek k4 L2 tv t60) rfl (cwV 0 S.2.2.2.2 gL_law_X5_play rfl rfl rfl (by decide +kernel) ⟨Nat.le_of_ble_eq_true rfl, Nat.le_of_ble_eq_true rfl⟩) rfl (Nat.le_of_ble_eq_true rfl) dL_law_623 rfl hcs (fun H locs r1 er1 hw => ?_)
  refine lv_aload_n S.1 S.2.1 dL_law_626 rfl (lv_at hl 2 rfl) ?_
  refine ly_md (As := []) (rest := [.int r1]) (u' := (mPlayU u L2 n k)) S hw hl.1 (c_X6_play l D cI cC cL q u n 999 hmo n10 (by omega) (by decide) k em k4 L2 tm t60) rfl (cwV 0 S.2.2.2.2 gL_law_X6_play rfl rfl rfl (by decide +kernel) ⟨Nat.le_of_ble_eq_true rfl, Nat.le_of_ble_eq_true rfl⟩) rfl (Nat.le_of_ble_eq_true rfl) dL_law_627 rfl hcs (fun H locs r2 er2 hw => ?_)
  refine lv_icmp_eq (tgt := 635) S.1 S.2.1 dL_law_630 (by decide) (fun _ => ?_) (fun c1 => ?_)
  · exact next _ _ _ _ hw hop.2
  · exact absurd (er1.trans (hop.1.trans er2.symm)) c1
end YK
