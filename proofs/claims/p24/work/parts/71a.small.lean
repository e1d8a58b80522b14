/-! contracts of the law's own methods that make nothing anew -/
def qPart (v : Int32) (n : Nat) : Nat := (v &&& 2147483647).toNatClampNeg % n
theorem qPart_lt {v : Int32} {n : Nat} (h : 0 < n) : qPart v n < n := Nat.mod_lt _ h
theorem k_L_part_7 : Cond.constant RL 7 (2147483647) ∈ wsL_part := by decide +kernel
set_option maxHeartbeats 8000000 in
set_option maxRecDepth 100000 in
theorem c_L_part (l : Launch) (D : va_G) (cI cC cL : ClassId) (v : Int32) (n : Nat) (h0 : 0 < n) (hn : n < 2 ^ 31) : y_MI l yL_part wsL_part 0 0 D cI cC cL [.int v, .int (nI n)] [] (nI (qPart v n)) (fun _ : Unit => []) () := by
  refine y_startI (cc := cL_part) (maxL := 2) (ret := some .int) (by decide +kernel) rfl (Nat.le_of_ble_eq_true rfl) ⟨_, rfl, fun x _ => rfl⟩ (fun h => by cases h) ?_
  intro p e s mm args below meth c A QQ ls S hw ret hl
  have S : CallFix p mm c cL_part 2 s args wsL_part RL := S
  have hw : y_W D cI cC cL A s s.heap [] [] := hw
  have hl : lv_has ls 2 [(0, .int v), (1, .int (nI n))] := hl
  refine lv_iload_n S.1 S.2.1 dL_part_0 rfl (lv_at hl 0 rfl) ?_
  refine lv_ldc (v := 2147483647) S.1 S.2.1 S.2.2.2.1 (S.2.2.2.2 _ k_L_part_7) dL_part_1 ?_
  refine lv_iand S.1 S.2.1 dL_part_3 ?_
  refine lv_iload_n S.1 S.2.1 dL_part_4 rfl (lv_at hl 1 rfl) ?_
  obtain ⟨j, hj, ej⟩ := pk_andE v (m := 2147483647) 31 (by decide)
  refine lv_irem S.1 S.2.1 dL_part_5 (fun z => absurd ((nI_eq (a := n) (b := 0) (by omega) (by omega)).mp z) (by omega)) ?_
  refine y_top (y := nI (qPart v n)) (by unfold qPart; rw [ej, nI_clamp hj]; exact pk_rem hj h0 hn) ?_
  exact ret _ _ _ _ _ (by exact hw) rfl dL_part_6
theorem k_L_drawn_8 : Cond.constant RL 8 (2654435) ∈ wsL_drawn := by decide +kernel
set_option maxHeartbeats 8000000 in
set_option maxRecDepth 100000 in
theorem c_L_drawn (l : Launch) (D : va_G) (cI cC cL : ClassId) (b L i : Nat) (xs : Nat → Int32) (hL : L < 2 ^ 31) (hi : i < 2 ^ 31) : y_MIS l yL_drawn wsL_drawn 0 0 D cI cC cL [.ref b, .int (nI i)] b L xs := by
  refine y_startIS (cc := cL_drawn) (maxL := 2) (by decide +kernel) rfl (Nat.le_of_ble_eq_true rfl) ?_
  intro p e s mm args below meth c A QQ ls S hX hbl hbA hw ret hl
  have S : CallFix p mm c cL_drawn 2 s args wsL_drawn RL := S
  have hw : y_W D cI cC cL A s s.heap [] [] := hw
  have hl : lv_has ls 2 [(0, .ref b), (1, .int (nI i))] := hl
  refine lv_aload_n S.1 S.2.1 dL_drawn_0 rfl (lv_at hl 0 rfl) ?_
  refine va_slen S.1 S.2.1 hX hbl hbA hw.2.2.2.1 dL_drawn_1 ?_
  refine lv_if_ne (tgt := 15) S.1 S.2.1 dL_drawn_2 (by decide) (fun c1 => ?_) (fun c1 => ?_)
  · skip
    have hL0 : 0 < L := Nat.pos_of_ne_zero (fun z => c1 (by rw [z]; rfl))
    refine lv_aload_n S.1 S.2.1 dL_drawn_15 rfl (lv_at hl 0 rfl) ?_
    refine lv_iload_n S.1 S.2.1 dL_drawn_16 rfl (lv_at hl 1 rfl) ?_
    refine lv_aload_n S.1 S.2.1 dL_drawn_17 rfl (lv_at hl 0 rfl) ?_
    refine va_slen S.1 S.2.1 hX hbl hbA hw.2.2.2.1 dL_drawn_18 ?_
    refine lv_irem S.1 S.2.1 dL_drawn_19 c1 ?_
    refine y_top (y := nI (i % L)) (pk_rem hi hL0 hL) ?_
    refine va_sld S.1 S.2.1 hX hbl hbA hw.2.2.2.1 (vp_in_nI (Nat.mod_lt _ hL0) hL) dL_drawn_20 ?_
    refine lv_iload_n S.1 S.2.1 dL_drawn_21 rfl (lv_at hl 1 rfl) ?_
    refine lv_bipush (v := 7) S.1 S.2.1 dL_drawn_22 (by decide) ?_
    refine lv_irem S.1 S.2.1 dL_drawn_24 (by decide) ?_
    refine lv_ishr S.1 S.2.1 dL_drawn_25 ?_
    refine lv_iload_n S.1 S.2.1 dL_drawn_26 rfl (lv_at hl 1 rfl) ?_
    refine lv_aload_n S.1 S.2.1 dL_drawn_27 rfl (lv_at hl 0 rfl) ?_
    refine va_slen S.1 S.2.1 hX hbl hbA hw.2.2.2.1 dL_drawn_28 ?_
    refine lv_idiv S.1 S.2.1 dL_drawn_29 c1 ?_
    refine lv_bipush (v := 31) S.1 S.2.1 dL_drawn_30 (by decide) ?_
    refine lv_imul S.1 S.2.1 dL_drawn_32 ?_
    refine lv_ixor S.1 S.2.1 dL_drawn_33 ?_
    refine lv_iload_n S.1 S.2.1 dL_drawn_34 rfl (lv_at hl 1 rfl) ?_
    refine lv_ldc (v := 2654435) S.1 S.2.1 S.2.2.2.1 (S.2.2.2.2 _ k_L_drawn_8) dL_drawn_35 ?_
    refine lv_imul S.1 S.2.1 dL_drawn_37 ?_
    refine lv_ixor S.1 S.2.1 dL_drawn_38 ?_
    exact ret _ _ _ _ _ (by exact hw) dL_drawn_39
  · skip
    refine lv_sipush (v := 7919) S.1 S.2.1 dL_drawn_5 (by decide) ?_
    refine lv_iload_n S.1 S.2.1 dL_drawn_8 rfl (lv_at hl 1 rfl) ?_
    refine lv_imul S.1 S.2.1 dL_drawn_9 ?_
    refine lv_iconst (v := 3) S.1 S.2.1 dL_drawn_10 (by decide) ?_
    refine lv_iadd S.1 S.2.1 dL_drawn_11 ?_
    refine lv_goto (tgt := 39) S.1 S.2.1 dL_drawn_12 (by decide) ?_
    exact ret _ _ _ _ _ (by exact hw) dL_drawn_39
/-- the number that the law makes of all that can be seen of the line -/
def qSe (f : Nat → Int32) : Nat → Int64 → Int64
  | 0, h => h
  | j + 1, h => 31 * qSe f j h + (f j).toInt64
theorem qSe_0 (f : Nat → Int32) (h : Int64) : qSe f 0 h = h := rfl
theorem qSe_s (f : Nat → Int32) (j : Nat) (h : Int64) : qSe f (j + 1) h = 31 * qSe f j h + (f j).toInt64 := rfl
def qHh (u : U) : Nat := (u 11 0).toNatClampNeg
def qNn (u : U) : Nat := (u 0 0).toNatClampNeg
def qS1 (u : U) : Int64 := qSe (fun j => jCount (fun _ => u) (nI j)) 7 7
def qS2 (u : U) : Int64 := qSe (fun j => jCount (fun _ => u) (nI (20 + j))) 5 (qS1 u)
def qS3 (u : U) (n : Nat) : Int64 := qSe (fun j => jStO u (nI (j / 3)) (nI (j % 3))) (3 * n) (qS2 u)
def qS4 (u : U) (n : Nat) : Int64 := qSe (fun j => jAcc (fun _ => u) (nI j) n) 5 (qS3 u n)
def qS5 (u : U) (n : Nat) : Int64 := qSe (fun j => jPrO u (nI (j / 2)) (nI (j % 2)) 8 9) 6 (qS4 u n)
def qS6 (u : U) (n : Nat) : Int64 := qSe (fun j => jOuR u (nI (j / 5)) (nI (j % 5)) (qHh u) n) (5 * jKp (qHh u) n) (qS5 u n)
def qSeen (u : U) : Int64 := qS6 u (qNn u)
theorem jCount_0 (Z : Nat → U) : jCount Z 0 = Z 0 0 0 := by unfold jCount; rw [if_pos rfl]
theorem jCount_1 (Z : Nat → U) : jCount Z 1 = Z 0 11 0 := by unfold jCount; rw [if_neg (show ¬ (1 : Int32) = 0 by decide), if_pos rfl]
theorem jCount_2 (Z : Nat → U) : jCount Z 2 = jKept (Z 0) := by unfold jCount; rw [if_neg (show ¬ (2 : Int32) = 0 by decide), if_neg (show ¬ (2 : Int32) = 1 by decide), if_pos rfl]
theorem jCount_7 (Z : Nat → U) : jCount Z 7 = Z 7 1 0 := by unfold jCount; rw [if_neg (show ¬ (7 : Int32) = 0 by decide), if_neg (show ¬ (7 : Int32) = 1 by decide), if_neg (show ¬ (7 : Int32) = 2 by decide), if_neg (show ¬ (7 : Int32) = 3 by decide), if_neg (show ¬ (7 : Int32) = 4 by decide), if_neg (show ¬ (7 : Int32) = 5 by decide), if_neg (show ¬ (7 : Int32) = 6 by decide), if_pos rfl]
theorem jCount_l {Z Z2 : Nat → U} {x : Int32} (h : Z 0 = Z2 0) (h7 : ¬ x = 7) (h8 : ¬ x = 8) : jCount Z x = jCount Z2 x := by
  unfold jCount
  simp only [if_neg h7, if_neg h8, h]
theorem jCount_bad {Z : Nat → U} {x : Int32} (h0 : ¬ x = 0) (h1 : ¬ x = 1) (h2 : ¬ x = 2) (h3 : ¬ x = 3) (h4 : ¬ x = 4) (h5 : ¬ x = 5) (h6 : ¬ x = 6) (h7 : ¬ x = 7) (h8 : ¬ x = 8) (h : ¬ jOut x 20 24 = 0) : jCount Z x = -2000001 := by
  unfold jCount jSoC
  rw [if_neg h0, if_neg h1, if_neg h2, if_neg h3, if_neg h4, if_neg h5, if_neg h6, if_neg h7, if_neg h8, if_pos h]
theorem k_L_seen_11 : Cond.constantLong RL 11 (31) ∈ wsL_seen := by decide +kernel
theorem k_L_seen_9 : Cond.constantLong RL 9 (7) ∈ wsL_seen := by decide +kernel
set_option maxHeartbeats 8000000 in
set_option maxRecDepth 100000 in
theorem c_L_seen (l : Launch) (D : va_G) (cI cC cL : ClassId) (Q : Nat → Nat → Nat) (Z : Nat → U) (u w : U) (k : Nat) (g : Nat → U) (P : PW Z u w k g) (n B : Nat) (hv : lOk u n B) (h10 : n ≤ 10) (hB2 : B ≤ 2000) : y_ML l yL_seen wsL_seen 4 85 D cI cC cL [.ref (Q 8 0)] (cWd cI cC cL Q Z) (qSeen u) (fun _ : Unit => cWd cI cC cL Q Z) () := by
  refine y_startL (cc := cL_seen) (maxL := 4) (by decide) rfl (Nat.le_of_ble_eq_true rfl) ?_
  intro p e s mm args below meth c A QQ ls S hw ret hl
  have S : CallFix p mm c cL_seen 4 s args wsL_seen RL := S
  have hw : y_W D cI cC cL A s s.heap [] (cWd cI cC cL Q Z ++ []) := y_W_eq hw (List.append_nil _).symm
  have hl : lv_has ls 4 [(0, .ref (Q 8 0))] := hl
  obtain ⟨-, -, h0, r0, eh0, hh0, -, -⟩ := id hv
  have eq0 : qHh u = h0 := by unfold qHh; rw [eh0]; exact nI_clamp (by omega)
  have eh : u 11 0 = nI (qHh u) := by rw [eq0]; exact eh0
  have hhB : qHh u ≤ 2000 := by omega
  have hk16 := jKp_16 (qHh u) n
  have lp5 : ∀ (fuel i : Nat) (h : Int64) (H : Heap) (locs : List Loc) (ls : Array Slot), i ≤ (5 * jKp (qHh u) n) → (5 * jKp (qHh u) n) < i + fuel → h = qSe (fun j => jOuR u (nI (j / 5)) (nI (j % 5)) (qHh u) n) i (qS5 u n) → y_W D cI cC cL A s H locs (cWd cI cC cL Q Z ++ []) → lv_has ls 4 [(0, .ref (Q 8 0)), (1, .long h), (3, .int (nI i))] → W p l e (y_R 4 85) s mm args below meth c H locs 0 0 QQ (F0 mm 156 ls []) := by
    intro fuel
    induction fuel with
    | zero => intro i h H locs ls h1 h2; exact absurd h2 (by omega)
    | succ fuel ih =>
      intro i h H locs ls h1 h2 hh hw hl
      refine lv_iload_n S.1 S.2.1 dL_seen_156 rfl (lv_at hl 2 rfl) ?_
      refine lv_iconst (v := 5) S.1 S.2.1 dL_seen_157 (by decide) ?_
      refine lv_aload_n S.1 S.2.1 dL_seen_158 rfl (lv_at hl 0 rfl) ?_
      refine lv_iconst (v := 2) S.1 S.2.1 dL_seen_159 (by decide) ?_
      refine q_count  (rest := [.int 5, .int (nI i)]) S hw P hl.1 (cwV 1 S.2.2.2.2 gL_seen_X5_count rfl rfl rfl (by decide +kernel) ⟨Nat.le_of_ble_eq_true rfl, Nat.le_of_ble_eq_true rfl⟩) (Nat.le_of_ble_eq_true rfl) dL_seen_160 ⟨Nat.le_refl _, Nat.le_refl _⟩ (fun H locs hw => ?_)
      refine y_top (y := (nI (jKp (qHh u) n))) ((jCount_2 _).trans (jKept_n eh hv.1 (by omega) h10)) ?_
      refine lv_imul S.1 S.2.1 dL_seen_163 ?_
      refine y_top (y := (nI (5 * (jKp (qHh u) n)))) (by rw [show (5 : Int32) = nI 5 from rfl, pk_mul]) ?_
      refine lv_icmp_ge (tgt := 191) S.1 S.2.1 dL_seen_164 (by decide) (fun c1 => ?_) (fun c1 => ?_)
      · have hi : i = (5 * jKp (qHh u) n) := by have := (nI_leI (a := (5 * jKp (qHh u) n)) (b := i) (by omega) (by omega)).mp c1; omega
        subst hi
        refine lv_lload_n S.1 S.2.1 dL_seen_191 rfl (lv_at hl 1 rfl) ?_
        exact ret _ _ _ _ _ (y_W_eq hw (List.append_nil _)) (by unfold qSeen; rw [show qNn u = n from by unfold qNn; rw [hv.1]; exact nI_clamp (by omega)]; exact hh) dL_seen_192
      · have hi : i < (5 * jKp (qHh u) n) := by
          apply Decidable.byContradiction
          intro hn
          exact c1 ((nI_leI (a := (5 * jKp (qHh u) n)) (b := i) (by omega) (by omega)).mpr (by omega))
        refine lv_ldc2 (v := 31) S.1 S.2.1 S.2.2.2.1 (S.2.2.2.2 _ k_L_seen_11) dL_seen_167 ?_
        refine lv_lload_n S.1 S.2.1 dL_seen_170 rfl (lv_at hl 1 rfl) ?_
        refine lv_lmul S.1 S.2.1 dL_seen_171 ?_
        refine lv_aload_n S.1 S.2.1 dL_seen_172 rfl (lv_at hl 0 rfl) ?_
        refine lv_iload_n S.1 S.2.1 dL_seen_173 rfl (lv_at hl 2 rfl) ?_
        refine lv_iconst (v := 5) S.1 S.2.1 dL_seen_174 (by decide) ?_
        refine lv_idiv S.1 S.2.1 dL_seen_175 (by decide) ?_
        refine y_top (y := nI (i / 5)) (pk_div (d := 5) (by omega) (by decide) (by decide)) ?_
        refine lv_iload_n S.1 S.2.1 dL_seen_176 rfl (lv_at hl 2 rfl) ?_
        refine lv_iconst (v := 5) S.1 S.2.1 dL_seen_177 (by decide) ?_
        refine lv_irem S.1 S.2.1 dL_seen_178 (by decide) ?_
        refine y_top (y := nI (i % 5)) (pk_rem (d := 5) (by omega) (by decide) (by decide)) ?_
        refine q_outputOf hv h10 hB2 (rest := [.long (31 * h)]) S hw P hl.1 (cwV 2 S.2.2.2.2 gL_seen_X5_outputOf rfl rfl rfl (by decide +kernel) ⟨Nat.le_of_ble_eq_true rfl, Nat.le_of_ble_eq_true rfl⟩) (Nat.le_of_ble_eq_true rfl) dL_seen_179 ⟨Nat.le_refl _, Nat.le_refl _⟩ (fun H locs hw => ?_)
        refine lv_i2l (v := ((jOuR u (nI (i / 5)) (nI (i % 5)) (qHh u) n) : Int32).toInt64) S.1 S.2.1 dL_seen_182 rfl ?_
        refine lv_ladd S.1 S.2.1 dL_seen_183 ?_
        refine lv_lstore_n (lv' := [(1, .long ((31 * h) + (((jOuR u (nI (i / 5)) (nI (i % 5)) (qHh u) n) : Int32).toInt64))), (0, .ref (Q 8 0)), (3, .int (nI i))]) S.1 S.2.1 dL_seen_184 rfl hl (by decide) rfl (fun ls hl => ?_)
        refine lv_iinc (v := (nI (i + 1))) (lv' := [(3, .int (nI (i + 1))), (1, .long ((31 * h) + (((jOuR u (nI (i / 5)) (nI (i % 5)) (qHh u) n) : Int32).toInt64))), (0, .ref (Q 8 0))]) S.1 S.2.1 dL_seen_185 hl (k := 2) rfl (nI_1 _) (by decide) rfl (fun ls hl => ?_)
        refine lv_goto (tgt := 156) S.1 S.2.1 dL_seen_188 (by decide) ?_
        exact ih (i + 1) ((31 * h) + (((jOuR u (nI (i / 5)) (nI (i % 5)) (qHh u) n) : Int32).toInt64)) H locs ls (by omega) (by omega) (by rw [hh]; exact (qSe_s _ _ _).symm) hw (lv_sub hl [2, 1, 0] rfl)
  have lp4 : ∀ (fuel i : Nat) (h : Int64) (H : Heap) (locs : List Loc) (ls : Array Slot), i ≤ 6 → 6 < i + fuel → h = qSe (fun j => jPrO u (nI (j / 2)) (nI (j % 2)) 8 9) i (qS4 u n) → y_W D cI cC cL A s H locs (cWd cI cC cL Q Z ++ []) → lv_has ls 4 [(0, .ref (Q 8 0)), (1, .long h), (3, .int (nI i))] → W p l e (y_R 4 85) s mm args below meth c H locs 0 0 QQ (F0 mm 124 ls []) := by
    intro fuel
    induction fuel with
    | zero => intro i h H locs ls h1 h2; exact absurd h2 (by omega)
    | succ fuel ih =>
      intro i h H locs ls h1 h2 hh hw hl
      refine lv_iload_n S.1 S.2.1 dL_seen_124 rfl (lv_at hl 2 rfl) ?_
      refine lv_bipush (v := 6) S.1 S.2.1 dL_seen_125 (by decide) ?_
      refine lv_icmp_ge (tgt := 154) S.1 S.2.1 dL_seen_127 (by decide) (fun c1 => ?_) (fun c1 => ?_)
      · have hi : i = 6 := by have := (nI_leI (a := 6) (b := i) (by omega) (by omega)).mp c1; omega
        subst hi
        refine lv_iconst (v := 0) S.1 S.2.1 dL_seen_154 (by decide) ?_
        refine lv_istore_n (lv' := [(3, .int 0), (0, .ref (Q 8 0)), (1, .long h)]) S.1 S.2.1 dL_seen_155 rfl hl (by decide) rfl (fun ls hl => ?_)
        exact lp5 ((5 * jKp (qHh u) n) + 1) 0 h H locs ls (Nat.zero_le _) (by omega) (hh.trans (qSe_0 _ _).symm) hw (lv_sub hl [1, 2, 0] rfl)
      · have hi : i < 6 := by
          apply Decidable.byContradiction
          intro hn
          exact c1 ((nI_leI (a := 6) (b := i) (by omega) (by omega)).mpr (by omega))
        refine lv_ldc2 (v := 31) S.1 S.2.1 S.2.2.2.1 (S.2.2.2.2 _ k_L_seen_11) dL_seen_130 ?_
        refine lv_lload_n S.1 S.2.1 dL_seen_133 rfl (lv_at hl 1 rfl) ?_
        refine lv_lmul S.1 S.2.1 dL_seen_134 ?_
        refine lv_aload_n S.1 S.2.1 dL_seen_135 rfl (lv_at hl 0 rfl) ?_
        refine lv_iload_n S.1 S.2.1 dL_seen_136 rfl (lv_at hl 2 rfl) ?_
        refine lv_iconst (v := 2) S.1 S.2.1 dL_seen_137 (by decide) ?_
        refine lv_idiv S.1 S.2.1 dL_seen_138 (by decide) ?_
        refine y_top (y := nI (i / 2)) (pk_div (d := 2) (by omega) (by decide) (by decide)) ?_
        refine lv_iload_n S.1 S.2.1 dL_seen_139 rfl (lv_at hl 2 rfl) ?_
        refine lv_iconst (v := 2) S.1 S.2.1 dL_seen_140 (by decide) ?_
        refine lv_irem S.1 S.2.1 dL_seen_141 (by decide) ?_
        refine y_top (y := nI (i % 2)) (pk_rem (d := 2) (by omega) (by decide) (by decide)) ?_
        refine q_pairOf  (rest := [.long (31 * h)]) S hw P hl.1 (cwV 2 S.2.2.2.2 gL_seen_X5_pairOf rfl rfl rfl (by decide +kernel) ⟨Nat.le_of_ble_eq_true rfl, Nat.le_of_ble_eq_true rfl⟩) (Nat.le_of_ble_eq_true rfl) dL_seen_142 ⟨Nat.le_refl _, Nat.le_refl _⟩ (fun H locs hw => ?_)
        refine lv_i2l (v := ((jPrO u (nI (i / 2)) (nI (i % 2)) 8 9) : Int32).toInt64) S.1 S.2.1 dL_seen_145 rfl ?_
        refine lv_ladd S.1 S.2.1 dL_seen_146 ?_
        refine lv_lstore_n (lv' := [(1, .long ((31 * h) + (((jPrO u (nI (i / 2)) (nI (i % 2)) 8 9) : Int32).toInt64))), (0, .ref (Q 8 0)), (3, .int (nI i))]) S.1 S.2.1 dL_seen_147 rfl hl (by decide) rfl (fun ls hl => ?_)
        refine lv_iinc (v := (nI (i + 1))) (lv' := [(3, .int (nI (i + 1))), (1, .long ((31 * h) + (((jPrO u (nI (i / 2)) (nI (i % 2)) 8 9) : Int32).toInt64))), (0, .ref (Q 8 0))]) S.1 S.2.1 dL_seen_148 hl (k := 2) rfl (nI_1 _) (by decide) rfl (fun ls hl => ?_)
        refine lv_goto (tgt := 124) S.1 S.2.1 dL_seen_151 (by decide) ?_
        exact ih (i + 1) ((31 * h) + (((jPrO u (nI (i / 2)) (nI (i % 2)) 8 9) : Int32).toInt64)) H locs ls (by omega) (by omega) (by rw [hh]; exact (qSe_s _ _ _).symm) hw (lv_sub hl [2, 1, 0] rfl)
  have lp3 : ∀ (fuel i : Nat) (h : Int64) (H : Heap) (locs : List Loc) (ls : Array Slot), i ≤ 5 → 5 < i + fuel → h = qSe (fun j => jAcc (fun _ => u) (nI j) n) i (qS3 u n) → y_W D cI cC cL A s H locs (cWd cI cC cL Q Z ++ []) → lv_has ls 4 [(0, .ref (Q 8 0)), (1, .long h), (3, .int (nI i))] → W p l e (y_R 4 85) s mm args below meth c H locs 0 0 QQ (F0 mm 98 ls []) := by
    intro fuel
    induction fuel with
    | zero => intro i h H locs ls h1 h2; exact absurd h2 (by omega)
    | succ fuel ih =>
      intro i h H locs ls h1 h2 hh hw hl
      refine lv_iload_n S.1 S.2.1 dL_seen_98 rfl (lv_at hl 2 rfl) ?_
      refine lv_iconst (v := 5) S.1 S.2.1 dL_seen_99 (by decide) ?_
      refine lv_icmp_ge (tgt := 122) S.1 S.2.1 dL_seen_100 (by decide) (fun c1 => ?_) (fun c1 => ?_)
      · have hi : i = 5 := by have := (nI_leI (a := 5) (b := i) (by omega) (by omega)).mp c1; omega
        subst hi
        refine lv_iconst (v := 0) S.1 S.2.1 dL_seen_122 (by decide) ?_
        refine lv_istore_n (lv' := [(3, .int 0), (0, .ref (Q 8 0)), (1, .long h)]) S.1 S.2.1 dL_seen_123 rfl hl (by decide) rfl (fun ls hl => ?_)
        exact lp4 (6 + 1) 0 h H locs ls (Nat.zero_le _) (by omega) (hh.trans (qSe_0 _ _).symm) hw (lv_sub hl [1, 2, 0] rfl)
      · have hi : i < 5 := by
          apply Decidable.byContradiction
          intro hn
          exact c1 ((nI_leI (a := 5) (b := i) (by omega) (by omega)).mpr (by omega))
        refine lv_ldc2 (v := 31) S.1 S.2.1 S.2.2.2.1 (S.2.2.2.2 _ k_L_seen_11) dL_seen_103 ?_
        refine lv_lload_n S.1 S.2.1 dL_seen_106 rfl (lv_at hl 1 rfl) ?_
        refine lv_lmul S.1 S.2.1 dL_seen_107 ?_
        refine lv_aload_n S.1 S.2.1 dL_seen_108 rfl (lv_at hl 0 rfl) ?_
        refine lv_iload_n S.1 S.2.1 dL_seen_109 rfl (lv_at hl 2 rfl) ?_
        refine q_account hv h10 (rest := [.long (31 * h)]) S hw P hl.1 (cwV 1 S.2.2.2.2 gL_seen_X5_account rfl rfl rfl (by decide +kernel) ⟨Nat.le_of_ble_eq_true rfl, Nat.le_of_ble_eq_true rfl⟩) (Nat.le_of_ble_eq_true rfl) dL_seen_110 ⟨Nat.le_refl _, Nat.le_refl _⟩ (fun H locs hw => ?_)
        refine y_top (y := (jAcc (fun _ => u) (nI i) n)) (rfl) ?_
        refine lv_i2l (v := ((jAcc (fun _ => u) (nI i) n) : Int32).toInt64) S.1 S.2.1 dL_seen_113 rfl ?_
        refine lv_ladd S.1 S.2.1 dL_seen_114 ?_
        refine lv_lstore_n (lv' := [(1, .long ((31 * h) + (((jAcc (fun _ => u) (nI i) n) : Int32).toInt64))), (0, .ref (Q 8 0)), (3, .int (nI i))]) S.1 S.2.1 dL_seen_115 rfl hl (by decide) rfl (fun ls hl => ?_)
        refine lv_iinc (v := (nI (i + 1))) (lv' := [(3, .int (nI (i + 1))), (1, .long ((31 * h) + (((jAcc (fun _ => u) (nI i) n) : Int32).toInt64))), (0, .ref (Q 8 0))]) S.1 S.2.1 dL_seen_116 hl (k := 2) rfl (nI_1 _) (by decide) rfl (fun ls hl => ?_)
        refine lv_goto (tgt := 98) S.1 S.2.1 dL_seen_119 (by decide) ?_
        exact ih (i + 1) ((31 * h) + (((jAcc (fun _ => u) (nI i) n) : Int32).toInt64)) H locs ls (by omega) (by omega) (by rw [hh]; exact (qSe_s _ _ _).symm) hw (lv_sub hl [2, 1, 0] rfl)
  have lp2 : ∀ (fuel i : Nat) (h : Int64) (H : Heap) (locs : List Loc) (ls : Array Slot), i ≤ (3 * n) → (3 * n) < i + fuel → h = qSe (fun j => jStO u (nI (j / 3)) (nI (j % 3))) i (qS2 u) → y_W D cI cC cL A s H locs (cWd cI cC cL Q Z ++ []) → lv_has ls 4 [(0, .ref (Q 8 0)), (1, .long h), (3, .int (nI i))] → W p l e (y_R 4 85) s mm args below meth c H locs 0 0 QQ (F0 mm 61 ls []) := by
    intro fuel
    induction fuel with
    | zero => intro i h H locs ls h1 h2; exact absurd h2 (by omega)
    | succ fuel ih =>
      intro i h H locs ls h1 h2 hh hw hl
      refine lv_iload_n S.1 S.2.1 dL_seen_61 rfl (lv_at hl 2 rfl) ?_
      refine lv_iconst (v := 3) S.1 S.2.1 dL_seen_62 (by decide) ?_
      refine lv_aload_n S.1 S.2.1 dL_seen_63 rfl (lv_at hl 0 rfl) ?_
      refine lv_iconst (v := 0) S.1 S.2.1 dL_seen_64 (by decide) ?_
      refine q_count  (rest := [.int 3, .int (nI i)]) S hw P hl.1 (cwV 1 S.2.2.2.2 gL_seen_X5_count rfl rfl rfl (by decide +kernel) ⟨Nat.le_of_ble_eq_true rfl, Nat.le_of_ble_eq_true rfl⟩) (Nat.le_of_ble_eq_true rfl) dL_seen_65 ⟨Nat.le_refl _, Nat.le_refl _⟩ (fun H locs hw => ?_)
      refine y_top (y := (nI n)) ((jCount_0 _).trans hv.1) ?_
      refine lv_imul S.1 S.2.1 dL_seen_68 ?_
      refine y_top (y := (nI (3 * n))) (by rw [show (3 : Int32) = nI 3 from rfl, pk_mul]) ?_
      refine lv_icmp_ge (tgt := 96) S.1 S.2.1 dL_seen_69 (by decide) (fun c1 => ?_) (fun c1 => ?_)
      · have hi : i = (3 * n) := by have := (nI_leI (a := (3 * n)) (b := i) (by omega) (by omega)).mp c1; omega
        subst hi
        refine lv_iconst (v := 0) S.1 S.2.1 dL_seen_96 (by decide) ?_
        refine lv_istore_n (lv' := [(3, .int 0), (0, .ref (Q 8 0)), (1, .long h)]) S.1 S.2.1 dL_seen_97 rfl hl (by decide) rfl (fun ls hl => ?_)
        exact lp3 (5 + 1) 0 h H locs ls (Nat.zero_le _) (by omega) (hh.trans (qSe_0 _ _).symm) hw (lv_sub hl [1, 2, 0] rfl)
      · have hi : i < (3 * n) := by
          apply Decidable.byContradiction
          intro hn
          exact c1 ((nI_leI (a := (3 * n)) (b := i) (by omega) (by omega)).mpr (by omega))
        refine lv_ldc2 (v := 31) S.1 S.2.1 S.2.2.2.1 (S.2.2.2.2 _ k_L_seen_11) dL_seen_72 ?_
        refine lv_lload_n S.1 S.2.1 dL_seen_75 rfl (lv_at hl 1 rfl) ?_
        refine lv_lmul S.1 S.2.1 dL_seen_76 ?_
        refine lv_aload_n S.1 S.2.1 dL_seen_77 rfl (lv_at hl 0 rfl) ?_
        refine lv_iload_n S.1 S.2.1 dL_seen_78 rfl (lv_at hl 2 rfl) ?_
        refine lv_iconst (v := 3) S.1 S.2.1 dL_seen_79 (by decide) ?_
        refine lv_idiv S.1 S.2.1 dL_seen_80 (by decide) ?_
        refine y_top (y := nI (i / 3)) (pk_div (d := 3) (by omega) (by decide) (by decide)) ?_
        refine lv_iload_n S.1 S.2.1 dL_seen_81 rfl (lv_at hl 2 rfl) ?_
        refine lv_iconst (v := 3) S.1 S.2.1 dL_seen_82 (by decide) ?_
        refine lv_irem S.1 S.2.1 dL_seen_83 (by decide) ?_
        refine y_top (y := nI (i % 3)) (pk_rem (d := 3) (by omega) (by decide) (by decide)) ?_
        refine q_stageOf hv h10 (rest := [.long (31 * h)]) S hw P hl.1 (cwV 2 S.2.2.2.2 gL_seen_X5_stageOf rfl rfl rfl (by decide +kernel) ⟨Nat.le_of_ble_eq_true rfl, Nat.le_of_ble_eq_true rfl⟩) (Nat.le_of_ble_eq_true rfl) dL_seen_84 ⟨Nat.le_refl _, Nat.le_refl _⟩ (fun H locs hw => ?_)
        refine lv_i2l (v := ((jStO u (nI (i / 3)) (nI (i % 3))) : Int32).toInt64) S.1 S.2.1 dL_seen_87 rfl ?_
        refine lv_ladd S.1 S.2.1 dL_seen_88 ?_
        refine lv_lstore_n (lv' := [(1, .long ((31 * h) + (((jStO u (nI (i / 3)) (nI (i % 3))) : Int32).toInt64))), (0, .ref (Q 8 0)), (3, .int (nI i))]) S.1 S.2.1 dL_seen_89 rfl hl (by decide) rfl (fun ls hl => ?_)
        refine lv_iinc (v := (nI (i + 1))) (lv' := [(3, .int (nI (i + 1))), (1, .long ((31 * h) + (((jStO u (nI (i / 3)) (nI (i % 3))) : Int32).toInt64))), (0, .ref (Q 8 0))]) S.1 S.2.1 dL_seen_90 hl (k := 2) rfl (nI_1 _) (by decide) rfl (fun ls hl => ?_)
        refine lv_goto (tgt := 61) S.1 S.2.1 dL_seen_93 (by decide) ?_
        exact ih (i + 1) ((31 * h) + (((jStO u (nI (i / 3)) (nI (i % 3))) : Int32).toInt64)) H locs ls (by omega) (by omega) (by rw [hh]; exact (qSe_s _ _ _).symm) hw (lv_sub hl [2, 1, 0] rfl)
  have lp1 : ∀ (fuel i : Nat) (h : Int64) (H : Heap) (locs : List Loc) (ls : Array Slot), i ≤ 5 → 5 < i + fuel → h = qSe (fun j => jCount (fun _ => u) (nI (20 + j))) i (qS1 u) → y_W D cI cC cL A s H locs (cWd cI cC cL Q Z ++ []) → lv_has ls 4 [(0, .ref (Q 8 0)), (1, .long h), (3, .int (nI (20 + i)))] → W p l e (y_R 4 85) s mm args below meth c H locs 0 0 QQ (F0 mm 34 ls []) := by
    intro fuel
    induction fuel with
    | zero => intro i h H locs ls h1 h2; exact absurd h2 (by omega)
    | succ fuel ih =>
      intro i h H locs ls h1 h2 hh hw hl
      refine lv_iload_n S.1 S.2.1 dL_seen_34 rfl (lv_at hl 2 rfl) ?_
      refine lv_bipush (v := 25) S.1 S.2.1 dL_seen_35 (by decide) ?_
      refine lv_icmp_ge (tgt := 59) S.1 S.2.1 dL_seen_37 (by decide) (fun c1 => ?_) (fun c1 => ?_)
      · have hi : i = 5 := by have := (nI_leI (a := 25) (b := 20 + i) (by omega) (by omega)).mp c1; omega
        subst hi
        refine lv_iconst (v := 0) S.1 S.2.1 dL_seen_59 (by decide) ?_
        refine lv_istore_n (lv' := [(3, .int 0), (0, .ref (Q 8 0)), (1, .long h)]) S.1 S.2.1 dL_seen_60 rfl hl (by decide) rfl (fun ls hl => ?_)
        exact lp2 ((3 * n) + 1) 0 h H locs ls (Nat.zero_le _) (by omega) (hh.trans (qSe_0 _ _).symm) hw (lv_sub hl [1, 2, 0] rfl)
      · have hi : i < 5 := by
          apply Decidable.byContradiction
          intro hn
          exact c1 ((nI_leI (a := 25) (b := 20 + i) (by omega) (by omega)).mpr (by omega))
        refine lv_ldc2 (v := 31) S.1 S.2.1 S.2.2.2.1 (S.2.2.2.2 _ k_L_seen_11) dL_seen_40 ?_
        refine lv_lload_n S.1 S.2.1 dL_seen_43 rfl (lv_at hl 1 rfl) ?_
        refine lv_lmul S.1 S.2.1 dL_seen_44 ?_
        refine lv_aload_n S.1 S.2.1 dL_seen_45 rfl (lv_at hl 0 rfl) ?_
        refine lv_iload_n S.1 S.2.1 dL_seen_46 rfl (lv_at hl 2 rfl) ?_
        refine q_count  (rest := [.long (31 * h)]) S hw P hl.1 (cwV 1 S.2.2.2.2 gL_seen_X5_count rfl rfl rfl (by decide +kernel) ⟨Nat.le_of_ble_eq_true rfl, Nat.le_of_ble_eq_true rfl⟩) (Nat.le_of_ble_eq_true rfl) dL_seen_47 ⟨Nat.le_refl _, Nat.le_refl _⟩ (fun H locs hw => ?_)
        refine y_top (y := (jCount (fun _ => u) (nI (20 + i)))) (jCount_l rfl (fun z => absurd ((nI_eq (a := 20 + i) (b := 7) (by omega) (by omega)).mp z) (by omega)) (fun z => absurd ((nI_eq (a := 20 + i) (b := 8) (by omega) (by omega)).mp z) (by omega))) ?_
        refine lv_i2l (v := ((jCount (fun _ => u) (nI (20 + i))) : Int32).toInt64) S.1 S.2.1 dL_seen_50 rfl ?_
        refine lv_ladd S.1 S.2.1 dL_seen_51 ?_
        refine lv_lstore_n (lv' := [(1, .long ((31 * h) + (((jCount (fun _ => u) (nI (20 + i))) : Int32).toInt64))), (0, .ref (Q 8 0)), (3, .int (nI (20 + i)))]) S.1 S.2.1 dL_seen_52 rfl hl (by decide) rfl (fun ls hl => ?_)
        refine lv_iinc (v := (nI (20 + i + 1))) (lv' := [(3, .int (nI (20 + i + 1))), (1, .long ((31 * h) + (((jCount (fun _ => u) (nI (20 + i))) : Int32).toInt64))), (0, .ref (Q 8 0))]) S.1 S.2.1 dL_seen_53 hl (k := 2) rfl (nI_1 _) (by decide) rfl (fun ls hl => ?_)
        refine lv_goto (tgt := 34) S.1 S.2.1 dL_seen_56 (by decide) ?_
        exact ih (i + 1) ((31 * h) + (((jCount (fun _ => u) (nI (20 + i))) : Int32).toInt64)) H locs ls (by omega) (by omega) (by rw [hh]; exact (qSe_s _ _ _).symm) hw (lv_sub hl [2, 1, 0] rfl)
  have lp0 : ∀ (fuel i : Nat) (h : Int64) (H : Heap) (locs : List Loc) (ls : Array Slot), i ≤ 7 → 7 < i + fuel → h = qSe (fun j => jCount (fun _ => u) (nI j)) i (7 : Int64) → y_W D cI cC cL A s H locs (cWd cI cC cL Q Z ++ []) → lv_has ls 4 [(0, .ref (Q 8 0)), (1, .long h), (3, .int (nI i))] → W p l e (y_R 4 85) s mm args below meth c H locs 0 0 QQ (F0 mm 6 ls []) := by
    intro fuel
    induction fuel with
    | zero => intro i h H locs ls h1 h2; exact absurd h2 (by omega)
    | succ fuel ih =>
      intro i h H locs ls h1 h2 hh hw hl
      refine lv_iload_n S.1 S.2.1 dL_seen_6 rfl (lv_at hl 2 rfl) ?_
      refine lv_bipush (v := 7) S.1 S.2.1 dL_seen_7 (by decide) ?_
      refine lv_icmp_ge (tgt := 31) S.1 S.2.1 dL_seen_9 (by decide) (fun c1 => ?_) (fun c1 => ?_)
      · have hi : i = 7 := by have := (nI_leI (a := 7) (b := i) (by omega) (by omega)).mp c1; omega
        subst hi
        refine lv_bipush (v := 20) S.1 S.2.1 dL_seen_31 (by decide) ?_
        refine lv_istore_n (lv' := [(3, .int 20), (0, .ref (Q 8 0)), (1, .long h)]) S.1 S.2.1 dL_seen_33 rfl hl (by decide) rfl (fun ls hl => ?_)
        exact lp1 (5 + 1) 0 h H locs ls (Nat.zero_le _) (by omega) (hh.trans (qSe_0 _ _).symm) hw (lv_sub hl [1, 2, 0] rfl)
      · have hi : i < 7 := by
          apply Decidable.byContradiction
          intro hn
          exact c1 ((nI_leI (a := 7) (b := i) (by omega) (by omega)).mpr (by omega))
        refine lv_ldc2 (v := 31) S.1 S.2.1 S.2.2.2.1 (S.2.2.2.2 _ k_L_seen_11) dL_seen_12 ?_
        refine lv_lload_n S.1 S.2.1 dL_seen_15 rfl (lv_at hl 1 rfl) ?_
        refine lv_lmul S.1 S.2.1 dL_seen_16 ?_
        refine lv_aload_n S.1 S.2.1 dL_seen_17 rfl (lv_at hl 0 rfl) ?_
        refine lv_iload_n S.1 S.2.1 dL_seen_18 rfl (lv_at hl 2 rfl) ?_
        refine q_count  (rest := [.long (31 * h)]) S hw P hl.1 (cwV 1 S.2.2.2.2 gL_seen_X5_count rfl rfl rfl (by decide +kernel) ⟨Nat.le_of_ble_eq_true rfl, Nat.le_of_ble_eq_true rfl⟩) (Nat.le_of_ble_eq_true rfl) dL_seen_19 ⟨Nat.le_refl _, Nat.le_refl _⟩ (fun H locs hw => ?_)
        refine y_top (y := (jCount (fun _ => u) (nI i))) (jCount_l rfl (fun z => absurd ((nI_eq (a := i) (b := 7) (by omega) (by omega)).mp z) (by omega)) (fun z => absurd ((nI_eq (a := i) (b := 8) (by omega) (by omega)).mp z) (by omega))) ?_
        refine lv_i2l (v := ((jCount (fun _ => u) (nI i)) : Int32).toInt64) S.1 S.2.1 dL_seen_22 rfl ?_
        refine lv_ladd S.1 S.2.1 dL_seen_23 ?_
        refine lv_lstore_n (lv' := [(1, .long ((31 * h) + (((jCount (fun _ => u) (nI i)) : Int32).toInt64))), (0, .ref (Q 8 0)), (3, .int (nI i))]) S.1 S.2.1 dL_seen_24 rfl hl (by decide) rfl (fun ls hl => ?_)
        refine lv_iinc (v := (nI (i + 1))) (lv' := [(3, .int (nI (i + 1))), (1, .long ((31 * h) + (((jCount (fun _ => u) (nI i)) : Int32).toInt64))), (0, .ref (Q 8 0))]) S.1 S.2.1 dL_seen_25 hl (k := 2) rfl (nI_1 _) (by decide) rfl (fun ls hl => ?_)
        refine lv_goto (tgt := 6) S.1 S.2.1 dL_seen_28 (by decide) ?_
        exact ih (i + 1) ((31 * h) + (((jCount (fun _ => u) (nI i)) : Int32).toInt64)) H locs ls (by omega) (by omega) (by rw [hh]; exact (qSe_s _ _ _).symm) hw (lv_sub hl [2, 1, 0] rfl)
  refine lv_ldc2 (v := 7) S.1 S.2.1 S.2.2.2.1 (S.2.2.2.2 _ k_L_seen_9) dL_seen_0 ?_
  refine lv_lstore_n (lv' := [(1, .long 7), (0, .ref (Q 8 0))]) S.1 S.2.1 dL_seen_3 rfl hl (by decide) rfl (fun ls hl => ?_)
  refine lv_iconst (v := 0) S.1 S.2.1 dL_seen_4 (by decide) ?_
  refine lv_istore_n (lv' := [(3, .int 0), (1, .long 7), (0, .ref (Q 8 0))]) S.1 S.2.1 dL_seen_5 rfl hl (by decide) rfl (fun ls hl => ?_)
  exact lp0 8 0 7 _ _ ls (Nat.zero_le _) (by omega) (qSe_0 _ _).symm hw (lv_sub hl [2, 1, 0] rfl)
