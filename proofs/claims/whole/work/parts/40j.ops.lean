/-! the whole: what both hold, and the calls -/
def RRp (Z : Nat → U) (u : U) (n h r fi k L : Nat) : Prop := h ≤ 999 ∧ LRel (Z 0) (u 0) n h r ∧ HRel Z u fi k ∧ TRel (Z 6) u L
theorem RRp.hh {Z : Nat → U} {u : U} {n h r fi k L : Nat} (H : RRp Z u n h r fi k L) : h ≤ 999 := H.1
theorem RRp.ln {Z : Nat → U} {u : U} {n h r fi k L : Nat} (H : RRp Z u n h r fi k L) : LRel (Z 0) (u 0) n h r := H.2.1
theorem RRp.hi {Z : Nat → U} {u : U} {n h r fi k L : Nat} (H : RRp Z u n h r fi k L) : HRel Z u fi k := H.2.2.1
theorem RRp.tx {Z : Nat → U} {u : U} {n h r fi k L : Nat} (H : RRp Z u n h r fi k L) : TRel (Z 6) u L := H.2.2.2
def RR (Z : Nat → U) (u : U) : Prop := ∃ n h r fi k L, RRp Z u n h r fi k L
theorem LRel_n {v : U} {f : V1} {n h r : Nat} (hL : LRel v f n h r) : 2 ≤ n ∧ n ≤ 10 ∧ v 0 0 = nI n ∧ f 0 = nI n := ⟨hL.1.1.1, hL.1.1.2.1, hL.1.2.1.1, hL.1.2.1.2.1⟩
theorem LRel_lOk {v : U} {f : V1} {n h r B : Nat} (hL : LRel v f n h r) (hB : h ≤ B) : lOk v n B := ⟨(LRel_n hL).2.2.1, hL.1.2.2.2.2.2.2.2.2.1, h, r, (LRel_h hL).1, hB, hL.2.2.1, Nat.le_trans hL.2.1 hB⟩
theorem LRel_mOk {v : U} {f : V1} {n h r B : Nat} (hL : LRel v f n h r) (hB : h ≤ B) : mOk f n B := ⟨(LRel_n hL).2.2.2, hL.1.2.2.2.2.2.2.2.2.2.1, h, jKp h n, r % 3, r, (LRel_h hL).2, hB, hL.1.2.1.2.2.2.2, jKp_16 h n, hL.2.2.2.2, Nat.mod_lt _ (by decide), hL.2.2.2.1, Nat.le_trans hL.2.1 hB⟩
theorem LRel_kp {v : U} {f : V1} {n h r : Nat} (hL : LRel v f n h r) : f 4 = nI (jKp h n) := hL.1.2.1.2.2.2.2
theorem LRel_S {v : U} {f : V1} {n h r : Nat} (hL : LRel v f n h r) : SRel v f n := hL.1.2.2.2.1
theorem LRel_C {v : U} {f : V1} {n h r : Nat} (hL : LRel v f n h r) : CBd v n := hL.1.2.2.2.2.1
theorem LRel_P {v : U} {f : V1} {n h r : Nat} (hL : LRel v f n h r) : PRel v f := hL.1.2.2.2.2.2.2.1
theorem LRel_G {v : U} {f : V1} {n h r : Nat} (hL : LRel v f n h r) : GRel v f := hL.1.2.2.2.2.2.2.2.1
theorem LRel_A {v : U} {f : V1} {n h r : Nat} (hL : LRel v f n h r) : ARel v f := hL.1.2.2.1
theorem RR_same {Z Z' : Nat → U} {u u' : U} {n h r fi k L : Nat} (H : RRp Z u n h r fi k L) (hZ : ∀ j, j ≠ 5 → j ≠ 6 → Z' j = Z j) (h6 : ∀ q, q < 2 → Z' 6 q = Z 6 q) (hu : ∀ q, q < 6 → q ≠ 1 → u' q = u q) : RR Z' u' := by
  refine ⟨n, h, r, fi, k, L, H.hh, ?_, ?_, ?_⟩
  · rw [hZ 0 (by decide) (by decide), hu 0 (by decide) (by decide)]; exact H.ln
  · exact HRel_cong (fun j q1 q2 => hZ j (by omega) (by omega)) (hu 2 (by decide) (by decide)) (hu 3 (by decide) (by decide)) H.hi
  · obtain ⟨t1, t2, t3, t4⟩ := H.tx
    refine ⟨t1, ?_, ?_, ?_⟩
    · rw [h6 0 (by decide), hu 4 (by decide) (by decide)]; exact t2
    · rw [h6 1 (by decide)]; exact t3
    · rw [hu 5 (by decide) (by decide)]; exact t4
theorem RR_self {Z : Nat → U} {u : U} {n h r fi k L : Nat} (H : RRp Z u n h r fi k L) : RR Z u := ⟨n, h, r, fi, k, L, H⟩
theorem RR_chg {Z Z' : Nat → U} {u u' : U} {n h r fi k L n' h' r' : Nat} (H : RRp Z u n h r fi k L) (hh : h' ≤ 999) (hL : LRel (Z' 0) (u' 0) n' h' r') (hZ : ∀ j, j ≠ 0 → j ≠ 6 → Z' j = jKeep Z fi k j) (h6 : ∀ q, q < 2 → Z' 6 q = Z 6 q) (h2 : u' 2 = mRecP (u 2) (u 0) k) (h3 : u' 3 0 = nI (mRecK k)) (hu4 : u' 4 = u 4) (hu5 : u' 5 = u 5) : RR Z' u' := by
  obtain ⟨fi', k', g⟩ := HRel_keep (Z' := fun j => if j = 6 then jKeep Z fi k 6 else Z' j) (u' := u') H.hi H.ln (Nat.le_trans H.hh (Nat.le_refl _)) h2 h3 (fun j q => by
    by_cases e : j = 6
    · rw [if_pos e, e]
    · rw [if_neg e]; exact hZ j q e)
  refine ⟨n', h', r', fi', k', L, hh, hL, ?_, ?_⟩
  · exact HRel_cong (fun j q1 q2 => by rw [if_neg (show ¬ j = 6 by omega)]) rfl rfl g
  · obtain ⟨t1, t2, t3, t4⟩ := H.tx
    refine ⟨t1, ?_, ?_, ?_⟩
    · rw [h6 0 (by decide), hu4]; exact t2
    · rw [h6 1 (by decide)]; exact t3
    · rw [hu5]; exact t4
theorem jKeep_0 {Z : Nat → U} {fi k : Nat} : jKeep Z fi k 0 = Z 0 := jKeep_o (Or.inl rfl) (by decide)
theorem jKeep_6 {Z : Nat → U} {fi k : Nat} : jKeep Z fi k 6 = Z 6 := jKeep_o (Or.inr (by decide)) (by decide)
theorem va_upZ {Z : Nat → U} {k r : Nat} {w : U} (h : ¬ r = k) : va_up Z k w r = Z r := if_neg h
theorem op_undo {Z : Nat → U} {u : U} {n h r fi k L : Nat} (H : RRp Z u n h r fi k L) : jUndoR k = mUndoR k ∧ RR (jUndoU Z fi k) (mUndoU u k) := by
  unfold jUndoR mUndoR jUndoU mUndoU
  by_cases hk : k = 0
  · rw [if_pos hk, if_neg (not_not_intro hk), if_pos hk, if_neg (not_not_intro hk)]
    exact ⟨rfl, RR_self H⟩
  · rw [if_neg hk, if_pos hk, if_neg hk, if_pos hk]
    refine ⟨rfl, ?_⟩
    obtain ⟨g1, n', h', r', g2, g3⟩ := HRel_undo H.hi (by omega)
    obtain ⟨t1, t2, t3, t4⟩ := H.tx
    refine ⟨n', h', r', fi, k - 1, L, g2, g3, g1, t1, ?_, ?_, t4⟩
    · rw [jRest_o (by decide) (by decide)]; exact t2
    · rw [jRest_o (by decide) (by decide)]; exact t3
theorem op_begin {Z : Nat → U} {u : U} {x : Int32} {n h r fi k L : Nat} (H : RRp Z u n h r fi k L) : jBegR Z x = mBeginR u x ∧ RR (jBegU Z x fi k) (mBeginU u x n k) := by
  unfold jBegR mBeginR jBegU mBeginU
  rcases jm_oi (x := x) (y := 2) (z := 10) with ⟨o1, o2⟩ | ⟨o1, o2⟩
  · obtain ⟨a, ea, a1, a2⟩ := jOut_nat (a := 2) (b := 10) rfl rfl (by decide) (by decide) o1
    rw [o1, o2, if_neg (show ¬ ¬ (0 : Int32) = 0 by decide), if_neg (show ¬ (1 : Int32) = 0 by decide), if_neg (show ¬ ¬ (0 : Int32) = 0 by decide), if_neg (show ¬ (1 : Int32) = 0 by decide), ea, nI_clamp (by omega), jKeep_0]
    refine ⟨(LRel_h H.ln).1.trans (LRel_h H.ln).2.symm, RR_chg (h' := 0) (r' := 0) (n' := a) H (by decide) (LRel_beg H.ln a1 a2) (fun j q _ => va_upZ q) (fun q _ => ?_) rfl rfl rfl rfl⟩
    rw [va_upZ (by decide), jKeep_6]
  · rw [o1, o2, if_pos (show ¬ (1 : Int32) = 0 by decide), if_pos (show (0 : Int32) = 0 from rfl), if_pos (show ¬ (1 : Int32) = 0 by decide), if_pos (show (0 : Int32) = 0 from rfl)]
    exact ⟨rfl, RR_self H⟩
theorem op_stage {Z : Nat → U} {u : U} {x y z : Int32} {n h r fi k L : Nat} (H : RRp Z u n h r fi k L) : jStgR Z x y z = mStageR u x y z ∧ RR (jStgU Z x y z fi k) (mStageU u x y z k) := by
  obtain ⟨n2, n10, nv, nf⟩ := LRel_n H.ln
  unfold jStgR mStageR jStgU mStageU mStageOk
  rcases jm_has (x := x) nv (by omega) n10 with ⟨c1, c2⟩ | ⟨c1, c2⟩
  · obtain ⟨a, ea, a1⟩ := jHas_nat (x := x) nv n10 (by rw [c1]; decide)
    rw [c1, nf, ← nv, c2, if_neg (show ¬ (1 : Int32) = 0 by decide), if_neg (show ¬ (1 : Int32) = 0 by decide), if_neg (show ¬ (1 : Int32) = 0 by decide)]
    rcases jm_oi (x := y) (y := 0) (z := 300) with ⟨o1, o2⟩ | ⟨o1, o2⟩
    · obtain ⟨b, eb, -, b2⟩ := jOut_nat (a := 0) (b := 300) rfl rfl (by decide) (by decide) o1
      rw [o1, o2, if_neg (show ¬ ¬ (0 : Int32) = 0 by decide), if_neg (show ¬ (1 : Int32) = 0 by decide), if_neg (show ¬ ¬ (0 : Int32) = 0 by decide)]
      rcases jm_oi (x := z) (y := 0) (z := 300) with ⟨p1, p2⟩ | ⟨p1, p2⟩
      · obtain ⟨d, ed, -, d2⟩ := jOut_nat (a := 0) (b := 300) rfl rfl (by decide) (by decide) p1
        rw [p1, p2, if_neg (show ¬ ¬ (0 : Int32) = 0 by decide), if_neg (show ¬ (1 : Int32) = 0 by decide), if_neg (show ¬ ¬ (0 : Int32) = 0 by decide), if_neg (show ¬ (1 : Int32) = 0 by decide), ea, nI_clamp (by omega), eb, ed, jKeep_0]
        obtain ⟨-, s2, s3⟩ := LRel_S H.ln a a1
        refine ⟨by rw [s2, s3], RR_chg H H.hh (LRel_sh H.ln a1 b2 d2) (fun j q _ => va_upZ q) (fun q _ => ?_) rfl rfl rfl rfl⟩
        rw [va_upZ (by decide), jKeep_6]
      · rw [p1, p2, if_pos (show ¬ (1 : Int32) = 0 by decide), if_pos (show (0 : Int32) = 0 from rfl), if_pos (show ¬ (1 : Int32) = 0 by decide), if_pos (show (0 : Int32) = 0 from rfl)]
        exact ⟨rfl, RR_self H⟩
    · rw [o1, o2, if_pos (show ¬ (1 : Int32) = 0 by decide), if_pos (show (0 : Int32) = 0 from rfl), if_pos (show (0 : Int32) = 0 from rfl), if_pos (show ¬ (1 : Int32) = 0 by decide), if_pos (show (0 : Int32) = 0 from rfl)]
      exact ⟨rfl, RR_self H⟩
  · rw [c1, nf, ← nv, c2, if_pos (show (0 : Int32) = 0 from rfl), if_pos (show (0 : Int32) = 0 from rfl), if_pos (show (0 : Int32) = 0 from rfl), if_pos (show (0 : Int32) = 0 from rfl), if_pos (show (0 : Int32) = 0 from rfl)]
    exact ⟨rfl, RR_self H⟩
/-- the settings -/
theorem jm_set {x y : Int32} : (jOut x 0 4 = 1 ∧ mSetOk x y = 0) ∨ ∃ a, a < 5 ∧ x = nI a ∧ jOut x 0 4 = 0 ∧ ((jOut y (sLst a) (sMst a) = 1 ∧ mSetOk x y = 0) ∨ (jOut y (sLst a) (sMst a) = 0 ∧ mSetOk x y = 1 ∧ ∃ b, y = nI b ∧ (a = 0 → 1000 ≤ b ∧ b ≤ 100000) ∧ (a = 1 → b ≤ 12) ∧ (2 ≤ a → 1 ≤ b ∧ b ≤ 10000))) := by
  unfold mSetOk
  rcases jm_oi (x := x) (y := 0) (z := 4) with ⟨o1, o2⟩ | ⟨o1, o2⟩
  · right
    obtain ⟨a, ea, -, a2⟩ := jOut_nat (a := 0) (b := 4) rfl rfl (by decide) (by decide) o1
    refine ⟨a, by omega, ea, o1, ?_⟩
    by_cases h0 : a = 0
    · subst h0
      rw [ea, if_neg (show ¬ ¬ nI 0 = 0 by decide)]
      rcases jm_oi (x := y) (y := 1000) (z := 100000) with ⟨p1, p2⟩ | ⟨p1, p2⟩
      · obtain ⟨b, eb, b1, b2⟩ := jOut_nat (a := 1000) (b := 100000) rfl rfl (by decide) (by decide) p1
        exact Or.inr ⟨p1, p2, b, eb, fun _ => ⟨b1, b2⟩, fun q => by omega, fun q => by omega⟩
      · exact Or.inl ⟨p1, p2⟩
    · by_cases h1 : a = 1
      · subst h1
        rw [ea, if_pos (show ¬ nI 1 = 0 by decide), if_neg (show ¬ ¬ nI 1 = 1 by decide)]
        rcases jm_oi (x := y) (y := 0) (z := 12) with ⟨p1, p2⟩ | ⟨p1, p2⟩
        · obtain ⟨b, eb, b1, b2⟩ := jOut_nat (a := 0) (b := 12) rfl rfl (by decide) (by decide) p1
          exact Or.inr ⟨p1, p2, b, eb, fun q => by omega, fun _ => b2, fun q => by omega⟩
        · exact Or.inl ⟨p1, p2⟩
      · have e0 : ¬ x = 0 := by rw [ea]; exact nI_ne0 (by omega) (by omega)
        have e1 : ¬ x = 1 := by
          rw [ea]
          intro q
          exact h1 ((nI_eq (b := 1) (by omega) (by decide)).mp q)
        have e2 : mIn x 2 4 = 1 := by
          unfold mIn
          rw [ea, if_neg (show ¬ nI a < 2 from nI_nlt (a := a) (b := 2) (by omega) (by omega)), if_neg (show ¬ 4 < nI a from nI_nlt (a := 4) (b := a) (by omega) (by omega))]
        rw [if_pos e0, if_pos e1, e2, if_neg (show ¬ (1 : Int32) = 0 by decide)]
        have es : sLst a = 1 := by unfold sLst; rw [if_neg h0, if_neg h1]
        have em : sMst a = 10000 := by unfold sMst; rw [if_neg h0, if_neg h1]
        rw [es, em]
        rcases jm_oi (x := y) (y := 1) (z := 10000) with ⟨p1, p2⟩ | ⟨p1, p2⟩
        · obtain ⟨b, eb, b1, b2⟩ := jOut_nat (a := 1) (b := 10000) rfl rfl (by decide) (by decide) p1
          exact Or.inr ⟨p1, by rw [p2]; rfl, b, eb, fun q => by omega, fun q => by omega, fun _ => ⟨b1, b2⟩⟩
        · exact Or.inl ⟨p1, by rw [p2]; rfl⟩
  · left
    refine ⟨o1, ?_⟩
    have hb := mIn_bad o2
    have e0 : ¬ x = 0 := by intro q; rw [q] at o2; exact absurd o2 (by decide)
    have e1 : ¬ x = 1 := by intro q; rw [q] at o2; exact absurd o2 (by decide)
    have e2 : mIn x 2 4 = 0 := by
      rcases mIn_01 (v := x) (a := 2) (b := 4) with q | q
      · exact q
      · exfalso
        obtain ⟨k, ek, k1, k2⟩ := mIn_nat (m := 2) (n := 4) rfl rfl (by decide) (by decide) (show ¬ mIn x 2 4 = 0 by rw [q]; decide)
        have ht : x.toInt = k := by rw [ek]; exact nI_toInt (by omega)
        have h4 : (4 : Int32).toInt = 4 := by decide
        have h0 : (0 : Int32).toInt = 0 := by decide
        omega
    rw [if_pos e0, if_pos e1, e2, if_pos rfl]
theorem op_set {Z : Nat → U} {u : U} {x y : Int32} {n h r fi k L : Nat} (H : RRp Z u n h r fi k L) : jSetR Z x y = mSetR u x y ∧ RR (jSetU Z x y fi k) (mSetU u x y k) := by
  unfold jSetR mSetR jSetU mSetU
  rcases jm_set (x := x) (y := y) with ⟨c1, c2⟩ | ⟨a, a1, ea, c1, ⟨d1, d2⟩ | ⟨d1, d2, b, eb, b0, b1, b2⟩⟩
  · rw [c1, c2, if_pos (show ¬ (1 : Int32) = 0 by decide), if_pos (show (0 : Int32) = 0 from rfl), if_pos (show ¬ (1 : Int32) = 0 by decide), if_pos (show (0 : Int32) = 0 from rfl)]
    exact ⟨rfl, RR_self H⟩
  · have ec : x.toNatClampNeg = a := by rw [ea, nI_clamp (by omega)]
    rw [ec, c1, d1, d2, if_neg (show ¬ ¬ (0 : Int32) = 0 by decide), if_pos (show ¬ (1 : Int32) = 0 by decide), if_pos (show (0 : Int32) = 0 from rfl), if_neg (show ¬ ¬ (0 : Int32) = 0 by decide), if_pos (show ¬ (1 : Int32) = 0 by decide), if_pos (show (0 : Int32) = 0 from rfl)]
    exact ⟨rfl, RR_self H⟩
  · have ec : x.toNatClampNeg = a := by rw [ea, nI_clamp (by omega)]
    rw [ec, c1, d1, d2, if_neg (show ¬ ¬ (0 : Int32) = 0 by decide), if_neg (show ¬ ¬ (0 : Int32) = 0 by decide), if_neg (show ¬ (1 : Int32) = 0 by decide), if_neg (show ¬ ¬ (0 : Int32) = 0 by decide), if_neg (show ¬ ¬ (0 : Int32) = 0 by decide), if_neg (show ¬ (1 : Int32) = 0 by decide), jKeep_0, eb]
    obtain ⟨⟨c, -, -, g3, g4⟩, ⟨p, -, g5, g6⟩, gs⟩ := LRel_G H.ln
    refine ⟨?_, RR_chg H H.hh (LRel_set H.ln a1 b0 b1 b2) (fun j q _ => va_upZ q) (fun q _ => ?_) rfl rfl rfl rfl⟩
    · rcases (show a = 0 ∨ a = 1 ∨ 2 ≤ a by omega) with q | q | q
      · rw [q, g3]; exact g4.symm
      · rw [q, g5]; exact g6.symm
      · obtain ⟨w, -, -, w3, w4⟩ := gs (a - 2) (by omega)
        rw [show 2 + (a - 2) = a from by omega] at w3
        rw [show 7 + (a - 2) = 5 + a from by omega] at w4
        rw [w3, w4]
    · rw [va_upZ (by decide), jKeep_6]
theorem mIdl_r {u : U} {n r : Nat} (h0 : r ≠ 0) (h6 : r ≠ 6) (h7 : r ≠ 7) : ∀ i, mIdl u n i r = u r
  | 0 => rfl
  | i + 1 => by
    show mGv (mIdl u n i) 0 n r = _
    rw [mGv_r h0 h6 h7, mIdl_r h0 h6 h7 i]
theorem LRel_HB {v : U} {f : V1} {n h r i : Nat} (hL : LRel v f n h r) : jHB (v 11 0) (v 10 1) i = mHB (f 1) (f 6) i := by
  obtain ⟨-, ⟨p, p1, p2, p3⟩, -⟩ := LRel_G hL
  rw [HB_eq p2 p1, (LRel_h hL).1, (LRel_h hL).2, p2, p3]
theorem op_give {Z : Nat → U} {u : U} {x : Int32} {n h r fi k L : Nat} (H : RRp Z u n h r fi k L) : jGivR Z x n = mGiveR u x ∧ RR (jGivU Z x n fi k) (mGiveU u x n k) := by
  have hh := H.hh
  unfold jGivR mGiveR jGivU mGiveU
  rcases jm_oi (x := x) (y := 0) (z := 10000) with ⟨o1, o2⟩ | ⟨o1, o2⟩
  · obtain ⟨X, eX, -, X2⟩ := jOut_nat (a := 0) (b := 10000) rfl rfl (by decide) (by decide) o1
    rw [o1, o2, if_neg (show ¬ ¬ (0 : Int32) = 0 by decide), if_neg (show ¬ (1 : Int32) = 0 by decide), if_neg (show ¬ ¬ (0 : Int32) = 0 by decide), if_neg (show ¬ (1 : Int32) = 0 by decide)]
    unfold jTTR jTTU
    rw [← LRel_HB H.ln]
    obtain ⟨h', r', g1, g2, g3, g4, -⟩ := LRel_take (u := mSv u k) H.ln eX X2 (by omega)
    by_cases hc : jHB (Z 0 11 0) (Z 0 10 1) 1 ≤ 999
    · rw [if_pos hc, if_pos hc, if_pos hc, if_pos hc, jKeep_0]
      refine ⟨?_, RR_chg H ?_ g1 (fun j q _ => va_upZ q) (fun q _ => ?_) ?_ ?_ ?_ ?_⟩
      · show jTv (Z 0) x n 11 0 - Z 0 11 0 = _
        rw [(LRel_h g1).1, g2, (LRel_h H.ln).1, (LRel_h H.ln).2]
      · rw [← g2] at hc
        exact (nI_leI (b := 999) (by omega) (by decide)).mp hc
      · rw [va_upZ (by decide), jKeep_6]
      · rw [mGv_r (by decide) (by decide) (by decide)]; rfl
      · rw [mGv_r (by decide) (by decide) (by decide)]; rfl
      · rw [mGv_r (by decide) (by decide) (by decide)]; rfl
      · rw [mGv_r (by decide) (by decide) (by decide)]; rfl
    · rw [if_neg hc, if_neg hc, if_neg hc, if_neg hc]
      exact ⟨rfl, RR_self H⟩
  · rw [o1, o2, if_pos (show ¬ (1 : Int32) = 0 by decide), if_pos (show (0 : Int32) = 0 from rfl), if_pos (show ¬ (1 : Int32) = 0 by decide), if_pos (show (0 : Int32) = 0 from rfl)]
    exact ⟨rfl, RR_self H⟩
theorem op_idle {Z : Nat → U} {u : U} {x : Int32} {n h r fi k L : Nat} (H : RRp Z u n h r fi k L) : jIdlR Z x n = mIdleR u x ∧ RR (jIdlU Z x n fi k) (mIdleU u x n k) := by
  have hh := H.hh
  unfold jIdlR mIdleR jIdlU mIdleU
  rcases jm_oi (x := x) (y := 1) (z := 40) with ⟨o1, o2⟩ | ⟨o1, o2⟩
  · obtain ⟨X, eX, X1, X2⟩ := jOut_nat (a := 1) (b := 40) rfl rfl (by decide) (by decide) o1
    rw [o1, o2, if_neg (show ¬ ¬ (0 : Int32) = 0 by decide), if_neg (show ¬ (1 : Int32) = 0 by decide), if_neg (show ¬ ¬ (0 : Int32) = 0 by decide), if_neg (show ¬ (1 : Int32) = 0 by decide), eX, nI_clamp (by omega)]
    unfold jTTR jTTU
    rw [← LRel_HB H.ln]
    obtain ⟨h', r', g1, g2, g3, g4, -⟩ := LRel_idl (u := mSv u k) H.ln X (by omega)
    by_cases hc : jHB (Z 0 11 0) (Z 0 10 1) X ≤ 999
    · rw [if_pos hc, if_pos hc, if_pos hc, if_pos hc, jKeep_0]
      refine ⟨?_, RR_chg H ?_ g1 (fun j q _ => va_upZ q) (fun q _ => ?_) ?_ ?_ ?_ ?_⟩
      · rw [(LRel_h g1).1, g2, (LRel_h H.ln).1, (LRel_h H.ln).2]
      · rw [← g2] at hc
        exact (nI_leI (b := 999) (by omega) (by decide)).mp hc
      · rw [va_upZ (by decide), jKeep_6]
      · rw [mIdl_r (by decide) (by decide) (by decide)]; rfl
      · rw [mIdl_r (by decide) (by decide) (by decide)]; rfl
      · rw [mIdl_r (by decide) (by decide) (by decide)]; rfl
      · rw [mIdl_r (by decide) (by decide) (by decide)]; rfl
    · rw [if_neg hc, if_neg hc, if_neg hc, if_neg hc]
      exact ⟨rfl, RR_self H⟩
  · rw [o1, o2, if_pos (show ¬ (1 : Int32) = 0 by decide), if_pos (show (0 : Int32) = 0 from rfl), if_pos (show ¬ (1 : Int32) = 0 by decide), if_pos (show (0 : Int32) = 0 from rfl)]
    exact ⟨rfl, RR_self H⟩
