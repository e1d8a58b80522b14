/-! the text: scans and playing -/
theorem jm_oi {x y z : Int32} : (jOut x y z = 0 ∧ mIn x y z = 1) ∨ (jOut x y z = 1 ∧ mIn x y z = 0) := by
  unfold jOut mIn
  by_cases h : x < y
  · rw [if_pos h, if_pos h]; exact Or.inr ⟨rfl, rfl⟩
  · rw [if_neg h, if_neg h]
    by_cases h2 : x ≤ z
    · rw [if_pos h2, if_neg (fun q => absurd (y_ltI.mp q) (by have := y_leI.mp h2; omega))]; exact Or.inl ⟨rfl, rfl⟩
    · rw [if_neg h2, if_pos (y_ltI.mpr (by
        have : ¬ x.toInt ≤ z.toInt := fun q => h2 (y_leI.mpr q)
        omega))]; exact Or.inr ⟨rfl, rfl⟩
theorem jm_has {x v : Int32} {n : Nat} (hv : v = nI n) (h1 : 1 ≤ n) (h10 : n ≤ 10) : (jHas x v = 1 ∧ mIn x 0 (v - 1) = 1) ∨ (jHas x v = 0 ∧ mIn x 0 (v - 1) = 0) := by
  have e : v - 1 = nI (n - 1) := by rw [hv]; exact pk_sub h1
  have t1 : (nI n).toInt = n := nI_toInt (by omega)
  have t2 : (nI (n - 1)).toInt = ((n - 1 : Nat) : Int) := nI_toInt (by omega)
  unfold jHas mIn
  rw [e, hv]
  by_cases h : x < 0
  · rw [if_pos h, if_pos h]; exact Or.inr ⟨rfl, rfl⟩
  · rw [if_neg h, if_neg h]
    by_cases h2 : nI n ≤ x
    · have := y_leI.mp h2
      rw [if_pos h2, if_pos (y_ltI.mpr (by omega))]; exact Or.inr ⟨rfl, rfl⟩
    · have h3 : ¬ (nI n).toInt ≤ x.toInt := fun q => h2 (y_leI.mpr q)
      rw [if_neg h2, if_neg (fun q => absurd (y_ltI.mp q) (by omega))]; exact Or.inl ⟨rfl, rfl⟩
theorem mSg_m4 : ∀ k : Nat, k ≤ 60 → ¬ nI k = (-2000004 : Int32) := fun k hk z => by
  have := nI_pos' (n := k) (by omega)
  rw [z] at this
  exact absurd this (by decide)
theorem tBump_0 (w : U) : tBump w 0 = w 0 := rfl
theorem scan_eq {L n : Nat} {st : Int32} (hL : L ≤ 60) (hst : st = nI n) (h2 : 2 ≤ n) (h10 : n ≤ 10) : ∀ (k : Nat) (w u : U) (a : Nat), L ≤ a + k → a ≤ L → w 0 = u 4 → u 0 0 = nI n → ((tScan L st k w a).2 = -2000004 ∧ (mScan L (k + 1) u a).2 = -1) ∨ ∃ p, p ≤ 60 ∧ (tScan L st k w a).2 = nI p ∧ (mScan L (k + 1) u a).2 = nI p ∧ (tScan L st k w a).1 7 0 = (mScan L (k + 1) u a).1 9 0 ∧ pSame ((tScan L st k w a).1 8 0) ((mScan L (k + 1) u a).1 9 0) ((mScan L (k + 1) u a).1 10 0)
  | 0, w, u, a, hk, ha, hg, hn => by
    left
    rw [tScan, mScan, if_pos (by omega)]
    exact ⟨rfl, rfl⟩
  | k + 1, w, u, a, hk, ha, hg, hn => by
    rw [tScan, mScan]
    by_cases h1 : L ≤ a
    · left
      rw [if_pos h1, if_pos h1]
      exact ⟨rfl, rfl⟩
    · rw [if_neg h1, if_neg h1]
      rcases part_eq (L := L) (a := a) hg hn hst h2 h10 with ⟨q1, q2, q3, q4⟩ | ⟨q1, q2, q3, q4⟩
      · rw [if_neg (not_not_intro q1), if_pos (by rw [q2]; decide)]
        have hf := pForm_f (g := u 4) (L := L) (a := a) (w 6) (u 12)
        have hgt := pForm_gt q3
        have hle : (pForm (u 4) L a (u 12)).1 ≤ L := pForm_L ha
        rw [hg, hf.1]
        refine scan_eq hL hst h2 h10 k _ _ _ (by omega) hle ?_ ?_
        · rw [tBump_0, tPart_o w L a st 0 (by decide) (by decide) (by decide) (by decide) (by decide), mRd_o u L a 4 (by decide) (by decide) (by decide) (by decide) (by decide)]
          exact hg
        · rw [mRd_0]; exact hn
      · right
        rw [if_pos q1, if_neg (by rw [q2]; decide)]
        exact ⟨a, by omega, rfl, rfl, q3, q4⟩
def TRel (w u : U) (L : Nat) : Prop := L ≤ 60 ∧ w 0 = u 4 ∧ w 1 0 = nI L ∧ u 5 0 = nI L
theorem scan_eq0 {w u : U} {L n : Nat} {st : Int32} (hT : TRel w u L) (hst : st = nI n) (hn : u 0 0 = nI n) (h2 : 2 ≤ n) (h10 : n ≤ 10) : ((jScn w L st).2 = -2000004 ∧ mScR u L = -1) ∨ ∃ p, p ≤ 60 ∧ (jScn w L st).2 = nI p ∧ mScR u L = nI p ∧ (jScn w L st).1 7 0 = mScU u L 9 0 ∧ pSame ((jScn w L st).1 8 0) (mScU u L 9 0) (mScU u L 10 0) :=
  scan_eq hT.1 hst h2 h10 60 (va_up (va_up w 2 (fun _ => 0)) 3 (fun _ => 0)) (va_up u 8 (fun _ => 0)) 0 (by have := hT.1; omega) (Nat.zero_le _) hT.2.1 hn
theorem flt_eq {Z : Nat → U} {u : U} {x : Int32} {L n : Nat} (hT : TRel (Z 6) u L) (hst : Z 0 0 0 = nI n) (hn : u 0 0 = nI n) (h2 : 2 ≤ n) (h10 : n ≤ 10) : jFltR Z x L = mFaultR u x L := by
  show _ = if mIn x 0 2 = 0 then -2000001 else if ¬ mScR u L = -1 then (if ¬ x = 0 then (if ¬ x = 1 then (if ¬ mScU u L 9 0 = 2 then mScU u L 10 0 else -2000004) else mScU u L 9 0) else mScR u L) else -2000004
  unfold jFltR
  rcases jm_oi (x := x) (y := 0) (z := 2) with ⟨o1, o2⟩ | ⟨o1, o2⟩
  · rw [o1, o2, if_neg (show ¬ ¬ (0 : Int32) = 0 by decide), if_neg (show ¬ (1 : Int32) = 0 by decide)]
    rcases scan_eq0 (L := L) hT hst hn h2 h10 with ⟨s1, s2⟩ | ⟨p, p1, s1, s2, s3, s4⟩
    · rw [s1, s2, if_neg (not_not_intro (Eq.refl (-2000004 : Int32))), if_neg (not_not_intro (Eq.refl (-1 : Int32)))]
    · rw [s1, s2, if_pos (mSg_m4 p p1), if_pos (nI_m1 (by omega))]
      by_cases x0 : x = 0
      · rw [if_neg (not_not_intro x0), if_neg (not_not_intro x0)]
      · rw [if_pos x0, if_pos x0]
        by_cases x1 : x = 1
        · rw [if_neg (not_not_intro x1), if_neg (not_not_intro x1), s3]
        · rw [if_pos x1, if_pos x1]
          by_cases h9 : mScU u L 9 0 = 2
          · rw [if_neg (not_not_intro h9)]
            exact s4.1 h9
          · rw [if_pos h9]
            exact s4.2 h9
  · rw [o1, o2, if_pos (show ¬ (1 : Int32) = 0 by decide), if_pos (show (0 : Int32) = 0 from rfl)]
theorem mScU_o {u : U} {L r : Nat} (h8 : r ≠ 8) (h9 : r ≠ 9) (h10 : r ≠ 10) (h11 : r ≠ 11) (h12 : r ≠ 12) : mScU u L r = u r := by
  unfold mScU
  rw [mScan_o L 61 _ 0 r h8 h9 h10 h11 h12, va_upo h8]
/-- hand-overs of many samples -/
theorem jHB_1a {x p : Int32} : ∀ b, jHB x p (1 + b) = jHB (jHB x p 1) p b
  | 0 => rfl
  | b + 1 => by
    rw [show 1 + (b + 1) = (1 + b) + 1 from by omega, jHB, jHB_1a b]
    rfl
theorem pCn_0a {g : V1} {x : Int32} {L a : Nat} (h : L ≤ a) : pCn g x a (L - a) = 0 := by
  rw [show L - a = 0 from by omega]; rfl
theorem pTf_so {g : V1} {L a : Nat} {f : V1} (h : ¬ (pForm g L a f).2.2 = 0) : (if pTf g L a 115 = 0 then 0 else 1) = (if mSort g L a = 115 then 1 else 0 : Nat) := by
  by_cases h1 : pTf g L a 115 = 0
  · rw [if_pos h1]
    rcases pForm_so h with hs | hs
    · have hF := pForm_gt h
      have hL : ¬ L ≤ a := by
        intro q
        unfold mSort at hs
        rw [if_pos q] at hs
        exact absurd hs (by decide)
      unfold mSort at hs
      rw [if_neg hL] at hs
      unfold pTf at h1
      rw [if_neg hL, if_pos hs] at h1
      exact absurd h1 (by decide)
    · rw [hs]; rfl
  · rw [if_neg h1]
    have ht := pTf_T h1
    unfold mSort
    rw [if_neg (show ¬ L ≤ a by omega), if_pos ht.2.1]
theorem jPP_eq {v u w : U} {L a n h r : Nat} {st : Int32} (hL : LRel v (u 0) n h r) (hg : w 0 = u 4) (hF : ¬ (pForm (u 4) L a (u 12)).2.2 = 0) (hG : pGood (u 4) L n a) (hh : h ≤ 3000) : ∃ h' r', LRel (jPP v (tPart w L a st) n) (mPlS u L a n 0) n h' r' ∧ nI h' = jHB (v 11 0) (v 10 1) (if mSort (u 4) L a = 115 then 1 else 0) ∧ h ≤ h' ∧ h' ≤ h + 2 ∧ jPP v (tPart w L a st) n 10 = v 10 := by
  have hf := pForm_f (g := u 4) (L := L) (a := a) (w 6) (u 12)
  have hF2 : ¬ (pForm (w 0) L a (w 6)).2.2 = 0 := by rw [hg, hf.2.1]; exact hF
  have hk : tKind w L a = mSort (u 4) L a := by rw [tKind_m hF2, hg]
  have e5 : tPart w L a st 5 0 = mSort (u 4) L a := by rw [tPart_5, hk]
  have e6 : tPart w L a st 6 = (pForm (u 4) L a (w 6)).2.1 := by rw [tPart_6, hg]
  have en : v 0 0 = nI n := hL.1.2.1.1
  have h2 : 2 ≤ n := hL.1.1.1
  have h10 : n ≤ 10 := hL.1.1.2.1
  rcases hG with ⟨hs, z, z1, z2⟩ | ⟨hs, v0, v1, v2, ⟨b0, b1, b2⟩, hv⟩
  · have e1 : jPP v (tPart w L a st) n = jTv v (nI z) n := by
      unfold jPP
      rw [e5, hs, if_neg (fun q => q rfl), e6, z2]
    have e2 : mPlS u L a n = mGv (mRd u L a) (nI z) n := by
      unfold mPlS
      rw [if_pos hs, z2]
    rw [e1, e2, if_pos hs]
    exact LRel_take (by rw [mRd_0]; exact hL) rfl z1 hh
  · have hj : ¬ jHas (nI v0) (v 0 0) = 0 := by
      unfold jHas
      rw [en, if_neg (nI_pos (by omega)), if_neg (nI_ge b0 (by omega))]
      decide
    have e1 : jPP v (tPart w L a st) n = stMix (jCS v v0 (nI v1) (nI v2)) v := by
      unfold jPP
      rw [e5, hs, if_pos (by decide), e6, (hv (w 6)).1, (hv (w 6)).2.1, (hv (w 6)).2.2, if_neg hj, nI_clamp (by omega)]
    have e2 : mPlS u L a n 0 = upd (upd (u 0) (20 + v0) (nI v1)) (30 + v0) (nI v2) := by
      unfold mPlS
      rw [hs, if_neg (by decide), (hv (u 12)).1, (hv (u 12)).2.1, (hv (u 12)).2.2, nI_clamp (by omega)]
      rfl
    rw [e1, e2, hs, if_neg (by decide)]
    exact ⟨h, r, LRel_sh hL b0 b1 b2, (LRel_h hL).1.symm, Nat.le_refl _, by omega, rfl⟩
/-- many parts -/
theorem play_eq {L n : Nat} {st : Int32} (hL60 : L ≤ 60) (hst : st = nI n) (h2 : 2 ≤ n) (h10 : n ≤ 10) : ∀ (k : Nat) (us u : U) (v w : U) (a h r : Nat), (mScan L k us a).2 = -1 → L < a + k → a ≤ L → us 0 0 = nI n → us 4 = u 4 → w 0 = u 4 → LRel v (u 0) n h r → h + 2 * (L - a) ≤ 3000 → ∃ h' r', LRel (jPl L n st (pCn (u 4) 59 a (L - a)) v w a).1 (mPl L n (pCn (u 4) 59 a (L - a)) u a 0) n h' r' ∧ nI h' = jHB (v 11 0) (v 10 1) (pCn (u 4) 115 a (L - a)) ∧ h' ≤ h + 2 * (L - a) ∧ (∀ q, q < 2 → (jPl L n st (pCn (u 4) 59 a (L - a)) v w a).2 q = w q) ∧ ∀ q, 0 < q → q < 6 → mPl L n (pCn (u 4) 59 a (L - a)) u a q = u q
  | 0, us, u, v, w, a, h, r, hs, hk, ha, hn, hg, hw, hL, hh => absurd hk (by omega)
  | k + 1, us, u, v, w, a, h, r, hs, hk, ha, hn, hg, hw, hL, hh => by
    rw [mScan] at hs
    by_cases h1 : L ≤ a
    · rw [pCn_0a h1, pCn_0a h1]
      exact ⟨h, r, hL, (LRel_h hL).1.symm, by omega, fun _ _ => rfl, fun _ _ _ => rfl⟩
    · rw [if_neg h1] at hs
      rcases part_eq (w := w) (L := L) (a := a) (hw.trans hg.symm) hn hst h2 h10 with ⟨q1, q2, q3, q4⟩ | ⟨q1, q2, q3, q4⟩
      · rw [if_pos (by rw [q2]; decide)] at hs
        rw [hg] at q3 q4 hs
        have hfs := pForm_f (g := u 4) (L := L) (a := a) (us 12) (u 12)
        have hfw := pForm_f (g := u 4) (L := L) (a := a) (w 6) (u 12)
        rw [hfs.1] at hs
        rw [hfs.2.1] at q3
        have hgt := pForm_gt q3
        have hle : (pForm (u 4) L a (u 12)).1 ≤ L := pForm_L ha
        obtain ⟨h1', r1', g1, g2, g3, g4, g5⟩ := jPP_eq (st := st) hL hw q3 q4 (by omega)
        have e4 : mPlS u L a n 4 = u 4 := by rw [mPlS_r (by decide) (by decide) (by decide), mRd_o u L a 4 (by decide) (by decide) (by decide) (by decide) (by decide)]
        have ew : tPart w L a st 0 = w 0 := tPart_o w L a st 0 (by decide) (by decide) (by decide) (by decide) (by decide)
        obtain ⟨h2', r2', k1, k2, k3, k4, k5⟩ := play_eq hL60 hst h2 h10 k (mRd us L a) (mPlS u L a n) (jPP v (tPart w L a st) n) (tPart w L a st) (pForm (u 4) L a (u 12)).1 h1' r1' hs (by omega) hle (by rw [mRd_0]; exact hn) (by rw [e4, mRd_o us L a 4 (by decide) (by decide) (by decide) (by decide) (by decide)]; exact hg) (by rw [e4, ew]; exact hw) g1 (by omega)
        rw [e4] at k1 k2 k4 k5
        have hsp : L - a = ((pForm (u 4) L a (u 12)).1 - a) + (L - (pForm (u 4) L a (u 12)).1) := by omega
        have hsa : a + ((pForm (u 4) L a (u 12)).1 - a) = (pForm (u 4) L a (u 12)).1 := by omega
        have c59 : pCn (u 4) 59 a (L - a) = pCn (u 4) 59 (pForm (u 4) L a (u 12)).1 (L - (pForm (u 4) L a (u 12)).1) + 1 := by
          rw [hsp, pCn_add, pForm_cn q3, hsa, Nat.add_comm]
        have c115 : pCn (u 4) 115 a (L - a) = (if mSort (u 4) L a = 115 then 1 else 0) + pCn (u 4) 115 (pForm (u 4) L a (u 12)).1 (L - (pForm (u 4) L a (u 12)).1) := by
          rw [hsp, pCn_add, pForm_cs q3, hsa, pTf_so q3]
        have ej : jPl L n st (pCn (u 4) 59 a (L - a)) v w a = jPl L n st (pCn (u 4) 59 (pForm (u 4) L a (u 12)).1 (L - (pForm (u 4) L a (u 12)).1)) (jPP v (tPart w L a st) n) (tPart w L a st) (pForm (u 4) L a (u 12)).1 := by
          rw [c59, jPl, hw, hfw.1]
        have em : mPl L n (pCn (u 4) 59 a (L - a)) u a = mPl L n (pCn (u 4) 59 (pForm (u 4) L a (u 12)).1 (L - (pForm (u 4) L a (u 12)).1)) (mPlS u L a n) (pForm (u 4) L a (u 12)).1 := by
          rw [c59, mPl]
        rw [ej, em]
        refine ⟨h2', r2', k1, ?_, by omega, fun q hq => ?_, fun q hq hq2 => ?_⟩
        · rw [k2, g5, (LRel_h g1).1, g2, c115]
          by_cases hs5 : mSort (u 4) L a = 115
          · rw [if_pos hs5, jHB_1a]
          · rw [if_neg hs5, Nat.zero_add]
            rfl
        · rw [k4 q hq, tPart_o w L a st q (by omega) (by omega) (by omega) (by omega) (by omega)]
        · rw [k5 q hq hq2, mPlS_r (by omega) (by omega) (by omega), mRd_o u L a q (by omega) (by omega) (by omega) (by omega) (by omega)]
      · rw [if_neg (by rw [q2]; decide)] at hs
        exact absurd hs (nI_m1 (by omega))
theorem playR_eq {Z : Nat → U} {u : U} {L n h r : Nat} (hT : TRel (Z 6) u L) (hL : LRel (Z 0) (u 0) n h r) : jPlayR Z L = mPlayR u L := by
  have hb := hL.1.1
  have e00 := hL.1.2.1
  obtain ⟨p, p1, p2, p3⟩ := hL.1.2.2.2.2.2.2.2.1.2.1
  have hh := LRel_h hL
  unfold jPlayR mPlayR
  rcases scan_eq0 (L := L) hT e00.1 e00.2.1 hb.1 hb.2.1 with ⟨s1, s2⟩ | ⟨q, q1, s1, s2, -, -⟩
  · rw [s1, s2, if_neg (not_not_intro (Eq.refl (-2000004 : Int32))), if_neg (not_not_intro (Eq.refl (-1 : Int32))), hT.2.1, HB_eq p2 p1, hh.1, hh.2, p2, p3]
  · rw [s1, s2, if_pos (mSg_m4 q q1), if_pos (nI_m1 (by omega))]
