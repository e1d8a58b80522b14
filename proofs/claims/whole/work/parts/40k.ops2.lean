/-! the calls that tell, and those on the text -/
theorem op_stageOf {Z : Nat → U} {u : U} {x y : Int32} {n h r fi k L : Nat} (H : RRp Z u n h r fi k L) : jStO (Z 0) x y = mStageOfR (u 0) x y := by
  obtain ⟨n2, n10, nv, nf⟩ := LRel_n H.ln
  unfold jStO mStageOfR
  rcases jm_has (x := x) nv (by omega) n10 with ⟨c1, c2⟩ | ⟨c1, c2⟩
  · obtain ⟨a, ea, a1⟩ := jHas_nat (x := x) nv n10 (by rw [c1]; decide)
    obtain ⟨s1, s2, s3⟩ := LRel_S H.ln a a1
    have es : jStay (Z 0) a = mStay (u 0) a := by unfold jStay mStay; rw [s1, s2]
    have el : jLeak (Z 0) a = mLeak (u 0) a := by unfold jLeak mLeak; rw [es, s1, s3]
    have em : jLeav (Z 0) a = mMov (u 0) a := by unfold jLeav mMov; rw [es, el, s1]
    rw [c1, nf, ← nv, c2, if_neg (show ¬ (1 : Int32) = 0 by decide), if_neg (show ¬ (1 : Int32) = 0 by decide), ea, nI_clamp (by omega), s1, s2, s3, es, el, em]
  · rw [c1, nf, ← nv, c2, if_pos (show (0 : Int32) = 0 from rfl), if_pos (show (0 : Int32) = 0 from rfl)]
theorem jm_0to5 {b : Nat} (h : b ≤ 5) : b = 0 ∨ b = 1 ∨ b = 2 ∨ b = 3 ∨ b = 4 ∨ b = 5 := by omega
theorem op_outputOf {Z : Nat → U} {u : U} {x y : Int32} {n h r fi k L : Nat} (H : RRp Z u n h r fi k L) : jOuR (Z 0) x y h n = mOutOfR (u 0) x y (jKp h n) := by
  obtain ⟨n2, n10, nv, nf⟩ := LRel_n H.ln
  have k16 := jKp_16 h n
  have kle := jKp_le h n
  unfold jOuR mOutOfR
  by_cases hx : x < 0
  · rw [if_pos hx, if_pos hx]
  · rw [if_neg hx, if_neg hx]
    rcases jm_oi (x := y) (y := 0) (z := 5) with ⟨o1, o2⟩ | ⟨o1, o2⟩
    · rw [o1, o2, if_neg (show ¬ ¬ (0 : Int32) = 0 by decide), if_neg (show ¬ (1 : Int32) = 0 by decide)]
      obtain ⟨a, a31, ea⟩ := nI_of hx
      by_cases ha : a < jKp h n
      · have hlt : x < nI (jKp h n) := by rw [ea]; exact nI_lt ha (by omega)
        rw [if_neg (not_not_intro hlt), if_neg (not_not_intro hlt)]
        obtain ⟨b, eb, -, b5⟩ := jOut_nat (a := 0) (b := 5) rfl rfl (by decide) (by decide) o1
        have ec : x.toNatClampNeg = a := by rw [ea, nI_clamp a31]
        have ey : y.toNatClampNeg = b := by rw [eb, nI_clamp (by omega)]
        have hK := H.ln.1.2.2.2.2.2.2.2.2.2.2.2 (h - 1 - a) (by omega) (by omega) (by omega)
        obtain ⟨e0, e1, e2, ⟨o, q1, q2⟩, e3, e4⟩ := hK
        have ei : h - 1 - a + jKp h n - h = jKp h n - 1 - a := by omega
        rw [ei] at e0 e1 e2 e3 e4
        obtain ⟨-, m2, -⟩ := jm_ent (i := a) H.ln ha
        rw [show jKp h n - (a + 1) = jKp h n - 1 - a from by omega] at m2
        have m3 : jErE (Z 0) h n a = jErr (Z 0) (h - 1 - a) n := by
          unfold jErE
          rw [show h - (a + 1) = h - 1 - a from by omega]
        rw [ec, ey]
        rcases jm_0to5 b5 with q | q | q | q | q | q
        · rw [q] at eb ⊢
          rw [eb, if_pos (show nI 0 = 0 from rfl), if_pos (show ¬ nI 0 = 5 by decide), if_pos (show ¬ nI 0 = 3 by decide), e0]
        · rw [q] at eb ⊢
          rw [eb, if_neg (show ¬ nI 1 = 0 by decide), if_pos (show nI 1 = 1 from rfl), if_pos (show ¬ nI 1 = 5 by decide), if_pos (show ¬ nI 1 = 3 by decide), e1]
        · rw [q] at eb ⊢
          rw [eb, if_neg (show ¬ nI 2 = 0 by decide), if_neg (show ¬ nI 2 = 1 by decide), if_pos (show nI 2 = 2 from rfl), if_pos (show ¬ nI 2 = 5 by decide), if_pos (show ¬ nI 2 = 3 by decide), e2]
        · rw [q] at eb ⊢
          rw [eb, if_neg (show ¬ nI 3 = 0 by decide), if_neg (show ¬ nI 3 = 1 by decide), if_neg (show ¬ nI 3 = 2 by decide), if_pos (show nI 3 = 3 from rfl), if_pos (show ¬ nI 3 = 5 by decide), if_neg (show ¬ ¬ nI 3 = 3 by decide)]
          rcases e3 with ⟨w1, w2⟩ | ⟨w, w0, w1, w2⟩
          · rw [w1, w2, if_neg (not_not_intro (Eq.refl (-1 : Int32)))]
          · rw [w1, w2, if_pos (nI_m1 (by omega))]
        · rw [q] at eb ⊢
          rw [eb, if_neg (show ¬ nI 4 = 0 by decide), if_neg (show ¬ nI 4 = 1 by decide), if_neg (show ¬ nI 4 = 2 by decide), if_neg (show ¬ nI 4 = 3 by decide), if_pos (show nI 4 = 4 from rfl), if_pos (show ¬ nI 4 = 5 by decide), if_pos (show ¬ nI 4 = 3 by decide), e4]
          rcases jIsR_01 (s := Z 0 14 ((h - 1 - a - n) % 32)) with z | z
          · rw [z]; rfl
          · rw [z]; rfl
        · rw [q] at eb ⊢
          rw [eb, if_neg (show ¬ nI 5 = 0 by decide), if_neg (show ¬ nI 5 = 1 by decide), if_neg (show ¬ nI 5 = 2 by decide), if_neg (show ¬ nI 5 = 3 by decide), if_neg (show ¬ nI 5 = 4 by decide), if_neg (show ¬ ¬ nI 5 = 5 by decide), m2, m3]
      · have hlt : ¬ x < nI (jKp h n) := by rw [ea]; exact nI_nlt (by omega) a31
        rw [if_pos hlt, if_pos hlt]
    · rw [o1, o2, if_pos (show ¬ (1 : Int32) = 0 by decide), if_pos (show (0 : Int32) = 0 from rfl)]
theorem PR_kn {v : U} {f : V1} {a : Nat} (h : PRel v f) (ha : a < 3) : (jKn (v 9 a) = 0 ∧ f (40 + a) = -1) ∨ (jKn (v 9 a) = 1 ∧ ¬ f (40 + a) = -1 ∧ v 8 a = f (40 + a) ∧ v 9 a = f (43 + a)) := by
  rcases h a ha with ⟨h1, h2⟩ | ⟨p, z, p1, z1, z2, e1, e2, e3, e4⟩
  · exact Or.inl ⟨by rw [h1]; rfl, h2⟩
  · refine Or.inr ⟨by rw [e3]; exact jKn_n z1 (by omega), by rw [e2]; exact nI_m1 (by omega), by rw [e1, e2], by rw [e3, e4]⟩
theorem op_pairOf {Z : Nat → U} {u : U} {x y : Int32} {n h r fi k L : Nat} (H : RRp Z u n h r fi k L) : jPrO (Z 0) x y 8 9 = mPairR (u 0) x y := by
  unfold jPrO mPairR
  rcases jm_oi (x := x) (y := 0) (z := 2) with ⟨o1, o2⟩ | ⟨o1, o2⟩
  · obtain ⟨a, ea, -, a2⟩ := jOut_nat (a := 0) (b := 2) rfl rfl (by decide) (by decide) o1
    rw [o1, o2, if_neg (show ¬ ¬ (0 : Int32) = 0 by decide), if_neg (show ¬ (1 : Int32) = 0 by decide), ea, nI_clamp (by omega)]
    rcases jm_oi (x := y) (y := 0) (z := 1) with ⟨p1, p2⟩ | ⟨p1, p2⟩
    · rw [p1, p2, if_neg (show ¬ ¬ (0 : Int32) = 0 by decide), if_neg (show ¬ (1 : Int32) = 0 by decide)]
      rcases PR_kn (LRel_P H.ln) (show a < 3 by omega) with ⟨k1, k2⟩ | ⟨k1, k2, k3, k4⟩
      · rw [k1, k2, if_pos (show (0 : Int32) = 0 from rfl), if_neg (not_not_intro (Eq.refl (-1 : Int32)))]
      · rw [k1, if_neg (show ¬ (1 : Int32) = 0 by decide), if_pos k2]
        by_cases y0 : y = 0
        · rw [if_pos y0, if_neg (not_not_intro y0), k3]
        · rw [if_neg y0, if_pos y0, k4]
    · rw [p1, p2, if_pos (show ¬ (1 : Int32) = 0 by decide), if_pos (show (0 : Int32) = 0 from rfl)]
  · rw [o1, o2, if_pos (show ¬ (1 : Int32) = 0 by decide), if_pos (show (0 : Int32) = 0 from rfl)]
theorem op_mended {Z : Nat → U} {u : U} {x : Int32} {n h r fi k L : Nat} (H : RRp Z u n h r fi k L) : jMdd (Z 0) x = mMendedR u x ∧ RR Z (mMendedU u x) := by
  unfold jMdd mMendedR mMendedU
  rcases jm_oi (x := x) (y := 0) (z := 100000) with ⟨o1, o2⟩ | ⟨o1, o2⟩
  · obtain ⟨O, eO, -, O2⟩ := jOut_nat (a := 0) (b := 100000) rfl rfl (by decide) (by decide) o1
    rw [o1, o2, if_neg (show ¬ ¬ (0 : Int32) = 0 by decide), if_neg (show ¬ (1 : Int32) = 0 by decide), if_neg (show ¬ (1 : Int32) = 0 by decide)]
    refine ⟨?_, RR_same H (fun _ _ _ => rfl) (fun _ _ => rfl) (fun q q1 q2 => ?_)⟩
    · unfold mMend
      rcases mend_eq (g0 := u 6) (LRel_P H.ln) eO O2 with ⟨m1, m2⟩ | ⟨w, w1, m1, m2⟩
      · rw [m1, m2, if_neg (not_not_intro (Eq.refl (-1 : Int32)))]
      · rw [m1, m2, if_pos (nI_m1 (by omega))]
    · unfold mRowU
      rw [va_upo (by omega), va_upo (by omega)]
  · rw [o1, o2, if_pos (show ¬ (1 : Int32) = 0 by decide), if_pos (show (0 : Int32) = 0 from rfl), if_pos (show (0 : Int32) = 0 from rfl)]
    exact ⟨rfl, RR_self H⟩
theorem op_account {Z : Nat → U} {u : U} {x : Int32} {n h r fi k L : Nat} (H : RRp Z u n h r fi k L) : jAcc Z x n = mAccR (u 0) x n := by
  obtain ⟨a4, a5, a6, a7⟩ := LRel_A H.ln
  unfold jAcc mAccR
  rcases jm_oi (x := x) (y := 0) (z := 4) with ⟨o1, o2⟩ | ⟨o1, o2⟩
  · obtain ⟨a, ea, -, b5⟩ := jOut_nat (a := 0) (b := 4) rfl rfl (by decide) (by decide) o1
    rw [o2, if_neg (show ¬ (1 : Int32) = 0 by decide), ea, nI_clamp (by omega)]
    rcases jm_0to5 (show a ≤ 5 by omega) with q | q | q | q | q | q
    · rw [q, if_pos (show nI 0 = 0 from rfl), if_neg (show ¬ 4 ≤ nI 0 by decide)]; exact a4
    · rw [q, if_neg (show ¬ nI 1 = 0 by decide), if_pos (show nI 1 = 1 from rfl), if_neg (show ¬ 4 ≤ nI 1 by decide)]; exact a5
    · rw [q, if_neg (show ¬ nI 2 = 0 by decide), if_neg (show ¬ nI 2 = 1 by decide), if_pos (show nI 2 = 2 from rfl), if_neg (show ¬ 4 ≤ nI 2 by decide)]; exact a6
    · rw [q, if_neg (show ¬ nI 3 = 0 by decide), if_neg (show ¬ nI 3 = 1 by decide), if_neg (show ¬ nI 3 = 2 by decide), if_pos (show nI 3 = 3 from rfl), if_neg (show ¬ 4 ≤ nI 3 by decide)]; exact a7
    · rw [q, if_neg (show ¬ nI 4 = 0 by decide), if_neg (show ¬ nI 4 = 1 by decide), if_neg (show ¬ nI 4 = 2 by decide), if_neg (show ¬ nI 4 = 3 by decide), if_pos (show nI 4 = 4 from rfl), if_pos (show 4 ≤ nI 4 by decide)]
      exact SR_sum (LRel_S H.ln) n (Nat.le_refl n)
    · exact absurd q (by omega)
  · have e : ∀ c : Int32, mIn c 0 4 = 1 → ¬ x = c := fun c hc q => by rw [q] at o2; rw [o2] at hc; exact absurd hc (by decide)
    rw [o2, if_pos (show (0 : Int32) = 0 from rfl), if_neg (e 0 (by decide)), if_neg (e 1 (by decide)), if_neg (e 2 (by decide)), if_neg (e 3 (by decide)), if_neg (e 4 (by decide))]
theorem LRel_cap {v : U} {f : V1} {n h r : Nat} (hL : LRel v f n h r) : ∃ C, C ≤ 100000 ∧ v 10 0 = nI C ∧ f 5 = nI C := by
  obtain ⟨⟨c, -, c2, c3, c4⟩, -⟩ := LRel_G hL
  exact ⟨c, c2, c3, c4⟩
theorem op_echo {Z : Nat → U} {u : U} {x y : Int32} {n h r fi k L : Nat} (H : RRp Z u n h r fi k L) : jEchR Z x y n = mEchoR (u 0) x y n ∧ RR (jEchU Z x y n) (mEchoU u x y n) := by
  obtain ⟨C, C1, C2, C3⟩ := LRel_cap H.ln
  unfold jEchR mEchoR jEchU mEchoU
  rcases jm_oi (x := x) (y := 0) (z := 10000) with ⟨o1, o2⟩ | ⟨o1, o2⟩
  · rw [o1, o2, if_neg (show ¬ ¬ (0 : Int32) = 0 by decide), if_neg (show ¬ (1 : Int32) = 0 by decide), if_neg (show ¬ ¬ (0 : Int32) = 0 by decide), if_neg (show ¬ (1 : Int32) = 0 by decide)]
    rcases jm_oi (x := y) (y := 1) (z := 40) with ⟨p1, p2⟩ | ⟨p1, p2⟩
    · rw [p1, p2, if_neg (show ¬ ¬ (0 : Int32) = 0 by decide), if_neg (show ¬ (1 : Int32) = 0 by decide), if_neg (show ¬ ¬ (0 : Int32) = 0 by decide), if_neg (show ¬ (1 : Int32) = 0 by decide)]
      refine ⟨?_, RR_same H (fun j q _ => va_upZ q) (fun q _ => by rw [va_upZ (by decide)]) (fun q _ q2 => va_upo q2)⟩
      unfold jEc
      exact SR_echo (LRel_n H.ln).2.1 (SR_mix (LRel_S H.ln)) (C3.trans C2.symm)
    · rw [p1, p2, if_pos (show ¬ (1 : Int32) = 0 by decide), if_pos (show (0 : Int32) = 0 from rfl), if_pos (show ¬ (1 : Int32) = 0 by decide), if_pos (show (0 : Int32) = 0 from rfl)]
      exact ⟨rfl, RR_self H⟩
  · rw [o1, o2, if_pos (show ¬ (1 : Int32) = 0 by decide), if_pos (show (0 : Int32) = 0 from rfl), if_pos (show ¬ (1 : Int32) = 0 by decide), if_pos (show (0 : Int32) = 0 from rfl)]
    exact ⟨rfl, RR_self H⟩
theorem RR_try {Z : Nat → U} {u w : U} {g : V1} {n h r fi k L : Nat} (H : RRp Z u n h r fi k L) : RR (va_up Z 5 w) (va_up u 1 g) := RR_same H (fun j q _ => va_upZ q) (fun q _ => by rw [va_upZ (by decide)]) (fun q _ q2 => va_upo q2)
theorem op_emp {Z : Nat → U} {u : U} {n h r fi k L G M : Nat} (H : RRp Z u n h r fi k L) (hG : G = 401) (hM : M = 400) : (jEA (Z 0 10 0) n G 0 (stMix (Z 0) (Z 5))).2 = (if mSum (mEmp n M (mTry (u 0) n 0) 0).1 n ≤ 0 then nI (mEmp n M (mTry (u 0) n 0) 0).2 else -2000004) := by
  obtain ⟨C, C1, C2, C3⟩ := LRel_cap H.ln
  have h10 := (LRel_n H.ln).2.1
  rw [hG, hM, C2]
  refine SR_emp h10 C1 400 0 (stMix (Z 0) (Z 5)) (mTry (u 0) n 0) ?_ (show CBd (Z 0) n from LRel_C H.ln) ?_
  · intro k hk
    obtain ⟨s1, s2, s3⟩ := LRel_S H.ln k hk
    have e : ∀ j, j < 40 → mTry (u 0) n 0 j = u 0 j := fun j hj => by
      unfold mTry
      rw [if_pos rfl, pk_un (by omega)]
    rw [e _ (by omega), e _ (by omega), e _ (by omega)]
    exact ⟨s1, s2, s3⟩
  · unfold mTry
    rw [if_pos rfl, pk_un (by decide)]
    exact C3
theorem op_worn {Z : Nat → U} {u : U} {x : Int32} {n h r fi k L : Nat} (H : RRp Z u n h r fi k L) : jWoR Z x n = mWornR (u 0) x n ∧ RR (jWoU Z x n) (mWornU u x n) := by
  obtain ⟨C, C1, C2, C3⟩ := LRel_cap H.ln
  obtain ⟨n2, n10, nv, nf⟩ := LRel_n H.ln
  unfold jWoR mWornR jWoU mWornU
  rcases jm_oi (x := x) (y := 0) (z := 1) with ⟨o1, o2⟩ | ⟨o1, o2⟩
  · rw [o1, o2, if_neg (show ¬ ¬ (0 : Int32) = 0 by decide), if_neg (show ¬ (1 : Int32) = 0 by decide), if_neg (show ¬ ¬ (0 : Int32) = 0 by decide), if_neg (show ¬ (1 : Int32) = 0 by decide)]
    refine ⟨?_, RR_try H⟩
    have e := SR_wn (w := Z 5) n10 (LRel_S H.ln) (C3.trans C2.symm) C1 C2 (LRel_C H.ln) (n - 1) (by omega)
    rw [show n - 1 + 1 = n from by omega] at e
    rw [e]
  · rw [o1, o2, if_pos (show ¬ (1 : Int32) = 0 by decide), if_pos (show (0 : Int32) = 0 from rfl), if_pos (show ¬ (1 : Int32) = 0 by decide), if_pos (show (0 : Int32) = 0 from rfl)]
    exact ⟨rfl, RR_self H⟩
theorem op_safe {Z : Nat → U} {u : U} {n h r fi k L G T M : Nat} (H : RRp Z u n h r fi k L) (hG : G = 8193) (hT : T = 8192) (hM : M = 10001) : nI (jSf (Z 0 10 0) n G T 0 (stMix (Z 0) (Z 5))).2 = nI (mSf (u 0) n M 0 10000 (u 1)).1 := by
  obtain ⟨C, C1, C2, C3⟩ := LRel_cap H.ln
  rw [C2]
  exact congrArg nI (safe_eq (LRel_n H.ln).2.1 C1 (LRel_C H.ln) (LRel_S H.ln) C3 hG hT hM)
theorem cnt_P {v : U} {f : V1} (h : PRel v f) : jCnt (v 9) 3 = mCntP f 3 := by
  have e : ∀ a, a < 3 → (if jKn (v 9 a) = 0 then 0 else 1) = (if ¬ f (40 + a) = -1 then 1 else 0 : Int32) := by
    intro a ha
    rcases PR_kn h ha with ⟨k1, k2⟩ | ⟨k1, k2, -, -⟩
    · rw [k1, k2, if_pos (show (0 : Int32) = 0 from rfl), if_neg (not_not_intro (Eq.refl (-1 : Int32)))]
    · rw [k1, if_neg (show ¬ (1 : Int32) = 0 by decide), if_pos k2]
  show 0 + _ + _ + _ = 0 + _ + _ + _
  rw [e 0 (by decide), e 1 (by decide), e 2 (by decide)]
theorem op_count {Z : Nat → U} {u : U} {x : Int32} {n h r fi k L : Nat} (H : RRp Z u n h r fi k L) : jCount Z x = mCountR u x := by
  obtain ⟨n2, n10, nv, nf⟩ := LRel_n H.ln
  have hh := H.hh
  obtain ⟨hv, hf⟩ := LRel_h H.ln
  obtain ⟨t1, t2, t3, t4⟩ := H.tx
  obtain ⟨q1, q2, q3, q4, q5, -⟩ := H.hi
  obtain ⟨-, rr, r1, r2, r3⟩ := H.ln
  obtain ⟨⟨c, -, -, g3, g4⟩, ⟨p, p1, g5, g6⟩, gs⟩ := LRel_G H.ln
  unfold jCount mCountR
  by_cases x0 : x = 0
  · rw [if_pos x0, if_pos x0, nv, nf]
  · rw [if_neg x0, if_neg x0]
    by_cases x1 : x = 1
    · rw [if_pos x1, if_pos x1, hv, hf]
    · rw [if_neg x1, if_neg x1]
      by_cases x2 : x = 2
      · rw [if_pos x2, if_pos x2, jKept_n hv nv (by omega) n10, LRel_kp H.ln]
      · rw [if_neg x2, if_neg x2]
        by_cases x3 : x = 3
        · rw [if_pos x3, if_pos x3, r1, r2]
        · rw [if_neg x3, if_neg x3]
          by_cases x4 : x = 4
          · rw [if_pos x4, if_pos x4, cnt_P (LRel_P H.ln)]
          · rw [if_neg x4, if_neg x4]
            by_cases x5 : x = 5
            · rw [if_pos x5, if_pos x5, jNx_n r1 (by omega), r3]
            · rw [if_neg x5, if_neg x5]
              by_cases x6 : x = 6
              · rw [if_pos x6, if_pos x6, due_eq g5 p1, hv, hf, g5, g6]
              · rw [if_neg x6, if_neg x6]
                by_cases x7 : x = 7
                · rw [if_pos x7, if_pos x7, q4, q5]
                · rw [if_neg x7, if_neg x7]
                  by_cases x8 : x = 8
                  · rw [if_pos x8, if_pos x8, t3, t4]
                  · rw [if_neg x8, if_neg x8]
                    unfold jSoC
                    rcases jm_oi (x := x) (y := 20) (z := 24) with ⟨o1, o2⟩ | ⟨o1, o2⟩
                    · obtain ⟨a, ea, a1, a2⟩ := jOut_nat (a := 20) (b := 24) rfl rfl (by decide) (by decide) o1
                      rw [o1, o2, if_neg (show ¬ ¬ (0 : Int32) = 0 by decide), if_neg (show ¬ (1 : Int32) = 0 by decide), ea, nI_clamp (by omega)]
                      rcases (show a - 20 = 0 ∨ a - 20 = 1 ∨ 2 ≤ a - 20 by omega) with q | q | q
                      · rw [q, show 5 + a - 20 = 5 from by omega, g3, g4]
                      · rw [q, show 5 + a - 20 = 6 from by omega, g5, g6]
                      · obtain ⟨w, -, -, w3, w4⟩ := gs (a - 22) (by omega)
                        rw [show a - 20 = 2 + (a - 22) from by omega, show 5 + a - 20 = 7 + (a - 22) from by omega, w3, w4]
                    · rw [o1, o2, if_pos (show ¬ (1 : Int32) = 0 by decide), if_pos (show (0 : Int32) = 0 from rfl)]
theorem op_type {Z : Nat → U} {u : U} {x : Int32} {n h r fi k L : Nat} (H : RRp Z u n h r fi k L) : jTypR x L = mTypeR x L ∧ RR (jTypU Z x L) (mTypeU u x L) := by
  obtain ⟨t1, t2, t3, t4⟩ := H.tx
  unfold jTypR mTypeR jTypU mTypeU
  rcases jm_oi (x := x) (y := 32) (z := 126) with ⟨o1, o2⟩ | ⟨o1, o2⟩
  · rw [o1, o2, if_neg (show ¬ ¬ (0 : Int32) = 0 by decide), if_neg (show ¬ (1 : Int32) = 0 by decide), if_neg (show ¬ ¬ (0 : Int32) = 0 by decide), if_neg (show ¬ (1 : Int32) = 0 by decide)]
    by_cases hL : L < 60
    · rw [if_pos hL, if_pos (show ¬ L = 60 by omega), if_pos hL, if_pos (show ¬ L = 60 by omega)]
      refine ⟨rfl, n, h, r, fi, k, L + 1, H.hh, ?_, ?_, ?_⟩
      · rw [va_upZ (by decide)]; exact H.ln
      · exact HRel_cong (fun j q1 q2 => va_upZ (by omega)) rfl rfl H.hi
      · refine ⟨by omega, ?_, rfl, rfl⟩
        show upd (Z 6 0) L x = upd (u 4) L x
        rw [t2]
    · rw [if_neg hL, if_neg (show ¬ ¬ L = 60 by omega), if_neg hL, if_neg (show ¬ ¬ L = 60 by omega)]
      exact ⟨rfl, RR_self H⟩
  · rw [o1, o2, if_pos (show ¬ (1 : Int32) = 0 by decide), if_pos (show (0 : Int32) = 0 from rfl), if_pos (show ¬ (1 : Int32) = 0 by decide), if_pos (show (0 : Int32) = 0 from rfl)]
    exact ⟨rfl, RR_self H⟩
theorem op_clear {Z : Nat → U} {u : U} {n h r fi k L : Nat} (H : RRp Z u n h r fi k L) : Z 6 1 0 = u 5 0 ∧ RR (va_up Z 6 (va_up (Z 6) 1 (fun _ => 0))) (va_up u 5 (fun _ => 0)) := by
  obtain ⟨t1, t2, t3, t4⟩ := H.tx
  refine ⟨t3.trans t4.symm, n, h, r, fi, k, 0, H.hh, ?_, ?_, ?_⟩
  · rw [va_upZ (by decide)]; exact H.ln
  · exact HRel_cong (fun j q1 q2 => va_upZ (by omega)) rfl rfl H.hi
  · exact ⟨by decide, t2, rfl, rfl⟩
theorem op_fault {Z : Nat → U} {u : U} {x : Int32} {n h r fi k L : Nat} (H : RRp Z u n h r fi k L) : jFltR Z x L = mFaultR u x L ∧ RR (jFltU Z x L) (mFaultU u x L) := by
  obtain ⟨n2, n10, nv, nf⟩ := LRel_n H.ln
  refine ⟨flt_eq H.tx nv nf n2 n10, ?_⟩
  unfold jFltU mFaultU
  rcases jm_oi (x := x) (y := 0) (z := 2) with ⟨o1, o2⟩ | ⟨o1, o2⟩
  · rw [o1, o2, if_neg (show ¬ ¬ (0 : Int32) = 0 by decide), if_neg (show ¬ (1 : Int32) = 0 by decide)]
    refine RR_same H (fun j _ q => va_upZ q) (fun q q2 => ?_) (fun q q1 _ => ?_)
    · show (jScn (Z 6) L (Z 0 0 0)).1 q = _
      exact jScn_o q2
    · exact mScU_o (by omega) (by omega) (by omega) (by omega) (by omega)
  · rw [o1, o2, if_pos (show ¬ (1 : Int32) = 0 by decide), if_pos (show (0 : Int32) = 0 from rfl)]
    exact RR_self H
theorem op_play {Z : Nat → U} {u : U} {n h r fi k L : Nat} (H : RRp Z u n h r fi k L) : jPlayR Z L = mPlayR u L ∧ RR (jPlayU Z L n fi k) (mPlayU u L n k) := by
  obtain ⟨n2, n10, nv, nf⟩ := LRel_n H.ln
  obtain ⟨t1, t2, t3, t4⟩ := H.tx
  have hh := H.hh
  refine ⟨playR_eq H.tx H.ln, ?_⟩
  have hS : ∀ q, q < 6 → mScU u L q = u q := fun q hq => mScU_o (by omega) (by omega) (by omega) (by omega) (by omega)
  have hsc : RR (va_up Z 6 (jScn (Z 6) L (Z 0 0 0)).1) (mScU u L) := by
    refine RR_same H (fun j _ q => va_upZ q) (fun q q2 => ?_) (fun q q1 _ => hS q q1)
    show (jScn (Z 6) L (Z 0 0 0)).1 q = _
    exact jScn_o q2
  unfold jPlayU mPlayU
  rcases scan_eq0 (L := L) H.tx nv nf n2 n10 with ⟨s1, s2⟩ | ⟨q, q1, s1, s2, -, -⟩
  · rw [s1, s2, if_neg (not_not_intro (Eq.refl (-2000004 : Int32))), if_neg (not_not_intro (Eq.refl (-1 : Int32))), ← LRel_HB H.ln, t2]
    by_cases hc : jHB (Z 0 11 0) (Z 0 10 1) (pCn (u 4) 115 0 L) ≤ 999
    · rw [if_neg (not_not_intro hc), if_neg (not_not_intro hc)]
      have hP := play_eq t1 nv n2 n10 61 (va_up u 8 (fun _ => 0)) (va_up (mSv (mScU u L) k) 8 (fun _ => 0)) (Z 0) (jScn (Z 6) L (Z 0 0 0)).1 0 h r s2 (by omega) (Nat.zero_le _) nf (hS 4 (by decide)).symm ((jScn_o (by decide)).trans (t2.trans (hS 4 (by decide)).symm)) (by
        show LRel (Z 0) (mScU u L 0) n h r
        rw [hS 0 (by decide)]; exact H.ln) (by omega)
      have e4 : va_up (mSv (mScU u L) k) 8 (fun _ => 0) 4 = u 4 := hS 4 (by decide)
      rw [e4, Nat.sub_zero] at hP
      obtain ⟨h', r', g1, g2, g3, g4, g5⟩ := hP
      refine RR_chg (Z := Z) (u := u) H (h' := h') (r' := r') (n' := n) ?_ ?_ ?_ ?_ ?_ ?_ ?_ ?_
      · rw [← g2] at hc
        exact (nI_leI (b := 999) (by omega) (by decide)).mp hc
      · show LRel (jPlS Z L n fi k).1 _ n h' r'
        unfold jPlS
        rw [t2, jKeep_0]
        exact g1
      · intro j j0 j6
        rw [va_upZ j6, va_upZ j0]
      · intro q hq
        show (jPlS Z L n fi k).2 q = _
        unfold jPlS
        rw [t2, jKeep_0, g4 q hq]
        exact jScn_o hq
      · rw [g5 2 (by decide) (by decide)]
        show mRecP (mScU u L 2) (mScU u L 0) k = _
        rw [hS 2 (by decide), hS 0 (by decide)]
      · rw [g5 3 (by decide) (by decide)]
        rfl
      · rw [g5 4 (by decide) (by decide)]
        exact e4
      · rw [g5 5 (by decide) (by decide)]
        exact hS 5 (by decide)
    · rw [if_pos hc, if_pos hc]
      exact hsc
  · rw [s1, s2, if_pos (mSg_m4 q q1), if_pos (nI_m1 (by omega))]
    exact hsc
/-- at the beginning -/
theorem RR_0 : RR jZ0 jMd0 := by
  refine ⟨4, 0, 0, 0, 0, 0, by decide, LRel_0, ⟨by decide, by decide, rfl, rfl, rfl, fun i hi => absurd hi (Nat.not_lt_zero i)⟩, by decide, ?_, rfl, rfl⟩
  rfl
