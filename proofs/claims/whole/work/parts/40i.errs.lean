/-! the errors: the class counts from the newest, the model from the oldest -/
theorem jm_dif {p q : Nat} (hp : p ≤ 1000000) (hq : q ≤ 1000000) : ∃ m, m ≤ 1000000 ∧ jAbs (nI p - nI q) = nI m := by
  unfold jAbs
  by_cases h : q ≤ p
  · refine ⟨p - q, by omega, ?_⟩
    rw [pk_sub h, if_pos (nI_pos' (by omega))]
  · refine ⟨q - p, by omega, ?_⟩
    have hl := nI_neg (show p < q by omega) (by omega)
    rw [if_neg (fun z => absurd (y_leI.mp z) (by have := y_ltI.mp hl; omega)), Int32.sub_eq_add_neg 0, Int32.zero_add, Int32.neg_sub]
    exact pk_sub (by omega)
theorem jm_abs (x : Int32) : mSize x = jAbs x := by
  unfold mSize jAbs
  rw [Int32.sub_eq_add_neg 0, Int32.zero_add]
/-- one entry -/
theorem jm_ent {v : U} {f : V1} {n h r i : Nat} (hL : LRel v f n h r) (hi : i < jKp h n) : f (82 + 5 * (jKp h n - (i + 1)) + 4) = jErI v h n i ∧ mErr f (jKp h n - (i + 1)) = jErE v h n i ∧ ∃ m, m ≤ 1000000 ∧ jAbs (jErE v h n i) = nI m := by
  obtain ⟨⟨⟨h2, h10, hh5⟩, -, -, -, -, -, -, -, -, -, hR, hK⟩, -⟩ := hL
  have k16 := jKp_16 h n
  have kle := jKp_le h n
  obtain ⟨e0, e1, e2, ⟨o, o1, o2⟩, e3, e4⟩ := hK (h - (i + 1)) (by omega) (by omega) (by omega)
  rw [show h - (i + 1) + jKp h n - h = jKp h n - (i + 1) from by omega] at e0 e1 e2 e3 e4
  obtain ⟨⟨x, x1, x2, -⟩, -⟩ := hR (h - (i + 1) - n) (by omega) (by omega)
  refine ⟨e4, ?_, ?_⟩
  · unfold mErr jErE jErr
    rw [e1, e2]
    rcases e3 with ⟨w1, w2⟩ | ⟨w, w0, w1, w2⟩
    · rw [w1, w2, if_neg (not_not_intro (Eq.refl (-1 : Int32))), if_neg (not_not_intro (Eq.refl (-2000004 : Int32)))]
    · have c : ¬ nI w = (-2000004 : Int32) := fun z => by
        have := nI_pos' (n := w) (by omega)
        rw [z] at this
        exact absurd this (by decide)
      rw [w1, w2, if_pos (nI_m1 (by omega)), if_pos c]
  · unfold jErE jErr
    rw [x2]
    rcases e3 with ⟨w1, w2⟩ | ⟨w, w0, w1, w2⟩
    · rw [w1, if_neg (not_not_intro (Eq.refl (-2000004 : Int32))), o2]
      exact jm_dif (by omega) (by omega)
    · have c : ¬ nI w = (-2000004 : Int32) := fun z => by
        have := nI_pos' (n := w) (by omega)
        rw [z] at this
        exact absurd this (by decide)
      rw [w1, if_pos c]
      exact jm_dif w0 (by omega)
theorem jm_erN {v : U} {f : V1} {n h r : Nat} (hL : LRel v f n h r) : ∀ i, i ≤ jKp h n → jErN v h n i + mErN f (jKp h n - i) = mErN f (jKp h n)
  | 0, _ => Nat.zero_add _
  | i + 1, hi => by
    have ih := jm_erN hL i (by omega)
    obtain ⟨e1, -, -⟩ := jm_ent (i := i) hL (by omega)
    rw [show jKp h n - i = jKp h n - (i + 1) + 1 from by omega, mErN, e1] at ih
    rw [jErN]
    by_cases c : jErI v h n i = 0
    · rw [if_pos c] at ih
      rw [if_neg (not_not_intro c)]
      omega
    · rw [if_neg c] at ih
      rw [if_pos c]
      omega
theorem jm_erS {v : U} {f : V1} {n h r : Nat} (hL : LRel v f n h r) : ∀ i, i ≤ jKp h n → jErS v h n i + mErS f (jKp h n - i) = mErS f (jKp h n)
  | 0, _ => Int32.zero_add _
  | i + 1, hi => by
    have ih := jm_erS hL i (by omega)
    obtain ⟨e1, e2, -⟩ := jm_ent (i := i) hL (by omega)
    rw [show jKp h n - i = jKp h n - (i + 1) + 1 from by omega, mErS, e1, e2] at ih
    rw [jErS]
    by_cases c : jErI v h n i = 0
    · rw [if_pos c] at ih
      rw [if_neg (not_not_intro c), ← ih, Int32.add_assoc, Int32.add_comm (jErE v h n i)]
    · rw [if_neg c] at ih
      rw [if_pos c]
      exact ih
theorem jm_erZ {v : U} {f : V1} {n h r : Nat} (hL : LRel v f n h r) : ∀ i, i ≤ jKp h n → jErZ v h n i + mErZ f (jKp h n - i) = mErZ f (jKp h n)
  | 0, _ => Int32.zero_add _
  | i + 1, hi => by
    have ih := jm_erZ hL i (by omega)
    obtain ⟨e1, e2, -⟩ := jm_ent (i := i) hL (by omega)
    rw [show jKp h n - i = jKp h n - (i + 1) + 1 from by omega, mErZ, e1, e2, jm_abs] at ih
    rw [jErZ]
    by_cases c : jErI v h n i = 0
    · rw [if_pos c] at ih
      rw [if_neg (not_not_intro c), ← ih, Int32.add_assoc, Int32.add_comm (jAbs (jErE v h n i))]
    · rw [if_neg c] at ih
      rw [if_pos c]
      exact ih
theorem jm_mx1 {a b : Int32} : (if a < b then b else a).toInt = max a.toInt b.toInt := by
  by_cases h : a < b
  · have := y_ltI.mp h
    rw [if_pos h]; omega
  · have : ¬ a.toInt < b.toInt := fun q => h (y_ltI.mpr q)
    rw [if_neg h]; omega
theorem jm_mx2 {a b : Int32} : (if b ≤ a then a else b).toInt = max a.toInt b.toInt := by
  by_cases h : b ≤ a
  · have := y_leI.mp h
    rw [if_pos h]; omega
  · have : ¬ b.toInt ≤ a.toInt := fun q => h (y_leI.mpr q)
    rw [if_neg h]; omega
theorem jm_erG0 {v : U} {h n : Nat} : ∀ i, 0 ≤ (jErG v h n i).toInt
  | 0 => by show 0 ≤ (0 : Int32).toInt; decide
  | i + 1 => by
    have ih := jm_erG0 (v := v) (h := h) (n := n) i
    rw [jErG]
    split
    · exact ih
    · rw [jm_mx1]; omega
theorem jm_erG {v : U} {f : V1} {n h r : Nat} (hL : LRel v f n h r) : ∀ i, i ≤ jKp h n → max (jErG v h n i).toInt (mErG f (jKp h n - i)).toInt = max 0 (mErG f (jKp h n)).toInt
  | 0, _ => rfl
  | i + 1, hi => by
    have ih := jm_erG hL i (by omega)
    obtain ⟨e1, e2, -⟩ := jm_ent (i := i) hL (by omega)
    rw [show jKp h n - i = jKp h n - (i + 1) + 1 from by omega, mErG, e1, e2, jm_abs] at ih
    rw [jErG]
    by_cases c : jErI v h n i = 0
    · rw [if_pos c, jm_mx2] at ih
      rw [if_neg (not_not_intro c), jm_mx1]
      omega
    · rw [if_neg c] at ih
      rw [if_pos c]
      exact ih
theorem jm_mG0 {f : V1} : ∀ k, 0 ≤ (mErG f k).toInt
  | 0 => by show 0 ≤ (0 : Int32).toInt; decide
  | k + 1 => by
    have ih := jm_mG0 (f := f) k
    rw [mErG]
    split
    · rw [jm_mx2]; omega
    · exact ih
theorem jm_zn {v : U} {f : V1} {n h r : Nat} (hL : LRel v f n h r) : ∀ i, i ≤ jKp h n → jErN v h n i ≤ i ∧ ∃ z, z ≤ 1000000 * i ∧ jErZ v h n i = nI z
  | 0, _ => ⟨Nat.le_refl 0, 0, by omega, rfl⟩
  | i + 1, hi => by
    obtain ⟨g1, z, g2, g3⟩ := jm_zn hL i (by omega)
    obtain ⟨-, -, m, m1, m2⟩ := jm_ent (i := i) hL (by omega)
    rw [jErN, jErZ]
    by_cases c : jErI v h n i = 0
    · rw [if_neg (not_not_intro c), if_neg (not_not_intro c), g3, m2, nI_add]
      exact ⟨by omega, z + m, by omega, rfl⟩
    · rw [if_pos c, if_pos c]
      exact ⟨by omega, z, by omega, g3⟩
/-- ALL THE ERRORS -/
theorem errs_eq {v : U} {f : V1} {n h r : Nat} (hL : LRel v f n h r) : jErN v h n (jKp h n) = mErN f (jKp h n) ∧ jErS v h n (jKp h n) = mErS f (jKp h n) ∧ jErG v h n (jKp h n) = mErG f (jKp h n) ∧ jErF v h n (jKp h n) = mErF f (jKp h n) := by
  have hN := jm_erN hL (jKp h n) (Nat.le_refl _)
  have hS := jm_erS hL (jKp h n) (Nat.le_refl _)
  have hZ := jm_erZ hL (jKp h n) (Nat.le_refl _)
  have hG := jm_erG hL (jKp h n) (Nat.le_refl _)
  rw [Nat.sub_self] at hN hS hZ hG
  have eN : jErN v h n (jKp h n) = mErN f (jKp h n) := hN
  have eZ : jErZ v h n (jKp h n) = mErZ f (jKp h n) := (Int32.add_zero _).symm.trans hZ
  refine ⟨eN, (Int32.add_zero _).symm.trans hS, ?_, ?_⟩
  · have g1 := jm_erG0 (v := v) (h := h) (n := n) (jKp h n)
    have g2 := jm_mG0 (f := f) (jKp h n)
    have g3 : (mErG f 0).toInt = 0 := by show (0 : Int32).toInt = 0; decide
    rw [g3] at hG
    exact Int32.toInt.inj (by omega)
  · unfold jErF mErF
    rw [eN, eZ]
theorem jm_fOk {v : U} {f : V1} {n h r : Nat} (hL : LRel v f n h r) (hn : ¬ nI (jErN v h n (jKp h n)) = 0) : fOk (jErF v h n (jKp h n)) := by
  obtain ⟨g1, z, g2, g3⟩ := jm_zn hL (jKp h n) (Nat.le_refl _)
  have k16 := jKp_16 h n
  have h0 : jErN v h n (jKp h n) ≠ 0 := fun q => hn (by rw [q]; rfl)
  unfold jErF
  rw [g3]
  by_cases hz : z = 0
  · rw [hz]
    exact Or.inl (fQuot0 h0 (by omega))
  · exact Or.inr (fQuot hz (by omega) h0 (by omega))
theorem jm_bits {x : UInt32} (h : fOk x) : fBits x = x.toInt32 := by
  rcases h with h | ⟨e, t, h, h1, h2, h3⟩
  · rw [h]
    decide +kernel
  · rw [h, fNaN_F h2 h1 h3]
    rfl
theorem ers_eq {v : U} {f : V1} {x : Int32} {n h r : Nat} (hL : LRel v f n h r) : jErsR v x h n = mErsR f x (jKp h n) := by
  obtain ⟨e1, e2, e3, e4⟩ := errs_eq hL
  have e5 := jm_fOk hL
  unfold jErsR mErsR
  rw [e1, e2, e3]
  rw [e1] at e5
  rcases jm_oi (x := x) (y := 0) (z := 3) with ⟨o1, o2⟩ | ⟨o1, o2⟩
  · rw [o1, o2, if_neg (show ¬ ¬ (0 : Int32) = 0 by decide), if_neg (show ¬ (1 : Int32) = 0 by decide)]
    by_cases x0 : x = 0
    · rw [if_neg (not_not_intro x0), if_neg (not_not_intro x0)]
    · rw [if_pos x0, if_pos x0]
      by_cases hN : nI (mErN f (jKp h n)) = 0
      · rw [if_neg (not_not_intro hN), if_neg (not_not_intro hN)]
      · rw [if_pos hN, if_pos hN, ← jm_bits (e5 hN), e4]
  · rw [o1, o2, if_pos (show ¬ (1 : Int32) = 0 by decide), if_pos (show (0 : Int32) = 0 from rfl)]
theorem hfd_j {v : U} {f : V1} {n h r : Nat} (hL : LRel v f n h r) : ¬ nI (jErN v h n (jKp h n)) = 0 → fOk (jErF v h n (jKp h n)) := jm_fOk hL
theorem hfd_m {v : U} {f : V1} {n h r : Nat} (hL : LRel v f n h r) : ¬ nI (mErN f (jKp h n)) = 0 → vf_n32 (mErF f (jKp h n)) := by
  obtain ⟨e1, -, -, e4⟩ := errs_eq hL
  rw [← e1, ← e4]
  exact fun q => fOk_n (jm_fOk hL q)
