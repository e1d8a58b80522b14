/-! mending: the pairs, the class's two scans and the model's row -/
def PRel (v : U) (f : V1) : Prop := ∀ k, k < 3 → (v 9 k = 0 ∧ f (40 + k) = -1) ∨ ∃ p z, p ≤ 100000 ∧ 1 ≤ z ∧ z ≤ 10000 ∧ v 8 k = nI p ∧ f (40 + k) = nI p ∧ v 9 k = nI z ∧ f (43 + k) = nI z
abbrev mF (f : V1) (k : Nat) : Int := (f (40 + k)).toInt
theorem PR_pos {v : U} {f : V1} {k : Nat} (h : PRel v f) (hk : k < 3) (hp : 0 < mF f k) : ∃ p z, 1 ≤ p ∧ p ≤ 100000 ∧ 1 ≤ z ∧ z ≤ 10000 ∧ v 8 k = nI p ∧ f (40 + k) = nI p ∧ v 9 k = nI z ∧ f (43 + k) = nI z := by
  rcases h k hk with ⟨h1, h2⟩ | ⟨p, z, a1, a2, a3, e1, e2, e3, e4⟩
  · unfold mF at hp
    rw [h2] at hp
    exact absurd hp (by decide)
  · refine ⟨p, z, ?_, a1, a2, a3, e1, e2, e3, e4⟩
    unfold mF at hp
    rw [e2, nI_toInt (by omega)] at hp
    omega
theorem jKn_n {z : Nat} (h1 : 1 ≤ z) (h2 : z < 2 ^ 31) : jKn (nI z) = 1 := if_neg (nI_nle h1 h2)
theorem PR_ms {v : U} {f : V1} {k : Nat} {o : Int32} {w : Int32 × Int32} (h : PRel v f) (hk : k < 3) : jMS v o w k = if 0 < mF f k then (jLo v o w.1 k, jHi v o w.2 k) else w := by
  unfold jMS mF
  rcases h k hk with ⟨h1, h2⟩ | ⟨p, z, a1, a2, a3, e1, e2, e3, e4⟩
  · rw [h1, h2, if_pos (show jKn 0 = 0 from rfl), if_neg (by decide)]
  · rw [e3, jKn_n a2 (by omega), if_neg (by decide), e1, e2, nI_toInt (by omega)]
    by_cases hp : p = 0
    · subst hp
      rw [if_pos (show nI 0 ≤ 0 from by decide), if_neg (by omega)]
    · rw [if_neg (nI_nle (by omega) (by omega)), if_pos (by omega)]
def LoS (f : V1) (O : Int) (K : Nat) (lo : Int32) : Prop := (lo = -1 ∧ ∀ k, k < K → 0 < mF f k → O < mF f k) ∨ ∃ j, j < K ∧ lo = nI j ∧ 0 < mF f j ∧ mF f j ≤ O ∧ (∀ k, k < K → 0 < mF f k → mF f k ≤ O → mF f k ≤ mF f j) ∧ ∀ k, k < j → 0 < mF f k → ¬ mF f k = mF f j
def HiS (f : V1) (O : Int) (K : Nat) (hi : Int32) : Prop := (hi = -1 ∧ ∀ k, k < K → 0 < mF f k → mF f k < O) ∨ ∃ j, j < K ∧ hi = nI j ∧ 0 < mF f j ∧ O ≤ mF f j ∧ (∀ k, k < K → 0 < mF f k → O ≤ mF f k → mF f j ≤ mF f k) ∧ ∀ k, k < j → 0 < mF f k → ¬ mF f k = mF f j
theorem lt_step {K k : Nat} (h : k < K + 1) : k < K ∨ k = K := by omega
theorem LoS_s {v : U} {f : V1} {o l : Int32} {K : Nat} (h : PRel v f) (hK : K < 3) (hp : 0 < mF f K) (hl : LoS f o.toInt K l) : LoS f o.toInt (K + 1) (jLo v o l K) := by
  obtain ⟨p, z, -, -, -, -, e1, e2, -, -⟩ := PR_pos h hK hp
  have e8 : (v 8 K).toInt = mF f K := by unfold mF; rw [e1, e2]
  unfold jLo
  by_cases h1 : o < v 8 K
  · rw [if_pos h1]
    have g1 := y_ltI.mp h1
    rw [e8] at g1
    rcases hl with ⟨a1, a2⟩ | ⟨j, a1, a2, a3, a4, a5, a6⟩
    · refine Or.inl ⟨a1, fun k hk hpk => ?_⟩
      rcases lt_step hk with q | q
      · exact a2 k q hpk
      · rw [q]; exact g1
    · refine Or.inr ⟨j, by omega, a2, a3, a4, fun k hk hpk hle => ?_, a6⟩
      rcases lt_step hk with q | q
      · exact a5 k q hpk hle
      · rw [q] at hle; omega
  · rw [if_neg h1]
    have g1 : mF f K ≤ o.toInt := by
      have : ¬ o.toInt < (v 8 K).toInt := fun z => h1 (y_ltI.mpr z)
      rw [e8] at this
      omega
    rcases hl with ⟨a1, a2⟩ | ⟨j, a1, a2, a3, a4, a5, a6⟩
    · rw [if_pos a1]
      refine Or.inr ⟨K, by omega, rfl, hp, g1, fun k hk hpk hle => ?_, fun k hk hpk he => ?_⟩
      · rcases lt_step hk with q | q
        · have := a2 k q hpk; omega
        · rw [q]; exact Int.le_refl _
      · have := a2 k hk hpk; omega
    · rw [a2, if_neg (y_m1 j (by omega)), nI_clamp (by omega)]
      obtain ⟨p2, z2, -, -, -, -, d1, d2, -, -⟩ := PR_pos h (show j < 3 by omega) a3
      have d8 : (v 8 j).toInt = mF f j := by unfold mF; rw [d1, d2]
      by_cases h2 : v 8 K ≤ v 8 j
      · rw [if_pos h2]
        have g2 := y_leI.mp h2
        rw [e8, d8] at g2
        refine Or.inr ⟨j, by omega, rfl, a3, a4, fun k hk hpk hle => ?_, a6⟩
        rcases lt_step hk with q | q
        · exact a5 k q hpk hle
        · rw [q]; exact g2
      · rw [if_neg h2]
        have g2 : mF f j < mF f K := by
          have : ¬ (v 8 K).toInt ≤ (v 8 j).toInt := fun z => h2 (y_leI.mpr z)
          rw [e8, d8] at this
          omega
        refine Or.inr ⟨K, by omega, rfl, hp, g1, fun k hk hpk hle => ?_, fun k hk hpk he => ?_⟩
        · rcases lt_step hk with q | q
          · have := a5 k q hpk hle; omega
          · rw [q]; exact Int.le_refl _
        · have := a5 k hk hpk (by omega); omega
theorem HiS_s {v : U} {f : V1} {o l : Int32} {K : Nat} (h : PRel v f) (hK : K < 3) (hp : 0 < mF f K) (hl : HiS f o.toInt K l) : HiS f o.toInt (K + 1) (jHi v o l K) := by
  obtain ⟨p, z, -, -, -, -, e1, e2, -, -⟩ := PR_pos h hK hp
  have e8 : (v 8 K).toInt = mF f K := by unfold mF; rw [e1, e2]
  unfold jHi
  by_cases h1 : v 8 K < o
  · rw [if_pos h1]
    have g1 := y_ltI.mp h1
    rw [e8] at g1
    rcases hl with ⟨a1, a2⟩ | ⟨j, a1, a2, a3, a4, a5, a6⟩
    · refine Or.inl ⟨a1, fun k hk hpk => ?_⟩
      rcases lt_step hk with q | q
      · exact a2 k q hpk
      · rw [q]; exact g1
    · refine Or.inr ⟨j, by omega, a2, a3, a4, fun k hk hpk hle => ?_, a6⟩
      rcases lt_step hk with q | q
      · exact a5 k q hpk hle
      · rw [q] at hle; omega
  · rw [if_neg h1]
    have g1 : o.toInt ≤ mF f K := by
      have : ¬ (v 8 K).toInt < o.toInt := fun z => h1 (y_ltI.mpr z)
      rw [e8] at this
      omega
    rcases hl with ⟨a1, a2⟩ | ⟨j, a1, a2, a3, a4, a5, a6⟩
    · rw [if_pos a1]
      refine Or.inr ⟨K, by omega, rfl, hp, g1, fun k hk hpk hle => ?_, fun k hk hpk he => ?_⟩
      · rcases lt_step hk with q | q
        · have := a2 k q hpk; omega
        · rw [q]; exact Int.le_refl _
      · have := a2 k hk hpk; omega
    · rw [a2, if_neg (y_m1 j (by omega)), nI_clamp (by omega)]
      obtain ⟨p2, z2, -, -, -, -, d1, d2, -, -⟩ := PR_pos h (show j < 3 by omega) a3
      have d8 : (v 8 j).toInt = mF f j := by unfold mF; rw [d1, d2]
      by_cases h2 : v 8 j ≤ v 8 K
      · rw [if_pos h2]
        have g2 := y_leI.mp h2
        rw [e8, d8] at g2
        refine Or.inr ⟨j, by omega, rfl, a3, a4, fun k hk hpk hle => ?_, a6⟩
        rcases lt_step hk with q | q
        · exact a5 k q hpk hle
        · rw [q]; exact g2
      · rw [if_neg h2]
        have g2 : mF f K < mF f j := by
          have : ¬ (v 8 j).toInt ≤ (v 8 K).toInt := fun z => h2 (y_leI.mpr z)
          rw [e8, d8] at this
          omega
        refine Or.inr ⟨K, by omega, rfl, hp, g1, fun k hk hpk hle => ?_, fun k hk hpk he => ?_⟩
        · rcases lt_step hk with q | q
          · have := a5 k q hpk hle; omega
          · rw [q]; exact Int.le_refl _
        · have := a5 k hk hpk (by omega); omega
theorem LoS_k {f : V1} {O : Int} {K : Nat} {l : Int32} (hp : ¬ 0 < mF f K) (hl : LoS f O K l) : LoS f O (K + 1) l := by
  rcases hl with ⟨a1, a2⟩ | ⟨j, a1, a2, a3, a4, a5, a6⟩
  · refine Or.inl ⟨a1, fun k hk hpk => ?_⟩
    rcases lt_step hk with q | q
    · exact a2 k q hpk
    · rw [q] at hpk; exact absurd hpk hp
  · refine Or.inr ⟨j, by omega, a2, a3, a4, fun k hk hpk hle => ?_, a6⟩
    rcases lt_step hk with q | q
    · exact a5 k q hpk hle
    · rw [q] at hpk; exact absurd hpk hp
theorem HiS_k {f : V1} {O : Int} {K : Nat} {l : Int32} (hp : ¬ 0 < mF f K) (hl : HiS f O K l) : HiS f O (K + 1) l := by
  rcases hl with ⟨a1, a2⟩ | ⟨j, a1, a2, a3, a4, a5, a6⟩
  · refine Or.inl ⟨a1, fun k hk hpk => ?_⟩
    rcases lt_step hk with q | q
    · exact a2 k q hpk
    · rw [q] at hpk; exact absurd hpk hp
  · refine Or.inr ⟨j, by omega, a2, a3, a4, fun k hk hpk hle => ?_, a6⟩
    rcases lt_step hk with q | q
    · exact a5 k q hpk hle
    · rw [q] at hpk; exact absurd hpk hp
theorem jML_S {v : U} {f : V1} {o : Int32} (h : PRel v f) : ∀ K, K ≤ 3 → LoS f o.toInt K (jML v o K).1 ∧ HiS f o.toInt K (jML v o K).2
  | 0, _ => ⟨Or.inl ⟨rfl, fun k hk => absurd hk (Nat.not_lt_zero k)⟩, Or.inl ⟨rfl, fun k hk => absurd hk (Nat.not_lt_zero k)⟩⟩
  | K + 1, hK => by
    obtain ⟨g1, g2⟩ := jML_S (o := o) h K (by omega)
    rw [jML, PR_ms h (by omega)]
    by_cases hp : 0 < mF f K
    · rw [if_pos hp]
      exact ⟨LoS_s h (by omega) hp g1, HiS_s h (by omega) hp g2⟩
    · rw [if_neg hp]
      exact ⟨LoS_k hp g1, HiS_k hp g2⟩
/-- the model's row has every reference that counts -/
theorem mSame_F {f : V1} {k : Nat} (hp : ¬ f (40 + k) ≤ 0) : ∀ {j : Nat}, mSame f k j = 0 → ∃ i, i < j ∧ f (40 + i) = f (40 + k)
  | 0, h => by
    unfold mSame at h
    rw [if_neg hp] at h
    exact absurd h (by decide)
  | j + 1, h => by
    unfold mSame at h
    by_cases hc : mSame f k j = 0
    · obtain ⟨i, hi, e⟩ := mSame_F hp hc
      exact ⟨i, by omega, e⟩
    · rw [if_neg hc] at h
      by_cases he : f (40 + j) = f (40 + k)
      · exact ⟨j, by omega, he⟩
      · rw [if_neg he] at h
        exact absurd h (by decide)
theorem mRow_all (f g0 : V1) : ∀ k, k ≤ 3 → ∀ j, j < k → 0 < mF f j → ∃ i, i < (mRow f g0 k).2 ∧ ∃ a, a ≤ j ∧ (mRow f g0 k).1 i = nI a ∧ f (40 + a) = f (40 + j)
  | 0, _, j, hj, _ => absurd hj (Nat.not_lt_zero j)
  | k + 1, hk, j, hj, hp => by
    have ih := mRow_all f g0 k (by omega)
    show ∃ i, i < (mRowS f (mRow f g0 k) k).2 ∧ ∃ a, a ≤ j ∧ (mRowS f (mRow f g0 k) k).1 i = nI a ∧ f (40 + a) = f (40 + j)
    generalize hG : (mRow f g0 k).1 = g at ih
    generalize hM : (mRow f g0 k).2 = m at ih
    unfold mRowS
    rw [hG, hM]
    by_cases hc : mSame f k k = 0
    · rw [if_pos hc]
      rcases lt_step hj with q | q
      · exact ih j q hp
      · subst q
        have hp2 : ¬ f (40 + j) ≤ 0 := by
          intro z
          have z1 := y_leI.mp z
          rw [show (0 : Int32).toInt = 0 from rfl] at z1
          unfold mF at hp
          omega
        obtain ⟨i, hi, e⟩ := mSame_F hp2 hc
        obtain ⟨t, ht, a, ha, e1, e2⟩ := ih i hi (by unfold mF; rw [e]; exact hp)
        exact ⟨t, ht, a, by omega, e1, e2.trans e⟩
    · rw [if_neg hc]
      obtain ⟨h1, h2, h3, h4, h5, h6⟩ := mSift_spec f k m g
      generalize hg' : (mSift f k g m).1 = g' at h2 h3 h4
      generalize hp' : (mSift f k g m).2 = p at h1 h2 h3 h5 h6
      dsimp only
      rcases lt_step hj with q | q
      · obtain ⟨t, ht, a, ha, e1, e2⟩ := ih j q hp
        rcases Nat.lt_or_ge t p with r | r
        · exact ⟨t, by omega, a, ha, by rw [pk_un (by omega), h2 t r]; exact e1, e2⟩
        · exact ⟨t + 1, by omega, a, ha, by rw [pk_un (by omega), h3 (t + 1) (by omega) (by omega), Nat.add_sub_cancel]; exact e1, e2⟩
      · subst q
        exact ⟨p, by omega, j, Nat.le_refl j, pk_us, rfl⟩
/-- the values -/
theorem jMBy_v {v : U} {j p z O : Nat} {o : Int32} (ho : o = nI O) (hO : O ≤ 100000) (e8 : v 8 j = nI p) (e9 : v 9 j = nI z) (hp : 1 ≤ p) (hp2 : p ≤ 100000) (hz : z ≤ 10000) : jMBy v j o = nI (if 1000000 < O * z / p then 1000000 else O * z / p) := by
  have hb : O * z ≤ 100000 * 10000 := Nat.mul_le_mul hO hz
  have hd : O * z / p ≤ O * z := Nat.div_le_self _ _
  unfold jMBy
  have hq : (nI O).toInt64 * (nI z).toInt64 / (nI p).toInt64 = lN (O * z / p) := by
    rw [nI_l (by omega), nI_l (by omega), nI_l (by omega), lN_mul]
    apply Int64.toInt.inj
    rw [Int64.toInt_div, lN_toInt (by omega), lN_toInt (by omega), lN_toInt (by omega), ← Int.ofNat_tdiv]
    generalize O * z / p = G at hd ⊢
    exact i_bm64 (by omega) (by omega)
  rw [e8, e9, ho, if_neg (nI_ne0 hp (by omega)), hq]
  by_cases h : 1000000 < O * z / p
  · rw [if_pos h, if_pos (show (1000000 : Int64) < lN (O * z / p) from (lN_lt (a := 1000000) (by omega) (by omega)).mpr h)]
    rfl
  · rw [if_neg h, if_neg (show ¬ (1000000 : Int64) < lN (O * z / p) from fun y => h ((lN_lt (a := 1000000) (by omega) (by omega)).mp y)), lN_i]
theorem mAlone_v {f : V1} {j p z O : Nat} {o : Int32} (ho : o = nI O) (hO : O ≤ 100000) (e8 : f (40 + j) = nI p) (e9 : f (43 + j) = nI z) (hp2 : p ≤ 100000) (hz : z ≤ 10000) : mCut (mAlone f j o) = nI (if 1000000 < O * z / p then 1000000 else O * z / p) := by
  have hb : O * z ≤ 100000 * 10000 := Nat.mul_le_mul hO hz
  have hd : O * z / p ≤ O * z := Nat.div_le_self _ _
  have hq : mAlone f j o = lN (O * z / p) := by
    unfold mAlone
    rw [e8, e9, ho, nI_l (by omega), nI_l (by omega), nI_l (by omega), lN_mul]
    apply Int64.toInt.inj
    rw [Int64.toInt_div, lN_toInt (by omega), lN_toInt (by omega), lN_toInt (by omega), ← Int.ofNat_tdiv]
    generalize O * z / p = G at hd ⊢
    exact i_bm64 (by omega) (by omega)
  unfold mCut
  rw [hq]
  by_cases h : 1000000 < O * z / p
  · rw [if_pos h, if_neg]
    · rfl
    · intro y
      have := lg_le.mp y
      rw [lN_toInt (by omega), show (1000000 : Int64).toInt = 1000000 from rfl] at this
      omega
  · rw [if_neg h, if_pos, lN_i]
    rw [lg_le, lN_toInt (by omega), show (1000000 : Int64).toInt = 1000000 from rfl]
    omega
/-- between P and Q (sizes S and T) -/
def vBt (O P Q S T : Nat) : Int := S + (((O : Int) - P) * ((T : Int) - S)) / ((Q : Int) - P)
theorem vBt_b {O P Q S T : Nat} (h1 : P ≤ O) (h2 : O ≤ Q) (h3 : P < Q) (hO : O ≤ 100000) (hS : 1 ≤ S) (hS2 : S ≤ 10000) (hT : 1 ≤ T) (hT2 : T ≤ 10000) : -1000000000 ≤ ((O : Int) - P) * ((T : Int) - S) ∧ ((O : Int) - P) * ((T : Int) - S) ≤ 1000000000 ∧ 1 ≤ vBt O P Q S T ∧ vBt O P Q S T ≤ 10000 := by
  obtain ⟨a, rfl⟩ : ∃ a, O = P + a := ⟨O - P, by omega⟩
  obtain ⟨b, rfl⟩ : ∃ b, Q = P + b := ⟨Q - P, by omega⟩
  have ha : ((P + a : Nat) : Int) - P = (a : Int) := by omega
  have hb : ((P + b : Nat) : Int) - P = (b : Int) := by omega
  unfold vBt
  rw [ha, hb]
  have hab : a ≤ b := by omega
  rcases Nat.le_total S T with h | h
  · obtain ⟨t, rfl⟩ : ∃ t, T = S + t := ⟨T - S, by omega⟩
    have ht : ((S + t : Nat) : Int) - S = (t : Int) := by omega
    rw [ht, ← Int.natCast_mul]
    have g1 : a * t ≤ 100000 * 10000 := Nat.mul_le_mul (by omega) (by omega)
    have g2 : a * t / b ≤ t := Nat.div_le_of_le_mul (Nat.mul_le_mul_right t hab)
    have g3 : ((a * t : Nat) : Int) / (b : Int) = ((a * t / b : Nat) : Int) := rfl
    rw [g3]
    generalize a * t / b = G at g2 ⊢
    omega
  · obtain ⟨t, rfl⟩ : ∃ t, S = T + t := ⟨S - T, by omega⟩
    have ht : (T : Int) - ((T + t : Nat) : Int) = -(t : Int) := by omega
    rw [ht, Int.mul_neg, ← Int.natCast_mul]
    have g1 : a * t ≤ 100000 * 10000 := Nat.mul_le_mul (by omega) (by omega)
    have g2 : a * t ≤ b * t := Nat.mul_le_mul_right t hab
    have g4 : -(t : Int) ≤ -((a * t : Nat) : Int) / (b : Int) := Int.le_ediv_of_mul_le (by omega) (by rw [Int.neg_mul, ← Int.natCast_mul, Nat.mul_comm t b]; omega)
    have g5 : -((a * t : Nat) : Int) / (b : Int) < 1 := Int.ediv_lt_of_lt_mul (by omega) (by omega)
    omega
theorem vBt_P {P Q S T : Nat} : vBt P P Q S T = S := by
  unfold vBt
  rw [Int.sub_self, Int.zero_mul, Int.zero_ediv, Int.add_zero]
theorem vBt_Q {P Q S T : Nat} (h : P < Q) : vBt Q P Q S T = T := by
  unfold vBt
  rw [Int.mul_ediv_cancel_left _ (by omega)]
  omega
theorem nI_v {x : Int32} {V : Int} (h : x.toInt = V) (h1 : 0 ≤ V) (h2 : V ≤ 10000) : x = nI V.toNat := by
  apply Int32.toInt.inj
  rw [h, nI_toInt (by omega)]
  omega
theorem jMBt_v {v : U} {i j O P Q S T : Nat} {o : Int32} (ho : o = nI O) (hO : O ≤ 100000) (e1 : v 8 i = nI P) (e2 : v 8 j = nI Q) (e3 : v 9 i = nI S) (e4 : v 9 j = nI T) (h1 : P ≤ O) (h2 : O ≤ Q) (h3 : P < Q) (hQ : Q ≤ 100000) (hS : 1 ≤ S) (hS2 : S ≤ 10000) (hT : 1 ≤ T) (hT2 : T ≤ 10000) : jMBt v i j o = nI (vBt O P Q S T).toNat := by
  obtain ⟨b1, b2, b3, b4⟩ := vBt_b h1 h2 h3 hO hS hS2 hT hT2
  refine nI_v ?_ (by omega) b4
  unfold jMBt
  rw [e1, e2, e3, e4, ho, pk_sub (by omega), pk_sub h1, if_neg (nI_ne0 (by omega) (by omega))]
  have hd : (nI T - nI S).toInt = (T : Int) - S := pk_sub_toInt (by omega) (by omega)
  have ha : (nI (O - P) * (nI T - nI S)).toInt = ((O : Int) - P) * ((T : Int) - S) := by
    rw [Int32.toInt_mul, hd, nI_toInt (by omega), show ((O - P : Nat) : Int) = (O : Int) - P from by omega]
    exact i_bm (by omega) (by omega)
  have hf := jFD_v ha b1 b2 (b := nI (Q - P)) rfl (by omega) (by omega)
  rw [show ((Q - P : Nat) : Int) = (Q : Int) - P from by omega] at hf
  rw [Int32.toInt_add, hf, nI_toInt (by omega)]
  exact i_bm (by unfold vBt at b3; omega) (by unfold vBt at b4; omega)
theorem mBt_v {f : V1} {i j O P Q S T : Nat} {o : Int32} (ho : o = nI O) (hO : O ≤ 100000) (e1 : f (40 + i) = nI P) (e2 : f (40 + j) = nI Q) (e3 : f (43 + i) = nI S) (e4 : f (43 + j) = nI T) (h1 : P ≤ O) (h2 : O ≤ Q) (h3 : P < Q) (hQ : Q ≤ 100000) (hS : 1 ≤ S) (hS2 : S ≤ 10000) (hT : 1 ≤ T) (hT2 : T ≤ 10000) : mCut (mBetw f i j o) = nI (vBt O P Q S T).toNat := by
  obtain ⟨b1, b2, b3, b4⟩ := vBt_b h1 h2 h3 hO hS hS2 hT hT2
  have hd : (nI T - nI S).toInt = (T : Int) - S := pk_sub_toInt (by omega) (by omega)
  have ha : (lN (O - P) * (nI T - nI S).toInt64).toInt = ((O : Int) - P) * ((T : Int) - S) := by
    rw [Int64.toInt_mul, Int32.toInt_toInt64, hd, lN_toInt (by omega), show ((O - P : Nat) : Int) = (O : Int) - P from by omega]
    exact i_bm64 (by omega) (by omega)
  have hf := mDn_v ha b1 b2 (b := lN (Q - P)) (B := Q - P) (lN_toInt (by omega)) (by omega) (by omega)
  rw [show ((Q - P : Nat) : Int) = (Q : Int) - P from by omega] at hf
  have hv : (mBetw f i j o).toInt = vBt O P Q S T := by
    unfold mBetw
    rw [e1, e2, e3, e4, ho, nI_l (n := O) (by omega), nI_l (n := P) (by omega), nI_l (n := Q) (by omega), nI_l (n := S) (by omega), lN_sub h1, lN_sub (by omega), Int64.toInt_add, hf, lN_toInt (by omega)]
    exact i_bm64 (by unfold vBt at b3; omega) (by unfold vBt at b4; omega)
  unfold mCut
  rw [if_pos (lg_le.mpr (by rw [hv, show (1000000 : Int64).toInt = 1000000 from rfl]; omega))]
  refine nI_v ?_ (by omega) b4
  rw [Int64.toInt_toInt32, hv]
  exact i_bm (by omega) (by omega)
theorem mFind_S {f g : V1} {o : Int32} : ∀ (k i t : Nat), i ≤ t → t < i + k → o ≤ f (40 + (g t).toNatClampNeg) → i ≤ mFind f g o k i ∧ mFind f g o k i ≤ t ∧ o ≤ f (40 + (g (mFind f g o k i)).toNatClampNeg) ∧ ∀ s, i ≤ s → s < mFind f g o k i → ¬ o ≤ f (40 + (g s).toNatClampNeg)
  | 0, i, t, h1, h2, _ => absurd h2 (by omega)
  | k + 1, i, t, h1, h2, h3 => by
    rw [mFind]
    by_cases h : o ≤ f (40 + (g i).toNatClampNeg)
    · rw [if_pos h]
      exact ⟨Nat.le_refl i, h1, h, fun s hs hs2 => absurd hs2 (by omega)⟩
    · rw [if_neg h]
      have hne : i ≠ t := fun z => h (by rw [z]; exact h3)
      obtain ⟨g1, g2, g3, g4⟩ := mFind_S k (i + 1) t (by omega) (by omega) h3
      refine ⟨by omega, g2, g3, fun s hs hs2 => ?_⟩
      by_cases e : s = i
      · rw [e]; exact h
      · exact g4 s (by omega) hs2
theorem mend_eq {v : U} {f g0 : V1} {o : Int32} {O : Nat} (h : PRel v f) (ho : o = nI O) (hO : O ≤ 100000) : (jMend v o = -2000004 ∧ mMendR f (mRow f g0 3).1 (mRow f g0 3).2 o = -1) ∨ ∃ w, w ≤ 1000000 ∧ jMend v o = nI w ∧ mMendR f (mRow f g0 3).1 (mRow f g0 3).2 o = nI w := by
  obtain ⟨r1, r2, r3⟩ := mRow_ok f g0 3 (Nat.le_refl 3)
  have r4 := mRow_all f g0 3 (Nat.le_refl 3)
  obtain ⟨hL, hH⟩ := jML_S (o := o) h 3 (Nat.le_refl 3)
  generalize hg : (mRow f g0 3).1 = g at r2 r3 r4 ⊢
  generalize hm : (mRow f g0 3).2 = m at r1 r2 r3 r4 ⊢
  generalize hlo : (jML v o 3).1 = lo at hL
  generalize hhi : (jML v o 3).2 = hi at hH
  have hoi : o.toInt = (O : Int) := by rw [ho]; exact nI_toInt (by omega)
  rw [hoi] at hL hH
  -- the row's places
  have ent : ∀ i, i < m → ∃ (j p z : Nat), j < 3 ∧ (g i).toNatClampNeg = j ∧ mF f j = (p : Int) ∧ 1 ≤ p ∧ p ≤ 100000 ∧ 1 ≤ z ∧ z ≤ 10000 ∧ v 8 j = nI p ∧ f (40 + j) = nI p ∧ v 9 j = nI z ∧ f (43 + j) = nI z := by
    intro i hi
    obtain ⟨j, hj, ej, hp⟩ := r2 i hi
    have hp2 : 0 < mF f j := y_ltI.mp hp
    obtain ⟨p, z, a1, a2, a3, a4, e1, e2, e3, e4⟩ := PR_pos h hj hp2
    exact ⟨j, p, z, hj, by rw [ej, nI_clamp (by omega)], by unfold mF; rw [e2, nI_toInt (by omega)], a1, a2, a3, a4, e1, e2, e3, e4⟩
  have inc : ∀ i j, i < j → j < m → mF f (g i).toNatClampNeg < mF f (g j).toNatClampNeg := fun i j hij hj => y_ltI.mp (r3 i j hij hj)
  -- a scan's reference stands in the row
  have inrow : ∀ j, j < 3 → 0 < mF f j → (∀ k, k < j → 0 < mF f k → ¬ mF f k = mF f j) → ∃ i, i < m ∧ (g i).toNatClampNeg = j := by
    intro j hj hp hlow
    obtain ⟨i, hi, a, ha, e1, e2⟩ := r4 j hj hp
    refine ⟨i, hi, ?_⟩
    rw [e1, nI_clamp (by omega)]
    rcases Nat.lt_or_ge a j with q | q
    · exact absurd (by unfold mF; rw [e2]) (hlow a q (by unfold mF; rw [e2]; exact hp))
    · omega
  have hJ : jMend v o = (if lo = -1 then (if hi = -1 then -2000004 else jMBy v hi.toNatClampNeg o) else if hi = -1 then jMBy v lo.toNatClampNeg o else jMBt v lo.toNatClampNeg hi.toNatClampNeg o) := by unfold jMend; rw [hlo, hhi]
  by_cases hm0 : m = 0
  · left
    have nolo : lo = -1 := by
      rcases hL with ⟨a1, -⟩ | ⟨j, a1, a2, a3, a4, a5, a6⟩
      · exact a1
      · obtain ⟨i, hi, -⟩ := inrow j a1 a3 a6; omega
    have nohi : hi = -1 := by
      rcases hH with ⟨a1, -⟩ | ⟨j, a1, a2, a3, a4, a5, a6⟩
      · exact a1
      · obtain ⟨i, hi, -⟩ := inrow j a1 a3 a6; omega
    refine ⟨by rw [hJ, if_pos nolo, if_pos nohi], ?_⟩
    unfold mMendR
    rw [if_pos hm0]
  · right
    obtain ⟨j0, p0, z0, c1, c2, c3, c4, c5, c6, c7, c8, c9, c10, c11⟩ := ent 0 (by omega)
    have hlt0 : (o < f (40 + (g 0).toNatClampNeg)) ↔ O < p0 := by
      rw [y_ltI, hoi, c2, show (f (40 + j0)).toInt = (p0 : Int) from c3]
      omega
    have alone : ∀ i, i < m → ∃ w, w ≤ 1000000 ∧ jMBy v (g i).toNatClampNeg o = nI w ∧ mCut (mAlone f (g i).toNatClampNeg o) = nI w := by
      intro i hi
      obtain ⟨j, p, z, d1, d2, d3, d4, d5, d6, d7, d8, d9, d10, d11⟩ := ent i hi
      rw [d2]
      exact ⟨_, by split <;> omega, jMBy_v ho hO d8 d10 d4 d5 d7, mAlone_v ho hO d9 d11 d5 d7⟩
    by_cases h1 : O < p0
    · -- below the first
      have nolo : lo = -1 := by
        rcases hL with ⟨a1, -⟩ | ⟨j, a1, a2, a3, a4, a5, a6⟩
        · exact a1
        · obtain ⟨i, hi, ei⟩ := inrow j a1 a3 a6
          exfalso
          by_cases e : i = 0
          · rw [e, c2] at ei
            rw [← ei, c3] at a4
            omega
          · have := inc 0 i (by omega) hi
            rw [c2, c3, ei] at this
            omega
      obtain ⟨j, a1, a2, a3, a4, a5, a6⟩ : ∃ j, j < 3 ∧ hi = nI j ∧ 0 < mF f j ∧ (O : Int) ≤ mF f j ∧ (∀ k, k < 3 → 0 < mF f k → (O : Int) ≤ mF f k → mF f j ≤ mF f k) ∧ ∀ k, k < j → 0 < mF f k → ¬ mF f k = mF f j := by
        rcases hH with ⟨a1, a2⟩ | hh
        · have := a2 j0 c1 (by rw [c3]; omega)
          rw [c3] at this
          omega
        · exact hh
      obtain ⟨i, hi', ei⟩ := inrow j a1 a3 a6
      have hi0 : i = 0 := by
        rcases Nat.eq_zero_or_pos i with q | q
        · exact q
        · have g1 := inc 0 i q hi'
          have g2 := a5 j0 c1 (by rw [c3]; omega) (by rw [c3]; omega)
          rw [c2, ei] at g1
          omega
      obtain ⟨w, hw, w1, w2⟩ := alone 0 (by omega)
      refine ⟨w, hw, ?_, ?_⟩
      · rw [hJ, if_pos nolo, a2, if_neg (y_m1 j a1), nI_clamp (by omega), ← ei, hi0]; exact w1
      · unfold mMendR
        rw [if_neg hm0, if_pos (hlt0.mpr h1)]; exact w2
    · -- at or above the first: the lower one is there
      obtain ⟨j, a1, a2, a3, a4, a5, a6⟩ : ∃ j, j < 3 ∧ lo = nI j ∧ 0 < mF f j ∧ mF f j ≤ (O : Int) ∧ (∀ k, k < 3 → 0 < mF f k → mF f k ≤ (O : Int) → mF f k ≤ mF f j) ∧ ∀ k, k < j → 0 < mF f k → ¬ mF f k = mF f j := by
        rcases hL with ⟨a1, a2⟩ | hh
        · have := a2 j0 c1 (by rw [c3]; omega)
          rw [c3] at this
          omega
        · exact hh
      obtain ⟨ia, hia, eia⟩ := inrow j a1 a3 a6
      obtain ⟨jl, pl, zl, l1, l2, l3, l4, l5, l6, l7, l8, l9, l10, l11⟩ := ent (m - 1) (by omega)
      have hle0 : (o ≤ f (40 + (g (m - 1)).toNatClampNeg)) ↔ O ≤ pl := by
        rw [y_leI, hoi, l2, show (f (40 + jl)).toInt = (pl : Int) from l3]
        omega
      have hlast : pl < O → hi = -1 ∧ ia = m - 1 := by
        intro hlo2
        constructor
        · rcases hH with ⟨b1, -⟩ | ⟨jb, b1, b2, b3, b4, b5, b6⟩
          · exact b1
          · exfalso
            obtain ⟨ib, hib, eib⟩ := inrow jb b1 b3 b6
            by_cases e : ib = m - 1
            · rw [e, l2] at eib
              rw [← eib, l3] at b4
              omega
            · have := inc ib (m - 1) (by omega) (by omega)
              rw [l2, l3, eib] at this
              omega
        · by_cases e : ia = m - 1
          · exact e
          · exfalso
            have g1 := inc ia (m - 1) (by omega) (by omega)
            have g2 := a5 jl l1 (by rw [l3]; omega) (by rw [l3]; omega)
            rw [eia, l2] at g1
            omega
      by_cases hm1 : m = 1
      · -- one alone
        have hia0 : ia = 0 := by omega
        have hj0 : j = j0 := by rw [← eia, hia0, c2]
        obtain ⟨w, hw, w1, w2⟩ := alone 0 (by omega)
        refine ⟨w, hw, ?_, ?_⟩
        · rw [hJ, a2, if_neg (y_m1 j a1), nI_clamp (by omega)]
          rcases hH with ⟨b1, -⟩ | ⟨jb, b1, b2, b3, b4, b5, b6⟩
          · rw [if_pos b1, hj0, ← c2]; exact w1
          · obtain ⟨ib, hib, eib⟩ := inrow jb b1 b3 b6
            have hjb : jb = j0 := by rw [← eib, show ib = 0 from by omega, c2]
            have hOp : O = p0 := by
              rw [hjb, c3] at b4
              rw [hj0, c3] at a4
              omega
            rw [b2, if_neg (y_m1 jb b1), nI_clamp (by omega), hj0, hjb]
            unfold jMBt
            rw [Int32.sub_self, if_pos rfl, c10, ← w1, c2, jMBy_v ho hO c8 c10 c4 c5 c7, hOp, Nat.mul_div_cancel_left _ (by omega), if_neg (by omega)]
        · unfold mMendR
          rw [if_neg hm0, if_neg (fun q => h1 (hlt0.mp q)), if_pos hm1]; exact w2
      · by_cases h2 : O ≤ pl
        · -- between
          obtain ⟨k1, k2, k3, k4⟩ := mFind_S (f := f) (g := g) (o := o) 3 1 (m - 1) (by omega) (by omega) (hle0.mpr h2)
          have hM : mMendR f g m o = mCut (mBetw f (g (mFind f g o 3 1 - 1)).toNatClampNeg (g (mFind f g o 3 1)).toNatClampNeg o) := by
            unfold mMendR
            rw [if_neg hm0, if_neg (fun q => h1 (hlt0.mp q)), if_neg hm1, if_pos (hle0.mpr h2)]
          rw [hM]
          generalize hk : mFind f g o 3 1 = k at k1 k2 k3 k4 ⊢
          obtain ⟨jx, P, S, x1, x2, x3, x4, x5, x6, x7, x8, x9, x10, x11⟩ := ent (k - 1) (by omega)
          obtain ⟨jy, Q, T, y1, y2, y3, y4, y5, y6, y7, y8, y9, y10, y11⟩ := ent k (by omega)
          have hOQ : O ≤ Q := by
            have := y_leI.mp k3
            rw [hoi, y2, show (f (40 + jy)).toInt = (Q : Int) from y3] at this
            omega
          have hPO : P ≤ O := by
            by_cases e : k = 1
            · rw [show k - 1 = 0 from by omega, c2] at x2
              rw [← x2, c3] at x3
              omega
            · have := k4 (k - 1) (by omega) (by omega)
              rw [y_leI, hoi, x2, show (f (40 + jx)).toInt = (P : Int) from x3] at this
              omega
          have hPQ : P < Q := by
            have := inc (k - 1) k (by omega) (by omega)
            rw [x2, x3, y2, y3] at this
            omega
          obtain ⟨b1', b2', b3', b4'⟩ := vBt_b hPO hOQ hPQ hO x6 x7 y6 y7
          have hMv := mBt_v ho hO x9 y9 x11 y11 hPO hOQ hPQ y5 x6 x7 y6 y7
          rw [x2, y2]
          refine ⟨(vBt O P Q S T).toNat, by omega, ?_, hMv⟩
          -- where the two scans stand
          have hia2 : ia = k - 1 ∨ ia = k := by
            have g1 : mF f jx ≤ mF f j := a5 jx x1 (by rw [x3]; omega) (by rw [x3]; omega)
            rcases Nat.lt_or_ge ia (k - 1) with q | q
            · have := inc ia (k - 1) q (by omega)
              rw [eia, x2] at this
              omega
            · rcases Nat.lt_or_ge k ia with r | r
              · have := inc k ia r hia
                rw [eia, y2, y3] at this
                omega
              · omega
          obtain ⟨jb, d1, d2, d3, d4, d5, d6⟩ : ∃ jb, jb < 3 ∧ hi = nI jb ∧ 0 < mF f jb ∧ (O : Int) ≤ mF f jb ∧ (∀ k, k < 3 → 0 < mF f k → (O : Int) ≤ mF f k → mF f jb ≤ mF f k) ∧ ∀ k, k < jb → 0 < mF f k → ¬ mF f k = mF f jb := by
            rcases hH with ⟨d1, d2⟩ | hh
            · have := d2 jy y1 (by rw [y3]; omega)
              rw [y3] at this
              omega
            · exact hh
          obtain ⟨ib, hib, eib⟩ := inrow jb d1 d3 d6
          have hib2 : ib = k - 1 ∨ ib = k := by
            have g1 : mF f jb ≤ mF f jy := d5 jy y1 (by rw [y3]; omega) (by rw [y3]; omega)
            rcases Nat.lt_or_ge ib (k - 1) with q | q
            · have := inc ib (k - 1) q (by omega)
              rw [eib, x2, x3] at this
              omega
            · rcases Nat.lt_or_ge k ib with r | r
              · have := inc k ib r hib
                rw [eib, y2] at this
                omega
              · omega
          rw [hJ, a2, if_neg (y_m1 j a1), d2, if_neg (y_m1 jb d1), nI_clamp (by omega), nI_clamp (by omega)]
          rcases hia2 with qa | qa
          · have ej : j = jx := by rw [← eia, qa, x2]
            rcases hib2 with qb | qb
            · have eb : jb = jx := by rw [← eib, qb, x2]
              have hOp : O = P := by
                rw [eb, x3] at d4
                omega
              rw [ej, eb]
              unfold jMBt
              rw [Int32.sub_self, if_pos rfl, x10, hOp, vBt_P]
              rfl
            · have eb : jb = jy := by rw [← eib, qb, y2]
              rw [ej, eb]
              exact jMBt_v ho hO x8 y8 x10 y10 hPO hOQ hPQ y5 x6 x7 y6 y7
          · have ej : j = jy := by rw [← eia, qa, y2]
            have hOq : O = Q := by
              rw [ej, y3] at a4
              omega
            have eb : jb = jy := by
              rcases hib2 with qb | qb
              · exfalso
                have eb : jb = jx := by rw [← eib, qb, x2]
                rw [eb, x3] at d4
                omega
              · rw [← eib, qb, y2]
            rw [ej, eb]
            unfold jMBt
            rw [Int32.sub_self, if_pos rfl, y10, hOq, vBt_Q hPQ]
            rfl
        · obtain ⟨t1, t2⟩ := hlast (by omega)
          obtain ⟨w, hw, w1, w2⟩ := alone (m - 1) (by omega)
          refine ⟨w, hw, ?_, ?_⟩
          · rw [hJ, a2, if_neg (y_m1 j a1), if_pos t1, nI_clamp (by omega), ← eia, t2]; exact w1
          · unfold mMendR
            rw [if_neg hm0, if_neg (fun q => h1 (hlt0.mp q)), if_neg hm1, if_neg (fun q => h2 (hle0.mp q))]; exact w2
