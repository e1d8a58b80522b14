/-! hand-overs: the class's and the model's alike; in natural numbers; what would be -/
theorem i_ss (h c : Int32) : h - (h - c) = c := by
  rw [Int32.sub_eq_add_neg h (h - c), Int32.sub_eq_add_neg h c, Int32.neg_add, Int32.sub_eq_add_neg (-h) (-c), Int32.neg_neg, ← Int32.add_assoc, ← Int32.sub_eq_add_neg, Int32.sub_self, Int32.zero_add]
theorem mOver_eq (h c : Int32) : mOver h c = h - jMin h c := by
  unfold mOver jMin
  by_cases hc : h ≤ c
  · rw [if_pos hc, if_neg (Int32.not_lt.mpr hc), Int32.sub_self]
  · rw [if_neg hc, if_pos (Int32.not_le.mp hc)]
theorem mMin_eq (h c : Int32) : h - mOver h c = jMin h c := by rw [mOver_eq, i_ss]
def SRel (v : U) (f : V1) (n : Nat) : Prop := ∀ k, k < n → v 1 k = f (10 + k) ∧ v 2 k = f (20 + k) ∧ v 3 k = f (30 + k)
theorem SR_HS {cap : Int32} {w : U × Int32} {y : V1 × Int32} {n k : Nat} (hn : n ≤ 10) (hk : k < n) (hs : SRel w.1 y.1 n) (h2 : w.2 = y.2) (hc : y.1 5 = cap) : SRel (jHS cap w k).1 (mHS y k).1 n ∧ (jHS cap w k).2 = (mHS y k).2 ∧ (mHS y k).1 5 = cap ∧ (w.1 7 0 = y.1 49 → (jHS cap w k).1 7 0 = (mHS y k).1 49) ∧ (w.1 6 0 = y.1 48 → (jHS cap w k).1 6 0 = (mHS y k).1 48) := by
  obtain ⟨e1, e2, e3⟩ := hs k hk
  have es : jStay w.1 k = mStay y.1 k := by unfold jStay mStay; rw [e1, e2]
  have el : jLeak w.1 k = mLeak y.1 k := by unfold jLeak mLeak; rw [es, e1, e3]
  refine ⟨?_, ?_, ?_, ?_, ?_⟩
  · intro j hj
    obtain ⟨g1, g2, g3⟩ := hs j hj
    refine ⟨?_, ?_, ?_⟩
    · show upd (w.1 1) k (jMin (jStay w.1 k + w.2) cap) j = upd (upd (upd y.1 48 _) 49 _) (10 + k) (mStay y.1 k + y.2 - mOver (mStay y.1 k + y.2) (y.1 5)) (10 + j)
      by_cases h : j = k
      · subst h; rw [pk_us, pk_us, mMin_eq, es, h2, hc]
      · rw [pk_un h, pk_un (by omega), pk_un (by omega), pk_un (by omega)]; exact g1
    · show w.1 2 j = upd (upd (upd y.1 48 _) 49 _) (10 + k) _ (20 + j)
      rw [pk_un (by omega), pk_un (by omega), pk_un (by omega)]; exact g2
    · show w.1 3 j = upd (upd (upd y.1 48 _) 49 _) (10 + k) _ (30 + j)
      rw [pk_un (by omega), pk_un (by omega), pk_un (by omega)]; exact g3
  · show w.1 1 k - jStay w.1 k - jLeak w.1 k = mMov y.1 k
    unfold mMov
    rw [e1, es, el]
  · show upd (upd (upd y.1 48 _) 49 _) (10 + k) _ 5 = cap
    rw [pk_un (by omega), pk_un (by omega), pk_un (by omega)]; exact hc
  · intro h7
    show w.1 7 0 + ((jStay w.1 k + w.2) - jMin (jStay w.1 k + w.2) cap) = upd (upd (upd y.1 48 _) 49 (y.1 49 + mOver (mStay y.1 k + y.2) (y.1 5))) (10 + k) _ 49
    rw [pk_un (by omega), pk_us, h7, es, h2, hc, mOver_eq]
  · intro h6
    show w.1 6 0 + jLeak w.1 k = upd (upd (upd y.1 48 (y.1 48 + mLeak y.1 k)) 49 _) (10 + k) _ 48
    rw [pk_un (by omega), pk_un (by omega), pk_us, h6, el]
theorem SR_HL {x cap : Int32} {v : U} {f : V1} {n : Nat} (hn : n ≤ 10) (hs : SRel v f n) (hc : f 5 = cap) : ∀ k, k ≤ n → SRel (jHL x cap v k).1 (mHL x f k).1 n ∧ (jHL x cap v k).2 = (mHL x f k).2 ∧ (mHL x f k).1 5 = cap ∧ (v 7 0 = f 49 → (jHL x cap v k).1 7 0 = (mHL x f k).1 49) ∧ (v 6 0 = f 48 → (jHL x cap v k).1 6 0 = (mHL x f k).1 48)
  | 0, _ => ⟨hs, rfl, hc, fun h => h, fun h => h⟩
  | k + 1, hk => by
    obtain ⟨g1, g2, g3, g4, g5⟩ := SR_HL (x := x) hn hs hc k (by omega)
    obtain ⟨r1, r2, r3, r4, r5⟩ := SR_HS (k := k) hn (by omega) g1 g2 g3
    exact ⟨r1, r2, r3, fun h => r4 (g4 h), fun h => r5 (g5 h)⟩
theorem mHO_L {x : Int32} {f : V1} {n j : Nat} (h6 : j ≠ 46) (h7 : j ≠ 47) : (mHO x f n).1 j = (mHL x f n).1 j := by
  unfold mHO
  dsimp only
  rw [pk_un h7, pk_un h6]
theorem mHO_46 {x : Int32} {f : V1} {n : Nat} : (mHO x f n).1 46 = (mHL x f n).1 46 + x := by
  unfold mHO
  dsimp only
  rw [pk_un (by decide), pk_us]
theorem mHO_47 {x : Int32} {f : V1} {n : Nat} : (mHO x f n).1 47 = (mHL x f n).1 47 + (mHL x f n).2 := by
  unfold mHO
  dsimp only
  rw [pk_us]
theorem SR_HO {x cap : Int32} {v : U} {f : V1} {n : Nat} (hn : n ≤ 10) (hs : SRel v f n) (hc : f 5 = cap) : SRel (jHO x cap v n).1 (mHO x f n).1 n ∧ (jHO x cap v n).2 = (mHO x f n).2 ∧ (mHO x f n).1 5 = cap ∧ (v 7 0 = f 49 → (jHO x cap v n).1 7 0 = (mHO x f n).1 49) ∧ (v 6 0 = f 48 → (jHO x cap v n).1 6 0 = (mHO x f n).1 48) ∧ (v 4 0 = f 46 → (jHO x cap v n).1 4 0 = (mHO x f n).1 46) ∧ (v 5 0 = f 47 → (jHO x cap v n).1 5 0 = (mHO x f n).1 47) := by
  obtain ⟨g1, g2, g3, g4, g5⟩ := SR_HL (x := x) hn hs hc n (Nat.le_refl n)
  refine ⟨fun k hk => ?_, g2, ?_, fun h => ?_, fun h => ?_, fun h => ?_, fun h => ?_⟩
  · obtain ⟨e1, e2, e3⟩ := g1 k hk
    refine ⟨?_, ?_, ?_⟩
    · rw [mHO_L (by omega) (by omega)]; exact e1
    · rw [mHO_L (by omega) (by omega)]; exact e2
    · rw [mHO_L (by omega) (by omega)]; exact e3
  · rw [mHO_L (by decide) (by decide)]; exact g3
  · rw [mHO_L (by decide) (by decide)]; exact g4 h
  · rw [mHO_L (by decide) (by decide)]; exact g5 h
  · rw [mHO_46, mHL_o x f 46 (by decide) (by decide) (by omega) n hn, ← h]
    show (jHL x cap v n).1 4 0 + x = v 4 0 + x
    rw [jHL_0 x cap v 4 (by decide) (by decide) (by decide)]
  · rw [mHO_47, mHL_o x f 47 (by decide) (by decide) (by omega) n hn, ← h, ← g2]
    show (jHL x cap v n).1 5 0 + (jHL x cap v n).2 = v 5 0 + _
    rw [jHL_0 x cap v 5 (by decide) (by decide) (by decide)]
/-! in natural numbers -/
def nSt (c s : Nat) : Nat := c * s / 1000
def nLv (c s l : Nat) : Nat := c - nSt c s - nSt (c - nSt c s) l
theorem nSt_le {c s : Nat} (hs : s ≤ 1000) : nSt c s ≤ c := by
  unfold nSt
  refine Nat.div_le_of_le_mul ?_
  rw [Nat.mul_comm]
  exact Nat.mul_le_mul_right c hs
theorem nSt_mono {c d s : Nat} (h : c ≤ d) : nSt c s ≤ nSt d s := Nat.div_le_div_right (Nat.mul_le_mul_right s h)
theorem nKeep_mono {c d s : Nat} (hs : s ≤ 1000) (h : c ≤ d) : c - nSt c s ≤ d - nSt d s := by
  obtain ⟨e, rfl⟩ : ∃ e, d = c + e := ⟨d - c, by omega⟩
  have h1 : nSt (c + e) s ≤ nSt c s + e := by
    unfold nSt
    have h2 : (c + e) * s ≤ c * s + e * 1000 := by
      rw [Nat.add_mul]
      exact Nat.add_le_add_left (Nat.mul_le_mul_left e hs) _
    refine Nat.le_trans (Nat.div_le_div_right h2) ?_
    rw [Nat.add_mul_div_right _ _ (by decide)]
    exact Nat.le_refl _
  have h3 := nSt_le (c := c) hs
  have h4 := nSt_le (c := c + e) hs
  omega
theorem nLv_mono {c d s l : Nat} (hs : s ≤ 1000) (hl : l ≤ 1000) (h : c ≤ d) : nLv c s l ≤ nLv d s l := nKeep_mono hl (nKeep_mono hs h)
theorem nLv_le {c s l : Nat} : nLv c s l ≤ c := by unfold nLv; omega
def nMin (a b : Nat) : Nat := if b < a then b else a
def nH (C : Nat) (s l : Nat → Nat) (X : Nat) (c : Nat → Nat) : Nat → (Nat → Nat) × Nat × Nat
  | 0 => (c, X, 0)
  | k + 1 => (fun j => if j = k then nMin (nSt ((nH C s l X c k).1 k) (s k) + (nH C s l X c k).2.1) C else (nH C s l X c k).1 j, nLv ((nH C s l X c k).1 k) (s k) (l k), (nH C s l X c k).2.2 + (nSt ((nH C s l X c k).1 k) (s k) + (nH C s l X c k).2.1 - C))
/-- the stages n hold the charges c, and have the shares s and l -/
def NC (v : U) (c s l : Nat → Nat) (n : Nat) : Prop := ∀ k, k < n → v 1 k = nI (c k) ∧ c k ≤ 100000 ∧ v 2 k = nI (s k) ∧ s k ≤ 300 ∧ v 3 k = nI (l k) ∧ l k ≤ 300
theorem nMin_le {a b : Nat} : nMin a b ≤ b := by unfold nMin; split <;> omega
theorem jMin_n {a b : Nat} (ha : a < 2 ^ 31) (hb : b < 2 ^ 31) : jMin (nI a) (nI b) = nI (nMin a b) := by
  unfold jMin nMin
  by_cases h : b < a
  · rw [if_pos h, if_pos ((nI_ltI hb ha).mpr h)]
  · rw [if_neg h, if_neg (fun z => h ((nI_ltI hb ha).mp z))]
theorem jSh_n {c s : Nat} (hc : c ≤ 100000) (hs : s ≤ 300) : nI c * nI s / 1000 = nI (nSt c s) := by
  have h : c * s ≤ 100000 * 300 := Nat.mul_le_mul hc hs
  rw [pk_mul]
  exact pk_div (d := 1000) (by omega) (by decide) (by decide)
theorem NC_stay {v : U} {c s l : Nat → Nat} {n k : Nat} (h : NC v c s l n) (hk : k < n) : jStay v k = nI (nSt (c k) (s k)) := by
  obtain ⟨e1, b1, e2, b2, -, -⟩ := h k hk
  unfold jStay
  rw [e1, e2]
  exact jSh_n b1 b2
theorem NC_leak {v : U} {c s l : Nat → Nat} {n k : Nat} (h : NC v c s l n) (hk : k < n) : jLeak v k = nI (nSt (c k - nSt (c k) (s k)) (l k)) := by
  obtain ⟨e1, b1, e2, b2, e3, b3⟩ := h k hk
  unfold jLeak
  rw [NC_stay h hk, e1, e3, pk_sub (nSt_le (by omega))]
  exact jSh_n (by omega) b3
theorem NC_leav {v : U} {c s l : Nat → Nat} {n k : Nat} (h : NC v c s l n) (hk : k < n) : v 1 k - jStay v k - jLeak v k = nI (nLv (c k) (s k) (l k)) := by
  obtain ⟨e1, b1, e2, b2, e3, b3⟩ := h k hk
  rw [NC_stay h hk, NC_leak h hk, e1, pk_sub (nSt_le (by omega)), pk_sub (nSt_le (by omega))]
  rfl
theorem NC_HL {C X : Nat} {v : U} {c s l : Nat → Nat} {n : Nat} (hC : C ≤ 100000) (hX : X ≤ 100000) (h : NC v c s l n) : ∀ k, k ≤ n → NC (jHL (nI X) (nI C) v k).1 (nH C s l X c k).1 s l n ∧ (jHL (nI X) (nI C) v k).2 = nI (nH C s l X c k).2.1 ∧ (nH C s l X c k).2.1 ≤ 100000 ∧ (jHL (nI X) (nI C) v k).1 7 0 = v 7 0 + nI (nH C s l X c k).2.2 ∧ (nH C s l X c k).2.2 ≤ 200000 * k
  | 0, _ => ⟨h, rfl, hX, (Int32.add_zero _).symm, Nat.le_refl _⟩
  | k + 1, hk => by
    obtain ⟨g1, g2, g3, g4, g5⟩ := NC_HL hC hX h k (by omega)
    have hkn : k < n := by omega
    obtain ⟨e1, b1, e2, b2, e3, b3⟩ := g1 k hkn
    have hst := nSt_le (c := (nH C s l X c k).1 k) (s := s k) (by omega)
    have ht : jStay (jHL (nI X) (nI C) v k).1 k + (jHL (nI X) (nI C) v k).2 = nI (nSt ((nH C s l X c k).1 k) (s k) + (nH C s l X c k).2.1) := by
      rw [NC_stay g1 hkn, g2, nI_add]
    refine ⟨fun j hj => ?_, ?_, ?_, ?_, ?_⟩
    · obtain ⟨f1, a1, f2, a2, f3, a3⟩ := g1 j hj
      refine ⟨?_, ?_, f2, a2, f3, a3⟩
      · show upd ((jHL (nI X) (nI C) v k).1 1) k (jMin (jStay (jHL (nI X) (nI C) v k).1 k + (jHL (nI X) (nI C) v k).2) (nI C)) j = nI (if j = k then nMin (nSt ((nH C s l X c k).1 k) (s k) + (nH C s l X c k).2.1) C else (nH C s l X c k).1 j)
        by_cases hjk : j = k
        · rw [if_pos hjk, hjk, pk_us, ht, jMin_n (by omega) (by omega)]
        · rw [if_neg hjk, pk_un hjk]; exact f1
      · show (if j = k then nMin (nSt ((nH C s l X c k).1 k) (s k) + (nH C s l X c k).2.1) C else (nH C s l X c k).1 j) ≤ 100000
        split
        · exact Nat.le_trans nMin_le hC
        · exact a1
    · exact NC_leav g1 hkn
    · exact Nat.le_trans nLv_le b1
    · show (jHL (nI X) (nI C) v k).1 7 0 + ((jStay (jHL (nI X) (nI C) v k).1 k + (jHL (nI X) (nI C) v k).2) - jMin (jStay (jHL (nI X) (nI C) v k).1 k + (jHL (nI X) (nI C) v k).2) (nI C)) = _
      rw [g4, ht, jMin_n (by omega) (by omega), pk_sub (by unfold nMin; split <;> omega), Int32.add_assoc, nI_add]
      congr 2
      show (nH C s l X c k).2.2 + _ = (nH C s l X c k).2.2 + _
      congr 1
      unfold nMin
      split <;> omega
    · show (nH C s l X c k).2.2 + (nSt ((nH C s l X c k).1 k) (s k) + (nH C s l X c k).2.1 - C) ≤ 200000 * (k + 1)
      omega
theorem NC_HO {C X : Nat} {v : U} {c s l : Nat → Nat} {n : Nat} (hC : C ≤ 100000) (hX : X ≤ 100000) (h : NC v c s l n) : NC (jHO (nI X) (nI C) v n).1 (nH C s l X c n).1 s l n ∧ (jHO (nI X) (nI C) v n).2 = nI (nH C s l X c n).2.1 ∧ (nH C s l X c n).2.1 ≤ 100000 ∧ (jHO (nI X) (nI C) v n).1 7 0 = v 7 0 + nI (nH C s l X c n).2.2 ∧ (nH C s l X c n).2.2 ≤ 200000 * n := NC_HL hC hX h n (Nat.le_refl n)
/-- the charges are some numbers -/
def CBd (v : U) (n : Nat) : Prop := ∃ c s l, NC v c s l n
theorem CB_HO {C X : Nat} {v : U} {n : Nat} (hC : C ≤ 100000) (hX : X ≤ 100000) (h : CBd v n) : CBd (jHO (nI X) (nI C) v n).1 n ∧ ∃ o, o ≤ 100000 ∧ (jHO (nI X) (nI C) v n).2 = nI o := by
  obtain ⟨c, s, l, h⟩ := h
  obtain ⟨g1, g2, g3, -, -⟩ := NC_HO hC hX h
  exact ⟨⟨_, _, _, g1⟩, _, g3, g2⟩
/-! echoes -/
theorem SR_It {cap : Int32} {n : Nat} {w : U × Int32} {y : V1 × Int32} (hn : n ≤ 10) (hs : SRel w.1 y.1 n) (h2 : w.2 = y.2) (hc : y.1 5 = cap) : ∀ k, SRel (jIt cap n w k).1 (mIt n y k).1 n ∧ (jIt cap n w k).2 = (mIt n y k).2 ∧ (mIt n y k).1 5 = cap
  | 0 => ⟨hs, h2, hc⟩
  | k + 1 => by
    obtain ⟨g1, g2, g3⟩ := SR_It hn hs h2 hc k
    obtain ⟨r1, r2, r3, -⟩ := SR_HO (x := 0) hn g1 g3
    exact ⟨r1, r2, r3⟩
theorem SR_Em {v : U} {f : V1} {n : Nat} (hn : n ≤ 10) (hs : SRel v f n) : SRel (jEm v) (mTry f n 1) n := by
  intro k hk
  obtain ⟨-, e2, e3⟩ := hs k hk
  refine ⟨?_, ?_, ?_⟩
  · show (0 : Int32) = mTry f n 1 (10 + k)
    unfold mTry
    rw [if_neg (by decide), mFil_at, if_pos (by omega)]
  · rw [mTry_o (by omega) (by omega) hn]; exact e2
  · rw [mTry_o (by omega) (by omega) hn]; exact e3
theorem SR_mix {v w : U} {f : V1} {n : Nat} (hs : SRel v f n) : SRel (stMix v w) f n := hs
theorem SR_echo {x : Int32} {v : U} {f : V1} {n k : Nat} {cap : Int32} (hn : n ≤ 10) (hs : SRel v f n) (hc : f 5 = cap) : (jLone x cap v n k).2 = (mEcho x (mTry f n 1) n k).2 := by
  have h5 : mTry f n 1 5 = cap := by rw [mTry_o (by decide) (by omega) hn]; exact hc
  obtain ⟨r1, r2, r3, -⟩ := SR_HO (x := x) hn (SR_Em hn hs) h5
  exact (SR_It hn r1 r2 r3 k).2.1
/-! worn -/
theorem SR_wo {v w : U} {f : V1} {n k : Nat} (hn : n ≤ 10) (hk : k < n) (hs : SRel v f n) (hc : f 5 = v 10 0) : (jOW v w n k).2 = (mWo f n k).2 := by
  have h5 : upd (upd (mTry f n 1) (20 + k) 0) (30 + k) 0 5 = v 10 0 := by
    rw [pk_un (by omega), pk_un (by omega), mTry_o (by decide) (by omega) hn]; exact hc
  have hS : SRel (jEm (jCS (stMix v w) k 0 0)) (upd (upd (mTry f n 1) (20 + k) 0) (30 + k) 0) n := by
    intro j hj
    obtain ⟨g1, g2, g3⟩ := SR_Em hn hs j hj
    refine ⟨?_, ?_, ?_⟩
    · show (0 : Int32) = _
      rw [pk_un (by omega), pk_un (by omega)]; exact g1
    · show upd (v 2) k 0 j = _
      by_cases h : j = k
      · subst h; rw [pk_us, pk_un (by omega), pk_us]
      · rw [pk_un h, pk_un (by omega), pk_un (by omega)]; exact g2
    · show upd (v 3) k 0 j = _
      by_cases h : j = k
      · subst h; rw [pk_us, pk_us]
      · rw [pk_un h, pk_un (by omega), pk_un (by omega)]; exact g3
  obtain ⟨r1, r2, r3, -⟩ := SR_HO (x := 10000) hn hS h5
  exact (SR_It hn r1 r2 r3 n).2.1
theorem CB_Em {v : U} {n : Nat} (h : CBd v n) : CBd (jEm v) n := by
  obtain ⟨c, s, l, h⟩ := h
  refine ⟨fun _ => 0, s, l, fun k hk => ?_⟩
  obtain ⟨-, -, e2, b2, e3, b3⟩ := h k hk
  exact ⟨rfl, Nat.zero_le _, e2, b2, e3, b3⟩
theorem CB_CS {v : U} {n k : Nat} (h : CBd v n) : CBd (jCS v k 0 0) n := by
  obtain ⟨c, s, l, h⟩ := h
  refine ⟨c, fun j => if j = k then 0 else s j, fun j => if j = k then 0 else l j, fun j hj => ?_⟩
  obtain ⟨e1, b1, e2, b2, e3, b3⟩ := h j hj
  refine ⟨e1, b1, ?_, ?_, ?_, ?_⟩
  · show upd (v 2) k 0 j = nI (if j = k then 0 else s j)
    by_cases h : j = k
    · rw [if_pos h, h, pk_us]; rfl
    · rw [if_neg h, pk_un h]; exact e2
  · dsimp only; split <;> omega
  · show upd (v 3) k 0 j = nI (if j = k then 0 else l j)
    by_cases h : j = k
    · rw [if_pos h, h, pk_us]; rfl
    · rw [if_neg h, pk_un h]; exact e3
  · dsimp only; split <;> omega
theorem CB_It {C n : Nat} {w : U × Int32} (hC : C ≤ 100000) (h : CBd w.1 n) (ho : ∃ o, o ≤ 100000 ∧ w.2 = nI o) : ∀ k, CBd (jIt (nI C) n w k).1 n ∧ ∃ o, o ≤ 100000 ∧ (jIt (nI C) n w k).2 = nI o
  | 0 => ⟨h, ho⟩
  | k + 1 => CB_HO (X := 0) hC (by decide) (CB_It hC h ho k).1
theorem wo_n {v w : U} {n k C : Nat} (hC : C ≤ 100000) (hc : v 10 0 = nI C) (h : CBd v n) : ∃ o, o ≤ 100000 ∧ (jOW v w n k).2 = nI o := by
  unfold jOW jLone
  rw [hc]
  have g := CB_HO (X := 10000) hC (by decide) (CB_Em (CB_CS (k := k) (v := stMix v w) h))
  exact (CB_It hC g.1 g.2 n).2
theorem SR_wn {v w : U} {f : V1} {n C : Nat} (hn : n ≤ 10) (hs : SRel v f n) (hc : f 5 = v 10 0) (hC : C ≤ 100000) (hcC : v 10 0 = nI C) (hb : CBd v n) : ∀ k, k < n → (jWn v w n k).2 = mWl f n (k + 1)
  | 0, hk => by
    show ((0 : Int32), (jOW v w n 0).2) = (if (mWo f n 0).2 ≤ -1 then ((0 : Int32), (-1 : Int32)) else (nI 0, (mWo f n 0).2))
    obtain ⟨o, ho, eo⟩ := wo_n (w := w) (k := 0) hC hcC hb
    rw [← SR_wo (w := w) hn hk hs hc, if_neg]
    · rfl
    · rw [eo]
      intro z
      have := Int32.le_trans (nI_pos' (n := o) (by omega)) z
      exact absurd this (by decide)
  | k + 1, hk => by
    have ih := SR_wn (w := w) hn hs hc hC hcC hb k (by omega)
    have e : (jOW v (jWn v w n k).1 n (k + 1)).2 = (mWo f n (k + 1)).2 := SR_wo hn hk hs hc
    show (if (jOW v (jWn v w n k).1 n (k + 1)).2 ≤ (jWn v w n k).2.2 then (jWn v w n k).2.1 else nI (k + 1), if (jOW v (jWn v w n k).1 n (k + 1)).2 ≤ (jWn v w n k).2.2 then (jWn v w n k).2.2 else (jOW v (jWn v w n k).1 n (k + 1)).2) = (if (mWo f n (k + 1)).2 ≤ (mWl f n (k + 1)).2 then mWl f n (k + 1) else (nI (k + 1), (mWo f n (k + 1)).2))
    rw [e, ih]
    split <;> rfl
/-! emptyAfter -/
theorem SR_sum {v : U} {f : V1} {n : Nat} (hs : SRel v f n) : ∀ k, k ≤ n → jSum (v 1) k = mSum f k
  | 0, _ => rfl
  | k + 1, hk => by
    show jSum (v 1) k + v 1 k = mSum f k + f (10 + k)
    rw [SR_sum hs k (by omega), (hs k (by omega)).1]
theorem CB_sum {v : U} {n : Nat} (h : CBd v n) : ∀ k, k ≤ n → ∃ z, z ≤ 100000 * k ∧ jSum (v 1) k = nI z
  | 0, _ => ⟨0, Nat.le_refl _, rfl⟩
  | k + 1, hk => by
    obtain ⟨z, hz, ez⟩ := CB_sum h k (by omega)
    obtain ⟨c, s, l, h⟩ := h
    obtain ⟨e1, b1, -⟩ := h k (by omega)
    refine ⟨z + c k, by omega, ?_⟩
    show jSum (v 1) k + v 1 k = _
    rw [ez, e1, nI_add]
theorem SR_emp {n C : Nat} (hn : n ≤ 10) (hC : C ≤ 100000) : ∀ (g k : Nat) (w : U) (f : V1), SRel w f n → CBd w n → f 5 = nI C → (jEA (nI C) n (g + 1) k w).2 = (if mSum (mEmp n g f k).1 n ≤ 0 then nI (mEmp n g f k).2 else -2000004)
  | 0, k, w, f, hs, hb, hc => by
    obtain ⟨z, hz, ez⟩ := CB_sum hb n (Nat.le_refl n)
    show (if jSum (w 1) n = 0 then (w, nI k) else (_, (-2000004 : Int32))).2 = (if mSum f n ≤ 0 then nI k else -2000004)
    rw [← SR_sum hs n (Nat.le_refl n), ez]
    by_cases h : z = 0
    · subst h; rfl
    · rw [if_neg (nI_ne0 (by omega) (by omega)), if_neg (nI_nle (by omega) (by omega))]
  | g + 1, k, w, f, hs, hb, hc => by
    obtain ⟨z, hz, ez⟩ := CB_sum hb n (Nat.le_refl n)
    obtain ⟨r1, r2, r3, -⟩ := SR_HO (x := 0) hn hs hc
    have ih := SR_emp hn hC g (k + 1) (jHO 0 (nI C) w n).1 (mHO 0 f n).1 r1 (CB_HO (X := 0) hC (by decide) hb).1 r3
    rw [jEA, mEmp, ← SR_sum hs n (Nat.le_refl n), ez]
    by_cases h : z = 0
    · subst h
      rw [if_pos (show nI 0 = 0 from rfl), if_pos (show nI 0 ≤ 0 from by decide)]
      dsimp only
      rw [← SR_sum hs n (Nat.le_refl n), ez, if_pos (show nI 0 ≤ 0 from by decide)]
    · rw [if_neg (nI_ne0 (by omega) (by omega)), if_neg (nI_nle (by omega) (by omega))]
      exact ih
/-! safe -/
theorem nH_mono {C n : Nat} {s l c d : Nat → Nat} {X Y : Nat} (hXY : X ≤ Y) (hsl : ∀ k, k < n → s k ≤ 300 ∧ l k ≤ 300) (hcd : ∀ k, k < n → c k ≤ d k) : ∀ k, k ≤ n → (nH C s l Y d k).2.2 = 0 → (∀ j, j < n → (nH C s l X c k).1 j ≤ (nH C s l Y d k).1 j) ∧ (nH C s l X c k).2.1 ≤ (nH C s l Y d k).2.1 ∧ (nH C s l X c k).2.2 = 0
  | 0, _, _ => ⟨hcd, hXY, rfl⟩
  | k + 1, hk, h => by
    have h0 : (nH C s l Y d k).2.2 + (nSt ((nH C s l Y d k).1 k) (s k) + (nH C s l Y d k).2.1 - C) = 0 := h
    obtain ⟨g1, g2, g3⟩ := nH_mono (C := C) hXY hsl hcd k (by omega) (by omega)
    have hb := hsl k (by omega)
    have hg := g1 k (by omega)
    have hst := nSt_mono (s := s k) hg
    refine ⟨fun j hj => ?_, nLv_mono (by omega) (by omega) hg, ?_⟩
    · show (if j = k then nMin (nSt ((nH C s l X c k).1 k) (s k) + (nH C s l X c k).2.1) C else (nH C s l X c k).1 j) ≤ (if j = k then nMin (nSt ((nH C s l Y d k).1 k) (s k) + (nH C s l Y d k).2.1) C else (nH C s l Y d k).1 j)
      by_cases hjk : j = k
      · rw [if_pos hjk, if_pos hjk]
        unfold nMin
        split <;> split <;> omega
      · rw [if_neg hjk, if_neg hjk]; exact g1 j hj
    · show (nH C s l X c k).2.2 + (nSt ((nH C s l X c k).1 k) (s k) + (nH C s l X c k).2.1 - C) = 0
      omega
def nS (C : Nat) (s l : Nat → Nat) (X n : Nat) : Nat → (Nat → Nat) × Nat
  | 0 => (fun _ => 0, 0)
  | i + 1 => ((nH C s l X (nS C s l X n i).1 n).1, (nS C s l X n i).2 + (nH C s l X (nS C s l X n i).1 n).2.2)
theorem nS_mono {C n : Nat} {s l : Nat → Nat} {X Y : Nat} (hXY : X ≤ Y) (hsl : ∀ k, k < n → s k ≤ 300 ∧ l k ≤ 300) : ∀ i, (nS C s l Y n i).2 = 0 → (∀ j, j < n → (nS C s l X n i).1 j ≤ (nS C s l Y n i).1 j) ∧ (nS C s l X n i).2 = 0
  | 0, _ => ⟨fun _ _ => Nat.le_refl _, rfl⟩
  | i + 1, h => by
    have h0 : (nS C s l Y n i).2 + (nH C s l Y (nS C s l Y n i).1 n).2.2 = 0 := h
    obtain ⟨g1, g2⟩ := nS_mono (C := C) hXY hsl i (by omega)
    obtain ⟨r1, -, r3⟩ := nH_mono (C := C) hXY hsl g1 n (Nat.le_refl n) (by omega)
    refine ⟨r1, ?_⟩
    show (nS C s l X n i).2 + (nH C s l X (nS C s l X n i).1 n).2.2 = 0
    omega
theorem nH_0 {C n : Nat} {s l : Nat → Nat} {c : Nat → Nat} (hc : ∀ k, c k = 0) : ∀ k, (∀ j, (nH C s l 0 c k).1 j = 0) ∧ (nH C s l 0 c k).2.1 = 0 ∧ (nH C s l 0 c k).2.2 = 0
  | 0 => ⟨hc, rfl, rfl⟩
  | k + 1 => by
    obtain ⟨g1, g2, g3⟩ := nH_0 (C := C) (n := n) (s := s) (l := l) hc k
    have hz : nSt ((nH C s l 0 c k).1 k) (s k) + (nH C s l 0 c k).2.1 = 0 := by
      rw [g1, g2]
      unfold nSt
      rw [Nat.zero_mul]
    refine ⟨fun j => ?_, ?_, ?_⟩
    · show (if j = k then nMin (nSt ((nH C s l 0 c k).1 k) (s k) + (nH C s l 0 c k).2.1) C else (nH C s l 0 c k).1 j) = 0
      rw [hz, g1]
      unfold nMin
      split
      · split <;> omega
      · rfl
    · show nLv ((nH C s l 0 c k).1 k) (s k) (l k) = 0
      rw [g1]
      have := nLv_le (c := 0) (s := s k) (l := l k)
      omega
    · show (nH C s l 0 c k).2.2 + (nSt ((nH C s l 0 c k).1 k) (s k) + (nH C s l 0 c k).2.1 - C) = 0
      rw [hz, g3]
      omega
theorem nS_0 {C n : Nat} {s l : Nat → Nat} : ∀ i, (∀ j, (nS C s l 0 n i).1 j = 0) ∧ (nS C s l 0 n i).2 = 0
  | 0 => ⟨fun _ => rfl, rfl⟩
  | i + 1 => by
    obtain ⟨g1, g2⟩ := nS_0 (C := C) (n := n) (s := s) (l := l) i
    obtain ⟨r1, -, r3⟩ := nH_0 (C := C) (n := n) (s := s) (l := l) g1 n
    refine ⟨r1, ?_⟩
    show (nS C s l 0 n i).2 + (nH C s l 0 (nS C s l 0 n i).1 n).2.2 = 0
    omega
/-- the shares alone -/
def NSh (v : U) (s l : Nat → Nat) (n : Nat) : Prop := ∀ k, k < n → v 2 k = nI (s k) ∧ s k ≤ 300 ∧ v 3 k = nI (l k) ∧ l k ≤ 300
/-- the class's trial, as far as it goes -/
theorem jHd_S {C X n : Nat} {v : U} {s l : Nat → Nat} (hC : C ≤ 100000) (hX : X ≤ 100000) (h10 : n ≤ 10) (h : NSh v s l n) : ∀ i, (NC (jHd (nI X) (nI C) (jEm v) n i) (nS C s l X n i).1 s l n ∧ jHd (nI X) (nI C) (jEm v) n i 7 0 = nI (nS C s l X n i).2 ∧ (nS C s l X n i).2 ≤ 2000000 * i) ∨ (¬ jHd (nI X) (nI C) (jEm v) n i 7 0 = 0 ∧ ¬ (nS C s l X n i).2 = 0)
  | 0 => Or.inl ⟨fun k hk => by
      obtain ⟨e2, b2, e3, b3⟩ := h k hk
      exact ⟨rfl, Nat.zero_le _, e2, b2, e3, b3⟩, rfl, Nat.le_refl _⟩
  | i + 1 => by
    rcases jHd_S hC hX h10 h i with ⟨g1, g2, g3⟩ | ⟨g1, g2⟩
    · by_cases hz : jHd (nI X) (nI C) (jEm v) n i 7 0 = 0
      · left
        obtain ⟨r1, -, -, r4, r5⟩ := NC_HO hC hX g1
        have e : jHd (nI X) (nI C) (jEm v) n (i + 1) = (jHO (nI X) (nI C) (jHd (nI X) (nI C) (jEm v) n i) n).1 := if_pos hz
        rw [e]
        refine ⟨r1, ?_, ?_⟩
        · rw [r4, g2, nI_add]; rfl
        · show (nS C s l X n i).2 + (nH C s l X (nS C s l X n i).1 n).2.2 ≤ 2000000 * (i + 1)
          omega
      · right
        have e : jHd (nI X) (nI C) (jEm v) n (i + 1) = jHd (nI X) (nI C) (jEm v) n i := if_neg hz
        rw [e]
        refine ⟨hz, fun z => hz ?_⟩
        have z0 : (nS C s l X n i).2 + (nH C s l X (nS C s l X n i).1 n).2.2 = 0 := z
        rw [g2, show (nS C s l X n i).2 = 0 from by omega]
        rfl
    · right
      have e : jHd (nI X) (nI C) (jEm v) n (i + 1) = jHd (nI X) (nI C) (jEm v) n i := if_neg g1
      rw [e]
      refine ⟨g1, fun z => g2 ?_⟩
      have z0 : (nS C s l X n i).2 + (nH C s l X (nS C s l X n i).1 n).2.2 = 0 := z
      omega
theorem jHd_P {C X n : Nat} {v : U} {s l : Nat → Nat} (hC : C ≤ 100000) (hX : X ≤ 100000) (h10 : n ≤ 10) (h : NSh v s l n) {i : Nat} (hi : i ≤ 40) : jHd (nI X) (nI C) (jEm v) n i 7 0 = 0 ↔ (nS C s l X n i).2 = 0 := by
  rcases jHd_S hC hX h10 h i with ⟨g1, g2, g3⟩ | ⟨g1, g2⟩
  · rw [g2]
    constructor
    · intro z
      by_cases h0 : (nS C s l X n i).2 = 0
      · exact h0
      · exact absurd z (nI_ne0 (by omega) (by omega))
    · intro z
      rw [z]; rfl
  · exact ⟨fun z => absurd z g1, fun z => absurd z g2⟩
/-- the model's -/
theorem mSfS_S {C X n : Nat} {v : U} {f : V1} {s l : Nat → Nat} (hC : C ≤ 100000) (hX : X ≤ 100000) (h10 : n ≤ 10) (h : NSh v s l n) (hs : SRel v f n) (hc : f 5 = nI C) : ∀ i, ∃ w : U, NC w (nS C s l X n i).1 s l n ∧ SRel w (mSfS (nI X) f n i) n ∧ mSfS (nI X) f n i 5 = nI C ∧ w 7 0 = mSfS (nI X) f n i 49 ∧ w 7 0 = nI (nS C s l X n i).2 ∧ (nS C s l X n i).2 ≤ 2000000 * i
  | 0 => ⟨jEm v, fun k hk => by
      obtain ⟨e2, b2, e3, b3⟩ := h k hk
      exact ⟨rfl, Nat.zero_le _, e2, b2, e3, b3⟩, SR_Em h10 hs, by rw [mSfS, mTry_o (by decide) (by omega) h10]; exact hc, by
        show (0 : Int32) = mTry f n 1 49
        unfold mTry
        rw [if_neg (by decide), mFil_at, if_neg (by omega), pk_us], rfl, Nat.le_refl _⟩
  | i + 1 => by
    obtain ⟨w, g1, g2, g3, g4, g5, g6⟩ := mSfS_S hC hX h10 h hs hc i
    obtain ⟨r1, -, -, r4, r5⟩ := NC_HO hC hX g1
    obtain ⟨t1, t2, t3, t4, -⟩ := SR_HO (x := nI X) h10 g2 g3
    refine ⟨(jHO (nI X) (nI C) w n).1, r1, t1, t3, t4 g4, ?_, ?_⟩
    · rw [r4, g5, nI_add]; rfl
    · show (nS C s l X n i).2 + (nH C s l X (nS C s l X n i).1 n).2.2 ≤ 2000000 * (i + 1)
      omega
theorem mSfS_P {C X n : Nat} {v : U} {f : V1} {s l : Nat → Nat} (hC : C ≤ 100000) (hX : X ≤ 100000) (h10 : n ≤ 10) (h : NSh v s l n) (hs : SRel v f n) (hc : f 5 = nI C) {i : Nat} (hi : i ≤ 40) : mSfS (nI X) f n i 49 = 0 ↔ (nS C s l X n i).2 = 0 := by
  obtain ⟨w, -, -, -, g4, g5, g6⟩ := mSfS_S hC hX h10 h hs hc i
  rw [← g4, g5]
  constructor
  · intro z
    by_cases h0 : (nS C s l X n i).2 = 0
    · exact h0
    · exact absurd z (nI_ne0 (by omega) (by omega))
  · intro z
    rw [z]; rfl
/-- the class's search: P is what is safe -/
theorem jSf_max {n T : Nat} {cap : Int32} {P : Nat → Prop} (hT : T = 40) (hmono : ∀ a b, a ≤ b → P b → P a) {v : U} (hP : ∀ (w : U) (a : Nat), a ≤ 10000 → (∀ k, k < n → w 2 k = v 2 k ∧ w 3 k = v 3 k) → (jHd (nI a) cap (jEm w) n T 7 0 = 0 ↔ P a)) : ∀ (g t f : Nat) (w : U), t < g → (t = 0 ∧ (∀ y, y ≤ 10000 → P y → y ≤ f) ∨ ∃ j, t = 2 ^ j ∧ ∀ y, y ≤ 10000 → P y → y < f + 2 * t) → f ≤ 10000 → P f → (∀ k, k < n → w 2 k = v 2 k ∧ w 3 k = v 3 k) → P (jSf cap n g t f w).2 ∧ (jSf cap n g t f w).2 ≤ 10000 ∧ ∀ y, y ≤ 10000 → P y → y ≤ (jSf cap n g t f w).2
  | 0, t, f, w, ht, _, _, _, _ => absurd ht (Nat.not_lt_zero _)
  | g + 1, t, f, w, ht, hb, hf, hPf, hw => by
    rcases hb with ⟨h0, hb⟩ | ⟨j, ej, hb⟩
    · subst h0
      rw [jSf_e]
      exact ⟨hPf, hf, hb⟩
    · have hpos := Nat.two_pow_pos j
      have ht0 : ¬ t = 0 := by omega
      have next : ∀ f', (∀ y, y ≤ 10000 → P y → y < f' + t) → (t / 2 = 0 ∧ (∀ y, y ≤ 10000 → P y → y ≤ f') ∨ ∃ j, t / 2 = 2 ^ j ∧ ∀ y, y ≤ 10000 → P y → y < f' + 2 * (t / 2)) := by
        intro f' hf'
        cases j with
        | zero =>
          left
          rw [Nat.pow_zero] at ej
          subst ej
          exact ⟨by decide, fun y hy hPy => by have := hf' y hy hPy; omega⟩
        | succ j =>
          right
          rw [Nat.pow_succ] at ej
          refine ⟨j, by omega, fun y hy hPy => ?_⟩
          have := hf' y hy hPy
          omega
      have hlt : t / 2 < g := by omega
      have hsub : ∀ (a : Nat), ∀ k, k < n → jHd (nI a) cap (jEm w) n 40 2 k = v 2 k ∧ jHd (nI a) cap (jEm w) n 40 3 k = v 3 k := by
        intro a k hk
        have key : ∀ (r : Nat), r = 2 ∨ r = 3 → ∀ i, jHd (nI a) cap (jEm w) n i r = w r := by
          intro r hr i
          induction i with
          | zero => rcases hr with rfl | rfl <;> rfl
          | succ i ih =>
            unfold jHd
            split
            · rw [jHO_0 _ _ _ _ r (by omega) (by omega) (by omega) (by omega) (by omega)]; exact ih
            · exact ih
        rw [key 2 (Or.inl rfl) 40, key 3 (Or.inr rfl) 40]
        exact hw k hk
      by_cases h1 : f + t ≤ 10000
      · have hq := hP w (f + t) h1 hw
        rw [hT] at hq
        by_cases h2 : jHd (nI (f + t)) cap (jEm w) n 40 7 0 = 0
        · rw [jSf_y (Nat.succ_pos g) ht0 h1 h2]
          exact jSf_max hT hmono hP g (t / 2) (f + t) _ hlt (next (f + t) (fun y hy hPy => by have := hb y hy hPy; omega)) h1 (hq.mp h2) (hsub _)
        · rw [jSf_n (Nat.succ_pos g) ht0 h1 h2]
          refine jSf_max hT hmono hP g (t / 2) f _ hlt (next f (fun y hy hPy => ?_)) hf hPf (hsub _)
          rcases Nat.lt_or_ge y (f + t) with h3 | h3
          · exact h3
          · exact absurd (hq.mpr (hmono _ _ h3 hPy)) h2
      · rw [jSf_x (Nat.succ_pos g) ht0 h1]
        exact jSf_max hT hmono hP g (t / 2) f w hlt (next f (fun y hy hPy => by omega)) hf hPf hw
/-- the model's search -/
theorem mSf_max {n T : Nat} {f : V1} {P : Nat → Prop} (hT : T = 40) (hmono : ∀ a b, a ≤ b → P b → P a) (hP : ∀ (a : Nat), a ≤ 10000 → (mSfS (nI a) f n T 49 = 0 ↔ P a)) : ∀ (k lo hi : Nat) (g : V1), hi < lo + k → lo ≤ hi → hi ≤ 10000 → P lo → (∀ y, y ≤ 10000 → P y → y ≤ hi) → P (mSf f n k lo hi g).1 ∧ (mSf f n k lo hi g).1 ≤ 10000 ∧ ∀ y, y ≤ 10000 → P y → y ≤ (mSf f n k lo hi g).1
  | 0, lo, hi, g, hk, hl, _, _, _ => absurd hk (by omega)
  | k + 1, lo, hi, g, hk, hl, hh, hPl, hb => by
    rw [mSf]
    by_cases h1 : hi ≤ lo
    · rw [if_pos h1]
      exact ⟨hPl, by omega, fun y hy hPy => by have := hb y hy hPy; omega⟩
    · rw [if_neg h1]
      have hq := hP ((lo + hi + 1) / 2) (by omega)
      rw [hT] at hq
      by_cases h2 : mSfS (nI ((lo + hi + 1) / 2)) f n 40 49 = 0
      · rw [if_neg (show ¬ (if ¬ mSfS (nI ((lo + hi + 1) / 2)) f n 40 49 = 0 then (0 : Int32) else 1) = 0 from by rw [if_neg (not_not_intro h2)]; decide)]
        exact mSf_max hT hmono hP k _ hi _ (by omega) (by omega) hh (hq.mp h2) hb
      · rw [if_pos (show (if ¬ mSfS (nI ((lo + hi + 1) / 2)) f n 40 49 = 0 then (0 : Int32) else 1) = 0 from by rw [if_pos h2])]
        refine mSf_max hT hmono hP k lo _ _ (by omega) (by omega) (by omega) hPl (fun y hy hPy => ?_)
        rcases Nat.lt_or_ge y ((lo + hi + 1) / 2) with h3 | h3
        · omega
        · exact absurd (hq.mpr (hmono _ _ h3 hPy)) h2
theorem safe_eq {n C : Nat} {v w : U} {f g : V1} (h10 : n ≤ 10) (hC : C ≤ 100000) (hb : CBd v n) (hs : SRel v f n) (hc : f 5 = nI C) {G T M : Nat} (hG : G = 8193) (hT : T = 8192) (hM : M = 10001) : (jSf (nI C) n G T 0 (stMix v w)).2 = (mSf f n M 0 10000 g).1 := by
  obtain ⟨c, s, l, hN⟩ := hb
  have hsl : ∀ k, k < n → s k ≤ 300 ∧ l k ≤ 300 := fun k hk => ⟨(hN k hk).2.2.2.1, (hN k hk).2.2.2.2.2⟩
  have hmono : ∀ a b, a ≤ b → (nS C s l b n 40).2 = 0 → (nS C s l a n 40).2 = 0 := fun a b hab h => (nS_mono hab hsl 40 h).2
  have h0 : (nS C s l 0 n 40).2 = 0 := (nS_0 40).2
  have hj := jSf_max (n := n) (T := 40) (cap := nI C) (P := fun a => (nS C s l a n 40).2 = 0) rfl hmono (v := v) (fun w a ha hw => jHd_P hC (by omega) h10 (v := w) (by
      intro k hk
      obtain ⟨-, -, e2, b2, e3, b3⟩ := hN k hk
      exact ⟨(hw k hk).1.trans e2, b2, (hw k hk).2.trans e3, b3⟩) (Nat.le_refl 40)) G T 0 (stMix v w) (by omega) (Or.inr ⟨13, hT, fun y hy _ => by omega⟩) (by omega) h0 (fun k hk => ⟨rfl, rfl⟩)
  have hm := mSf_max (n := n) (T := 40) (f := f) (P := fun a => (nS C s l a n 40).2 = 0) rfl hmono (fun a ha => mSfS_P hC (by omega) h10 (fun k hk => ⟨(hN k hk).2.2.1, (hN k hk).2.2.2.1, (hN k hk).2.2.2.2.1, (hN k hk).2.2.2.2.2⟩) hs hc (Nat.le_refl 40)) M 0 10000 g (by omega) (by omega) (Nat.le_refl _) h0 (fun y hy _ => hy)
  exact Nat.le_antisymm (hm.2.2 _ hj.2.1 hj.1) (hj.2.2 _ hm.2.1 hm.1)
