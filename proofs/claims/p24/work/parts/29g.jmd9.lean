/-! the model plays its text: as many parts as there are ends of parts, each of the form -/
def pCn (g : V1) (x : Int32) (a : Nat) : Nat → Nat
  | 0 => 0
  | m + 1 => pCn g x a m + (if g (a + m) = x then 1 else 0)
theorem pCn_le (g : V1) (x : Int32) (a : Nat) : ∀ m, pCn g x a m ≤ m
  | 0 => Nat.le_refl 0
  | m + 1 => by
    have := pCn_le g x a m
    rw [pCn]
    split <;> omega
theorem pCn_add (g : V1) (x : Int32) (a m : Nat) : ∀ k, pCn g x a (m + k) = pCn g x a m + pCn g x (a + m) k
  | 0 => rfl
  | k + 1 => by
    rw [← Nat.add_assoc, pCn, pCn, pCn_add g x a m k, Nat.add_assoc a m k, Nat.add_assoc]
theorem pCn_1 (g : V1) (x : Int32) (a : Nat) : pCn g x a 1 = if g a = x then 1 else 0 := by
  rw [pCn, pCn, Nat.zero_add, Nat.add_zero]
theorem pCn_d {g : V1} {L : Nat} : ∀ m a, pCn g 59 a (pNd g L a m) = 0
  | 0, _ => rfl
  | m + 1, a => by
    unfold pNd
    by_cases hd : pDg g L a = 0
    · rw [if_pos hd]; rfl
    · rw [if_neg hd, Nat.add_comm, pCn_add, pCn_d m (a + 1), pCn_1, if_neg]
      intro z
      apply hd
      unfold pDg
      rw [z]
      split
      · rfl
      · rfl
def pSem : List PStep → Nat
  | [] => 0
  | .inl _ :: r => pSem r
  | .inr c :: r => (if c = 59 then 1 else 0) + pSem r
theorem pRun_cn {g : V1} {L : Nat} : ∀ {r : List PStep} {a : Nat} {f : V1}, ¬ (pRun g L r a f).2.2 = 0 → pCn g 59 a ((pRun g L r a f).1 - a) = pSem r
  | [], a, f, _ => by
    show pCn g 59 a (a - a) = 0
    rw [Nat.sub_self]; rfl
  | .inl z :: r, a, f, h => by
    unfold pRun at h ⊢
    split at h
    · exact absurd rfl h
    · rename_i h1
      rw [if_neg h1]
      have hg := pRun_ge (g := g) (L := L) (r := r) (a := a + pNd g L a z.2) (f := upd f z.1 (pNv g a (pNd g L a z.2)))
      have hr := pRun_cn h
      rw [show (pRun g L r (a + pNd g L a z.2) (upd f z.1 (pNv g a (pNd g L a z.2)))).1 - a = pNd g L a z.2 + ((pRun g L r (a + pNd g L a z.2) (upd f z.1 (pNv g a (pNd g L a z.2)))).1 - (a + pNd g L a z.2)) from by omega, pCn_add, pCn_d, hr, Nat.zero_add]
      rfl
  | .inr c :: r, a, f, h => by
    unfold pRun at h ⊢
    split at h
    · exact absurd rfl h
    · rename_i h1
      rw [if_neg h1]
      have ht := pTf_T h1
      rw [ht.2.2] at h ⊢
      have hg := pRun_ge (g := g) (L := L) (r := r) (a := a + 1) (f := f)
      have hr := pRun_cn h
      rw [show (pRun g L r (a + 1) f).1 - a = 1 + ((pRun g L r (a + 1) f).1 - (a + 1)) from by omega, pCn_add, hr, pCn_1, ht.2.1]
      rfl
theorem pForm_cn {g : V1} {L a : Nat} {f : V1} (h : ¬ (pForm g L a f).2.2 = 0) : pCn g 59 a ((pForm g L a f).1 - a) = 1 := by
  unfold pForm at h ⊢
  by_cases h1 : pTf g L a 115 = 0
  · rw [if_pos h1] at h ⊢
    rw [pTf_F h1] at h ⊢
    by_cases h2 : pTf g L a 108 = 0
    · rw [if_pos h2] at h; exact absurd rfl h
    · rw [if_neg h2] at h ⊢
      have ht := pTf_T h2
      rw [ht.2.2] at h ⊢
      have hg := pRun_ge (g := g) (L := L) (r := lS) (a := a + 1) (f := f)
      rw [show (pRun g L lS (a + 1) f).1 - a = 1 + ((pRun g L lS (a + 1) f).1 - (a + 1)) from by omega, pCn_add, pRun_cn h, pCn_1, ht.2.1]
      rfl
  · rw [if_neg h1] at h ⊢
    have ht := pTf_T h1
    rw [ht.2.2] at h ⊢
    have hg := pRun_ge (g := g) (L := L) (r := sS) (a := a + 1) (f := f)
    rw [show (pRun g L sS (a + 1) f).1 - a = 1 + ((pRun g L sS (a + 1) f).1 - (a + 1)) from by omega, pCn_add, pRun_cn h, pCn_1, ht.2.1]
    rfl
/-- what was told before changes neither how far nor whether -/
theorem pRun_f {g : V1} {L : Nat} : ∀ {r : List PStep} {a : Nat} {f f' : V1}, (pRun g L r a f).1 = (pRun g L r a f').1 ∧ (pRun g L r a f).2.2 = (pRun g L r a f').2.2 ∧ (f 0 = f' 0 → (pRun g L r a f).2.1 0 = (pRun g L r a f').2.1 0)
  | [], _, _, _ => ⟨rfl, rfl, fun h => h⟩
  | .inl z :: r, a, f, f' => by
    have hu : f 0 = f' 0 → upd f z.1 (pNv g a (pNd g L a z.2)) 0 = upd f' z.1 (pNv g a (pNd g L a z.2)) 0 := by
      intro h
      unfold upd
      split
      · rfl
      · exact h
    unfold pRun
    split
    · exact ⟨rfl, rfl, hu⟩
    · have := pRun_f (g := g) (L := L) (r := r) (a := a + pNd g L a z.2) (f := upd f z.1 (pNv g a (pNd g L a z.2))) (f' := upd f' z.1 (pNv g a (pNd g L a z.2)))
      exact ⟨this.1, this.2.1, fun h => this.2.2 (hu h)⟩
  | .inr c :: r, a, f, f' => by
    unfold pRun
    split
    · exact ⟨rfl, rfl, fun h => h⟩
    · exact pRun_f
theorem pRun_0 {g : V1} {L : Nat} {m : Nat} {r : List PStep} {a : Nat} {f f' : V1} : (pRun g L (.inl (0, m) :: r) a f).2.1 0 = (pRun g L (.inl (0, m) :: r) a f').2.1 0 := by
  have hu : upd f 0 (pNv g a (pNd g L a m)) 0 = upd f' 0 (pNv g a (pNd g L a m)) 0 := by rw [pk_us, pk_us]
  unfold pRun
  split
  · exact hu
  · exact pRun_f.2.2 hu
theorem pForm_f {g : V1} {L a : Nat} (f f' : V1) : (pForm g L a f).1 = (pForm g L a f').1 ∧ (pForm g L a f).2.2 = (pForm g L a f').2.2 ∧ (¬ (pForm g L a f).2.2 = 0 → (pForm g L a f).2.1 0 = (pForm g L a f').2.1 0) := by
  unfold pForm
  split
  · split
    · exact ⟨rfl, rfl, fun h => absurd rfl h⟩
    · exact ⟨pRun_f.1, pRun_f.2.1, fun _ => pRun_0⟩
  · exact ⟨pRun_f.1, pRun_f.2.1, fun _ => pRun_0⟩
theorem pForm_so {g : V1} {L a : Nat} {f : V1} (h : ¬ (pForm g L a f).2.2 = 0) : mSort g L a = 115 ∨ mSort g L a = 108 := by
  unfold pForm at h
  by_cases h1 : pTf g L a 115 = 0
  · rw [if_pos h1, pTf_F h1] at h
    by_cases h2 : pTf g L a 108 = 0
    · rw [if_pos h2] at h; exact absurd rfl h
    · have ht := pTf_T h2
      right; unfold mSort; rw [if_neg (by omega)]; exact ht.2.1
  · have ht := pTf_T h1
    left; unfold mSort; rw [if_neg (by omega)]; exact ht.2.1
theorem nI_m1 {k : Nat} (hk : k < 2 ^ 31) : ¬ nI k = -1 := by
  intro h
  have h2 := congrArg Int32.toNatClampNeg h
  rw [nI_clamp hk, show (-1 : Int32).toNatClampNeg = 0 from by decide] at h2
  rw [h2] at h
  exact absurd h (by decide)
/-- k parts from a on can be read, and tell of stages that there are -/
def mTl (g : V1) (L n : Nat) : Nat → Nat → V1 → Prop
  | 0, _, _ => True
  | k + 1, a, f => a ≤ L ∧ (pForm g L a f).1 ≤ L ∧ (mSort g L a = 115 ∨ ∃ b, b < n ∧ (pForm g L a f).2.1 0 = nI b) ∧ mTl g L n k (pForm g L a f).1 (pForm g L a f).2.1
theorem mScan_Tl {L n : Nat} (hL2 : L ≤ 60) (h1n : 1 ≤ n) (h10 : n ≤ 10) : ∀ (k : Nat) (u : U) (a : Nat) (f : V1), (mScan L k u a).2 = -1 → L < a + k → a ≤ L → u 0 0 = nI n → mTl (u 4) L n (pCn (u 4) 59 a (L - a)) a f
  | 0, _, a, _, _, hk, ha, _ => absurd hk (by omega)
  | k + 1, u, a, f, h, hk, ha, hn => by
    rw [mScan] at h
    by_cases h1 : L ≤ a
    · rw [show L - a = 0 from by omega]; exact True.intro
    · rw [if_neg h1] at h
      by_cases h2 : mRdB u L a = 0
      · rw [if_neg (not_not_intro h2)] at h
        exact absurd h (nI_m1 (by omega))
      · rw [if_pos h2] at h
        have hF := mRdB_F h2
        have hf := pForm_f (g := u 4) (L := L) (a := a) (u 12) f
        have hgt := pForm_gt hF
        have hle : (pForm (u 4) L a (u 12)).1 ≤ L := pForm_L ha
        have ih := mScan_Tl hL2 h1n h10 k (mRd u L a) (pForm (u 4) L a (u 12)).1 (pForm (u 4) L a f).2.1 h (by omega) hle (by rw [mRd_o u L a 0 (by decide) (by decide) (by decide) (by decide) (by decide)]; exact hn)
        rw [mRd_o u L a 4 (by decide) (by decide) (by decide) (by decide) (by decide)] at ih
        rw [show L - a = ((pForm (u 4) L a (u 12)).1 - a) + (L - (pForm (u 4) L a (u 12)).1) from by omega, pCn_add, pForm_cn hF, show a + ((pForm (u 4) L a (u 12)).1 - a) = (pForm (u 4) L a (u 12)).1 from by omega, Nat.add_comm]
        refine ⟨ha, hf.1 ▸ hle, ?_, hf.1 ▸ ih⟩
        rcases pForm_so hF with hs | hs
        · exact Or.inl hs
        · right
          unfold mRdB at h2
          rw [if_neg hF, if_neg (not_not_intro hs)] at h2
          by_cases h3 : mIn ((pForm (u 4) L a (u 12)).2.1 0) 0 (u 0 0 - 1) = 0
          · rw [if_pos h3] at h2; exact absurd rfl h2
          · obtain ⟨b, eb, _, hb⟩ := mIn_nat (m := 0) (n := n - 1) rfl (show u 0 0 - 1 = nI (n - 1) from by rw [hn]; exact pk_sub (by omega)) (by omega) (by omega) h3
            exact ⟨b, by omega, (hf.2.2 hF) ▸ eb⟩
/-- a part is played: its rows; many parts -/
def mPlS (u : U) (L a n : Nat) : U := if mSort (u 4) L a = 115 then mGv (mRd u L a) ((pForm (u 4) L a (u 12)).2.1 0) n else va_up (mRd u L a) 0 (upd (upd (u 0) (20 + ((pForm (u 4) L a (u 12)).2.1 0).toNatClampNeg) ((pForm (u 4) L a (u 12)).2.1 1)) (30 + ((pForm (u 4) L a (u 12)).2.1 0).toNatClampNeg) ((pForm (u 4) L a (u 12)).2.1 2))
def mPl (L n : Nat) : Nat → U → Nat → U
  | 0, u, _ => u
  | k + 1, u, a => mPl L n k (mPlS u L a n) (pForm (u 4) L a (u 12)).1
def mScU (u : U) (L : Nat) : U := (mScan L 61 (va_up u 8 (fun _ => 0)) 0).1
def mScR (u : U) (L : Nat) : Int32 := (mScan L 61 (va_up u 8 (fun _ => 0)) 0).2
def mPlayR (u : U) (L : Nat) : Int32 := if ¬ mScR u L = -1 then -2000002 else if ¬ mHB (u 0 1) (u 0 6) (pCn (u 4) 115 0 L) ≤ 999 then -2000003 else nI (pCn (u 4) 59 0 L)
def mPlayU (u : U) (L n k : Nat) : U := if ¬ mScR u L = -1 then mScU u L else if ¬ mHB (u 0 1) (u 0 6) (pCn (u 4) 115 0 L) ≤ 999 then mScU u L else mPl L n (pCn (u 4) 59 0 L) (va_up (mSv (mScU u L) k) 8 (fun _ => 0)) 0
theorem mCome_r {u : U} {h x w o : Int32} {kp r : Nat} (h0 : r ≠ 0) (h6 : r ≠ 6) (h7 : r ≠ 7) : mCome u h x w o kp r = u r := by
  unfold mCome mRowU mC0
  simp only [va_up, if_neg h0, if_neg h6, if_neg h7]
theorem mPass_r {u : U} {x w : Int32} {n h kp r : Nat} (h0 : r ≠ 0) (h6 : r ≠ 6) (h7 : r ≠ 7) : mPass u x w n h kp r = u r := by
  unfold mPass
  split
  · simp only [va_up, if_neg h0]
  · rw [mCome_r h0 h6 h7]; simp only [va_up, if_neg h0]
theorem mGv_r {u : U} {x : Int32} {n r : Nat} (h0 : r ≠ 0) (h6 : r ≠ 6) (h7 : r ≠ 7) : mGv u x n r = u r := by
  unfold mGv mGive
  split
  · exact mPass_r h0 h6 h7
  · rw [mPass_r h0 h6 h7, mPass_r h0 h6 h7]; unfold mG1; simp only [va_up, if_neg h0]
theorem mRd_11 (u : U) (L a : Nat) : mRd u L a 11 0 = mSort (u 4) L a := by
  have h := mForm_11 u L a
  unfold mRd
  split
  · simp [va_up, h]
  · split
    · simp [va_up, h]
    · split
      · simp [va_up, h]
      · simp [va_up, h]
theorem mRd_12 (u : U) (L a : Nat) : mRd u L a 12 = (pForm (u 4) L a (u 12)).2.1 := by
  have h := mForm_12 u L a
  unfold mRd
  split
  · simp [va_up, h]
  · split
    · simp [va_up, h]
    · split
      · simp [va_up, h]
      · simp [va_up, h]
theorem mRd_0 (u : U) (L a : Nat) : mRd u L a 0 = u 0 := mRd_o u L a 0 (by decide) (by decide) (by decide) (by decide) (by decide)
theorem mPlS_r {u : U} {L a n r : Nat} (h0 : r ≠ 0) (h6 : r ≠ 6) (h7 : r ≠ 7) : mPlS u L a n r = mRd u L a r := by
  unfold mPlS
  split
  · exact mGv_r h0 h6 h7
  · simp only [va_up, if_neg h0]
theorem mOk_sh {f : V1} {n B b : Nat} {x y : Int32} (hb : b < 10) (h : mOk f n B) : mOk (upd (upd f (20 + b) x) (30 + b) y) n B := by
  have ho : ∀ j, (j < 20 ∨ 40 ≤ j) → upd (upd f (20 + b) x) (30 + b) y j = f j := fun j hj => by rw [pk_un (by omega), pk_un (by omega)]
  obtain ⟨h0, hok, hh, kp, t, r, h1, h2, h3, h4, h5, h6, h7, h8⟩ := h
  exact ⟨(ho 0 (by decide)).trans h0, fun j hj => by rw [ho _ (by omega)]; exact hok j hj, hh, kp, t, r, (ho 1 (by decide)).trans h1, h2, (ho 4 (by decide)).trans h3, h4, (ho 2 (by decide)).trans h5, h6, (ho 3 (by decide)).trans h7, h8⟩
theorem mPlS_Ok {u : U} {L a n B : Nat} (h10 : n ≤ 10) (hv : mOk (u 0) n B) (hB : B ≤ 40000) (hb : mSort (u 4) L a = 115 ∨ ∃ b, b < n ∧ (pForm (u 4) L a (u 12)).2.1 0 = nI b) : mOk (mPlS u L a n 0) n (B + 2) := by
  unfold mPlS
  by_cases h1 : mSort (u 4) L a = 115
  · rw [if_pos h1]
    exact mGv_Ok h10 (by rw [mRd_0]; exact hv) hB
  · rw [if_neg h1]
    rcases hb with hb | ⟨b, hb, eb⟩
    · exact absurd hb h1
    · show mOk (upd (upd (u 0) (20 + ((pForm (u 4) L a (u 12)).2.1 0).toNatClampNeg) _) (30 + ((pForm (u 4) L a (u 12)).2.1 0).toNatClampNeg) _) n (B + 2)
      rw [eb, nI_clamp (by omega)]
      exact mOk_mono (mOk_sh (by omega) hv) (by omega)
