/-! the row of references that mend: distinct, of growing outputs -/
def okRow (f g : V1) (m k : Nat) : Prop := m ≤ k ∧ (∀ i, i < m → ∃ j, j < k ∧ g i = nI j ∧ 0 < f (40 + j)) ∧ ∀ i j, i < j → j < m → f (40 + (g i).toNatClampNeg) < f (40 + (g j).toNatClampNeg)
theorem mSift_spec (f : V1) (k : Nat) : ∀ (a : Nat) (g : V1), (mSift f k g a).2 ≤ a ∧ (∀ i, i < (mSift f k g a).2 → (mSift f k g a).1 i = g i) ∧ (∀ i, (mSift f k g a).2 < i → i ≤ a → (mSift f k g a).1 i = g (i - 1)) ∧ (∀ i, a < i → (mSift f k g a).1 i = g i) ∧ (∀ i, (mSift f k g a).2 ≤ i → i < a → ¬ f (40 + (g i).toNatClampNeg) ≤ f (40 + k)) ∧ (0 < (mSift f k g a).2 → f (40 + (g ((mSift f k g a).2 - 1)).toNatClampNeg) ≤ f (40 + k))
  | 0, g => by
    unfold mSift
    exact ⟨Nat.le_refl _, fun i h => absurd h (Nat.not_lt_zero _), fun i h1 h2 => by dsimp only at h1; omega, fun _ _ => rfl, fun i h1 h2 => absurd h2 (Nat.not_lt_zero _), fun h => absurd h (Nat.lt_irrefl _)⟩
  | a + 1, g => by
    unfold mSift
    by_cases hc : f (40 + (g a).toNatClampNeg) ≤ f (40 + k)
    · rw [if_pos hc]
      dsimp only
      exact ⟨Nat.le_refl _, fun _ _ => rfl, fun i h1 h2 => by omega, fun _ _ => rfl, fun i h1 h2 => by omega, fun _ => by rw [Nat.add_sub_cancel]; exact hc⟩
    · rw [if_neg hc]
      obtain ⟨h1, h2, h3, h4, h5, h6⟩ := mSift_spec f k a (upd g (a + 1) (g a))
      refine ⟨by omega, fun i hi => ?_, fun i hi hi2 => ?_, fun i hi => ?_, fun i hi hi2 => ?_, fun hp => ?_⟩
      · rw [h2 i hi, pk_un (by omega)]
      · by_cases he : i = a + 1
        · rw [he, h4 (a + 1) (by omega), pk_us, Nat.add_sub_cancel]
        · rw [h3 i hi (by omega), pk_un (by omega)]
      · rw [h4 i (by omega), pk_un (by omega)]
      · by_cases he : i = a
        · rw [he]; exact hc
        · have := h5 i hi (by omega)
          rw [pk_un (by omega)] at this
          exact this
      · have := h6 hp
        rw [pk_un (by omega)] at this
        exact this
theorem mSame_spec {f : V1} {k : Nat} : ∀ {j : Nat}, ¬ mSame f k j = 0 → ¬ f (40 + k) ≤ 0 ∧ ∀ i, i < j → ¬ f (40 + i) = f (40 + k)
  | 0, h => by
    unfold mSame at h
    by_cases hc : f (40 + k) ≤ 0
    · rw [if_pos hc] at h; exact absurd rfl h
    · exact ⟨hc, fun i hi => absurd hi (Nat.not_lt_zero _)⟩
  | j + 1, h => by
    unfold mSame at h
    by_cases hc : mSame f k j = 0
    · rw [if_pos hc] at h; exact absurd rfl h
    · rw [if_neg hc] at h
      obtain ⟨h1, h2⟩ := mSame_spec hc
      by_cases he : f (40 + j) = f (40 + k)
      · rw [if_pos he] at h; exact absurd rfl h
      · refine ⟨h1, fun i hi => ?_⟩
        by_cases hij : i = j
        · rw [hij]; exact he
        · exact h2 i (by omega)
theorem y_ltI {a b : Int32} : a < b ↔ a.toInt < b.toInt := Int32.lt_iff_toInt_lt
theorem y_leI {a b : Int32} : a ≤ b ↔ a.toInt ≤ b.toInt := Int32.le_iff_toInt_le
theorem y_eqI {a b : Int32} : a = b ↔ a.toInt = b.toInt := ⟨fun h => by rw [h], Int32.toInt.inj⟩
theorem mRow_ok (f g0 : V1) : ∀ k, k ≤ 3 → okRow f (mRow f g0 k).1 (mRow f g0 k).2 k
  | 0, _ => ⟨Nat.le_refl _, fun i h => absurd h (Nat.not_lt_zero _), fun i j _ h => absurd h (Nat.not_lt_zero _)⟩
  | k + 1, hk => by
    have ih := mRow_ok f g0 k (by omega)
    show okRow f (mRowS f (mRow f g0 k) k).1 (mRowS f (mRow f g0 k) k).2 (k + 1)
    generalize hG : (mRow f g0 k).1 = g at ih
    generalize hM : (mRow f g0 k).2 = m at ih
    unfold mRowS
    rw [hG, hM]
    obtain ⟨i1, i2, i3⟩ := ih
    by_cases hc : mSame f k k = 0
    · rw [if_pos hc]
      exact ⟨by dsimp only; omega, fun i hi => by obtain ⟨j, a, b, c⟩ := i2 i hi; exact ⟨j, by omega, b, c⟩, i3⟩
    · rw [if_neg hc]
      obtain ⟨s1, s2⟩ := mSame_spec hc
      obtain ⟨h1, h2, h3, h4, h5, h6⟩ := mSift_spec f k m g
      generalize hg' : (mSift f k g m).1 = g' at h2 h3 h4
      generalize hp' : (mSift f k g m).2 = p at h1 h2 h3 h5 h6
      dsimp only
      have ck : (nI k).toNatClampNeg = k := nI_clamp (by omega)
      have vlt : ∀ i, i < p → upd g' p (nI k) i = g i := fun i hi => by rw [pk_un (by omega), h2 i hi]
      have veq : upd g' p (nI k) p = nI k := pk_us
      have vgt : ∀ i, p < i → i ≤ m → upd g' p (nI k) i = g (i - 1) := fun i hi hi2 => by rw [pk_un (by omega), h3 i hi hi2]
      have ne : ∀ i, i < m → (f (40 + (g i).toNatClampNeg)).toInt ≠ (f (40 + k)).toInt := by
        intro i hi z
        obtain ⟨j, hj, ej, -⟩ := i2 i hi
        rw [ej, nI_clamp (by omega)] at z
        exact s2 j hj (Int32.toInt.inj z)
      refine ⟨by omega, fun i hi => ?_, fun i j hij hj => ?_⟩
      · rcases Nat.lt_trichotomy i p with q | q | q
        · rw [vlt i q]; obtain ⟨j, a, b, c⟩ := i2 i (by omega); exact ⟨j, by omega, b, c⟩
        · subst q; exact ⟨k, by omega, veq, Int32.not_le.mp s1⟩
        · rw [vgt i q (by omega)]; obtain ⟨j, a, b, c⟩ := i2 (i - 1) (by omega); exact ⟨j, by omega, b, c⟩
      · rcases Nat.lt_trichotomy i p with q | q | q
        · rw [vlt i q]
          rcases Nat.lt_trichotomy j p with r | r | r
          · rw [vlt j r]; exact i3 i j hij (by omega)
          · subst r
            rw [veq, ck, y_ltI]
            have a1 := y_leI.mp (h6 (by omega))
            have a2 := ne i (by omega)
            by_cases e : i = j - 1
            · subst e; omega
            · have a3 := y_ltI.mp (i3 i (j - 1) (by omega) (by omega)); omega
          · rw [vgt j r (by omega)]; exact i3 i (j - 1) (by omega) (by omega)
        · subst q
          rw [veq, ck, vgt j hij (by omega), y_ltI]
          have a1 := h5 (j - 1) (by omega) (by omega)
          rw [y_leI] at a1
          omega
        · rw [vgt i q (by omega), vgt j (by omega) (by omega)]; exact i3 (i - 1) (j - 1) (by omega) (by omega)
theorem mSift_s {f : V1} {k a : Nat} {g : V1} (ha : 0 < a) (h : ¬ f (40 + (g (a - 1)).toNatClampNeg) ≤ f (40 + k)) : mSift f k g a = mSift f k (upd g a (g (a - 1))) (a - 1) := by
  cases a with
  | zero => exact absurd ha (Nat.lt_irrefl 0)
  | succ a => rw [Nat.add_sub_cancel] at h ⊢; rw [mSift, if_neg h]
theorem mSift_e {f : V1} {k a : Nat} {g : V1} (ha : 0 < a) (h : f (40 + (g (a - 1)).toNatClampNeg) ≤ f (40 + k)) : mSift f k g a = (g, a) := by
  cases a with
  | zero => exact absurd ha (Nat.lt_irrefl 0)
  | succ a => rw [Nat.add_sub_cancel] at h; rw [mSift, if_pos h]
theorem y_nz {a : Int32} (h : 0 < a) : ¬ a = 0 := fun z => by rw [z] at h; exact absurd h (by decide)
theorem y_s64 {a b : Int32} (h : a < b) : ¬ b.toInt64 - a.toInt64 = 0 := by
  intro z
  have h1 := y_ltI.mp h
  have ha := Int32.toInt_toInt64 a
  have hb := Int32.toInt_toInt64 b
  have e : (b.toInt64 - a.toInt64) + a.toInt64 = b.toInt64 := Int64.sub_add_cancel _ _
  rw [z, Int64.zero_add] at e
  rw [e] at ha
  omega
-- an output comes; a hand-over; a sample is given
def mC1 (f : V1) (w x o : Int32) : V1 := if w < 0 then f else upd (upd f (40 + w.toNatClampNeg) o) (43 + w.toNatClampNeg) x
def mC2 (f : V1) (kp : Nat) : V1 := if kp = 16 then upd (mDown f 82 5 75) 4 (nI (kp - 1)) else f
def mKq (kp : Nat) : Nat := if kp = 16 then kp - 1 else kp
def mC4 (f : V1) (h x o : Int32) (a : Nat) : V1 := upd (upd (upd f (82 + 5 * a + 0) h) (82 + 5 * a + 1) x) (82 + 5 * a + 2) o
def mC7 (f : V1) (w md : Int32) (a : Nat) : V1 := upd (upd (upd f (82 + 5 * a + 3) md) (82 + 5 * a + 4) (if w < 0 then 0 else 1)) 4 (nI (a + 1))
def mC0 (u : U) (h x w o : Int32) (kp : Nat) : U := va_up u 0 (mC4 (mC2 (mC1 (u 0) w x o) kp) h x o (mKq kp))
def mCome (u : U) (h x w o : Int32) (kp : Nat) : U := va_up (mRowU (mC0 u h x w o kp)) 0 (mC7 (mC0 u h x w o kp 0) w (mMend (mC0 u h x w o kp) o) (mKq kp))
def mP1 (f : V1) (x w : Int32) (h : Nat) : V1 := upd (upd f (50 + h % 16) x) (66 + h % 16) w
def mP3 (f : V1) (x w : Int32) (n h : Nat) : V1 := upd (mHO x (mP1 f x w h) n).1 1 (nI (h + 1))
def mPass (u : U) (x w : Int32) (n h kp : Nat) : U := if h < n then va_up u 0 (mP3 (u 0) x w n h) else mCome (va_up u 0 (mP3 (u 0) x w n h)) (nI h) ((mHO x (mP1 (u 0) x w h) n).1 (50 + (h - n) % 16)) ((mHO x (mP1 (u 0) x w h) n).1 (66 + (h - n) % 16)) (mHO x (mP1 (u 0) x w h) n).2 kp
def mKp (n h kp : Nat) : Nat := if h < n then kp else if kp = 16 then 16 else kp + 1
def mG1 (u : U) (t r : Nat) : U := va_up u 0 (upd (upd (u 0) 2 (nI ((t + 1) % 3))) 3 (nI (r + 1)))
def mGive (u : U) (x : Int32) (n h kp t r : Nat) : U := if mDue (u 0 1) (u 0 6) = 0 then mPass u x (-1) n h kp else mPass (mPass (mG1 u t r) (u 0 (7 + t)) (nI t) n h kp) x (-1) n (h + 1) (mKp n h kp)
def okM (f : V1) : Prop := ∀ j, j < 16 → okr (f (66 + j))
