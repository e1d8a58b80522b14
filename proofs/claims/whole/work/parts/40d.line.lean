/-! the line: how the class's rows and the model's row stand to each other; a hand-over -/
def GRel (v : U) (f : V1) : Prop := (∃ c, 1000 ≤ c ∧ c ≤ 100000 ∧ v 10 0 = nI c ∧ f 5 = nI c) ∧ (∃ p, p ≤ 12 ∧ v 10 1 = nI p ∧ f 6 = nI p) ∧ ∀ i, i < 3 → ∃ z, 1 ≤ z ∧ z ≤ 10000 ∧ v 10 (2 + i) = nI z ∧ f (7 + i) = nI z
def ARel (v : U) (f : V1) : Prop := v 4 0 = f 46 ∧ v 5 0 = f 47 ∧ v 6 0 = f 48 ∧ v 7 0 = f 49
def RRel (v : U) (f : V1) (h : Nat) : Prop := ∀ j, j < h → h ≤ j + 32 → (∃ x, x ≤ 10000 ∧ v 13 (j % 32) = nI x ∧ (v 14 (j % 32) = -1 ∨ ∃ k, k < 3 ∧ v 14 (j % 32) = nI k ∧ 1 ≤ x)) ∧ (h ≤ j + 16 → f (50 + j % 16) = v 13 (j % 32) ∧ f (66 + j % 16) = v 14 (j % 32))
def KEnt (v : U) (f : V1) (n g a : Nat) : Prop := f (82 + 5 * a + 0) = nI g ∧ f (82 + 5 * a + 1) = v 13 ((g - n) % 32) ∧ f (82 + 5 * a + 2) = v 15 (g % 32) ∧ (∃ o, o ≤ 100000 ∧ v 15 (g % 32) = nI o) ∧ ((v 16 (g % 32) = -2000004 ∧ f (82 + 5 * a + 3) = -1) ∨ ∃ w, w ≤ 1000000 ∧ v 16 (g % 32) = nI w ∧ f (82 + 5 * a + 3) = nI w) ∧ f (82 + 5 * a + 4) = jIsR (v 14 ((g - n) % 32))
def KRel (v : U) (f : V1) (n h : Nat) : Prop := ∀ g, g < h → n ≤ g → h ≤ g + 16 → KEnt v f n g (g + jKp h n - h)
def LnP (v : U) (f : V1) (n h : Nat) : Prop := (2 ≤ n ∧ n ≤ 10 ∧ h ≤ 5000) ∧ (v 0 0 = nI n ∧ f 0 = nI n ∧ v 11 0 = nI h ∧ f 1 = nI h ∧ f 4 = nI (jKp h n)) ∧ ARel v f ∧ SRel v f n ∧ CBd v n ∧ (∀ k, n ≤ k → k < 10 → v 2 k = 0 ∧ v 3 k = 0) ∧ PRel v f ∧ GRel v f ∧ okR v ∧ okM f ∧ RRel v f h ∧ KRel v f n h
theorem jLH_st {v : U} {x ref : Int32} {n h r : Nat} (hr : r < 8) : jLH v x ref n h r = (jHO x (v 10 0) v n).1 r := by
  have hA : jA v x ref n h r = (jHO x (v 10 0) v n).1 r := by
    unfold jA
    simp only [va_up, if_neg (show ¬ r = 13 from by omega), if_neg (show ¬ r = 14 from by omega), if_neg (show ¬ r = 15 from by omega), stMix, if_pos hr]
  unfold jLH
  simp only [va_up, if_neg (show ¬ r = 11 from by omega)]
  split
  · exact hA
  · unfold jBm
    simp only [va_up, if_neg (show ¬ r = 16 from by omega)]
    rw [jLf_o _ _ _ r (by omega) (by omega)]
    exact hA
theorem jLH_13 {v : U} {x ref : Int32} {n h : Nat} : jLH v x ref n h 13 = upd (v 13) (h % 32) x := by
  have hA : jA v x ref n h 13 = upd (v 13) (h % 32) x := rfl
  show (if h < n then jA v x ref n h else jBm (jA v x ref n h) (jHO x (v 10 0) v n).2 n h) 13 = _
  split
  · exact hA
  · show (jLf (jA v x ref n h) _ _) 13 = _
    rw [jLf_o _ _ _ 13 (by decide) (by decide)]
    exact hA
theorem jLH_15 {v : U} {x ref : Int32} {n h : Nat} : jLH v x ref n h 15 = upd (v 15) (h % 32) (jHO x (v 10 0) v n).2 := by
  have hA : jA v x ref n h 15 = upd (v 15) (h % 32) (jHO x (v 10 0) v n).2 := rfl
  show (if h < n then jA v x ref n h else jBm (jA v x ref n h) (jHO x (v 10 0) v n).2 n h) 15 = _
  split
  · exact hA
  · show (jLf (jA v x ref n h) _ _) 15 = _
    rw [jLf_o _ _ _ 15 (by decide) (by decide)]
    exact hA
theorem jLH_10 {v : U} {x ref : Int32} {n h : Nat} : jLH v x ref n h 10 = v 10 := jLH_o v x ref n h 10 (by decide) (by decide) (by decide) (by decide) (by decide) (by decide) (by decide) (by decide) (by decide) (by decide) (by decide) (by decide)
/-- the pairs, once an output has come -/
def jLrn (v : U) (x ref : Int32) (n h : Nat) : U := jLf (jA v x ref n h) (jHO x (v 10 0) v n).2 ((h - n) % 32)
theorem jLH_pr {v : U} {x ref : Int32} {n h r : Nat} (hr : r = 8 ∨ r = 9) : jLH v x ref n h r = if h < n then v r else jLrn v x ref n h r := by
  have hA : jA v x ref n h r = v r := by rcases hr with rfl | rfl <;> rfl
  unfold jLH
  simp only [va_up, if_neg (show ¬ r = 11 from by omega)]
  split
  · exact hA
  · unfold jBm
    simp only [va_up, if_neg (show ¬ r = 16 from by omega)]
    rfl
theorem jLH_16 {v : U} {x ref : Int32} {n h : Nat} : jLH v x ref n h 16 = if h < n then v 16 else upd (v 16) (h % 32) (jMend (jLrn v x ref n h) (jHO x (v 10 0) v n).2) := by
  have hA : jA v x ref n h 16 = v 16 := rfl
  show (if h < n then jA v x ref n h else jBm (jA v x ref n h) (jHO x (v 10 0) v n).2 n h) 16 = _
  split
  · exact hA
  · show upd (jLrn v x ref n h 16) (h % 32) (jMend (jLrn v x ref n h) (jHO x (v 10 0) v n).2) = _
    have e : jLrn v x ref n h 16 = v 16 := by
      unfold jLrn
      rw [jLf_o _ _ _ 16 (by decide) (by decide)]
      exact hA
    rw [e]
/-- the model's row behind a hand-over, what doesn't come -/
theorem mPass_lo {u : U} {x w : Int32} {n h kp j : Nat} (hn : n ≤ 10) (hok : okM (u 0)) (hw : okr w) (hj : j < 82) (h4 : j ≠ 4) (hj2 : j < 40 ∨ 46 ≤ j) : mPass u x w n h kp 0 j = mP3 (u 0) x w n h j := by
  unfold mPass
  split
  · rfl
  · rw [mCome_o (okM_mHOP hn hok hw _ (by omega)) h4 hj hj2]
    rfl
theorem mP3_o {f : V1} {x w : Int32} {n h j : Nat} (h1 : j ≠ 1) : mP3 f x w n h j = (mHO x (mP1 f x w h) n).1 j := by
  unfold mP3
  rw [pk_un h1]
theorem SR_P1 {v : U} {f : V1} {x w : Int32} {n h : Nat} (hn : n ≤ 10) (hs : SRel v f n) : SRel v (mP1 f x w h) n := by
  intro k hk
  obtain ⟨e1, e2, e3⟩ := hs k hk
  exact ⟨by rw [mP1_o (by omega)]; exact e1, by rw [mP1_o (by omega)]; exact e2, by rw [mP1_o (by omega)]; exact e3⟩
theorem jKp_lt {h n : Nat} (hh : h < n) : jKp (h + 1) n = jKp h n := by
  unfold jKp
  rw [show h - n = 0 from by omega, show h + 1 - n = 0 from by omega]
theorem jKp_ge {h n : Nat} (hh : n ≤ h) : jKp (h + 1) n = mKq (jKp h n) + 1 := by
  unfold jKp mKq
  by_cases h1 : h - n < 16
  · rw [if_pos h1]
    by_cases h2 : h + 1 - n < 16
    · rw [if_pos h2, if_neg (by omega)]; omega
    · rw [if_neg h2, if_neg (by omega)]; omega
  · rw [if_neg h1, if_neg (by omega), if_pos rfl]
/-- the reference of a sample, as both keep it -/
def okx (x w : Int32) : Prop := ∃ X, X ≤ 10000 ∧ x = nI X ∧ (w = -1 ∨ ∃ k, k < 3 ∧ w = nI k ∧ 1 ≤ X)
theorem okx_r {x w : Int32} (h : okx x w) : okr w := by
  obtain ⟨X, -, -, h | ⟨k, hk, e, -⟩⟩ := h
  · exact Or.inl h
  · exact Or.inr ⟨k, hk, e⟩
theorem nI_nneg {k : Nat} (hk : k < 3) : ¬ nI k < 0 := nI_pos (by omega)
/-- what comes: the model's row in places -/
theorem mCome_hi {u : U} {h x w o : Int32} {kp j : Nat} (hw : okr w) (hk : kp ≤ 16) (hj : 82 ≤ j) (hj2 : j < 162) : mCome u h x w o kp 0 j = if j = 82 + 5 * mKq kp + 0 then h else if j = 82 + 5 * mKq kp + 1 then x else if j = 82 + 5 * mKq kp + 2 then o else if j = 82 + 5 * mKq kp + 3 then mMend (mC0 u h x w o kp) o else if j = 82 + 5 * mKq kp + 4 then (if w < 0 then 0 else 1) else if kp = 16 ∧ j < 157 then u 0 (j + 5) else u 0 j := by
  show mC7 (mC0 u h x w o kp 0) w (mMend (mC0 u h x w o kp) o) (mKq kp) j = _
  have hq : mKq kp ≤ 15 := by unfold mKq; split <;> omega
  unfold mC7
  rw [pk_un (by omega)]
  by_cases h4 : j = 82 + 5 * mKq kp + 4
  · rw [if_neg (show ¬ j = 82 + 5 * mKq kp + 0 from by omega), if_neg (show ¬ j = 82 + 5 * mKq kp + 1 from by omega), if_neg (show ¬ j = 82 + 5 * mKq kp + 2 from by omega), if_neg (show ¬ j = 82 + 5 * mKq kp + 3 from by omega), if_pos h4, h4, pk_us]
  · rw [pk_un h4]
    by_cases h3 : j = 82 + 5 * mKq kp + 3
    · rw [if_neg (show ¬ j = 82 + 5 * mKq kp + 0 from by omega), if_neg (show ¬ j = 82 + 5 * mKq kp + 1 from by omega), if_neg (show ¬ j = 82 + 5 * mKq kp + 2 from by omega), if_pos h3, h3, pk_us]
    · rw [pk_un h3]
      show mC4 (mC2 (mC1 (u 0) w x o) kp) h x o (mKq kp) j = _
      unfold mC4
      by_cases h2 : j = 82 + 5 * mKq kp + 2
      · rw [if_neg (show ¬ j = 82 + 5 * mKq kp + 0 from by omega), if_neg (show ¬ j = 82 + 5 * mKq kp + 1 from by omega), if_pos h2, h2, pk_us]
      · rw [pk_un h2]
        by_cases h1 : j = 82 + 5 * mKq kp + 1
        · rw [if_neg (show ¬ j = 82 + 5 * mKq kp + 0 from by omega), if_pos h1, h1, pk_us]
        · rw [pk_un h1]
          by_cases h0 : j = 82 + 5 * mKq kp + 0
          · rw [if_pos h0, h0, pk_us]
          · rw [pk_un h0, if_neg h0, if_neg h1, if_neg h2, if_neg h3, if_neg h4]
            unfold mC2
            by_cases h16 : kp = 16
            · rw [if_pos h16, pk_un (by omega), mDown_at _ _ _ (by decide)]
              by_cases h7 : j < 157
              · rw [if_pos (by omega), if_pos ⟨h16, h7⟩, mC1_o hw (by omega)]
              · rw [if_neg (by omega), if_neg (by omega), mC1_o hw (by omega)]
            · rw [if_neg h16, if_neg (by omega), mC1_o hw (by omega)]
theorem mC0_pr {u : U} {h x w o : Int32} {kp j : Nat} (hj : 40 ≤ j) (hj2 : j < 46) : mC0 u h x w o kp 0 j = mC1 (u 0) w x o j := by
  show mC4 (mC2 (mC1 (u 0) w x o) kp) h x o (mKq kp) j = _
  rw [mC4_o (by omega), mC2_o (by omega) (by omega)]
theorem mCome_pr {u : U} {h x w o : Int32} {kp j : Nat} (hj : 40 ≤ j) (hj2 : j < 46) : mCome u h x w o kp 0 j = mC1 (u 0) w x o j := by
  show mC7 (mC0 u h x w o kp 0) w (mMend (mC0 u h x w o kp) o) (mKq kp) j = _
  unfold mC7
  rw [pk_un (by omega), pk_un (by omega), pk_un (by omega)]
  exact mC0_pr hj hj2
/-- an output is learnt -/
theorem PR_lrn {v : U} {f : V1} {o x w : Int32} {k O : Nat} (hp : PRel v f) (ho : o = nI O) (hO : O ≤ 100000) (hx : v 13 k = x) (hw : v 14 k = w) (hok : okx x w) : PRel (jLf v o k) (mC1 f w x o) := by
  obtain ⟨X, hX, ex, hr⟩ := hok
  unfold jLf
  rw [hx, hw]
  rcases hr with h1 | ⟨i, hi, ew, h1X⟩
  · rw [if_pos h1]
    unfold mC1
    rw [if_pos (by rw [h1]; decide)]
    exact hp
  · rw [ew, if_neg (y_m1 i hi), nI_clamp (by omega)]
    unfold mC1
    rw [if_neg (nI_nneg hi), nI_clamp (by omega)]
    intro j hj
    by_cases e : j = i
    · subst e
      refine Or.inr ⟨O, X, hO, h1X, hX, ?_, ?_, ?_, ?_⟩
      · show upd (v 8) j o j = _
        rw [pk_us, ho]
      · rw [pk_un (by omega), pk_us, ho]
      · show upd (v 9) j x j = _
        rw [pk_us, ex]
      · rw [pk_us, ex]
    · have e8 : jLearn v i o x 8 j = v 8 j := by
        show upd (v 8) i o j = _
        rw [pk_un e]
      have e9 : jLearn v i o x 9 j = v 9 j := by
        show upd (v 9) i x j = _
        rw [pk_un e]
      rw [e8, e9, pk_un (by omega), pk_un (by omega), pk_un (by omega), pk_un (by omega)]
      exact hp j hj
theorem PR_cong {v v' : U} {f f' : V1} (h8 : v' 8 = v 8) (h9 : v' 9 = v 9) (hf : ∀ j, 40 ≤ j → j < 46 → f' j = f j) (h : PRel v f) : PRel v' f' := by
  intro k hk
  rw [h8, h9, hf (40 + k) (by omega) (by omega), hf (43 + k) (by omega) (by omega)]
  exact h k hk
theorem jLrn_89 {v : U} {x ref : Int32} {n h r : Nat} (hr : r = 8 ∨ r = 9) (h13 : jA v x ref n h 13 ((h - n) % 32) = v 13 ((h - n) % 32)) (h14 : jA v x ref n h 14 ((h - n) % 32) = v 14 ((h - n) % 32)) : jLrn v x ref n h r = jLf v (jHO x (v 10 0) v n).2 ((h - n) % 32) r := by
  unfold jLrn jLf
  rw [h13, h14]
  split
  · rcases hr with rfl | rfl <;> rfl
  · rcases hr with rfl | rfl <;> rfl
theorem jMend_cong {v v' : U} {o : Int32} (h8 : v' 8 = v 8) (h9 : v' 9 = v 9) : jMend v' o = jMend v o := by
  have hL : ∀ k, jML v' o k = jML v o k := by
    intro k
    induction k with
    | zero => rfl
    | succ k ih =>
      rw [jML, jML, ih]
      unfold jMS jLo jHi
      rw [h8, h9]
  unfold jMend jMBy jMBt
  rw [hL, h8, h9]
/-- ONE HAND-OVER -/
theorem LnP_pass {v u : U} {x w : Int32} {n h : Nat} (hL : LnP v (u 0) n h) (hx : okx x w) (hh : h ≤ 4000) : LnP (jLH v x w n h) (mPass u x w n h (jKp h n) 0) n (h + 1) := by
  obtain ⟨⟨h2, h10, hh5⟩, ⟨e0, f0, e11, f1, f4⟩, ⟨a4, a5, a6, a7⟩, hS, hC, hz, hP, ⟨⟨c, c1, c2, c3, c4⟩, gp, gs⟩, hokR, hokM, hR, hK⟩ := hL
  have hw := okx_r hx
  obtain ⟨X, hX, ex, hxr⟩ := id hx
  have hSP := SR_P1 (x := x) (w := w) (h := h) h10 hS
  have f5 : mP1 (u 0) x w h 5 = v 10 0 := by rw [mP1_o (by omega), c4, c3]
  obtain ⟨s1, s2, s3, s4, s5, s6, s7⟩ := SR_HO (x := x) h10 hSP f5
  have hCB := CB_HO (C := c) (X := X) c2 (by omega) hC
  rw [← ex, ← c3] at hCB
  obtain ⟨hCB1, O, hO, eO⟩ := hCB
  have lo : ∀ j, j < 82 → j ≠ 4 → (j < 40 ∨ 46 ≤ j) → mPass u x w n h (jKp h n) 0 j = mP3 (u 0) x w n h j := fun j q1 q2 q3 => mPass_lo h10 hokM hw q1 q2 q3
  have lo2 : ∀ j, j < 82 → j ≠ 4 → j ≠ 1 → (j < 40 ∨ 46 ≤ j) → mPass u x w n h (jKp h n) 0 j = (mHO x (mP1 (u 0) x w h) n).1 j := fun j q1 q2 q3 q4 => by rw [lo j q1 q2 q4, mP3_o q3]
  have keep : ∀ j, (j < 10 ∨ (20 ≤ j ∧ j < 46) ∨ 82 ≤ j) → (mHO x (mP1 (u 0) x w h) n).1 j = u 0 j := fun j q => mHOP_o h10 q
  have smp : ∀ j, 50 ≤ j → j < 82 → (mHO x (mP1 (u 0) x w h) n).1 j = mP1 (u 0) x w h j := fun j q1 q2 => mHO_o x _ n j h10 (by omega) (by omega) (by omega) (by omega) (by omega)
  -- the source of the output that comes
  have src : n ≤ h → okx (v 13 ((h - n) % 32)) (v 14 ((h - n) % 32)) ∧ (mHO x (mP1 (u 0) x w h) n).1 (50 + (h - n) % 16) = v 13 ((h - n) % 32) ∧ (mHO x (mP1 (u 0) x w h) n).1 (66 + (h - n) % 16) = v 14 ((h - n) % 32) ∧ jA v x w n h 13 ((h - n) % 32) = v 13 ((h - n) % 32) ∧ jA v x w n h 14 ((h - n) % 32) = v 14 ((h - n) % 32) := by
    intro hn
    obtain ⟨⟨y, q1, q2, q3⟩, q4⟩ := hR (h - n) (by omega) (by omega)
    obtain ⟨q5, q6⟩ := q4 (by omega)
    refine ⟨⟨y, q1, q2, q3⟩, ?_, ?_, ?_, ?_⟩
    · rw [smp _ (by omega) (by omega)]
      unfold mP1
      rw [pk_un (by omega), pk_un (by omega)]; exact q5
    · rw [smp _ (by omega) (by omega)]
      unfold mP1
      rw [pk_un (by omega), pk_un (by omega)]; exact q6
    · show upd (v 13) (h % 32) x ((h - n) % 32) = _
      rw [pk_un (by omega)]
    · show upd (v 14) (h % 32) w ((h - n) % 32) = _
      rw [pk_un (by omega)]
  -- what comes
  have com : n ≤ h → mPass u x w n h (jKp h n) = mCome (va_up u 0 (mP3 (u 0) x w n h)) (nI h) (v 13 ((h - n) % 32)) (v 14 ((h - n) % 32)) (jHO x (v 10 0) v n).2 (jKp h n) := by
    intro hn
    obtain ⟨-, q1, q2, -, -⟩ := src hn
    unfold mPass
    rw [if_neg (by omega), q1, q2, s2]
  have hPP : PRel (if h < n then v else jLf v (jHO x (v 10 0) v n).2 ((h - n) % 32)) (mPass u x w n h (jKp h n) 0) := by
    by_cases hn : h < n
    · rw [if_pos hn]
      refine PR_cong rfl rfl (fun j q1 q2 => ?_) hP
      unfold mPass
      rw [if_pos hn]
      show mP3 (u 0) x w n h j = _
      rw [mP3_o (by omega), keep j (by omega)]
    · rw [if_neg hn, com (by omega)]
      obtain ⟨q0, -, -, -, -⟩ := src (by omega)
      refine PR_cong rfl rfl (fun j q1 q2 => mCome_pr q1 q2) ?_
      refine PR_lrn (PR_cong rfl rfl (fun j q1 q2 => ?_) hP) eO hO rfl rfl q0
      show mP3 (u 0) x w n h j = _
      rw [mP3_o (by omega), keep j (by omega)]
  refine ⟨⟨h2, h10, by omega⟩, ⟨?_, ?_, rfl, ?_, ?_⟩, ⟨?_, ?_, ?_, ?_⟩, ?_, ?_, ?_, ?_, ⟨⟨c, c1, c2, ?_, ?_⟩, ?_, ?_⟩, jLH_ok hokR hw, mPass_ok h10 hokM hw, ?_, ?_⟩
  · rw [jLH_st (by decide), jHO_0 _ _ _ _ 0 (by decide) (by decide) (by decide) (by decide) (by decide)]; exact e0
  · rw [lo2 0 (by decide) (by decide) (by decide) (by omega), keep 0 (by omega)]; exact f0
  · rw [lo 1 (by decide) (by decide) (by omega)]
    unfold mP3
    rw [pk_us]
  · by_cases hn : h < n
    · unfold mPass
      rw [if_pos hn, jKp_lt hn]
      show mP3 (u 0) x w n h 4 = _
      rw [mP3_o (by decide), keep 4 (by omega)]; exact f4
    · rw [com (by omega), mCome_4, jKp_ge (by omega)]
  · rw [jLH_st (by decide), lo2 46 (by decide) (by decide) (by decide) (by omega)]
    exact s6 (by rw [mP1_o (by omega)]; exact a4)
  · rw [jLH_st (by decide), lo2 47 (by decide) (by decide) (by decide) (by omega)]
    exact s7 (by rw [mP1_o (by omega)]; exact a5)
  · rw [jLH_st (by decide), lo2 48 (by decide) (by decide) (by decide) (by omega)]
    exact s5 (by rw [mP1_o (by omega)]; exact a6)
  · rw [jLH_st (by decide), lo2 49 (by decide) (by decide) (by decide) (by omega)]
    exact s4 (by rw [mP1_o (by omega)]; exact a7)
  · intro k hk
    obtain ⟨q1, q2, q3⟩ := s1 k hk
    refine ⟨?_, ?_, ?_⟩
    · rw [jLH_st (by decide), lo2 (10 + k) (by omega) (by omega) (by omega) (by omega)]; exact q1
    · rw [jLH_st (by decide), lo2 (20 + k) (by omega) (by omega) (by omega) (by omega)]; exact q2
    · rw [jLH_st (by decide), lo2 (30 + k) (by omega) (by omega) (by omega) (by omega)]; exact q3
  · obtain ⟨cc, ss, ll, hN⟩ := hCB1
    refine ⟨cc, ss, ll, fun k hk => ?_⟩
    rw [jLH_st (r := 1) (by decide), jLH_st (r := 2) (by decide), jLH_st (r := 3) (by decide)]
    exact hN k hk
  · intro k hk hk2
    rw [jLH_st (r := 2) (by decide), jLH_st (r := 3) (by decide), jHO_0 _ _ _ _ 2 (by decide) (by decide) (by decide) (by decide) (by decide), jHO_0 _ _ _ _ 3 (by decide) (by decide) (by decide) (by decide) (by decide)]
    exact hz k hk hk2
  · refine PR_cong ?_ ?_ (fun _ _ _ => rfl) hPP
    · rw [jLH_pr (Or.inl rfl)]
      split
      · rfl
      · obtain ⟨-, -, -, q1, q2⟩ := src (by omega)
        exact jLrn_89 (Or.inl rfl) q1 q2
    · rw [jLH_pr (Or.inr rfl)]
      split
      · rfl
      · obtain ⟨-, -, -, q1, q2⟩ := src (by omega)
        exact jLrn_89 (Or.inr rfl) q1 q2
  · rw [jLH_10]; exact c3
  · rw [lo2 5 (by decide) (by decide) (by decide) (by omega), keep 5 (by omega)]; exact c4
  · obtain ⟨p, p1, p2, p3⟩ := gp
    exact ⟨p, p1, by rw [jLH_10]; exact p2, by rw [lo2 6 (by decide) (by decide) (by decide) (by omega), keep 6 (by omega)]; exact p3⟩
  · intro i hi
    obtain ⟨z, z1, z2, z3, z4⟩ := gs i hi
    exact ⟨z, z1, z2, by rw [jLH_10]; exact z3, by rw [lo2 (7 + i) (by omega) (by omega) (by omega) (by omega), keep (7 + i) (by omega)]; exact z4⟩
  · intro j hj hj2
    rw [jLH_13, jLH_14]
    by_cases e : j = h
    · subst e
      rw [pk_us, pk_us]
      refine ⟨⟨X, hX, ex, hxr⟩, fun _ => ⟨?_, ?_⟩⟩
      · rw [lo2 _ (by omega) (by omega) (by omega) (by omega), smp _ (by omega) (by omega)]
        unfold mP1
        rw [pk_un (by omega), pk_us]
      · rw [lo2 _ (by omega) (by omega) (by omega) (by omega), smp _ (by omega) (by omega)]
        unfold mP1
        rw [pk_us]
    · obtain ⟨q1, q2⟩ := hR j (by omega) (by omega)
      rw [pk_un (by omega), pk_un (by omega)]
      refine ⟨q1, fun q => ?_⟩
      obtain ⟨q3, q4⟩ := q2 (by omega)
      refine ⟨?_, ?_⟩
      · rw [lo2 _ (by omega) (by omega) (by omega) (by omega), smp _ (by omega) (by omega)]
        unfold mP1
        rw [pk_un (by omega), pk_un (by omega)]; exact q3
      · rw [lo2 _ (by omega) (by omega) (by omega) (by omega), smp _ (by omega) (by omega)]
        unfold mP1
        rw [pk_un (by omega), pk_un (by omega)]; exact q4
  · intro g hg hng hg16
    have hn : ¬ h < n := by omega
    obtain ⟨q0, q1, q2, q3, q4⟩ := src (by omega)
    have hkp := jKp_16 h n
    have hkl := jKp_le h n
    have hw' := okx_r q0
    have hi : ∀ j, 82 ≤ j → j < 162 → mPass u x w n h (jKp h n) 0 j = if j = 82 + 5 * mKq (jKp h n) + 0 then nI h else if j = 82 + 5 * mKq (jKp h n) + 1 then v 13 ((h - n) % 32) else if j = 82 + 5 * mKq (jKp h n) + 2 then (jHO x (v 10 0) v n).2 else if j = 82 + 5 * mKq (jKp h n) + 3 then mMend (mC0 (va_up u 0 (mP3 (u 0) x w n h)) (nI h) (v 13 ((h - n) % 32)) (v 14 ((h - n) % 32)) (jHO x (v 10 0) v n).2 (jKp h n)) (jHO x (v 10 0) v n).2 else if j = 82 + 5 * mKq (jKp h n) + 4 then (if v 14 ((h - n) % 32) < 0 then 0 else 1) else if jKp h n = 16 ∧ j < 157 then u 0 (j + 5) else u 0 j := by
      intro j r1 r2
      rw [com (by omega), mCome_hi hw' hkp r1 r2]
      have : ∀ i, 82 ≤ i → (va_up u 0 (mP3 (u 0) x w n h)) 0 i = u 0 i := by
        intro i r3
        show mP3 (u 0) x w n h i = _
        rw [mP3_o (by omega), keep i (by omega)]
      rw [this (j + 5) (by omega), this j r1]
    rw [jKp_ge (by omega)]
    have hq15 : mKq (jKp h n) ≤ 15 := by unfold mKq; split <;> omega
    unfold KEnt
    by_cases e : g = h
    · subst e
      rw [show g + (mKq (jKp g n) + 1) - (g + 1) = mKq (jKp g n) from by omega, hi _ (by omega) (by omega), hi _ (by omega) (by omega), hi _ (by omega) (by omega), hi _ (by omega) (by omega), hi _ (by omega) (by omega), if_pos rfl, if_neg (by omega), if_pos rfl, if_neg (by omega), if_neg (by omega), if_pos rfl, if_neg (by omega), if_neg (by omega), if_neg (by omega), if_pos rfl, if_neg (by omega), if_neg (by omega), if_neg (by omega), if_neg (by omega), if_pos rfl, jLH_13, jLH_14, jLH_15, jLH_16, if_neg hn, pk_us, pk_us, pk_un (by omega), pk_un (by omega)]
      refine ⟨rfl, rfl, rfl, ⟨O, hO, eO⟩, ?_, ?_⟩
      · have hm8 : jLrn v x w n g 8 = jLf v (jHO x (v 10 0) v n).2 ((g - n) % 32) 8 := jLrn_89 (Or.inl rfl) q3 q4
        have hm9 : jLrn v x w n g 9 = jLf v (jHO x (v 10 0) v n).2 ((g - n) % 32) 9 := jLrn_89 (Or.inr rfl) q3 q4
        rw [jMend_cong hm8 hm9]
        have hPc : PRel (jLf v (jHO x (v 10 0) v n).2 ((g - n) % 32)) (mC0 (va_up u 0 (mP3 (u 0) x w n g)) (nI g) (v 13 ((g - n) % 32)) (v 14 ((g - n) % 32)) (jHO x (v 10 0) v n).2 (jKp g n) 0) := by
          refine PR_cong rfl rfl (fun j r1 r2 => mC0_pr r1 r2) ?_
          refine PR_lrn (PR_cong rfl rfl (fun j r1 r2 => ?_) hP) eO hO rfl rfl q0
          show mP3 (u 0) x w n g j = _
          rw [mP3_o (by omega), keep j (by omega)]
        exact mend_eq hPc eO hO
      · obtain ⟨y, r1, r2, r3⟩ := q0
        unfold jIsR
        rcases r3 with r3 | ⟨i, i1, i2, -⟩
        · rw [r3, if_pos (by decide), if_pos rfl]
        · rw [i2, if_neg (nI_nneg i1), if_neg (y_m1 i i1)]
    · obtain ⟨k0, k1, k2, k3, k4, k5⟩ := hK g (by omega) hng (by omega)
      rw [jLH_13, jLH_14, jLH_15, jLH_16, if_neg hn, pk_un (by omega), pk_un (by omega), pk_un (by omega), pk_un (by omega)]
      have hk1 : 1 ≤ jKp h n := by unfold jKp; split <;> omega
      have hq1 : 1 ≤ mKq (jKp h n) := by unfold mKq; split <;> omega
      have ha : g + (mKq (jKp h n) + 1) - (h + 1) < mKq (jKp h n) := by omega
      have tr : ∀ i, i < 5 → mPass u x w n h (jKp h n) 0 (82 + 5 * (g + (mKq (jKp h n) + 1) - (h + 1)) + i) = u 0 (82 + 5 * (g + jKp h n - h) + i) := by
        intro i hi5
        rw [hi _ (by omega) (by omega), if_neg (by omega), if_neg (by omega), if_neg (by omega), if_neg (by omega), if_neg (by omega)]
        by_cases h16 : jKp h n = 16
        · have hq : mKq (jKp h n) = 15 := by unfold mKq; rw [if_pos h16]; omega
          rw [if_pos ⟨h16, by omega⟩, hq, h16]
          congr 1
          omega
        · have hq : mKq (jKp h n) = jKp h n := by unfold mKq; rw [if_neg h16]
          rw [if_neg (fun z => h16 z.1), hq]
          congr 1
          omega
      rw [tr 0 (by decide), tr 1 (by decide), tr 2 (by decide), tr 3 (by decide), tr 4 (by decide)]
      exact ⟨k0, k1, k2, k3, k4, k5⟩
