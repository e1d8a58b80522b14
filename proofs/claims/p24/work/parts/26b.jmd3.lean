theorem okr_ix {w : Int32} (hw : okr w) (h0 : ¬ w < 0) : w.toNatClampNeg < 3 := by
  rcases hw with e | ⟨k, hk, e⟩
  · rw [e] at h0; exact absurd (by decide) h0
  · rw [e, nI_clamp (by omega)]; exact hk
theorem mC1_o {f : V1} {w x o : Int32} (hw : okr w) {j : Nat} (hj : j < 40 ∨ 46 ≤ j) : mC1 f w x o j = f j := by
  unfold mC1
  by_cases h : w < 0
  · rw [if_pos h]
  · rw [if_neg h]
    have := okr_ix hw h
    rw [pk_un (by omega), pk_un (by omega)]
theorem mC2_o {f : V1} {kp j : Nat} (h4 : j ≠ 4) (hj : j < 82) : mC2 f kp j = f j := by
  unfold mC2
  split
  · rw [pk_un h4, mDown_at _ _ _ (by decide), if_neg (by omega)]
  · rfl
theorem mC4_o {f : V1} {h x o : Int32} {a j : Nat} (hj : j < 82) : mC4 f h x o a j = f j := by
  unfold mC4
  rw [pk_un (by omega), pk_un (by omega), pk_un (by omega)]
theorem mCome_o {u : U} {h x w o : Int32} {kp j : Nat} (hw : okr w) (h4 : j ≠ 4) (hj : j < 82) (hj2 : j < 40 ∨ 46 ≤ j) : mCome u h x w o kp 0 j = u 0 j := by
  show mC7 (mC0 u h x w o kp 0) w _ (mKq kp) j = u 0 j
  unfold mC7
  rw [pk_un h4, pk_un (by omega), pk_un (by omega)]
  show mC4 _ h x o _ j = u 0 j
  rw [mC4_o hj, mC2_o h4 hj, mC1_o hw hj2]
theorem mCome_4 {u : U} {h x w o : Int32} {kp : Nat} : mCome u h x w o kp 0 4 = nI (mKq kp + 1) := by
  exact (pk_us : upd (upd (upd (mC0 u h x w o kp 0) (82 + 5 * mKq kp + 3) (mMend (mC0 u h x w o kp) o)) (82 + 5 * mKq kp + 4) (if w < 0 then 0 else 1)) 4 (nI (mKq kp + 1)) 4 = nI (mKq kp + 1))
theorem mP1_o {f : V1} {x w : Int32} {h j : Nat} (hj : j < 50 ∨ 82 ≤ j) : mP1 f x w h j = f j := by
  unfold mP1
  rw [pk_un (by omega), pk_un (by omega)]
theorem okM_mP1 {f : V1} {x w : Int32} {h : Nat} (hok : okM f) (hw : okr w) : okM (mP1 f x w h) := by
  intro j hj
  unfold mP1
  by_cases e : j = h % 16
  · rw [e, pk_us]; exact hw
  · rw [pk_un (by omega), pk_un (by omega)]; exact hok j hj
theorem mHOP_o {f : V1} {x w : Int32} {n h j : Nat} (hn : n ≤ 10) (hj : j < 10 ∨ (20 ≤ j ∧ j < 46) ∨ 82 ≤ j) : (mHO x (mP1 f x w h) n).1 j = f j := by
  rw [mHO_o x _ n j hn (by omega) (by omega) (by omega) (by omega) (by omega), mP1_o (by omega)]
theorem okM_mHOP {f : V1} {x w : Int32} {n h : Nat} (hn : n ≤ 10) (hok : okM f) (hw : okr w) : okM (mHO x (mP1 f x w h) n).1 := by
  intro j hj
  rw [mHO_o x _ n (66 + j) hn (by omega) (by omega) (by omega) (by omega) (by omega)]
  exact okM_mP1 hok hw j hj
theorem mPass_o {u : U} {x w : Int32} {n h kp j : Nat} (hn : n ≤ 10) (hok : okM (u 0)) (hw : okr w) (hj : j < 10) (h1 : j ≠ 1) (h4 : j ≠ 4) : mPass u x w n h kp 0 j = u 0 j := by
  have key : mP3 (u 0) x w n h j = u 0 j := by
    unfold mP3
    rw [pk_un h1]
    exact mHOP_o hn (by omega)
  unfold mPass
  split
  · exact key
  · rw [mCome_o (okM_mHOP hn hok hw _ (by omega)) h4 (by omega) (by omega)]
    exact key
theorem mPass_1 {u : U} {x w : Int32} {n h kp : Nat} (hn : n ≤ 10) (hok : okM (u 0)) (hw : okr w) : mPass u x w n h kp 0 1 = nI (h + 1) := by
  have key : mP3 (u 0) x w n h 1 = nI (h + 1) := by
    unfold mP3
    exact pk_us
  unfold mPass
  split
  · exact key
  · rw [mCome_o (okM_mHOP hn hok hw _ (by omega)) (by decide) (by omega) (by omega)]
    exact key
theorem mPass_4 {u : U} {x w : Int32} {n h kp : Nat} (hn : n ≤ 10) (hk : u 0 4 = nI kp) : mPass u x w n h kp 0 4 = nI (mKp n h kp) := by
  unfold mPass mKp
  by_cases hlt : h < n
  · rw [if_pos hlt, if_pos hlt]
    show mP3 (u 0) x w n h 4 = _
    unfold mP3
    rw [pk_un (by decide), mHOP_o hn (by omega)]
    exact hk
  · rw [if_neg hlt, if_neg hlt, mCome_4]
    unfold mKq
    split
    · rename_i e; rw [e]
    · rfl
theorem mPass_ok {u : U} {x w : Int32} {n h kp : Nat} (hn : n ≤ 10) (hok : okM (u 0)) (hw : okr w) : okM (mPass u x w n h kp 0) := by
  intro j hj
  have key : okr (mP3 (u 0) x w n h (66 + j)) := by
    unfold mP3
    rw [pk_un (by omega)]
    exact okM_mHOP hn hok hw j hj
  unfold mPass
  split
  · exact key
  · rw [mCome_o (okM_mHOP hn hok hw _ (by omega)) (by omega) (by omega) (by omega)]
    exact key
theorem mKp_16 {n h kp : Nat} (hk : kp ≤ 16) : mKp n h kp ≤ 16 := by
  unfold mKp
  split
  · exact hk
  · split <;> omega
theorem mG1_o {u : U} {t r j : Nat} (h2 : j ≠ 2) (h3 : j ≠ 3) : mG1 u t r 0 j = u 0 j := by
  show upd (upd (u 0) 2 (nI ((t + 1) % 3))) 3 (nI (r + 1)) j = u 0 j
  rw [pk_un h3, pk_un h2]
