/-! the history: the class's ring of lines and the model's row of rows -/
def HRel (Z : Nat → U) (u : U) (fi k : Nat) : Prop := fi < 4 ∧ k ≤ 4 ∧ Z 7 0 0 = nI fi ∧ Z 7 1 0 = nI k ∧ u 3 0 = nI k ∧ ∀ i, i < k → ∃ n h r, h ≤ 999 ∧ LRel (Z ((fi + i) % 4 + 1)) (fun j => u 2 (162 * i + j)) n h r
theorem HRel_keep {Z Z' : Nat → U} {u u' : U} {fi k n h r : Nat} (hH : HRel Z u fi k) (hL : LRel (Z 0) (u 0) n h r) (hh : h ≤ 999) (h2 : u' 2 = mRecP (u 2) (u 0) k) (h3 : u' 3 0 = nI (mRecK k)) (hZ : ∀ j, j ≠ 0 → Z' j = jKeep Z fi k j) : ∃ fi' k', HRel Z' u' fi' k' := by
  obtain ⟨q1, q2, q3, q4, q5, q6⟩ := hH
  by_cases hk : k = 4
  · subst hk
    have e7 : jKeep Z fi 4 7 = va_up (va_up (Z 7) 0 (fun _ => nI ((fi + 1) % 4))) 1 (fun _ => nI (3 + 1)) := rfl
    refine ⟨(fi + 1) % 4, 4, by omega, Nat.le_refl 4, ?_, ?_, h3, fun i hi => ?_⟩
    · rw [hZ 7 (by decide), e7]; rfl
    · rw [hZ 7 (by decide), e7]; rfl
    · have hs : Z' (((fi + 1) % 4 + i) % 4 + 1) = jKeep Z fi 4 (((fi + 1) % 4 + i) % 4 + 1) := hZ _ (by omega)
      rw [hs, h2]
      have ek : jKeep Z fi 4 (((fi + 1) % 4 + i) % 4 + 1) = if ((fi + 1) % 4 + i) % 4 + 1 = ((fi + 1) % 4 + 3) % 4 + 1 then Z 0 else Z (((fi + 1) % 4 + i) % 4 + 1) := by
        show (if ((fi + 1) % 4 + i) % 4 + 1 = 7 then _ else if ((fi + 1) % 4 + i) % 4 + 1 = ((fi + 1) % 4 + 3) % 4 + 1 then Z 0 else Z (((fi + 1) % 4 + i) % 4 + 1)) = _
        rw [if_neg (by omega)]
      rw [ek]
      by_cases hi3 : i = 3
      · rw [if_pos (by omega)]
        refine ⟨n, h, r, hh, LRel_cong (fun j hj => ?_) hL⟩
        show (if 4 = 4 then mPut (mDown (u 2) 0 162 486) (u 0) (162 * (4 - 1)) 0 162 else _) (162 * i + j) = u 0 j
        rw [if_pos rfl, mPut_at, if_pos (by omega)]
        exact congrArg (u 0) (by omega)
      · rw [if_neg (by omega)]
        obtain ⟨n', h', r', g1, g2⟩ := q6 (i + 1) (by omega)
        refine ⟨n', h', r', g1, ?_⟩
        rw [show ((fi + 1) % 4 + i) % 4 + 1 = (fi + (i + 1)) % 4 + 1 from by omega]
        refine LRel_cong (fun j hj => ?_) g2
        show (if 4 = 4 then mPut (mDown (u 2) 0 162 486) (u 0) (162 * (4 - 1)) 0 162 else _) (162 * i + j) = u 2 (162 * (i + 1) + j)
        rw [if_pos rfl, mPut_at, if_neg (by omega), mDown_at _ _ _ (by decide), if_pos (by omega)]
        exact congrArg (u 2) (by omega)
  · have e7 : jKeep Z fi k 7 = va_up (Z 7) 1 (fun _ => nI (k + 1)) := by
      unfold jKeep
      rw [if_neg hk]
      rfl
    refine ⟨fi, k + 1, q1, by omega, ?_, ?_, ?_, fun i hi => ?_⟩
    · rw [hZ 7 (by decide), e7]; exact q3
    · rw [hZ 7 (by decide), e7]; rfl
    · rw [h3]
      unfold mRecK
      rw [if_neg hk]
    · have hs : Z' ((fi + i) % 4 + 1) = jKeep Z fi k ((fi + i) % 4 + 1) := hZ _ (by omega)
      rw [hs, h2]
      have ek : jKeep Z fi k ((fi + i) % 4 + 1) = if (fi + i) % 4 + 1 = (fi + k) % 4 + 1 then Z 0 else Z ((fi + i) % 4 + 1) := by
        unfold jKeep
        rw [if_neg hk]
        show (if (fi + i) % 4 + 1 = 7 then _ else if (fi + i) % 4 + 1 = (fi + k) % 4 + 1 then Z 0 else Z ((fi + i) % 4 + 1)) = _
        rw [if_neg (by omega)]
      rw [ek]
      by_cases hik : i = k
      · rw [if_pos (by rw [hik])]
        refine ⟨n, h, r, hh, LRel_cong (fun j hj => ?_) hL⟩
        unfold mRecP
        rw [if_neg hk, mPut_at, if_pos (by omega)]
        exact congrArg (u 0) (by omega)
      · rw [if_neg (by omega)]
        obtain ⟨n', h', r', g1, g2⟩ := q6 i (by omega)
        refine ⟨n', h', r', g1, LRel_cong (fun j hj => ?_) g2⟩
        unfold mRecP
        rw [if_neg hk, mPut_at, if_neg (by omega)]
theorem HRel_cong {Z Z' : Nat → U} {u u' : U} {fi k : Nat} (hZ : ∀ j, j ≠ 0 → j < 5 ∨ j = 7 → Z' j = Z j) (h2 : u' 2 = u 2) (h3 : u' 3 = u 3) (hH : HRel Z u fi k) : HRel Z' u' fi k := by
  obtain ⟨q1, q2, q3, q4, q5, q6⟩ := hH
  refine ⟨q1, q2, ?_, ?_, ?_, fun i hi => ?_⟩
  · rw [hZ 7 (by decide) (Or.inr rfl)]; exact q3
  · rw [hZ 7 (by decide) (Or.inr rfl)]; exact q4
  · rw [h3]; exact q5
  · rw [hZ _ (by omega) (by omega), h2]
    exact q6 i hi
/-- a state is restored -/
theorem HRel_undo {Z : Nat → U} {u : U} {fi k : Nat} (hH : HRel Z u fi k) (hk : 0 < k) : HRel (jRest Z fi k) (mUndo u k) fi (k - 1) ∧ ∃ n h r, h ≤ 999 ∧ LRel (jRest Z fi k 0) (mUndo u k 0) n h r := by
  obtain ⟨q1, q2, q3, q4, q5, q6⟩ := hH
  have e7 : jRest Z fi k 7 = va_up (Z 7) 1 (fun _ => nI (k - 1)) := rfl
  refine ⟨⟨q1, by omega, by rw [e7]; exact q3, by rw [e7]; rfl, rfl, fun i hi => ?_⟩, ?_⟩
  · rw [jRest_o (by omega) (by omega)]
    exact q6 i (by omega)
  · obtain ⟨n, h, r, g1, g2⟩ := q6 (k - 1) (by omega)
    refine ⟨n, h, r, g1, ?_⟩
    show LRel (Z ((fi + (k - 1)) % 4 + 1)) (mPut (u 0) (u 2) 0 (162 * (k - 1)) 162) n h r
    refine LRel_cong (fun j hj => ?_) g2
    rw [mPut_at, if_pos (by omega), Nat.sub_zero]
