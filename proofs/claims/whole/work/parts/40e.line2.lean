/-! the line: samples, beginning anew, shares, settings -/
def LRel (v : U) (f : V1) (n h r : Nat) : Prop := LnP v f n h ∧ r ≤ h ∧ v 12 0 = nI r ∧ f 3 = nI r ∧ f 2 = nI (r % 3)
theorem due_eq {x p : Int32} {P : Nat} (hp : p = nI P) (hP : P ≤ 12) : jDue x p = mDue x p := by
  unfold jDue mDue
  by_cases h : P = 0
  · subst h
    rw [hp, if_pos (show nI 0 = 0 from rfl), if_pos (show nI 0 ≤ 0 from by decide)]
  · rw [hp, if_neg (nI_ne0 (by omega) (by omega)), if_neg (nI_nle (by omega) (by omega))]
theorem HB_eq {x p : Int32} {P : Nat} (hp : p = nI P) (hP : P ≤ 12) : ∀ k, jHB x p k = mHB x p k
  | 0 => rfl
  | k + 1 => by rw [jHB, mHB, HB_eq hp hP k, due_eq hp hP]
theorem LnP_cong {v v' : U} {f f' : V1} {n h : Nat} (hv : ∀ r, r ≠ 12 → v' r = v r) (hf : ∀ j, j < 162 → j ≠ 2 → j ≠ 3 → f' j = f j) (hL : LnP v f n h) : LnP v' f' n h := by
  obtain ⟨⟨h2, h10, hh5⟩, ⟨e0, f0, e11, f1, f4⟩, ⟨a4, a5, a6, a7⟩, hS, hC, hz, hP, ⟨⟨c, c1, c2, c3, c4⟩, ⟨p, p1, p2, p3⟩, gs⟩, hokR, hokM, hR, hK⟩ := hL
  have hk := jKp_16 h n
  refine ⟨⟨h2, h10, hh5⟩, ⟨?_, ?_, ?_, ?_, ?_⟩, ⟨?_, ?_, ?_, ?_⟩, ?_, ?_, ?_, ?_, ⟨⟨c, c1, c2, ?_, ?_⟩, ⟨p, p1, ?_, ?_⟩, ?_⟩, ?_, ?_, ?_, ?_⟩
  · rw [hv 0 (by decide)]; exact e0
  · rw [hf 0 (by decide) (by decide) (by decide)]; exact f0
  · rw [hv 11 (by decide)]; exact e11
  · rw [hf 1 (by decide) (by decide) (by decide)]; exact f1
  · rw [hf 4 (by decide) (by decide) (by decide)]; exact f4
  · rw [hv 4 (by decide), hf 46 (by decide) (by decide) (by decide)]; exact a4
  · rw [hv 5 (by decide), hf 47 (by decide) (by decide) (by decide)]; exact a5
  · rw [hv 6 (by decide), hf 48 (by decide) (by decide) (by decide)]; exact a6
  · rw [hv 7 (by decide), hf 49 (by decide) (by decide) (by decide)]; exact a7
  · intro k hk
    rw [hv 1 (by decide), hv 2 (by decide), hv 3 (by decide), hf (10 + k) (by omega) (by omega) (by omega), hf (20 + k) (by omega) (by omega) (by omega), hf (30 + k) (by omega) (by omega) (by omega)]
    exact hS k hk
  · obtain ⟨cc, ss, ll, hN⟩ := hC
    refine ⟨cc, ss, ll, fun k hk => ?_⟩
    rw [hv 1 (by decide), hv 2 (by decide), hv 3 (by decide)]
    exact hN k hk
  · intro k q1 q2
    rw [hv 2 (by decide), hv 3 (by decide)]
    exact hz k q1 q2
  · exact PR_cong (hv 8 (by decide)) (hv 9 (by decide)) (fun j q1 q2 => hf j (by omega) (by omega) (by omega)) hP
  · rw [hv 10 (by decide)]; exact c3
  · rw [hf 5 (by decide) (by decide) (by decide)]; exact c4
  · rw [hv 10 (by decide)]; exact p2
  · rw [hf 6 (by decide) (by decide) (by decide)]; exact p3
  · intro i hi
    rw [hv 10 (by decide), hf (7 + i) (by omega) (by omega) (by omega)]
    exact gs i hi
  · intro j hj
    rw [hv 14 (by decide)]
    exact hokR j hj
  · intro j hj
    rw [hf (66 + j) (by omega) (by omega) (by omega)]
    exact hokM j hj
  · intro j hj hj2
    rw [hv 13 (by decide), hv 14 (by decide), hf (50 + j % 16) (by omega) (by omega) (by omega), hf (66 + j % 16) (by omega) (by omega) (by omega)]
    exact hR j hj hj2
  · intro g q1 q2 q3
    have := hK g q1 q2 q3
    unfold KEnt at this ⊢
    rw [hv 13 (by decide), hv 14 (by decide), hv 15 (by decide), hv 16 (by decide), hf _ (by omega) (by omega) (by omega), hf _ (by omega) (by omega) (by omega), hf _ (by omega) (by omega) (by omega), hf _ (by omega) (by omega) (by omega), hf _ (by omega) (by omega) (by omega)]
    exact this
theorem LRel_cong {v : U} {f f' : V1} {n h r : Nat} (hf : ∀ j, j < 162 → f' j = f j) (hL : LRel v f n h r) : LRel v f' n h r := by
  obtain ⟨g1, g2, g3, g4, g5⟩ := hL
  exact ⟨LnP_cong (fun _ _ => rfl) (fun j q _ _ => hf j q) g1, g2, g3, by rw [hf 3 (by decide)]; exact g4, by rw [hf 2 (by decide)]; exact g5⟩
theorem mKp_eq {n h : Nat} : mKp n h (jKp h n) = jKp (h + 1) n := by
  unfold mKp
  by_cases hn : h < n
  · rw [if_pos hn, jKp_lt hn]
  · rw [if_neg hn, jKp_ge (by omega)]
    unfold mKq
    have := jKp_16 h n
    split <;> omega
theorem LRel_take {v u : U} {x : Int32} {X n h r : Nat} (hL : LRel v (u 0) n h r) (hx : x = nI X) (hX : X ≤ 10000) (hh : h ≤ 3000) : ∃ h' r', LRel (jTv v x n) (mGv u x n 0) n h' r' ∧ nI h' = jHB (v 11 0) (v 10 1) 1 ∧ h ≤ h' ∧ h' ≤ h + 2 ∧ jTv v x n 10 = v 10 := by
  obtain ⟨hP, hr, r1, r2, r3⟩ := hL
  obtain ⟨⟨h2, h10, hh5⟩, ⟨e0, f0, e11, f1, f4⟩, -, -, -, -, -, ⟨-, ⟨p, p1, p2, p3⟩, gs⟩, hokR, hokM, -, -⟩ := id hP
  have hk16 := jKp_16 h n
  have ox : okx x (-1) := ⟨X, hX, hx, Or.inl rfl⟩
  rw [jTv_eq e11 (by omega) r1 (by omega), mGv_eq f1 (by omega) f4 (by omega) r3 (by omega) r2 (by omega)]
  unfold jTk mGive
  have hd : mDue (u 0 1) (u 0 6) = jDue (v 11 0) (v 10 1) := by rw [f1, ← e11, p3, ← p2, due_eq p2 p1]
  rw [hd]
  have hHB : jHB (v 11 0) (v 10 1) 1 = v 11 0 + (if jDue (v 11 0) (v 10 1) = 0 then 1 else 2) := rfl
  rw [hHB]
  by_cases hdue : jDue (v 11 0) (v 10 1) = 0
  · rw [if_pos hdue, if_pos hdue, if_pos hdue]
    refine ⟨h + 1, r, ⟨LnP_pass hP ox (by omega), by omega, ?_, ?_, ?_⟩, ?_, by omega, by omega, ?_⟩
    · rw [jLH_12]; exact r1
    · rw [mPass_o h10 hokM (Or.inl rfl) (by decide) (by decide) (by decide)]; exact r2
    · rw [mPass_o h10 hokM (Or.inl rfl) (by decide) (by decide) (by decide)]; exact r3
    · rw [e11]; exact (nI_1 h).symm
    · exact jLH_10
  · rw [if_neg hdue, if_neg hdue, if_neg hdue]
    obtain ⟨z, z1, z2, z3, z4⟩ := gs (r % 3) (by omega)
    have hP1 : LnP (va_up v 12 (fun _ => nI (r + 1))) (mG1 u (r % 3) r 0) n h := LnP_cong (fun q hq => by simp only [va_up, if_neg hq]) (fun j _ q2 q3 => mG1_o q2 q3) hP
    have ox1 : okx (v 10 (2 + r % 3)) (nI (r % 3)) := ⟨z, z2, z3, Or.inr ⟨r % 3, by omega, rfl, z1⟩⟩
    have hP2 := LnP_pass hP1 ox1 (by omega)
    rw [show u 0 (7 + r % 3) = v 10 (2 + r % 3) from by rw [z3, z4], mKp_eq]
    have hP3 := LnP_pass hP2 ox (by omega)
    have hokM1 := hP1.2.2.2.2.2.2.2.2.2.1
    have hokM2 := hP2.2.2.2.2.2.2.2.2.2.1
    have or1 := okx_r ox1
    refine ⟨h + 2, r + 1, ⟨hP3, by omega, ?_, ?_, ?_⟩, ?_, by omega, by omega, ?_⟩
    · rw [jLH_12, jLH_12]; rfl
    · rw [mPass_o h10 hokM2 (Or.inl rfl) (by decide) (by decide) (by decide), mPass_o h10 hokM1 or1 (by decide) (by decide) (by decide)]
      show upd (upd (u 0) 2 (nI ((r % 3 + 1) % 3))) 3 (nI (r + 1)) 3 = _
      rw [pk_us]
    · rw [mPass_o h10 hokM2 (Or.inl rfl) (by decide) (by decide) (by decide), mPass_o h10 hokM1 or1 (by decide) (by decide) (by decide)]
      show upd (upd (u 0) 2 (nI ((r % 3 + 1) % 3))) 3 (nI (r + 1)) 2 = _
      rw [pk_un (by decide), pk_us, show (r % 3 + 1) % 3 = (r + 1) % 3 from by omega]
    · rw [e11]; exact (nI_add h 2).symm
    · rw [jLH_10, jLH_10]; rfl
theorem LRel_h {v : U} {f : V1} {n h r : Nat} (hL : LRel v f n h r) : v 11 0 = nI h ∧ f 1 = nI h := ⟨hL.1.2.1.2.2.1, hL.1.2.1.2.2.2.1⟩
/-- many samples that are 0 -/
theorem LRel_idl {v u : U} {n h r : Nat} (hL : LRel v (u 0) n h r) : ∀ i, h + 2 * i ≤ 3000 → ∃ h' r', LRel (jTI v 0 n i) (mIdl u n i 0) n h' r' ∧ nI h' = jHB (v 11 0) (v 10 1) i ∧ h ≤ h' ∧ h' ≤ h + 2 * i ∧ jTI v 0 n i 10 = v 10
  | 0, _ => ⟨h, r, hL, (LRel_h hL).1.symm, Nat.le_refl _, Nat.le_refl _, rfl⟩
  | i + 1, hh => by
    obtain ⟨h1, r1, g1, g2, g3, g4, g5⟩ := LRel_idl hL i (by omega)
    obtain ⟨h2, r2, k1, k2, k3, k4, k5⟩ := LRel_take (x := 0) (X := 0) g1 rfl (by decide) (by omega)
    refine ⟨h2, r2, k1, ?_, by omega, by omega, k5.trans g5⟩
    rw [k2, g5, (LRel_h g1).1, g2]
    rfl
/-- the line begins anew -/
theorem jCM_at {u : U} {a : Nat} : ∀ (i k : Nat), jCM u a i 2 k = (if a ≤ k ∧ k < a + i then 0 else u 2 k) ∧ jCM u a i 3 k = (if a ≤ k ∧ k < a + i then 0 else u 3 k)
  | 0, k => by
    rw [if_neg (by omega), if_neg (by omega)]
    exact ⟨rfl, rfl⟩
  | i + 1, k => by
    obtain ⟨g1, g2⟩ := jCM_at (u := u) (a := a) i k
    show upd (jCM u a i 2) (a + i) 0 k = _ ∧ upd (jCM u a i 3) (a + i) 0 k = _
    by_cases h : k = a + i
    · rw [h, pk_us, pk_us, if_pos (by omega), if_pos (by omega)]
      exact ⟨rfl, rfl⟩
    · rw [pk_un h, pk_un h, g1, g2]
      by_cases h2 : a ≤ k ∧ k < a + i
      · rw [if_pos h2, if_pos h2, if_pos (by omega), if_pos (by omega)]
        exact ⟨rfl, rfl⟩
      · rw [if_neg h2, if_neg h2, if_neg (by omega), if_neg (by omega)]
        exact ⟨rfl, rfl⟩
theorem mNew_at2 {f : V1} {n : Nat} : ∀ (i j : Nat), n + i ≤ 10 → mNew f n i j = if (20 + n ≤ j ∧ j < 20 + n + i) ∨ (30 + n ≤ j ∧ j < 30 + n + i) then 0 else f j
  | 0, j, _ => by
    rw [if_neg (by omega)]
    rfl
  | i + 1, j, hi => by
    show upd (upd (mNew f n i) (20 + (n + i)) 0) (30 + (n + i)) 0 j = _
    by_cases h3 : j = 30 + (n + i)
    · rw [h3, pk_us, if_pos (by omega)]
    · rw [pk_un h3]
      by_cases h2 : j = 20 + (n + i)
      · rw [h2, pk_us, if_pos (by omega)]
      · rw [pk_un h2, mNew_at2 i j (by omega)]
        by_cases h : (20 + n ≤ j ∧ j < 20 + n + i) ∨ (30 + n ≤ j ∧ j < 30 + n + i)
        · rw [if_pos h, if_pos (by omega)]
        · rw [if_neg h, if_neg (by omega)]
theorem mBeg_at {f : V1} {n j : Nat} (hn : n ≤ 10) : mBeg f n j = if 46 ≤ j ∧ j < 50 then 0 else if 40 ≤ j ∧ j < 43 then -1 else if 1 ≤ j ∧ j < 5 then 0 else if 10 ≤ j ∧ j < 10 + n then 0 else f j := by
  unfold mBeg
  rw [mFil_at]
  by_cases h1 : 46 ≤ j ∧ j < 50
  · rw [if_pos (by omega), if_pos h1]
  · rw [if_neg (by omega), if_neg h1, mFil_at]
    by_cases h2 : 40 ≤ j ∧ j < 43
    · rw [if_pos (by omega), if_pos h2]
    · rw [if_neg (by omega), if_neg h2]
      by_cases h4 : j = 4
      · rw [h4, pk_us, if_pos (by omega)]
      · rw [pk_un h4]
        by_cases h3 : j = 3
        · rw [h3, pk_us, if_pos (by omega)]
        · rw [pk_un h3]
          by_cases h2 : j = 2
          · rw [h2, pk_us, if_pos (by omega)]
          · rw [pk_un h2]
            by_cases h1 : j = 1
            · rw [h1, pk_us, if_pos (by omega)]
            · rw [pk_un h1, if_neg (show ¬ (1 ≤ j ∧ j < 5) from by omega), mFil_at]
theorem LRel_beg {v : U} {f : V1} {n h r a : Nat} (hL : LRel v f n h r) (ha : 2 ≤ a) (ha2 : a ≤ 10) : LRel (jSA v a) (mBeg (upd (mNew f n (a - n)) 0 (nI a)) a) a 0 0 := by
  obtain ⟨⟨⟨h2, h10, hh5⟩, ⟨e0, f0, e11, f1, f4⟩, -, hS, hC, hz, -, ⟨⟨c, c1, c2, c3, c4⟩, ⟨p, p1, p2, p3⟩, gs⟩, hokR, hokM, -, -⟩, -⟩ := hL
  have fo : ∀ j, j < 162 → 5 ≤ j → (j < 10 ∨ 50 ≤ j) → mBeg (upd (mNew f n (a - n)) 0 (nI a)) a j = f j := by
    intro j q1 q2 q3
    rw [mBeg_at ha2, if_neg (by omega), if_neg (by omega), if_neg (by omega), if_neg (by omega), pk_un (by omega)]
    by_cases hna : n ≤ a
    · rw [mNew_at2 _ _ (by omega), if_neg (by omega)]
    · rw [show a - n = 0 from by omega]; rfl
  have fo2 : ∀ j, 20 ≤ j → j < 40 → mBeg (upd (mNew f n (a - n)) 0 (nI a)) a j = mNew f n (a - n) j := by
    intro j q1 q2
    rw [mBeg_at ha2, if_neg (by omega), if_neg (by omega), if_neg (by omega), if_neg (by omega), pk_un (by omega)]
  have fs : ∀ k, k < a → mBeg (upd (mNew f n (a - n)) 0 (nI a)) a (20 + k) = (if n ≤ k then 0 else f (20 + k)) ∧ mBeg (upd (mNew f n (a - n)) 0 (nI a)) a (30 + k) = (if n ≤ k then 0 else f (30 + k)) := by
    intro k hk
    rw [fo2 (20 + k) (by omega) (by omega), fo2 (30 + k) (by omega) (by omega)]
    by_cases hna : n ≤ k
    · rw [if_pos hna, if_pos hna, mNew_at2 _ _ (by omega), if_pos (by omega), mNew_at2 _ _ (by omega), if_pos (by omega)]
      exact ⟨rfl, rfl⟩
    · rw [if_neg hna, if_neg hna]
      by_cases hna2 : n ≤ a
      · rw [mNew_at2 _ _ (by omega), if_neg (by omega), mNew_at2 _ _ (by omega), if_neg (by omega)]
        exact ⟨rfl, rfl⟩
      · rw [show a - n = 0 from by omega]
        exact ⟨rfl, rfl⟩
  have vs2 : ∀ k, jSA v a 2 k = if a ≤ k ∧ k < a + (10 - a) then 0 else v 2 k := fun k => (jCM_at (10 - a) k).1
  have vs3 : ∀ k, jSA v a 3 k = if a ≤ k ∧ k < a + (10 - a) then 0 else v 3 k := fun k => (jCM_at (10 - a) k).2
  have b0 : ∀ j, (46 ≤ j ∧ j < 50) ∨ (1 ≤ j ∧ j < 5) → mBeg (upd (mNew f n (a - n)) 0 (nI a)) a j = 0 := by
    intro j q
    rw [mBeg_at ha2]
    by_cases h1 : 46 ≤ j ∧ j < 50
    · rw [if_pos h1]
    · rw [if_neg h1, if_neg (by omega), if_pos (by omega)]
  refine ⟨⟨⟨ha, ha2, by omega⟩, ⟨rfl, ?_, rfl, ?_, ?_⟩, ⟨?_, ?_, ?_, ?_⟩, ?_, ?_, ?_, ?_, ⟨⟨c, c1, c2, c3, ?_⟩, ⟨p, p1, p2, ?_⟩, ?_⟩, hokR, ?_, ?_, ?_⟩, Nat.le_refl 0, rfl, ?_, ?_⟩
  · rw [mBeg_at ha2, if_neg (by omega), if_neg (by omega), if_neg (by omega), if_neg (by omega), pk_us]
  · exact b0 1 (by omega)
  · rw [b0 4 (by omega)]
    have : jKp 0 a = 0 := by have := jKp_le 0 a; omega
    rw [this]; rfl
  · exact (b0 46 (by omega)).symm
  · exact (b0 47 (by omega)).symm
  · exact (b0 48 (by omega)).symm
  · exact (b0 49 (by omega)).symm
  · intro k hk
    obtain ⟨q2, q3⟩ := fs k hk
    refine ⟨?_, ?_, ?_⟩
    · show (0 : Int32) = _
      rw [mBeg_at ha2, if_neg (by omega), if_neg (by omega), if_neg (by omega), if_pos (by omega)]
    · rw [vs2, if_neg (by omega), q2]
      by_cases hnk : n ≤ k
      · rw [if_pos hnk]; exact (hz k hnk (by omega)).1
      · rw [if_neg hnk]; exact (hS k (by omega)).2.1
    · rw [vs3, if_neg (by omega), q3]
      by_cases hnk : n ≤ k
      · rw [if_pos hnk]; exact (hz k hnk (by omega)).2
      · rw [if_neg hnk]; exact (hS k (by omega)).2.2
  · obtain ⟨cc, ss, ll, hN⟩ := hC
    refine ⟨fun _ => 0, fun k => if n ≤ k then 0 else ss k, fun k => if n ≤ k then 0 else ll k, fun k hk => ⟨rfl, Nat.zero_le _, ?_, ?_, ?_, ?_⟩⟩
    · rw [vs2, if_neg (by omega)]
      show v 2 k = nI (if n ≤ k then 0 else ss k)
      by_cases hnk : n ≤ k
      · rw [if_pos hnk]; exact (hz k hnk (by omega)).1
      · rw [if_neg hnk]; exact (hN k (by omega)).2.2.1
    · show (if n ≤ k then 0 else ss k) ≤ 300
      by_cases hnk : n ≤ k
      · rw [if_pos hnk]; exact Nat.zero_le _
      · rw [if_neg hnk]; exact (hN k (by omega)).2.2.2.1
    · rw [vs3, if_neg (by omega)]
      show v 3 k = nI (if n ≤ k then 0 else ll k)
      by_cases hnk : n ≤ k
      · rw [if_pos hnk]; exact (hz k hnk (by omega)).2
      · rw [if_neg hnk]; exact (hN k (by omega)).2.2.2.2.1
    · show (if n ≤ k then 0 else ll k) ≤ 300
      by_cases hnk : n ≤ k
      · rw [if_pos hnk]; exact Nat.zero_le _
      · rw [if_neg hnk]; exact (hN k (by omega)).2.2.2.2.2
  · intro k q1 q2
    rw [vs2, if_pos (by omega), vs3, if_pos (by omega)]
    exact ⟨rfl, rfl⟩
  · intro k hk
    refine Or.inl ⟨rfl, ?_⟩
    rw [mBeg_at ha2, if_neg (by omega), if_pos (by omega)]
  · rw [fo 5 (by omega) (by omega) (by omega)]; exact c4
  · rw [fo 6 (by omega) (by omega) (by omega)]; exact p3
  · intro i hi
    rw [fo (7 + i) (by omega) (by omega) (by omega)]
    exact gs i hi
  · intro j hj
    rw [fo (66 + j) (by omega) (by omega) (by omega)]
    exact hokM j hj
  · intro j hj
    exact absurd hj (Nat.not_lt_zero j)
  · intro g hg
    exact absurd hg (Nat.not_lt_zero g)
  · exact b0 3 (by omega)
  · exact b0 2 (by omega)
/-- the shares of a stage -/
theorem LRel_sh {v : U} {f : V1} {n h r a b d : Nat} (hL : LRel v f n h r) (ha : a < n) (hb : b ≤ 300) (hd : d ≤ 300) : LRel (stMix (jCS v a (nI b) (nI d)) v) (upd (upd f (20 + a) (nI b)) (30 + a) (nI d)) n h r := by
  obtain ⟨⟨⟨h2, h10, hh5⟩, ⟨e0, f0, e11, f1, f4⟩, ⟨a4, a5, a6, a7⟩, hS, hC, hz, hP, ⟨⟨c, c1, c2, c3, c4⟩, ⟨p, p1, p2, p3⟩, gs⟩, hokR, hokM, hR, hK⟩, g2, g3, g4, g5⟩ := hL
  have hk := jKp_16 h n
  have fo : ∀ j, j < 20 ∨ 40 ≤ j → upd (upd f (20 + a) (nI b)) (30 + a) (nI d) j = f j := fun j q => by rw [pk_un (by omega), pk_un (by omega)]
  refine ⟨⟨⟨h2, h10, hh5⟩, ⟨e0, ?_, e11, ?_, ?_⟩, ⟨?_, ?_, ?_, ?_⟩, ?_, ?_, ?_, ?_, ⟨⟨c, c1, c2, c3, ?_⟩, ⟨p, p1, p2, ?_⟩, ?_⟩, hokR, ?_, ?_, ?_⟩, g2, g3, ?_, ?_⟩
  · rw [fo 0 (by omega)]; exact f0
  · rw [fo 1 (by omega)]; exact f1
  · rw [fo 4 (by omega)]; exact f4
  · rw [fo 46 (by omega)]; exact a4
  · rw [fo 47 (by omega)]; exact a5
  · rw [fo 48 (by omega)]; exact a6
  · rw [fo 49 (by omega)]; exact a7
  · intro k hk
    obtain ⟨q1, q2, q3⟩ := hS k hk
    refine ⟨?_, ?_, ?_⟩
    · rw [fo (10 + k) (by omega)]; exact q1
    · show upd (v 2) a (nI b) k = _
      rw [pk_un (show 20 + k ≠ 30 + a by omega)]
      by_cases e : k = a
      · subst e; rw [pk_us, pk_us]
      · rw [pk_un e, pk_un (by omega)]; exact q2
    · show upd (v 3) a (nI d) k = _
      by_cases e : k = a
      · subst e; rw [pk_us, pk_us]
      · rw [pk_un e, pk_un (by omega), pk_un (by omega)]; exact q3
  · obtain ⟨cc, ss, ll, hN⟩ := hC
    refine ⟨cc, fun k => if k = a then b else ss k, fun k => if k = a then d else ll k, fun k hk => ?_⟩
    obtain ⟨q1, q2, q3, q4, q5, q6⟩ := hN k hk
    refine ⟨q1, q2, ?_, ?_, ?_, ?_⟩
    · show upd (v 2) a (nI b) k = nI (if k = a then b else ss k)
      by_cases e : k = a
      · rw [if_pos e, e, pk_us]
      · rw [if_neg e, pk_un e]; exact q3
    · dsimp only; split <;> omega
    · show upd (v 3) a (nI d) k = nI (if k = a then d else ll k)
      by_cases e : k = a
      · rw [if_pos e, e, pk_us]
      · rw [if_neg e, pk_un e]; exact q5
    · dsimp only; split <;> omega
  · intro k q1 q2
    show upd (v 2) a (nI b) k = 0 ∧ upd (v 3) a (nI d) k = 0
    rw [pk_un (by omega), pk_un (by omega)]
    exact hz k q1 q2
  · exact PR_cong rfl rfl (fun j q1 q2 => fo j (by omega)) hP
  · rw [fo 5 (by omega)]; exact c4
  · rw [fo 6 (by omega)]; exact p3
  · intro i hi
    rw [fo (7 + i) (by omega)]
    exact gs i hi
  · intro j hj
    rw [fo (66 + j) (by omega)]
    exact hokM j hj
  · intro j hj hj2
    rw [fo (50 + j % 16) (by omega), fo (66 + j % 16) (by omega)]
    exact hR j hj hj2
  · intro g q1 q2 q3
    have := hK g q1 q2 q3
    unfold KEnt at this ⊢
    rw [fo _ (by omega), fo _ (by omega), fo _ (by omega), fo _ (by omega), fo _ (by omega)]
    exact this
  · rw [fo 3 (by omega)]; exact g4
  · rw [fo 2 (by omega)]; exact g5
/-- a setting -/
theorem LRel_set {v : U} {f : V1} {n h r a b : Nat} (hL : LRel v f n h r) (ha : a < 5) (h0 : a = 0 → 1000 ≤ b ∧ b ≤ 100000) (h1 : a = 1 → b ≤ 12) (h2' : 2 ≤ a → 1 ≤ b ∧ b ≤ 10000) : LRel (va_up v 10 (upd (v 10) a (nI b))) (upd f (5 + a) (nI b)) n h r := by
  obtain ⟨⟨⟨h2, h10, hh5⟩, ⟨e0, f0, e11, f1, f4⟩, ⟨a4, a5, a6, a7⟩, hS, hC, hz, hP, ⟨⟨c, c1, c2, c3, c4⟩, ⟨p, p1, p2, p3⟩, gs⟩, hokR, hokM, hR, hK⟩, g2, g3, g4, g5⟩ := hL
  have hk := jKp_16 h n
  have fo : ∀ j, j < 5 ∨ 10 ≤ j → upd f (5 + a) (nI b) j = f j := fun j q => by rw [pk_un (by omega)]
  refine ⟨⟨⟨h2, h10, hh5⟩, ⟨e0, ?_, e11, ?_, ?_⟩, ⟨?_, ?_, ?_, ?_⟩, ?_, hC, hz, ?_, ⟨?_, ?_, ?_⟩, hokR, ?_, ?_, ?_⟩, g2, g3, ?_, ?_⟩
  · rw [fo 0 (by omega)]; exact f0
  · rw [fo 1 (by omega)]; exact f1
  · rw [fo 4 (by omega)]; exact f4
  · rw [fo 46 (by omega)]; exact a4
  · rw [fo 47 (by omega)]; exact a5
  · rw [fo 48 (by omega)]; exact a6
  · rw [fo 49 (by omega)]; exact a7
  · intro k hk
    rw [fo (10 + k) (by omega), fo (20 + k) (by omega), fo (30 + k) (by omega)]
    exact hS k hk
  · exact PR_cong rfl rfl (fun j q1 q2 => fo j (by omega)) hP
  · show ∃ c, 1000 ≤ c ∧ c ≤ 100000 ∧ upd (v 10) a (nI b) 0 = nI c ∧ upd f (5 + a) (nI b) 5 = nI c
    by_cases e : a = 0
    · subst e
      exact ⟨b, (h0 rfl).1, (h0 rfl).2, pk_us, pk_us⟩
    · exact ⟨c, c1, c2, by rw [pk_un (by omega)]; exact c3, by rw [pk_un (by omega)]; exact c4⟩
  · show ∃ p, p ≤ 12 ∧ upd (v 10) a (nI b) 1 = nI p ∧ upd f (5 + a) (nI b) 6 = nI p
    by_cases e : a = 1
    · subst e
      exact ⟨b, h1 rfl, pk_us, pk_us⟩
    · exact ⟨p, p1, by rw [pk_un (by omega)]; exact p2, by rw [pk_un (by omega)]; exact p3⟩
  · intro i hi
    show ∃ z, 1 ≤ z ∧ z ≤ 10000 ∧ upd (v 10) a (nI b) (2 + i) = nI z ∧ upd f (5 + a) (nI b) (7 + i) = nI z
    by_cases e : a = 2 + i
    · subst e
      exact ⟨b, (h2' (by omega)).1, (h2' (by omega)).2, pk_us, by rw [show 7 + i = 5 + (2 + i) from by omega]; exact pk_us⟩
    · obtain ⟨z, z1, z2, z3, z4⟩ := gs i hi
      exact ⟨z, z1, z2, by rw [pk_un (by omega)]; exact z3, by rw [pk_un (by omega)]; exact z4⟩
  · intro j hj
    rw [fo (66 + j) (by omega)]
    exact hokM j hj
  · intro j hj hj2
    rw [fo (50 + j % 16) (by omega), fo (66 + j % 16) (by omega)]
    exact hR j hj hj2
  · intro g q1 q2 q3
    have := hK g q1 q2 q3
    unfold KEnt at this ⊢
    rw [fo _ (by omega), fo _ (by omega), fo _ (by omega), fo _ (by omega), fo _ (by omega)]
    exact this
  · rw [fo 3 (by omega)]; exact g4
  · rw [fo 2 (by omega)]; exact g5
/-- the first line -/
theorem LRel_0 : LRel jLn0 (jMd0 0) 4 0 0 := by
  have hb : ∀ j, jMd0 0 j = if 46 ≤ j ∧ j < 50 then 0 else if 40 ≤ j ∧ j < 43 then -1 else if 1 ≤ j ∧ j < 5 then 0 else if 10 ≤ j ∧ j < 10 + 4 then 0 else jMd1 0 j := fun j => mBeg_at (by decide)
  have h1 : ∀ j, jMd1 0 j = if j = 9 then 9000 else if j = 8 then 4000 else if j = 7 then 1000 else if j = 5 then 20000 else if j = 0 then 4 else 0 := fun j => rfl
  have z : ∀ j, 10 ≤ j → (j < 40 ∨ 46 ≤ j) → jMd0 0 j = 0 := by
    intro j q1 q2
    rw [hb, h1]
    by_cases h46 : 46 ≤ j ∧ j < 50
    · rw [if_pos h46]
    · rw [if_neg h46, if_neg (by omega), if_neg (by omega)]
      split
      · rfl
      · rw [if_neg (by omega), if_neg (by omega), if_neg (by omega), if_neg (by omega), if_neg (by omega)]
  refine ⟨⟨⟨by decide, by decide, by decide⟩, ⟨rfl, by rw [hb]; rfl, rfl, by rw [hb]; rfl, by rw [hb]; rfl⟩, ⟨(z 46 (by decide) (by decide)).symm, (z 47 (by decide) (by decide)).symm, (z 48 (by decide) (by decide)).symm, (z 49 (by decide) (by decide)).symm⟩, ?_, ?_, ?_, ?_, ⟨⟨20000, by decide, by decide, rfl, by rw [hb]; rfl⟩, ⟨0, by decide, rfl, by rw [hb]; rfl⟩, ?_⟩, ?_, ?_, ?_, ?_⟩, Nat.le_refl 0, rfl, by rw [hb]; rfl, by rw [hb]; rfl⟩
  · intro k hk
    rw [z (10 + k) (by omega) (by omega), z (20 + k) (by omega) (by omega), z (30 + k) (by omega) (by omega)]
    exact ⟨rfl, rfl, rfl⟩
  · exact ⟨fun _ => 0, fun _ => 0, fun _ => 0, fun k hk => ⟨rfl, Nat.zero_le _, rfl, Nat.zero_le _, rfl, Nat.zero_le _⟩⟩
  · intro k q1 q2
    exact ⟨rfl, rfl⟩
  · intro k hk
    refine Or.inl ⟨rfl, ?_⟩
    rw [hb, if_neg (by omega), if_pos (by omega)]
  · intro i hi
    rcases (show i = 0 ∨ i = 1 ∨ i = 2 by omega) with rfl | rfl | rfl
    · exact ⟨1000, by decide, by decide, rfl, by rw [hb]; rfl⟩
    · exact ⟨4000, by decide, by decide, rfl, by rw [hb]; rfl⟩
    · exact ⟨9000, by decide, by decide, rfl, by rw [hb]; rfl⟩
  · intro j hj
    exact Or.inr ⟨0, by decide, rfl⟩
  · intro j hj
    exact Or.inr ⟨0, by decide, by rw [z (66 + j) (by omega) (by omega)]; rfl⟩
  · intro j hj
    exact absurd hj (Nat.not_lt_zero j)
  · intro g hg
    exact absurd hg (Nat.not_lt_zero g)
