/-! the law's own runs, pure: lines in order, what the acts do to them -/
def sh (u : U) : Prop := ∀ j, j < 10 → (∃ a, u 2 j = nI a ∧ a ≤ 300) ∧ (∃ a, u 3 j = nI a ∧ a ≤ 300)
def se (u : U) : Prop := ∀ j, j < 5 → ∃ a, u 10 j = nI a ∧ a ≤ 100000
def GI (u : U) (n B : Nat) : Prop := lOk u n B ∧ 2 ≤ n ∧ n ≤ 10 ∧ sh u ∧ se u
/-- a line that seen and refused may look at -/
def GJ (u : U) : Prop := ∃ n B, lOk u n B ∧ 1 ≤ n ∧ n ≤ 10 ∧ B ≤ 2000
theorem GI.J {u : U} {n B : Nat} (h : GI u n B) (hB : B ≤ 2000) : GJ u := ⟨n, B, h.1, by have := h.2.1; omega, h.2.2.1, hB⟩
theorem GI.mono {u : U} {n B C : Nat} (h : GI u n B) (hB : B ≤ C) : GI u n C := ⟨lOk_mono h.1 hB, h.2⟩
theorem GI_0 : GI jLn0 4 0 := by
  refine ⟨pIdl_0.1, by decide, by decide, fun j hj => ⟨⟨0, rfl, by decide⟩, ⟨0, rfl, by decide⟩⟩, fun j hj => ?_⟩
  rcases (show j = 0 ∨ j = 1 ∨ j = 2 ∨ j = 3 ∨ j = 4 by omega) with rfl | rfl | rfl | rfl | rfl
  · exact ⟨20000, rfl, by decide⟩
  · exact ⟨0, rfl, by decide⟩
  · exact ⟨1000, rfl, by decide⟩
  · exact ⟨4000, rfl, by decide⟩
  · exact ⟨9000, rfl, by decide⟩
theorem jOut_ok {j a b : Nat} (h1 : a ≤ j) (h2 : j ≤ b) (hb : b < 2 ^ 31) : jOut (nI j) (nI a) (nI b) = 0 := by
  unfold jOut
  rw [if_neg (fun z => absurd ((nI_ltI (a := j) (b := a) (by omega) (by omega)).mp z) (by omega)), if_pos ((nI_leI (a := j) (b := b) (by omega) (by omega)).mpr h2)]
theorem sh_CS {u : U} {k p q : Nat} (h : sh u) (hp : p ≤ 300) (hq : q ≤ 300) : sh (jCS u k (nI p) (nI q)) := by
  intro j hj
  obtain ⟨h1, h2⟩ := h j hj
  refine ⟨?_, ?_⟩
  · show ∃ a, upd (u 2) k (nI p) j = nI a ∧ a ≤ 300
    unfold upd
    by_cases c : j = k
    · rw [if_pos c]; exact ⟨p, rfl, hp⟩
    · rw [if_neg c]; exact h1
  · show ∃ a, upd (u 3) k (nI q) j = nI a ∧ a ≤ 300
    unfold upd
    by_cases c : j = k
    · rw [if_pos c]; exact ⟨q, rfl, hq⟩
    · rw [if_neg c]; exact h2
theorem sh_CM {u : U} {a : Nat} (h : sh u) : ∀ i, sh (jCM u a i)
  | 0 => h
  | i + 1 => sh_CS (p := 0) (q := 0) (sh_CM h i) (by decide) (by decide)
theorem GI_begin {u : U} {n B a : Nat} (h : GI u n B) (h2 : 2 ≤ a) (h10 : a ≤ 10) : GI (jSA u a) a 0 := by
  obtain ⟨⟨-, hok, -⟩, -, -, hs, he⟩ := h
  have hs2 := sh_CM (a := a) hs (10 - a)
  exact ⟨⟨rfl, hok, 0, 0, rfl, by decide, rfl, by decide⟩, h2, h10, hs2, he⟩
theorem GI_stage {u : U} {n B k p q : Nat} (h : GI u n B) (hp : p ≤ 300) (hq : q ≤ 300) : GI (stMix (jCS u k (nI p) (nI q)) u) n B := by
  obtain ⟨hv, h2, h10, hs, he⟩ := h
  exact ⟨lOk_cs hv, h2, h10, sh_CS hs hp hq, he⟩
theorem GI_set {u : U} {n B k y : Nat} (h : GI u n B) (hy : y ≤ 100000) : GI (va_up u 10 (upd (u 10) k (nI y))) n B := by
  obtain ⟨hv, h2, h10, hs, he⟩ := h
  refine ⟨hv, h2, h10, hs, fun j hj => ?_⟩
  show ∃ a, upd (u 10) k (nI y) j = nI a ∧ a ≤ 100000
  unfold upd
  by_cases c : j = k
  · rw [if_pos c]; exact ⟨y, rfl, hy⟩
  · rw [if_neg c]; exact he j hj
theorem jLH_r {u : U} {x ref : Int32} {n h r : Nat} (hr : r = 2 ∨ r = 3 ∨ r = 10) : jLH u x ref n h r = u r := by
  rcases hr with rfl | rfl | rfl <;> exact jLH_o u x ref n h _ (by decide) (by decide) (by decide) (by decide) (by decide) (by decide) (by decide) (by decide) (by decide) (by decide) (by decide) (by decide)
theorem jTk_r {u : U} {x : Int32} {n h r0 r : Nat} (hr : r = 2 ∨ r = 3 ∨ r = 10) : jTk u x n h r0 r = u r := by
  unfold jTk
  by_cases c : jDue (u 11 0) (u 10 1) = 0
  · rw [if_pos c]; exact jLH_r hr
  · rw [if_neg c, jLH_r hr, jLH_r hr]
    rcases hr with rfl | rfl | rfl <;> rfl
theorem jTI_r {u : U} {x : Int32} {n r : Nat} (hr : r = 2 ∨ r = 3 ∨ r = 10) : ∀ t, jTI u x n t r = u r
  | 0 => rfl
  | t + 1 => (jTk_r hr).trans (jTI_r hr t)
theorem GI_times {u : U} {x : Int32} {n B t : Nat} (h : GI u n B) (hB : B + 2 * t ≤ 40000) : GI (jTI u x n t) n (B + 2 * t) := by
  obtain ⟨hv, h2, h10, hs, he⟩ := h
  refine ⟨jTI_Ok hv t hB, h2, h10, fun j hj => ?_, fun j hj => ?_⟩
  · rw [jTI_r (r := 2) (Or.inl rfl), jTI_r (r := 3) (Or.inr (Or.inl rfl))]; exact hs j hj
  · rw [jTI_r (r := 10) (Or.inr (Or.inr rfl))]; exact he j hj
theorem jTv_11 {u : U} {x : Int32} {n h B : Nat} (hv : lOk u n B) (hB : B ≤ 40000) (hh : u 11 0 = nI h) (hhB : h < 2 ^ 31) : jTv u x n 11 0 = nI (h + 1) ∨ jTv u x n 11 0 = nI (h + 2) := by
  obtain ⟨-, -, h2, r, e1, l1, e2, l2⟩ := hv
  have : h = h2 := (nI_eq hhB (by omega)).mp (hh.symm.trans e1)
  subst this
  rw [jTv_eq e1 (by omega) e2 (by omega)]
  unfold jTk
  by_cases c : jDue (u 11 0) (u 10 1) = 0
  · rw [if_pos c]; exact Or.inl rfl
  · rw [if_neg c]; exact Or.inr rfl
theorem jTI_11 {u : U} {x : Int32} {n h B : Nat} (hv : lOk u n B) (hh : u 11 0 = nI h) (hhB : h ≤ 100000) : ∀ t, B + 2 * t ≤ 40000 → ∃ h', h ≤ h' ∧ h' ≤ h + 2 * t ∧ jTI u x n t 11 0 = nI h'
  | 0, _ => ⟨h, Nat.le_refl _, Nat.le_refl _, hh⟩
  | t + 1, hB => by
    obtain ⟨h', l1, l2, e⟩ := jTI_11 (x := x) hv hh hhB t (by omega)
    rcases jTv_11 (x := x) (jTI_Ok hv t (by omega)) (by omega) e (by omega) with z | z
    · exact ⟨h' + 1, by omega, by omega, z⟩
    · exact ⟨h' + 2, by omega, by omega, z⟩
theorem nI_nn {a : Nat} (h : a < 2 ^ 31) : ¬ nI a < 0 := fun z => absurd (nI_pos' h) (Int32.not_le.mpr z)
/-- what an act may be: something, and then it is recorded; or nothing -/
def pAct (u u1 : U) (k k1 : Nat) (g g1 : Nat → U) (a : Nat) (d : Int32) : Prop := (¬ d < 0 ∧ k1 = kPush k ∧ g1 = gPush u g ∧ ∃ n, GI u1 n (24 * (a + 1))) ∨ (d < 0 ∧ u1 = u ∧ k1 = k ∧ g1 = g)
theorem pAct_no {u : U} {k a : Nat} {g : Nat → U} {d : Int32} (h : d < 0) : pAct u u k k g g a d := Or.inr ⟨h, rfl, rfl, rfl⟩
theorem pAct_begin {u : U} {n a j k : Nat} {g : Nat → U} (h : GI u n (24 * a)) (ha : a < 24) (h2 : 2 ≤ j) (h10 : j ≤ 10) : pAct u (jSA u j) k (kPush k) g (gPush u g) a (u 11 0) := by
  obtain ⟨-, -, h0, r, e, l, -⟩ := h.1
  exact Or.inl ⟨by rw [e]; exact nI_nn (by omega), rfl, rfl, j, (GI_begin h h2 h10).mono (Nat.zero_le _)⟩
theorem pAct_stage {u : U} {n a k s p q : Nat} {g : Nat → U} (h : GI u n (24 * a)) (hs : s < 10) (hp : p ≤ 300) (hq : q ≤ 300) : pAct u (stMix (jCS u s (nI p) (nI q)) u) k (kPush k) g (gPush u g) a (1000 * u 2 s + u 3 s) := by
  obtain ⟨⟨x, e1, l1⟩, ⟨y, e2, l2⟩⟩ := h.2.2.2.1 s hs
  refine Or.inl ⟨?_, rfl, rfl, n, (GI_stage h hp hq).mono (by omega)⟩
  rw [e1, e2, show (1000 : Int32) = nI 1000 from rfl, pk_mul, nI_add]
  exact nI_nn (by omega)
theorem pAct_set {u : U} {n a k j y : Nat} {g : Nat → U} (h : GI u n (24 * a)) (hj : j < 5) (hy : y ≤ 100000) : pAct u (va_up u 10 (upd (u 10) j (nI y))) k (kPush k) g (gPush u g) a (u 10 j) := by
  obtain ⟨x, e, l⟩ := h.2.2.2.2 j hj
  exact Or.inl ⟨by rw [e]; exact nI_nn (by omega), rfl, rfl, n, (GI_set h hy).mono (by omega)⟩
theorem pAct_times {u : U} {x : Int32} {n a k t : Nat} {g : Nat → U} (h : GI u n (24 * a)) (ha : a < 24) (ht : t ≤ 12) : pAct u (jTI u x n t) k (kPush k) g (gPush u g) a (jTI u x n t 11 0 - u 11 0) := by
  obtain ⟨-, -, h0, r, e, l, -⟩ := id h.1
  obtain ⟨h', l1, l2, e'⟩ := jTI_11 (x := x) h.1 e (by omega) t (by omega)
  refine Or.inl ⟨?_, rfl, rfl, n, (GI_times h (by omega)).mono (by omega)⟩
  rw [e', e, pk_sub l1]
  exact nI_nn (by omega)
/-- the law's notes: f (a - 1 - j) is what was seen of the state j -/
def HI (a k : Nat) (g : Nat → U) (f : Nat → Int64) : Prop := k ≤ a ∧ ∀ j, j < k → f (a - 1 - j) = qSeen (g j) ∧ GJ (g j)
theorem HI_0 {g : Nat → U} {f : Nat → Int64} : HI 0 0 g f := ⟨Nat.le_refl _, fun j hj => absurd hj (Nat.not_lt_zero j)⟩
theorem updL_s {f : Nat → Int64} {a : Nat} {x : Int64} : vp_updL f a x a = x := by unfold vp_updL; rw [if_pos rfl]
theorem updL_o {f : Nat → Int64} {a j : Nat} {x : Int64} (h : ¬ j = a) : vp_updL f a x j = f j := by unfold vp_updL; rw [if_neg h]
theorem HI_note {a k : Nat} {g : Nat → U} {f : Nat → Int64} {x : Int64} (h : HI a k g f) : HI a k g (vp_updL f a x) := by
  refine ⟨h.1, fun j hj => ?_⟩
  rw [updL_o (by have := h.1; omega)]
  exact h.2 j hj
theorem HI_push {a k : Nat} {u : U} {g : Nat → U} {f : Nat → Int64} (h : HI a k g f) (hf : f a = qSeen u) (hu : GJ u) : HI (a + 1) (kPush k) (gPush u g) f := by
  have hk : kPush k ≤ k + 1 := by unfold kPush; split <;> omega
  refine ⟨by have := h.1; omega, fun j hj => ?_⟩
  unfold gPush
  by_cases c : j = 0
  · subst c
    rw [if_pos rfl]
    exact ⟨hf, hu⟩
  · rw [if_neg c, show a + 1 - 1 - j = a - 1 - (j - 1) from by omega]
    exact h.2 (j - 1) (by omega)
/-- the law's last run: j undone, k left -/
def FI (a j k : Nat) (u : U) (g : Nat → U) (f : Nat → Int64) : Prop := j + k ≤ 2 ∧ j + k ≤ a ∧ f (a - j) = qSeen u ∧ GJ u ∧ ∀ i, i < k → f (a - j - 1 - i) = qSeen (g i) ∧ GJ (g i)
theorem FI_s {a j k : Nat} {u : U} {g : Nat → U} {f : Nat → Int64} (h : FI a j k u g f) (hk : 0 < k) : FI a (j + 1) (k - 1) (g 0) (gPop g) f := by
  obtain ⟨h1, h2, h3, h4, h5⟩ := h
  obtain ⟨e, q⟩ := h5 0 hk
  refine ⟨by omega, by omega, e, q, fun i hi => ?_⟩
  have := h5 (i + 1) (by omega)
  rw [show a - (j + 1) - 1 - i = a - j - 1 - (i + 1) from by omega]
  exact this
theorem FI_0 {a k : Nat} {u : U} {g : Nat → U} {f : Nat → Int64} (h : HI a k g f) (k4 : k ≤ 4) (hf : f a = qSeen u) (hu : GJ u) : FI a 0 (kPush (kPush k) - 1 - 1) u g f := by
  have e : kPush (kPush k) - 1 - 1 ≤ k ∧ kPush (kPush k) - 1 - 1 ≤ 2 := by
    unfold kPush
    split <;> split <;> omega
  refine ⟨by omega, by have := h.1; omega, hf, hu, fun i hi => ?_⟩
  exact h.2 i (by omega)
theorem kPush_2 {k : Nat} : 2 ≤ kPush (kPush k) ∧ kPush (kPush k) ≤ 4 := by
  unfold kPush
  split <;> split <;> omega
