/-! the law's own part, pure: what would be depends on the rows 1 to 7 of the stages alone -/
def A7 (u v : U) : Prop := ∀ r, 1 ≤ r → r ≤ 7 → u r = v r
theorem A7_HS {cap : Int32} {w w' : U × Int32} (h : A7 w.1 w'.1) (h2 : w.2 = w'.2) (k : Nat) : A7 (jHS cap w k).1 (jHS cap w' k).1 ∧ (jHS cap w k).2 = (jHS cap w' k).2 := by
  have e1 := h 1 (by decide) (by decide)
  have e2 := h 2 (by decide) (by decide)
  have e3 := h 3 (by decide) (by decide)
  have e6 := h 6 (by decide) (by decide)
  have e7 := h 7 (by decide) (by decide)
  refine ⟨fun r h1 h7 => ?_, ?_⟩
  · simp only [jHS, va_up, jStay, jLeak, e1, e2, e3, e6, e7, h2, h r h1 h7]
  · simp only [jHS, jStay, jLeak, e1, e2, e3]
theorem A7_HL {x cap : Int32} {u v : U} (h : A7 u v) : ∀ k, A7 (jHL x cap u k).1 (jHL x cap v k).1 ∧ (jHL x cap u k).2 = (jHL x cap v k).2
  | 0 => ⟨h, rfl⟩
  | k + 1 => A7_HS (A7_HL h k).1 (A7_HL h k).2 k
theorem A7_HO {x cap : Int32} {u v : U} {n : Nat} (h : A7 u v) : A7 (jHO x cap u n).1 (jHO x cap v n).1 ∧ (jHO x cap u n).2 = (jHO x cap v n).2 := by
  obtain ⟨a, b⟩ := A7_HL (x := x) (cap := cap) h n
  have e4 := a 4 (by decide) (by decide)
  have e5 := a 5 (by decide) (by decide)
  refine ⟨fun r h1 h7 => ?_, b⟩
  simp only [jHO, va_up, e4, e5, b, a r h1 h7]
theorem Em_23 {u v : U} (h2 : u 2 = v 2) (h3 : u 3 = v 3) : A7 (jEm u) (jEm v) := by
  intro r h1 h7
  rcases (show r = 1 ∨ r = 2 ∨ r = 3 ∨ r = 4 ∨ r = 5 ∨ r = 6 ∨ r = 7 by omega) with rfl | rfl | rfl | rfl | rfl | rfl | rfl
  · rfl
  · exact h2
  · exact h3
  · rfl
  · rfl
  · rfl
  · rfl
theorem A7_Em {u v : U} (h : A7 u v) : A7 (jEm u) (jEm v) := Em_23 (h 2 (by decide) (by decide)) (h 3 (by decide) (by decide))
theorem A7_mix (u w : U) : A7 (stMix u w) u := by
  intro r _ h7
  unfold stMix
  rw [if_pos (by omega)]
theorem A7_CS {u v : U} {k : Nat} {x y : Int32} (h : A7 u v) : A7 (jCS u k x y) (jCS v k x y) := by
  have e2 := h 2 (by decide) (by decide)
  have e3 := h 3 (by decide) (by decide)
  intro r h1 h7
  simp only [jCS, va_up, e2, e3, h r h1 h7]
theorem A7_It {cap : Int32} {n : Nat} {w w' : U × Int32} (h : A7 w.1 w'.1) (h2 : w.2 = w'.2) : ∀ k, A7 (jIt cap n w k).1 (jIt cap n w' k).1 ∧ (jIt cap n w k).2 = (jIt cap n w' k).2
  | 0 => ⟨h, h2⟩
  | k + 1 => A7_HO (A7_It h h2 k).1
theorem A7_Lone {x cap : Int32} {u v : U} {n k : Nat} (h : A7 u v) : (jLone x cap u n k).2 = (jLone x cap v n k).2 :=
  (A7_It (A7_HO (A7_Em h)).1 (A7_HO (A7_Em h)).2 k).2
theorem A7_Hd {x cap : Int32} {u v : U} {n : Nat} (h : A7 u v) : ∀ k, A7 (jHd x cap u n k) (jHd x cap v n k)
  | 0 => h
  | k + 1 => by
    have ih := A7_Hd (x := x) (cap := cap) (n := n) h k
    have e7 := ih 7 (by decide) (by decide)
    unfold jHd
    rw [e7]
    by_cases c : jHd x cap v n k 7 0 = 0
    · rw [if_pos c, if_pos c]; exact (A7_HO ih).1
    · rw [if_neg c, if_neg c]; exact ih
theorem jHd_r {x cap : Int32} {u : U} {n r : Nat} (h1 : r ≠ 1) (h4 : r ≠ 4) (h5 : r ≠ 5) (h6 : r ≠ 6) (h7 : r ≠ 7) : ∀ k, jHd x cap u n k r = u r
  | 0 => rfl
  | k + 1 => by
    have ih := jHd_r (x := x) (cap := cap) (u := u) (n := n) h1 h4 h5 h6 h7 k
    unfold jHd
    split
    · rw [jHO_0 _ _ _ _ r h1 h4 h5 h6 h7]; exact ih
    · exact ih
def qSf (cap : Int32) (n : Nat) (u : U) : Nat → Nat → Nat → Nat
  | 0, _, f => f
  | g + 1, s, f => if s = 0 then f else if f + s ≤ 10000 then (if jHd (nI (f + s)) cap (jEm u) n 40 7 0 = 0 then qSf cap n u g (s / 2) (f + s) else qSf cap n u g (s / 2) f) else qSf cap n u g (s / 2) f
theorem jEm_23 (u : U) : jEm u 2 = u 2 ∧ jEm u 3 = u 3 := ⟨rfl, rfl⟩
theorem jSf_q {cap : Int32} {n : Nat} {u : U} : ∀ (g s f : Nat) (w : U), w 2 = u 2 → w 3 = u 3 → (jSf cap n g s f w).2 = qSf cap n u g s f
  | 0, _, _, _, _, _ => rfl
  | g + 1, s, f, w, h2, h3 => by
    unfold jSf qSf
    by_cases c : s = 0
    · rw [if_pos c, if_pos c]
    · rw [if_neg c, if_neg c]
      by_cases c2 : f + s ≤ 10000
      · rw [if_pos c2, if_pos c2]
        have e7 : jHd (nI (f + s)) cap (jEm w) n 40 7 0 = jHd (nI (f + s)) cap (jEm u) n 40 7 0 := by
          rw [A7_Hd (Em_23 h2 h3) 40 7 (by decide) (by decide)]
        have k2 : jHd (nI (f + s)) cap (jEm w) n 40 2 = u 2 := (jHd_r (by decide) (by decide) (by decide) (by decide) (by decide) 40).trans h2
        have k3 : jHd (nI (f + s)) cap (jEm w) n 40 3 = u 3 := (jHd_r (by decide) (by decide) (by decide) (by decide) (by decide) 40).trans h3
        rw [e7]
        by_cases c3 : jHd (nI (f + s)) cap (jEm u) n 40 7 0 = 0
        · rw [if_pos c3, if_pos c3]; exact jSf_q g _ _ _ k2 k3
        · rw [if_neg c3, if_neg c3]; exact jSf_q g _ _ _ k2 k3
      · rw [if_neg c2, if_neg c2]; exact jSf_q g _ _ _ h2 h3
theorem jEA_q {cap : Int32} {n : Nat} : ∀ (g k : Nat) (u v : U), A7 u v → (jEA cap n g k u).2 = (jEA cap n g k v).2
  | 0, _, _, _, _ => rfl
  | g + 1, k, u, v, h => by
    unfold jEA
    rw [h 1 (by decide) (by decide)]
    by_cases c : jSum (v 1) n = 0
    · rw [if_pos c, if_pos c]
    · rw [if_neg c, if_neg c]; exact jEA_q g (k + 1) _ _ (A7_HO h).1
def qOW (u : U) (n k : Nat) : Int32 := (jLone 10000 (u 10 0) (jCS u k 0 0) n n).2
theorem jOW_q (u w : U) (n k : Nat) : (jOW u w n k).2 = qOW u n k := A7_Lone (A7_CS (A7_mix u w))
def qWn (u : U) (n : Nat) : Nat → Int32 × Int32
  | 0 => (0, qOW u n 0)
  | k + 1 => (if qOW u n (k + 1) ≤ (qWn u n k).2 then (qWn u n k).1 else nI (k + 1), if qOW u n (k + 1) ≤ (qWn u n k).2 then (qWn u n k).2 else qOW u n (k + 1))
theorem jWn_q (u w : U) (n : Nat) : ∀ k, (jWn u w n k).2 = qWn u n k
  | 0 => by
    show ((0 : Int32), (jOW u w n 0).2) = _
    rw [jOW_q]
    rfl
  | k + 1 => by
    have ih := jWn_q u w n k
    have e1 : (jWn u w n k).2.1 = (qWn u n k).1 := by rw [ih]
    have e2 : (jWn u w n k).2.2 = (qWn u n k).2 := by rw [ih]
    unfold jWn qWn
    simp only [jOW_q, e1, e2]
/-! the state of the class as the law sees it: u the line's rows, w the text's rows, k states in the history, the newest g 0 -/
def PW (Z : Nat → U) (u w : U) (k : Nat) (g : Nat → U) : Prop :=
  Z 0 = u ∧ Z 6 = w ∧ k ≤ 4 ∧ ∃ f, f < 4 ∧ Z 7 0 0 = nI f ∧ Z 7 1 0 = nI k ∧ ∀ i, i < k → Z ((f + k - 1 - i) % 4 + 1) = g i
def kPush (k : Nat) : Nat := if k < 4 then k + 1 else 4
def gPush (u : U) (g : Nat → U) : Nat → U := fun i => if i = 0 then u else g (i - 1)
def gPop (g : Nat → U) : Nat → U := fun i => g (i + 1)
def qZ (u w : U) (k : Nat) : Nat → U := fun c => if c = 0 then u else if c = 6 then w else fun _ _ => nI k
theorem PW.l {Z : Nat → U} {u w : U} {k : Nat} {g : Nat → U} (h : PW Z u w k g) : Z 0 = u := h.1
theorem PW.t {Z : Nat → U} {u w : U} {k : Nat} {g : Nat → U} (h : PW Z u w k g) : Z 6 = w := h.2.1
theorem PW.k4 {Z : Nat → U} {u w : U} {k : Nat} {g : Nat → U} (h : PW Z u w k g) : k ≤ 4 := h.2.2.1
theorem PW.m {Z : Nat → U} {u w : U} {k : Nat} {g : Nat → U} (h : PW Z u w k g) : Z 7 1 0 = nI k := by
  obtain ⟨-, -, -, f, -, -, h, -⟩ := h
  exact h
theorem PW.up5 {Z : Nat → U} {u w : U} {k : Nat} {g : Nat → U} (h : PW Z u w k g) (v : U) : PW (va_up Z 5 v) u w k g := by
  obtain ⟨e0, e6, k4, f, f4, ef, ek, eg⟩ := h
  refine ⟨e0, e6, k4, f, f4, ef, ek, fun i hi => ?_⟩
  rw [va_up_o (by omega)]
  exact eg i hi
theorem PW.up6 {Z : Nat → U} {u w : U} {k : Nat} {g : Nat → U} (h : PW Z u w k g) (v : U) : PW (va_up Z 6 v) u v k g := by
  obtain ⟨e0, e6, k4, f, f4, ef, ek, eg⟩ := h
  refine ⟨e0, rfl, k4, f, f4, ef, ek, fun i hi => ?_⟩
  rw [va_up_o (by omega)]
  exact eg i hi
theorem PW.up0 {Z : Nat → U} {u w : U} {k : Nat} {g : Nat → U} (h : PW Z u w k g) (v : U) : PW (va_up Z 0 v) v w k g := by
  obtain ⟨e0, e6, k4, f, f4, ef, ek, eg⟩ := h
  refine ⟨rfl, e6, k4, f, f4, ef, ek, fun i hi => ?_⟩
  rw [va_up_o (by omega)]
  exact eg i hi
theorem PW_keepAt {Z : Nat → U} {z u w : U} {k f : Nat} {g : Nat → U} (e0 : Z 0 = u) (e6 : Z 6 = w) (k3 : k ≤ 3) (f4 : f < 4) (ef : z 0 0 = nI f) (eg : ∀ i, i < k → Z ((f + k - 1 - i) % 4 + 1) = g i) : PW (jKeepAt Z z f k) u w (k + 1) (gPush u g) := by
  unfold jKeepAt
  refine ⟨?_, ?_, by omega, f, f4, ?_, ?_, fun i hi => ?_⟩
  · rw [va_up_o (by decide), va_up_o (by omega)]; exact e0
  · rw [va_up_o (by decide), va_up_o (by omega)]; exact e6
  · rw [va_up_s]; exact ef
  · rw [va_up_s]; rfl
  · rw [va_up_o (by omega)]
    unfold gPush
    by_cases c : i = 0
    · subst c
      rw [if_pos rfl, show f + (k + 1) - 1 - 0 = f + k by omega, va_up_s]
      exact e0
    · rw [if_neg c, va_up_o (by omega), ← eg (i - 1) (by omega)]
      congr 2
      omega
theorem PW_keep {Z : Nat → U} {u w : U} {k f : Nat} {g : Nat → U} (e0 : Z 0 = u) (e6 : Z 6 = w) (k4 : k ≤ 4) (f4 : f < 4) (ef : Z 7 0 0 = nI f) (eg : ∀ i, i < k → Z ((f + k - 1 - i) % 4 + 1) = g i) : PW (jKeep Z f k) u w (kPush k) (gPush u g) := by
  unfold jKeep kPush
  by_cases c : k = 4
  · subst c
    rw [if_pos rfl, if_neg (by decide)]
    refine PW_keepAt (k := 3) e0 e6 (by decide) (by omega) rfl (fun i hi => ?_)
    rw [← eg i (by omega)]
    congr 2
    omega
  · rw [if_neg c, if_pos (by omega)]
    exact PW_keepAt e0 e6 (by omega) f4 ef eg
theorem PW_rest {Z : Nat → U} {w : U} {k f : Nat} {g : Nat → U} (e6 : Z 6 = w) (k0 : 0 < k) (k4 : k ≤ 4) (f4 : f < 4) (ef : Z 7 0 0 = nI f) (eg : ∀ i, i < k → Z ((f + k - 1 - i) % 4 + 1) = g i) : PW (jRest Z f k) (g 0) w (k - 1) (gPop g) := by
  refine ⟨?_, ?_, by omega, f, f4, ?_, jRest_m, fun i hi => ?_⟩
  · unfold jRest
    rw [va_up_o (by decide), va_up_s, ← eg 0 k0]
    congr 2
    omega
  · rw [jRest_o (by decide) (by decide)]; exact e6
  · unfold jRest
    rw [va_up_s]
    exact ef
  · rw [jRest_o (by omega) (by omega)]
    unfold gPop
    rw [← eg (i + 1) (by omega)]
    congr 2
    omega
