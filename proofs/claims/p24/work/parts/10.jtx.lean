/-! reading the text: g the characters, L how many, a the position; both classes read by these -/
def pTf (g : Nat → Int32) (L a : Nat) (c : Int32) : Int32 := if L ≤ a then 0 else if g a = c then 1 else 0
def pT (g : Nat → Int32) (L a : Nat) (c : Int32) : Nat := if L ≤ a then a else if g a = c then a + 1 else a
def pDg (g : Nat → Int32) (L a : Nat) : Int32 := if L ≤ a then 0 else if g a < 48 then 0 else if 57 < g a then 0 else 1
/-- how many digits there are from a on, m at most -/
def pNd (g : Nat → Int32) (L a : Nat) : Nat → Nat
  | 0 => 0
  | m + 1 => if pDg g L a = 0 then 0 else pNd g L (a + 1) m + 1
def pNv (g : Nat → Int32) (a : Nat) : Nat → Int32
  | 0 => 0
  | d + 1 => 10 * pNv g a d + (g (a + d) - 48)
def pNf (g : Nat → Int32) (L a m : Nat) : Int32 := if pNd g L a m = 0 then 0 else 1
abbrev PStep : Type := (Nat × Nat) ⊕ Int32
def pRun (g : Nat → Int32) (L : Nat) : List PStep → Nat → (Nat → Int32) → Nat × (Nat → Int32) × Int32
  | [], a, f => (a, f, 1)
  | .inl z :: r, a, f => if pNf g L a z.2 = 0 then (a + pNd g L a z.2, upd f z.1 (pNv g a (pNd g L a z.2)), 0) else pRun g L r (a + pNd g L a z.2) (upd f z.1 (pNv g a (pNd g L a z.2)))
  | .inr c :: r, a, f => if pTf g L a c = 0 then (pT g L a c, f, 0) else pRun g L r (pT g L a c) f
def sS : List PStep := [.inl (0, 5), .inr 59]
def lS : List PStep := [.inl (0, 1), .inr 44, .inl (1, 5), .inr 44, .inl (2, 5), .inr 59]
def pForm (g : Nat → Int32) (L a : Nat) (f : Nat → Int32) : Nat × (Nat → Int32) × Int32 :=
  if pTf g L a 115 = 0 then (if pTf g L (pT g L a 115) 108 = 0 then (pT g L (pT g L a 115) 108, f, 0) else pRun g L lS (pT g L (pT g L a 115) 108) f) else pRun g L sS (pT g L a 115) f
theorem pTf_01 {g : Nat → Int32} {L a : Nat} {c : Int32} : pTf g L a c = 0 ∨ pTf g L a c = 1 := by
  unfold pTf
  by_cases h : L ≤ a
  · rw [if_pos h]; exact Or.inl rfl
  · rw [if_neg h]
    by_cases h2 : g a = c
    · rw [if_pos h2]; exact Or.inr rfl
    · rw [if_neg h2]; exact Or.inl rfl
theorem pDg_01 {g : Nat → Int32} {L a : Nat} : pDg g L a = 0 ∨ pDg g L a = 1 := by
  unfold pDg
  split
  · exact Or.inl rfl
  · split
    · exact Or.inl rfl
    · split
      · exact Or.inl rfl
      · exact Or.inr rfl
theorem pNf_01 {g : Nat → Int32} {L a m : Nat} : pNf g L a m = 0 ∨ pNf g L a m = 1 := by
  unfold pNf
  split
  · exact Or.inl rfl
  · exact Or.inr rfl
theorem pDg_lt {g : Nat → Int32} {L a : Nat} (h : ¬ pDg g L a = 0) : a < L := by
  rcases Nat.lt_or_ge a L with h1 | h1
  · exact h1
  · exact absurd (by unfold pDg; rw [if_pos h1]) h
theorem pNd_0 {g : Nat → Int32} {L a : Nat} (h : pDg g L a = 0) : ∀ m, pNd g L a m = 0
  | 0 => rfl
  | m + 1 => by unfold pNd; rw [if_pos h]
theorem pNd_s {g : Nat → Int32} {L a m : Nat} (h : ¬ pDg g L a = 0) (hm : 0 < m) : pNd g L a m = pNd g L (a + 1) (m - 1) + 1 := by
  cases m with
  | zero => exact absurd hm (Nat.lt_irrefl 0)
  | succ m => rw [pNd, if_neg h]; rfl
theorem pT_L {g : Nat → Int32} {L a : Nat} {c : Int32} (h : a ≤ L) : pT g L a c ≤ L := by
  unfold pT
  split
  · exact h
  · split
    · omega
    · exact h
theorem pNd_L {g : Nat → Int32} {L : Nat} : ∀ {m a : Nat}, a ≤ L → a + pNd g L a m ≤ L
  | 0, a, h => h
  | m + 1, a, h => by
    unfold pNd
    by_cases hd : pDg g L a = 0
    · rw [if_pos hd]; exact h
    · rw [if_neg hd]
      have h1 : ¬ L ≤ a := fun z => hd (by unfold pDg; rw [if_pos z])
      have := pNd_L (g := g) (L := L) (m := m) (a := a + 1) (by omega)
      omega
theorem pNd_m {g : Nat → Int32} {L : Nat} : ∀ {m a : Nat}, pNd g L a m ≤ m
  | 0, a => Nat.le_refl _
  | m + 1, a => by
    unfold pNd
    by_cases hd : pDg g L a = 0
    · rw [if_pos hd]; omega
    · rw [if_neg hd]
      have := pNd_m (g := g) (L := L) (m := m) (a := a + 1)
      omega
theorem pRun_L {g : Nat → Int32} {L : Nat} : ∀ {r : List PStep} {a : Nat} {f : Nat → Int32}, a ≤ L → (pRun g L r a f).1 ≤ L
  | [], a, f, h => h
  | .inl z :: r, a, f, h => by
    unfold pRun
    split
    · exact pNd_L h
    · exact pRun_L (pNd_L h)
  | .inr c :: r, a, f, h => by
    unfold pRun
    split
    · exact pT_L h
    · exact pRun_L (pT_L h)
theorem pForm_L {g : Nat → Int32} {L a : Nat} {f : Nat → Int32} (h : a ≤ L) : (pForm g L a f).1 ≤ L := by
  unfold pForm
  split
  · split
    · exact pT_L (pT_L h)
    · exact pRun_L (pT_L (pT_L h))
  · exact pRun_L (pT_L h)
theorem pRun_01 {g : Nat → Int32} {L : Nat} : ∀ {r : List PStep} {a : Nat} {f : Nat → Int32}, (pRun g L r a f).2.2 = 0 ∨ (pRun g L r a f).2.2 = 1
  | [], a, f => Or.inr rfl
  | .inl z :: r, a, f => by
    unfold pRun
    split
    · exact Or.inl rfl
    · exact pRun_01
  | .inr c :: r, a, f => by
    unfold pRun
    split
    · exact Or.inl rfl
    · exact pRun_01
theorem pForm_01 {g : Nat → Int32} {L a : Nat} {f : Nat → Int32} : (pForm g L a f).2.2 = 0 ∨ (pForm g L a f).2.2 = 1 := by
  unfold pForm
  split
  · split
    · exact Or.inl rfl
    · exact pRun_01
  · exact pRun_01
/-! the class's text: rows 0 signs, 1 length, 2 parts, 3 samples, 4 at, 5 kind, 6 numbers, 7 reason, 8 cause -/
def tKind (u : U) (L a : Nat) : Int32 := if pTf (u 0) L a 115 = 0 then (if pTf (u 0) L (pT (u 0) L a 115) 108 = 0 then u 5 0 else 108) else 115
def tForm (u : U) (L a : Nat) : U := va_up (va_up (va_up u 4 (fun _ => nI (pForm (u 0) L a (u 6)).1)) 5 (fun _ => tKind u L a)) 6 (pForm (u 0) L a (u 6)).2.1
def tApp (u : U) (L : Nat) (x : Int32) : U := va_up (va_up u 0 (upd (u 0) L x)) 1 (fun _ => nI (L + 1))
def tNum (u : U) (L a k m : Nat) : U := va_up (va_up u 4 (fun _ => nI (a + pNd (u 0) L a m))) 6 (upd (u 6) k (pNv (u 0) a (pNd (u 0) L a m)))
def tOutR (k n0 n1 n2 r : Int32) : Int32 := if k = 115 then (if n0 ≤ 10000 then r else 3) else if n0 ≤ 300 then (if n1 ≤ 300 then (if n2 ≤ 300 then r else 3) else 3) else 3
def tOutC (k n0 n1 n2 c : Int32) : Int32 := if k = 115 then (if n0 ≤ 10000 then c else 0) else if n0 ≤ 300 then (if n1 ≤ 300 then (if n2 ≤ 300 then c else 2) else 1) else 0
def tOut (u : U) : U := va_up (va_up u 7 (fun _ => tOutR (u 5 0) (u 6 0) (u 6 1) (u 6 2) (u 7 0))) 8 (fun _ => tOutC (u 5 0) (u 6 0) (u 6 1) (u 6 2) (u 8 0))
/-- a part that begins at a is read -/
def tP1 (u : U) (L a : Nat) : U := tForm (va_up (va_up (va_up u 4 (fun _ => nI a)) 7 (fun _ => 0)) 8 (fun _ => -2000004)) L a
def tPart (u : U) (L a : Nat) (st : Int32) : U :=
  if (pForm (u 0) L a (u 6)).2.2 = 0 then va_up (va_up (tP1 u L a) 7 (fun _ => 1)) 8 (fun _ => nI (pForm (u 0) L a (u 6)).1 - nI a)
  else if tKind u L a = 108 then (if (pForm (u 0) L a (u 6)).2.1 0 < st then tOut (tP1 u L a) else va_up (tP1 u L a) 7 (fun _ => 2)) else tOut (tP1 u L a)
def tBump (u : U) : U := va_up (va_up u 2 (fun _ => u 2 0 + 1)) 3 (fun _ => u 3 0 + (if ¬ u 5 0 = 115 then 0 else 1))
/-- the parts from a on: the rows behind them, and where the first one begins that is not possible -/
def tScan (L : Nat) (st : Int32) : Nat → U → Nat → U × Int32
  | 0, u, _ => (u, -2000004)
  | k + 1, u, a => if L ≤ a then (u, -2000004) else if ¬ tPart u L a st 7 0 = 0 then (tPart u L a st, nI a) else tScan L st k (tBump (tPart u L a st)) (pForm (u 0) L a (u 6)).1
theorem tOut_o (u : U) (r : Nat) (h7 : r ≠ 7) (h8 : r ≠ 8) : tOut u r = u r := by
  unfold tOut
  simp only [va_up, if_neg h7, if_neg h8]
theorem tP1_o (u : U) (L a r : Nat) (h4 : r ≠ 4) (h5 : r ≠ 5) (h6 : r ≠ 6) (h7 : r ≠ 7) (h8 : r ≠ 8) : tP1 u L a r = u r := by
  unfold tP1 tForm
  simp only [va_up, if_neg h4, if_neg h5, if_neg h6, if_neg h7, if_neg h8]
theorem tPart_o (u : U) (L a : Nat) (st : Int32) (r : Nat) (h4 : r ≠ 4) (h5 : r ≠ 5) (h6 : r ≠ 6) (h7 : r ≠ 7) (h8 : r ≠ 8) : tPart u L a st r = u r := by
  have h := tP1_o u L a r h4 h5 h6 h7 h8
  unfold tPart
  split
  · simp only [va_up, if_neg h7, if_neg h8]; exact h
  · split
    · split
      · rw [tOut_o _ r h7 h8]; exact h
      · simp only [va_up, if_neg h7]; exact h
    · rw [tOut_o _ r h7 h8]; exact h
theorem tP1_4 (u : U) (L a : Nat) : tP1 u L a 4 0 = nI (pForm (u 0) L a (u 6)).1 := by
  unfold tP1 tForm
  simp [va_up]
theorem tP1_5 (u : U) (L a : Nat) : tP1 u L a 5 0 = tKind u L a := by
  unfold tP1 tForm tKind
  simp [va_up]
theorem tP1_6 (u : U) (L a : Nat) : tP1 u L a 6 = (pForm (u 0) L a (u 6)).2.1 := by
  unfold tP1 tForm
  simp [va_up]
theorem tP1_7 (u : U) (L a : Nat) : tP1 u L a 7 0 = 0 := by
  unfold tP1 tForm
  simp [va_up]
theorem tPart_4 (u : U) (L a : Nat) (st : Int32) : tPart u L a st 4 0 = nI (pForm (u 0) L a (u 6)).1 := by
  have h := tP1_4 u L a
  unfold tPart
  split
  · simp [va_up, h]
  · split
    · split
      · rw [tOut_o _ 4 (by decide) (by decide)]; exact h
      · simp [va_up, h]
    · rw [tOut_o _ 4 (by decide) (by decide)]; exact h
