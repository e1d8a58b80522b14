/-! what the methods of the pairs (rows 8 outputs, 9 sizes) and of the line do (10 settings, 11 hand-overs, 12 references, 13 samples, 14 references of samples, 15 outputs, 16 mended) -/
def stMix (v u : U) : U := fun r => if r < 8 then v r else u r
def prMix (v u : U) : U := fun r => if r = 8 then v 8 else if r = 9 then v 9 else u r
theorem jHO_n {x cap : Int32} {u : U} {m n : Nat} (h : u 0 0 = nI n) : (jHO x cap u m).1 0 0 = nI n := by
  rw [jHO_0 x cap u m 0 (by decide) (by decide) (by decide) (by decide) (by decide)]
  exact h
theorem jHd_n {x cap : Int32} {u : U} {m n : Nat} (h : u 0 0 = nI n) : ∀ k, jHd x cap u m k 0 0 = nI n
  | 0 => h
  | k + 1 => by
    unfold jHd
    by_cases hk : jHd x cap u m k 7 0 = 0
    · rw [if_pos hk]; exact jHO_n (jHd_n h k)
    · rw [if_neg hk]; exact jHd_n h k
def jFD (a b : Int32) : Int32 := if 0 ≤ a ^^^ b then a / b else if a / b * b = a then a / b else a / b - 1
def jLearn (u : U) (k : Nat) (o s : Int32) : U := va_up (va_up u 8 (upd (u 8) k o)) 9 (upd (u 9) k s)
def jForget (u : U) : U := va_up (va_up u 8 (fun _ => 0)) 9 (fun _ => 0)
def jKn (s : Int32) : Int32 := if s ≤ 0 then 0 else 1
theorem jKn_01 {s : Int32} : jKn s = 0 ∨ jKn s = 1 := by
  unfold jKn
  by_cases h : s ≤ 0
  · rw [if_pos h]; exact Or.inl rfl
  · rw [if_neg h]; exact Or.inr rfl
def jCnt (f : Nat → Int32) : Nat → Int32
  | 0 => 0
  | k + 1 => jCnt f k + (if jKn (f k) = 0 then 0 else 1)
def jLo (u : U) (o l : Int32) (k : Nat) : Int32 := if o < u 8 k then l else if l = -1 then nI k else if u 8 k ≤ u 8 l.toNatClampNeg then l else nI k
def jHi (u : U) (o h : Int32) (k : Nat) : Int32 := if u 8 k < o then h else if h = -1 then nI k else if u 8 h.toNatClampNeg ≤ u 8 k then h else nI k
def jMS (u : U) (o : Int32) (w : Int32 × Int32) (k : Nat) : Int32 × Int32 := if jKn (u 9 k) = 0 then (w.1, w.2) else if u 8 k ≤ 0 then (w.1, w.2) else (jLo u o w.1 k, jHi u o w.2 k)
def jML (u : U) (o : Int32) : Nat → Int32 × Int32
  | 0 => (-1, -1)
  | k + 1 => jMS u o (jML u o k) k
def jMBt (u : U) (j i : Nat) (o : Int32) : Int32 := if u 8 i - u 8 j = 0 then u 9 j else u 9 j + jFD ((o - u 8 j) * (u 9 i - u 9 j)) (u 8 i - u 8 j)
def jMBy (u : U) (j : Nat) (o : Int32) : Int32 := if u 8 j = 0 then -2000004 else (if (1000000 : Int64) < o.toInt64 * (u 9 j).toInt64 / (u 8 j).toInt64 then (1000000 : Int64) else o.toInt64 * (u 9 j).toInt64 / (u 8 j).toInt64).toInt32
def jMend (u : U) (o : Int32) : Int32 := if (jML u o 3).1 = -1 then (if (jML u o 3).2 = -1 then -2000004 else jMBy u (jML u o 3).2.toNatClampNeg o) else if (jML u o 3).2 = -1 then jMBy u (jML u o 3).1.toNatClampNeg o else jMBt u (jML u o 3).1.toNatClampNeg (jML u o 3).2.toNatClampNeg o
theorem y_l0 {x : Int32} (h : ¬ x = 0) : ¬ x.toInt64 = 0 := by
  intro z
  apply h
  have h1 : x.toInt64.toInt = x.toInt := Int32.toInt_toInt64 x
  rw [z] at h1
  exact Int32.toInt.inj h1.symm
-- the line
def jDue (x p : Int32) : Int32 := if p = 0 then 0 else if ¬ x - x / p * p = 0 then 0 else 1
theorem jDue_01 {x p : Int32} : jDue x p = 0 ∨ jDue x p = 1 := by
  unfold jDue
  by_cases h : p = 0
  · rw [if_pos h]; exact Or.inl rfl
  · rw [if_neg h]
    by_cases h2 : ¬ x - x / p * p = 0
    · rw [if_pos h2]; exact Or.inl rfl
    · rw [if_neg h2]; exact Or.inr rfl
def jNx (u : U) : Int32 := u 12 0 - u 12 0 / 3 * 3
def jHB (x p : Int32) : Nat → Int32
  | 0 => x
  | k + 1 => jHB x p k + (if jDue (jHB x p k) p = 0 then 1 else 2)
def jKept (u : U) : Int32 := if 0 < (if u 11 0 - u 0 0 < 16 then u 11 0 - u 0 0 else 16) then (if u 11 0 - u 0 0 < 16 then u 11 0 - u 0 0 else 16) else 0
def jIsR (x : Int32) : Int32 := if x = -1 then 0 else 1
theorem jIsR_01 {s : Int32} : jIsR s = 0 ∨ jIsR s = 1 := by
  unfold jIsR
  by_cases h : s = -1
  · rw [if_pos h]; exact Or.inl rfl
  · rw [if_neg h]; exact Or.inr rfl
def jErr (u : U) (h n : Nat) : Int32 := (if ¬ u 16 (h % 32) = -2000004 then u 16 (h % 32) else u 15 (h % 32)) - u 13 ((h - n) % 32)
def jLf (u : U) (o : Int32) (k : Nat) : U := if u 14 k = -1 then u else jLearn u (u 14 k).toNatClampNeg o (u 13 k)
/-- a hand-over of the line, its number h, of n stages: the rows behind the stages' own, then what is learnt, what is mended -/
def jA (u : U) (x ref : Int32) (n h : Nat) : U := va_up (va_up (va_up (stMix (jHO x (u 10 0) u n).1 u) 13 (upd (u 13) (h % 32) x)) 14 (upd (u 14) (h % 32) ref)) 15 (upd (u 15) (h % 32) (jHO x (u 10 0) u n).2)
def jBm (u : U) (o : Int32) (n h : Nat) : U := va_up (jLf u o ((h - n) % 32)) 16 (upd (jLf u o ((h - n) % 32) 16) (h % 32) (jMend (jLf u o ((h - n) % 32)) o))
def jLH (u : U) (x ref : Int32) (n h : Nat) : U := va_up (if h < n then jA u x ref n h else jBm (jA u x ref n h) (jHO x (u 10 0) u n).2 n h) 11 (fun _ => nI (h + 1))
def jTk (u : U) (x : Int32) (n h r : Nat) : U := if jDue (u 11 0) (u 10 1) = 0 then jLH u x (-1) n h else jLH (jLH (va_up u 12 (fun _ => nI (r + 1))) (u 10 (2 + r % 3)) (nI (r % 3)) n h) x (-1) n (h + 1)
def jSA1 (u : U) (a : Nat) : U := stMix (jEm (stMix (va_up (jCM u a (10 - a)) 0 (fun _ => nI a)) u)) u
def jSA (u : U) (a : Nat) : U := va_up (va_up (prMix (jForget (jSA1 u a)) (jSA1 u a)) 11 (fun _ => 0)) 12 (fun _ => 0)
theorem jNx_n {u : U} {r : Nat} (h : u 12 0 = nI r) (hr : r < 2 ^ 31) : jNx u = nI (r % 3) := by
  unfold jNx
  rw [h]
  exact pk_rem hr (by decide) (by decide)
theorem prMix_learn (u : U) (k : Nat) (o s : Int32) : prMix (jLearn u k o s) u = jLearn u k o s := by
  funext r
  unfold prMix jLearn va_up
  by_cases h8 : r = 8
  · subst h8; rfl
  · by_cases h9 : r = 9
    · subst h9; rfl
    · rw [if_neg h8, if_neg h9, if_neg h9, if_neg h8]
theorem jLf_mix (u : U) (o : Int32) (k : Nat) (h : ¬ u 14 k = -1) : jLf u o k = prMix (jLearn u (u 14 k).toNatClampNeg o (u 13 k)) u := by
  rw [jLf, if_neg h, prMix_learn]
theorem jLf_o (u : U) (o : Int32) (k r : Nat) (h8 : r ≠ 8) (h9 : r ≠ 9) : jLf u o k r = u r := by
  unfold jLf jLearn
  split
  · rfl
  · simp only [va_up, if_neg h8, if_neg h9]
theorem jLH_o (u : U) (x ref : Int32) (n h r : Nat) (h1 : r ≠ 1) (h4 : r ≠ 4) (h5 : r ≠ 5) (h6 : r ≠ 6) (h7 : r ≠ 7) (h8 : r ≠ 8) (h9 : r ≠ 9) (h11 : r ≠ 11) (h13 : r ≠ 13) (h14 : r ≠ 14) (h15 : r ≠ 15) (h16 : r ≠ 16) : jLH u x ref n h r = u r := by
  have hA : jA u x ref n h r = u r := by
    unfold jA
    simp only [va_up, if_neg h13, if_neg h14, if_neg h15, stMix]
    split
    · exact jHO_0 x _ u n r h1 h4 h5 h6 h7
    · rfl
  unfold jLH
  simp only [va_up, if_neg h11]
  split
  · exact hA
  · unfold jBm
    simp only [va_up, if_neg h16]
    rw [jLf_o _ _ _ r h8 h9]
    exact hA
theorem jLH_n {u : U} {x ref : Int32} {n m h : Nat} (hn : u 0 0 = nI n) : jLH u x ref m h 0 0 = nI n := by
  rw [jLH_o u x ref m h 0 (by decide) (by decide) (by decide) (by decide) (by decide) (by decide) (by decide) (by decide) (by decide) (by decide) (by decide) (by decide)]
  exact hn
theorem jLH_14 (u : U) (x ref : Int32) (n h : Nat) : jLH u x ref n h 14 = upd (u 14) (h % 32) ref := by
  have hA : jA u x ref n h 14 = upd (u 14) (h % 32) ref := rfl
  unfold jLH
  show (if h < n then jA u x ref n h else jBm (jA u x ref n h) (jHO x (u 10 0) u n).2 n h) 14 = _
  split
  · exact hA
  · show (jLf (jA u x ref n h) _ _) 14 = _
    rw [jLf_o _ _ _ 14 (by decide) (by decide)]
    exact hA
/-- the references of the samples are none (-1) or one of three -/
def okR (u : U) : Prop := ∀ j, j < 32 → u 14 j = -1 ∨ ∃ k, k < 3 ∧ u 14 j = nI k
def okr (x : Int32) : Prop := x = -1 ∨ ∃ k, k < 3 ∧ x = nI k
theorem okR_upd {u : U} {x : Int32} (h : okR u) (hx : okr x) (k : Nat) : ∀ j, j < 32 → upd (u 14) k x j = -1 ∨ ∃ i, i < 3 ∧ upd (u 14) k x j = nI i := by
  intro j hj
  unfold upd
  by_cases hk : j = k
  · rw [if_pos hk]; exact hx
  · rw [if_neg hk]; exact h j hj
theorem y_and31 {x : Int32} {n : Nat} (h : x = nI n) (hn : n < 2 ^ 31) : x &&& 31 = nI (n % 32) := by
  rw [h]
  exact pk_andN (k := 5) (by omega) rfl
theorem y_and3 {x : Int32} {n : Nat} (h : x = nI n) (hn : n < 2 ^ 31) : x &&& 3 = nI (n % 4) := by
  rw [h]
  exact pk_andN (k := 2) (by omega) rfl
theorem y_m1 (k : Nat) (hk : k < 3) : ¬ nI k = (-1 : Int32) := by
  intro h
  rcases (show k = 0 ∨ k = 1 ∨ k = 2 by omega) with rfl | rfl | rfl <;> exact absurd h (by decide)
theorem jLH_ok {u : U} {x ref : Int32} {n h : Nat} (hok : okR u) (hr : okr ref) : okR (jLH u x ref n h) := by
  intro j hj
  rw [jLH_14]
  exact okR_upd hok hr _ j hj
/-! the history: component 0 the line, 1 .. 4 the states, 7 first and many -/
def jKeepAt (Z : Nat → U) (z : U) (f k : Nat) : Nat → U := va_up (va_up Z ((f + k) % 4 + 1) (Z 0)) 7 (va_up z 1 (fun _ => nI (k + 1)))
def jKeep (Z : Nat → U) (f k : Nat) : Nat → U := if k = 4 then jKeepAt Z (va_up (Z 7) 0 (fun _ => nI ((f + 1) % 4))) ((f + 1) % 4) (k - 1) else jKeepAt Z (Z 7) f k
def jRest (Z : Nat → U) (f k : Nat) : Nat → U := va_up (va_up Z 0 (Z ((f + (k - 1)) % 4 + 1))) 7 (va_up (Z 7) 1 (fun _ => nI (k - 1)))
