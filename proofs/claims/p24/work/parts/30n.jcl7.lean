/-! the class's errors, fault, play -/
theorem pCn_ds {g : V1} {L : Nat} : ∀ m a, pCn g 115 a (pNd g L a m) = 0
  | 0, _ => rfl
  | m + 1, a => by
    unfold pNd
    by_cases hd : pDg g L a = 0
    · rw [if_pos hd]; rfl
    · rw [if_neg hd, Nat.add_comm, pCn_add, pCn_ds m (a + 1), pCn_1, if_neg]
      intro z
      apply hd
      unfold pDg
      rw [z]
      split
      · rfl
      · rfl
def pSes : List PStep → Nat
  | [] => 0
  | .inl _ :: r => pSes r
  | .inr c :: r => (if c = 115 then 1 else 0) + pSes r
theorem pRun_cs {g : V1} {L : Nat} : ∀ {r : List PStep} {a : Nat} {f : V1}, ¬ (pRun g L r a f).2.2 = 0 → pCn g 115 a ((pRun g L r a f).1 - a) = pSes r
  | [], a, f, _ => by
    show pCn g 115 a (a - a) = 0
    rw [Nat.sub_self]; rfl
  | .inl z :: r, a, f, h => by
    unfold pRun at h ⊢
    split at h
    · exact absurd rfl h
    · rename_i h1
      rw [if_neg h1]
      have hg := pRun_ge (g := g) (L := L) (r := r) (a := a + pNd g L a z.2) (f := upd f z.1 (pNv g a (pNd g L a z.2)))
      have hr := pRun_cs h
      rw [show (pRun g L r (a + pNd g L a z.2) (upd f z.1 (pNv g a (pNd g L a z.2)))).1 - a = pNd g L a z.2 + ((pRun g L r (a + pNd g L a z.2) (upd f z.1 (pNv g a (pNd g L a z.2)))).1 - (a + pNd g L a z.2)) from by omega, pCn_add, pCn_ds, hr, Nat.zero_add]
      rfl
  | .inr c :: r, a, f, h => by
    unfold pRun at h ⊢
    split at h
    · exact absurd rfl h
    · rename_i h1
      rw [if_neg h1]
      have ht := pTf_T h1
      rw [ht.2.2] at h ⊢
      have hg := pRun_ge (g := g) (L := L) (r := r) (a := a + 1) (f := f)
      have hr := pRun_cs h
      rw [show (pRun g L r (a + 1) f).1 - a = 1 + ((pRun g L r (a + 1) f).1 - (a + 1)) from by omega, pCn_add, hr, pCn_1, ht.2.1]
      rfl
theorem pForm_cs {g : V1} {L a : Nat} {f : V1} (h : ¬ (pForm g L a f).2.2 = 0) : pCn g 115 a ((pForm g L a f).1 - a) = if pTf g L a 115 = 0 then 0 else 1 := by
  unfold pForm at h ⊢
  by_cases h1 : pTf g L a 115 = 0
  · rw [if_pos h1] at h ⊢
    rw [if_pos h1]
    rw [pTf_F h1] at h ⊢
    by_cases h2 : pTf g L a 108 = 0
    · rw [if_pos h2] at h; exact absurd rfl h
    · rw [if_neg h2] at h ⊢
      have ht := pTf_T h2
      rw [ht.2.2] at h ⊢
      have hg := pRun_ge (g := g) (L := L) (r := lS) (a := a + 1) (f := f)
      rw [show (pRun g L lS (a + 1) f).1 - a = 1 + ((pRun g L lS (a + 1) f).1 - (a + 1)) from by omega, pCn_add, pRun_cs h, pCn_1, ht.2.1]
      rfl
  · rw [if_neg h1] at h ⊢
    rw [if_neg h1]
    have ht := pTf_T h1
    rw [ht.2.2] at h ⊢
    have hg := pRun_ge (g := g) (L := L) (r := sS) (a := a + 1) (f := f)
    rw [show (pRun g L sS (a + 1) f).1 - a = 1 + ((pRun g L sS (a + 1) f).1 - (a + 1)) from by omega, pCn_add, pRun_cs h, pCn_1, ht.2.1]
    rfl
theorem tPart_7F {u : U} {L a : Nat} {st : Int32} (h : tPart u L a st 7 0 = 0) : ¬ (pForm (u 0) L a (u 6)).2.2 = 0 := by
  intro z
  unfold tPart at h
  rw [if_pos z] at h
  exact absurd (show (1 : Int32) = 0 from h) (by decide)
theorem tPart_5 (u : U) (L a : Nat) (st : Int32) : tPart u L a st 5 0 = tKind u L a := by
  have h := tP1_5 u L a
  unfold tPart
  split
  · simp [va_up, h]
  · split
    · split
      · rw [tOut_o _ 5 (by decide) (by decide)]; exact h
      · simp [va_up, h]
    · rw [tOut_o _ 5 (by decide) (by decide)]; exact h
theorem tPart_6 (u : U) (L a : Nat) (st : Int32) : tPart u L a st 6 = (pForm (u 0) L a (u 6)).2.1 := by
  have h := tP1_6 u L a
  unfold tPart
  split
  · simp [va_up, h]
  · split
    · split
      · rw [tOut_o _ 6 (by decide) (by decide)]; exact h
      · simp [va_up, h]
    · rw [tOut_o _ 6 (by decide) (by decide)]; exact h
theorem tScan_o (L : Nat) (st : Int32) (r : Nat) (h2 : r ≠ 2) (h3 : r ≠ 3) (h4 : r ≠ 4) (h5 : r ≠ 5) (h6 : r ≠ 6) (h7 : r ≠ 7) (h8 : r ≠ 8) : ∀ (k : Nat) (u : U) (a : Nat), (tScan L st k u a).1 r = u r
  | 0, u, a => rfl
  | k + 1, u, a => by
    unfold tScan
    split
    · rfl
    · split
      · exact tPart_o u L a st r h4 h5 h6 h7 h8
      · rw [tScan_o L st r h2 h3 h4 h5 h6 h7 h8 k]
        unfold tBump
        simp only [va_up, if_neg h2, if_neg h3]
        exact tPart_o u L a st r h4 h5 h6 h7 h8
theorem tKind_s {u : U} {L a : Nat} (h : ¬ (pForm (u 0) L a (u 6)).2.2 = 0) : (if ¬ tKind u L a = 115 then 0 else 1) = (if pTf (u 0) L a 115 = 0 then 0 else 1 : Int32) := by
  unfold tKind
  by_cases h1 : pTf (u 0) L a 115 = 0
  · rw [if_pos h1, if_pos h1, pTf_F h1]
    by_cases h2 : pTf (u 0) L a 108 = 0
    · unfold pForm at h
      rw [if_pos h1, pTf_F h1, if_pos h2] at h
      exact absurd rfl h
    · rw [if_neg h2]; rfl
  · rw [if_neg h1, if_neg h1]; rfl
/-- what a scan without a fault has counted -/
theorem tScan_cn {L : Nat} {st : Int32} (hL2 : L ≤ 60) : ∀ (k : Nat) (u : U) (a : Nat), (tScan L st k u a).2 = -2000004 → L ≤ a + k → a ≤ L → (tScan L st k u a).1 2 0 = u 2 0 + nI (pCn (u 0) 59 a (L - a)) ∧ (tScan L st k u a).1 3 0 = u 3 0 + nI (pCn (u 0) 115 a (L - a))
  | 0, u, a, _, hk, ha => by
    rw [show L - a = 0 from by omega]
    exact ⟨(Int32.add_zero _).symm, (Int32.add_zero _).symm⟩
  | k + 1, u, a, h, hk, ha => by
    unfold tScan at h ⊢
    by_cases h1 : L ≤ a
    · rw [if_pos h1, show L - a = 0 from by omega]
      exact ⟨(Int32.add_zero _).symm, (Int32.add_zero _).symm⟩
    · rw [if_neg h1] at h ⊢
      by_cases h2 : ¬ tPart u L a st 7 0 = 0
      · rw [if_pos h2] at h
        exfalso
        have h9 : nI a = (-2000004 : Int32) := h
        have := nI_pos' (n := a) (by omega)
        rw [h9] at this
        exact absurd this (by decide)
      · rw [if_neg h2] at h ⊢
        have h3 := tPart_7F (Decidable.not_not.mp h2)
        have hgt := pForm_gt h3
        have hle : (pForm (u 0) L a (u 6)).1 ≤ L := pForm_L ha
        have ih := tScan_cn hL2 k (tBump (tPart u L a st)) (pForm (u 0) L a (u 6)).1 h (by omega) hle
        have e0 : tBump (tPart u L a st) 0 = u 0 := by
          show tPart u L a st 0 = u 0
          exact tPart_o u L a st 0 (by decide) (by decide) (by decide) (by decide) (by decide)
        have e2 : tBump (tPart u L a st) 2 0 = u 2 0 + 1 := by
          show tPart u L a st 2 0 + 1 = _
          rw [tPart_o u L a st 2 (by decide) (by decide) (by decide) (by decide) (by decide)]
        have e3 : tBump (tPart u L a st) 3 0 = u 3 0 + (if pTf (u 0) L a 115 = 0 then 0 else 1) := by
          show tPart u L a st 3 0 + (if ¬ tPart u L a st 5 0 = 115 then 0 else 1) = _
          rw [tPart_o u L a st 3 (by decide) (by decide) (by decide) (by decide) (by decide), tPart_5, tKind_s h3]
        rw [e0, e2, e3] at ih
        have hs : L - a = ((pForm (u 0) L a (u 6)).1 - a) + (L - (pForm (u 0) L a (u 6)).1) := by omega
        have hs2 : a + ((pForm (u 0) L a (u 6)).1 - a) = (pForm (u 0) L a (u 6)).1 := by omega
        rw [hs, pCn_add, pCn_add, hs2, pForm_cn h3, pForm_cs h3]
        refine ⟨ih.1.trans ?_, ih.2.trans ?_⟩
        · rw [← nI_add, ← Int32.add_assoc]; rfl
        · rw [← nI_add, ← Int32.add_assoc]
          congr 2
          split <;> rfl
/-- the class's errors -/
def fOk (x : UInt32) : Prop := x = FP.fconst0 ∨ ∃ e t, x = fF e t ∧ 1 ≤ e ∧ e < 255 ∧ t < 8388608
theorem fOk_n {x : UInt32} (h : fOk x) : vf_n32 x := by
  rcases h with rfl | ⟨e, t, rfl, h1, h2, h3⟩
  · show FP.fconst0 &&& 0x7fffffff ≤ 0x7f800000
    decide
  · exact fF_n32 h2 h3
theorem y_topF {p : Program} {l : Launch} {e : Env} {R : Room} {s : State} {m : MethodId} {args : Array Value} {below : List Frame} {meth : Method} {c : Code} {H : Heap} {locs : List Loc} {cells slots : Nat} {Q : State → Prop} {pc : Nat} {ls : Array Slot} {rest : List Value} {x y : UInt32} (h : x = y) (k : W p l e R s m args below meth c H locs cells slots Q (F0 m pc ls (.float y :: rest))) : W p l e R s m args below meth c H locs cells slots Q (F0 m pc ls (.float x :: rest)) := by rw [h]; exact k
theorem y_dec {c : Nat} (h : 0 < c) : nI c + (-1) = nI (c - 1) := by
  obtain ⟨j, rfl⟩ : ∃ j, c = j + 1 := ⟨c - 1, by omega⟩
  rw [pk_m1]
  rfl
def jAbs (x : Int32) : Int32 := if 0 ≤ x then x else 0 - x
/-- whether the i-th of the latest outputs belongs to a reference, and its error -/
def jErI (u : U) (h n i : Nat) : Int32 := jIsR (u 14 ((h - (i + 1) - n) % 32))
def jErE (u : U) (h n i : Nat) : Int32 := jErr u (h - (i + 1)) n
def jErN (u : U) (h n : Nat) : Nat → Nat
  | 0 => 0
  | i + 1 => if ¬ jErI u h n i = 0 then jErN u h n i else jErN u h n i + 1
def jErG (u : U) (h n : Nat) : Nat → Int32
  | 0 => 0
  | i + 1 => if ¬ jErI u h n i = 0 then jErG u h n i else if jErG u h n i < jAbs (jErE u h n i) then jAbs (jErE u h n i) else jErG u h n i
def jErS (u : U) (h n : Nat) : Nat → Int32
  | 0 => 0
  | i + 1 => if ¬ jErI u h n i = 0 then jErS u h n i else jErS u h n i + jErE u h n i
def jErZ (u : U) (h n : Nat) : Nat → Int32
  | 0 => 0
  | i + 1 => if ¬ jErI u h n i = 0 then jErZ u h n i else jErZ u h n i + jAbs (jErE u h n i)
def jErF (u : U) (h n k : Nat) : UInt32 := FP.fdiv (FP.i2f (jErZ u h n k)) (FP.i2f (nI (jErN u h n k)))
def jErsR (u : U) (x : Int32) (h n : Nat) : Int32 := if ¬ jOut x 0 3 = 0 then -2000001 else if ¬ x = 0 then (if ¬ nI (jErN u h n (jKp h n)) = 0 then (if ¬ x = 1 then (if ¬ x = 2 then (jErF u h n (jKp h n)).toInt32 else jErS u h n (jKp h n) + 100000000) else jErG u h n (jKp h n)) else -2000004) else nI (jErN u h n (jKp h n))
/-- fault -/
def jScn (u6 : U) (L : Nat) (st : Int32) : U × Int32 := tScan L st 60 (va_up (va_up u6 2 (fun _ => 0)) 3 (fun _ => 0)) 0
def jFltR (Z : Nat → U) (x : Int32) (L : Nat) : Int32 := if ¬ jOut x 0 2 = 0 then -2000001 else if ¬ (jScn (Z 6) L (Z 0 0 0)).2 = -2000004 then (if ¬ x = 0 then (if ¬ x = 1 then (jScn (Z 6) L (Z 0 0 0)).1 8 0 else (jScn (Z 6) L (Z 0 0 0)).1 7 0) else (jScn (Z 6) L (Z 0 0 0)).2) else -2000004
def jFltU (Z : Nat → U) (x : Int32) (L : Nat) : Nat → U := if ¬ jOut x 0 2 = 0 then Z else va_up Z 6 (jScn (Z 6) L (Z 0 0 0)).1
/-- a part is played: the line -/
def jPP (u w : U) (n : Nat) : U := if ¬ w 5 0 = 115 then (if jHas (w 6 0) (u 0 0) = 0 then u else stMix (jCS u (w 6 0).toNatClampNeg (w 6 1) (w 6 2)) u) else jTv u (w 6 0) n
def cPP (cI cC : ClassId) (Q : Nat → Nat → Nat) (u w : U) : va_W := List.flatten [cCl Q, cLo cI (Q 0) u, cSt cI (Q 0) u, cPr cI (Q 0) u, cTx cI cC (Q 6) w]
theorem lOk_cs {u : U} {n B k : Nat} {x y : Int32} (hv : lOk u n B) : lOk (stMix (jCS u k x y) u) n B := hv
theorem jPP_Ok {u w : U} {n B : Nat} (hv : lOk u n B) (hB : B ≤ 40000) : lOk (jPP u w n) n (B + 2) := by
  unfold jPP
  split
  · split
    · exact lOk_mono hv (by omega)
    · exact lOk_mono (lOk_cs hv) (by omega)
  · exact jTv_Ok hv hB
def jPl (L n : Nat) (st : Int32) : Nat → U → U → Nat → U × U
  | 0, u, w, _ => (u, w)
  | k + 1, u, w, a => jPl L n st k (jPP u (tPart w L a st) n) (tPart w L a st) (pForm (w 0) L a (w 6)).1
def jPlayR (Z : Nat → U) (L : Nat) : Int32 := if ¬ (jScn (Z 6) L (Z 0 0 0)).2 = -2000004 then -2000002 else if ¬ jHB (Z 0 11 0) (Z 0 10 1) (pCn (Z 6 0) 115 0 L) ≤ 999 then -2000003 else nI (pCn (Z 6 0) 59 0 L)
def jPlS (Z : Nat → U) (L n f k : Nat) : U × U := jPl L n (Z 0 0 0) (pCn (Z 6 0) 59 0 L) (jKeep Z f k 0) (jScn (Z 6) L (Z 0 0 0)).1 0
def jPlayU (Z : Nat → U) (L n f k : Nat) : Nat → U := if ¬ (jScn (Z 6) L (Z 0 0 0)).2 = -2000004 then va_up Z 6 (jScn (Z 6) L (Z 0 0 0)).1 else if ¬ jHB (Z 0 11 0) (Z 0 10 1) (pCn (Z 6 0) 115 0 L) ≤ 999 then va_up Z 6 (jScn (Z 6) L (Z 0 0 0)).1 else va_up (va_up (jKeep Z f k) 0 (jPlS Z L n f k).1) 6 (jPlS Z L n f k).2
theorem jScn_2 {u6 : U} {L : Nat} {st : Int32} (hL2 : L ≤ 60) (h : (jScn u6 L st).2 = -2000004) : (jScn u6 L st).1 2 0 = nI (pCn (u6 0) 59 0 L) := by
  have := (tScan_cn hL2 60 (va_up (va_up u6 2 (fun _ => 0)) 3 (fun _ => 0)) 0 h (by omega) (by omega)).1
  rw [Nat.sub_zero] at this
  refine this.trans ?_
  show (0 : Int32) + _ = _
  rw [Int32.zero_add]
  rfl
theorem jScn_3 {u6 : U} {L : Nat} {st : Int32} (hL2 : L ≤ 60) (h : (jScn u6 L st).2 = -2000004) : (jScn u6 L st).1 3 0 = nI (pCn (u6 0) 115 0 L) := by
  have := (tScan_cn hL2 60 (va_up (va_up u6 2 (fun _ => 0)) 3 (fun _ => 0)) 0 h (by omega) (by omega)).2
  rw [Nat.sub_zero] at this
  refine this.trans ?_
  show (0 : Int32) + _ = _
  rw [Int32.zero_add]
  rfl
theorem jScn_o {u6 : U} {L : Nat} {st : Int32} {r : Nat} (hr : r < 2) : (jScn u6 L st).1 r = u6 r := by
  unfold jScn
  rw [tScan_o L st r (by omega) (by omega) (by omega) (by omega) (by omega) (by omega) (by omega)]
  simp only [va_up, if_neg (show ¬ r = 2 from by omega), if_neg (show ¬ r = 3 from by omega)]
