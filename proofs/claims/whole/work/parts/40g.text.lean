/-! the text: what both classes read in it -/
theorem pDg_n {g : V1} {L a : Nat} (h : ¬ pDg g L a = 0) : ∃ d, d ≤ 9 ∧ g a - 48 = nI d := by
  rw [pDg_in] at h
  have h1 : ¬ L ≤ a := fun z => h (by rw [if_pos z])
  rw [if_neg h1] at h
  obtain ⟨k, ek, k1, k2⟩ := mIn_nat (m := 48) (n := 57) rfl rfl (by decide) (by decide) h
  refine ⟨k - 48, by omega, ?_⟩
  rw [ek]
  exact pk_sub k1
theorem pNd_dig {g : V1} {L : Nat} : ∀ {m a k : Nat}, k < pNd g L a m → ¬ pDg g L (a + k) = 0
  | 0, a, k, h => absurd h (Nat.not_lt_zero k)
  | m + 1, a, k, h => by
    unfold pNd at h
    by_cases hd : pDg g L a = 0
    · rw [if_pos hd] at h; exact absurd h (Nat.not_lt_zero k)
    · rw [if_neg hd] at h
      cases k with
      | zero => exact hd
      | succ k =>
        have := pNd_dig (g := g) (L := L) (m := m) (a := a + 1) (k := k) (by omega)
        rw [show a + (k + 1) = a + 1 + k from by omega]
        exact this
theorem pNv_n {g : V1} {L a : Nat} : ∀ d, (∀ k, k < d → ¬ pDg g L (a + k) = 0) → ∃ v, v + 1 ≤ 10 ^ d ∧ pNv g a d = nI v
  | 0, _ => ⟨0, by decide, rfl⟩
  | d + 1, h => by
    obtain ⟨v, v1, v2⟩ := pNv_n d (fun k hk => h k (by omega))
    obtain ⟨z, z1, z2⟩ := pDg_n (h d (by omega))
    refine ⟨10 * v + z, by rw [Nat.pow_succ]; omega, ?_⟩
    rw [pNv, v2, z2]
    show nI 10 * nI v + nI z = _
    rw [pk_mul, nI_add]
theorem pNv_5 {g : V1} {L a m : Nat} (hm : m ≤ 5) : ∃ v, v < 100000 ∧ pNv g a (pNd g L a m) = nI v := by
  obtain ⟨v, v1, v2⟩ := pNv_n (g := g) (L := L) (a := a) (pNd g L a m) (fun k hk => pNd_dig hk)
  have h1 := pNd_m (g := g) (L := L) (m := m) (a := a)
  have h2 : 10 ^ pNd g L a m ≤ 10 ^ 5 := Nat.pow_le_pow_right (by decide) (by omega)
  exact ⟨v, by omega, v2⟩
def pIx (i : Nat) : List PStep → Prop
  | [] => False
  | .inl z :: r => z.1 = i ∨ pIx i r
  | .inr _ :: r => pIx i r
def pM5 : List PStep → Prop
  | [] => True
  | .inl z :: r => z.2 ≤ 5 ∧ pM5 r
  | .inr _ :: r => pM5 r
theorem pRun_v {g : V1} {L : Nat} : ∀ {r : List PStep} {a : Nat} {f : V1}, ¬ (pRun g L r a f).2.2 = 0 → pM5 r → ∀ i, (pIx i r → ∃ v, v < 100000 ∧ ∀ f' : V1, (pRun g L r a f').2.1 i = nI v) ∧ (¬ pIx i r → ∀ f' : V1, (pRun g L r a f').2.1 i = f' i)
  | [], a, f, h, _, i => ⟨fun h => h.elim, fun _ f' => rfl⟩
  | .inl z :: r, a, f, h, hm, i => by
    have hn : ¬ pNf g L a z.2 = 0 := by
      intro q
      unfold pRun at h
      rw [if_pos q] at h
      exact h rfl
    have he : ∀ f' : V1, pRun g L (.inl z :: r) a f' = pRun g L r (a + pNd g L a z.2) (upd f' z.1 (pNv g a (pNd g L a z.2))) := by
      intro f'
      rw [pRun, if_neg hn]
    rw [he] at h
    obtain ⟨g1, g2⟩ := pRun_v h hm.2 i
    by_cases hi : pIx i r
    · refine ⟨fun _ => ?_, fun q => absurd (Or.inr hi) q⟩
      obtain ⟨v, v1, v2⟩ := g1 hi
      exact ⟨v, v1, fun f' => by rw [he]; exact v2 _⟩
    · refine ⟨fun q => ?_, fun q f' => ?_⟩
      · rcases q with q | q
        · obtain ⟨v, v1, v2⟩ := pNv_5 (g := g) (L := L) (a := a) hm.1
          refine ⟨v, v1, fun f' => ?_⟩
          rw [he, g2 hi, ← q, pk_us, v2]
        · exact absurd q hi
      · rw [he, g2 hi, pk_un]
        intro e
        exact q (Or.inl e.symm)
  | .inr c :: r, a, f, h, hm, i => by
    have hn : ¬ pTf g L a c = 0 := by
      intro q
      unfold pRun at h
      rw [if_pos q] at h
      exact h rfl
    have he : ∀ f' : V1, pRun g L (.inr c :: r) a f' = pRun g L r (pT g L a c) f' := by
      intro f'
      rw [pRun, if_neg hn]
    rw [he] at h
    obtain ⟨g1, g2⟩ := pRun_v h hm i
    refine ⟨fun q => ?_, fun q f' => ?_⟩
    · obtain ⟨v, v1, v2⟩ := g1 q
      exact ⟨v, v1, fun f' => by rw [he]; exact v2 _⟩
    · rw [he]
      exact g2 q f'
theorem pForm_sv {g : V1} {L a : Nat} {f : V1} (h : ¬ (pForm g L a f).2.2 = 0) (hs : mSort g L a = 115) : ∃ v, v < 100000 ∧ ∀ f' : V1, (pForm g L a f').2.1 0 = nI v := by
  have h1 : ¬ pTf g L a 115 = 0 := by
    intro h1
    unfold pForm at h
    rw [if_pos h1, pTf_F h1] at h
    by_cases h2 : pTf g L a 108 = 0
    · rw [if_pos h2] at h; exact absurd rfl h
    · have ht := pTf_T h2
      unfold mSort at hs
      rw [if_neg (by omega), ht.2.1] at hs
      exact absurd hs (by decide)
  have he : ∀ f' : V1, pForm g L a f' = pRun g L sS (pT g L a 115) f' := fun f' => by unfold pForm; rw [if_neg h1]
  rw [he] at h
  obtain ⟨v, v1, v2⟩ := (pRun_v h ⟨by decide, True.intro⟩ 0).1 (Or.inl rfl)
  exact ⟨v, v1, fun f' => by rw [he]; exact v2 f'⟩
theorem pForm_lv {g : V1} {L a : Nat} {f : V1} (h : ¬ (pForm g L a f).2.2 = 0) (hs : mSort g L a = 108) : ∃ v0 v1 v2, (v0 < 100000 ∧ v1 < 100000 ∧ v2 < 100000) ∧ ∀ f' : V1, (pForm g L a f').2.1 0 = nI v0 ∧ (pForm g L a f').2.1 1 = nI v1 ∧ (pForm g L a f').2.1 2 = nI v2 := by
  have h1 : pTf g L a 115 = 0 := by
    apply Decidable.byContradiction
    intro h1
    have ht := pTf_T h1
    unfold mSort at hs
    rw [if_neg (by omega), ht.2.1] at hs
    exact absurd hs (by decide)
  have h2 : ¬ pTf g L (pT g L a 115) 108 = 0 := by
    intro h2
    unfold pForm at h
    rw [if_pos h1, if_pos h2] at h
    exact absurd rfl h
  have he : ∀ f' : V1, pForm g L a f' = pRun g L lS (pT g L (pT g L a 115) 108) f' := fun f' => by unfold pForm; rw [if_pos h1, if_neg h2]
  rw [he] at h
  have hm : pM5 lS := ⟨by decide, by decide, by decide, True.intro⟩
  obtain ⟨v0, a1, a2⟩ := (pRun_v h hm 0).1 (Or.inl rfl)
  obtain ⟨v1, b1, b2⟩ := (pRun_v h hm 1).1 (Or.inr (Or.inl rfl))
  obtain ⟨v2, c1, c2⟩ := (pRun_v h hm 2).1 (Or.inr (Or.inr (Or.inl rfl)))
  exact ⟨v0, v1, v2, ⟨a1, b1, c1⟩, fun f' => by rw [he]; exact ⟨a2 f', b2 f', c2 f'⟩⟩
theorem tKind_m {u : U} {L a : Nat} (h : ¬ (pForm (u 0) L a (u 6)).2.2 = 0) : tKind u L a = mSort (u 0) L a := by
  unfold tKind
  by_cases h1 : pTf (u 0) L a 115 = 0
  · rw [if_pos h1]
    unfold pForm at h
    rw [if_pos h1] at h
    by_cases h2 : pTf (u 0) L (pT (u 0) L a 115) 108 = 0
    · rw [if_pos h2] at h; exact absurd rfl h
    · rw [if_neg h2]
      rw [pTf_F h1] at h2
      have ht := pTf_T h2
      unfold mSort
      rw [if_neg (by omega)]
      exact ht.2.1.symm
  · rw [if_neg h1]
    have ht := pTf_T h1
    unfold mSort
    rw [if_neg (by omega)]
    exact ht.2.1.symm
theorem tOut_7 (u : U) : tOut u 7 0 = tOutR (u 5 0) (u 6 0) (u 6 1) (u 6 2) (u 7 0) := rfl
theorem tOut_8 (u : U) : tOut u 8 0 = tOutC (u 5 0) (u 6 0) (u 6 1) (u 6 2) (u 8 0) := rfl
theorem va_upo {u : U} {k r : Nat} {f : V1} (h : ¬ r = k) : va_up u k f r = u r := if_neg h
theorem tP1_8 (u : U) (L a : Nat) : tP1 u L a 8 0 = -2000004 := by
  unfold tP1 tForm
  rw [va_upo (by decide), va_upo (by decide), va_upo (by decide)]
  simp [va_up]
/-- what a part is that can be played -/
def pGood (g : V1) (L n a : Nat) : Prop := (mSort g L a = 115 ∧ ∃ v, v ≤ 10000 ∧ ∀ f' : V1, (pForm g L a f').2.1 0 = nI v) ∨ (mSort g L a = 108 ∧ ∃ v0 v1 v2, (v0 < n ∧ v1 ≤ 300 ∧ v2 ≤ 300) ∧ ∀ f' : V1, (pForm g L a f').2.1 0 = nI v0 ∧ (pForm g L a f').2.1 1 = nI v1 ∧ (pForm g L a f').2.1 2 = nI v2)
def pSame (w8 r9 r10 : Int32) : Prop := (r9 = 2 → w8 = -2000004) ∧ (¬ r9 = 2 → w8 = r10)
theorem mIn_lo {n v : Nat} {x y z : Int32} (hx : x = nI v) (hv : v < 100000) (hn : y = nI n) (hn1 : 1 ≤ n) (hn2 : n ≤ 10) : mIn x 0 (y - 1) = if v < n then 1 else 0 := by
  have e : y - 1 = nI (n - 1) := by rw [hn]; exact pk_sub hn1
  unfold mIn
  rw [hx, e, if_neg (nI_pos (by omega))]
  by_cases h : v < n
  · rw [if_pos h, if_neg (nI_nlt (by omega) (by omega))]
  · rw [if_neg h, if_pos (nI_lt (by omega) (by omega))]
theorem part_eq {w u : U} {L a n : Nat} {st : Int32} (hg : w 0 = u 4) (hn : u 0 0 = nI n) (hst : st = nI n) (h2 : 2 ≤ n) (h10 : n ≤ 10) : (tPart w L a st 7 0 = 0 ∧ mRdB u L a = 1 ∧ ¬ (pForm (u 4) L a (u 12)).2.2 = 0 ∧ pGood (u 4) L n a) ∨ (¬ tPart w L a st 7 0 = 0 ∧ mRdB u L a = 0 ∧ tPart w L a st 7 0 = mRd u L a 9 0 ∧ pSame (tPart w L a st 8 0) (mRd u L a 9 0) (mRd u L a 10 0)) := by
  have hf := pForm_f (g := u 4) (L := L) (a := a) (w 6) (u 12)
  by_cases hF : (pForm (u 4) L a (u 12)).2.2 = 0
  · right
    have hF2 : (pForm (w 0) L a (w 6)).2.2 = 0 := by rw [hg, hf.2.1]; exact hF
    have e1 : tPart w L a st = va_up (va_up (tP1 w L a) 7 (fun _ => 1)) 8 (fun _ => nI (pForm (w 0) L a (w 6)).1 - nI a) := by unfold tPart; rw [if_pos hF2]
    have e2 : mRd u L a = va_up (va_up (mForm u L a) 9 (fun _ => 1)) 10 (fun _ => nI (pForm (u 4) L a (u 12)).1 - nI a) := by unfold mRd; rw [if_pos hF]
    rw [e1, e2]
    refine ⟨show ¬ (1 : Int32) = 0 by decide, by unfold mRdB; rw [if_pos hF], show (1 : Int32) = 1 from rfl, fun q => absurd (show (1 : Int32) = 2 from q) (by decide), fun _ => ?_⟩
    show nI (pForm (w 0) L a (w 6)).1 - nI a = nI (pForm (u 4) L a (u 12)).1 - nI a
    rw [hg, hf.1]
  · have hF2 : ¬ (pForm (w 0) L a (w 6)).2.2 = 0 := by rw [hg, hf.2.1]; exact hF
    have hk := tKind_m hF2
    rw [hg] at hk
    have e16 : tP1 w L a 6 = (pForm (u 4) L a (w 6)).2.1 := by rw [tP1_6, hg]
    have e15 : tP1 w L a 5 0 = mSort (u 4) L a := by rw [tP1_5, hk]
    have e17 : tP1 w L a 7 0 = 0 := tP1_7 w L a
    have e18 : tP1 w L a 8 0 = -2000004 := tP1_8 w L a
    rcases pForm_so hF with hs | hs
    · obtain ⟨v, v1, v2⟩ := pForm_sv hF hs
      have e1 : tPart w L a st = tOut (tP1 w L a) := by unfold tPart; rw [if_neg hF2, hk, hs, if_neg (by decide)]
      have e2 : mRd u L a = va_up (va_up (mForm u L a) 9 (fun _ => 3)) 10 (fun _ => mRdC u L a) := by unfold mRd; rw [if_neg hF, hs, if_pos (by decide)]
      have e3 : mRdB u L a = if ¬ mRdC u L a = -1 then 0 else 1 := by unfold mRdB; rw [if_neg hF, hs, if_pos (by decide)]
      have e4 : mRdC u L a = if nI v ≤ 10000 then -1 else 0 := by unfold mRdC mWN; rw [hs, if_neg (by decide), v2]
      have e5 : tOut (tP1 w L a) 7 0 = if nI v ≤ 10000 then 0 else 3 := by
        rw [tOut_7]
        unfold tOutR
        rw [e15, e16, e17, hs, if_pos rfl, v2]
      have e6 : tOut (tP1 w L a) 8 0 = if nI v ≤ 10000 then -2000004 else 0 := by
        rw [tOut_8]
        unfold tOutC
        rw [e15, e16, e18, hs, if_pos rfl, v2]
      rw [e1, e2, e3, e4, e5, e6]
      by_cases hv : v ≤ 10000
      · left
        have hc : nI v ≤ 10000 := nI_le (b := 10000) hv (by decide)
        rw [if_pos hc, if_pos hc]
        exact ⟨rfl, rfl, hF, Or.inl ⟨hs, v, hv, v2⟩⟩
      · right
        have hc : ¬ nI v ≤ 10000 := nI_ge (a := 10000) (by omega) (by omega)
        rw [if_neg hc, if_neg hc, if_neg hc]
        exact ⟨by decide, by decide, show (3 : Int32) = 3 from rfl, fun q => absurd (show (3 : Int32) = 2 from q) (by decide), fun _ => rfl⟩
    · obtain ⟨v0, v1, v2, ⟨b0, b1, b2⟩, hv⟩ := pForm_lv hF hs
      have hi := mIn_lo (z := 0) (hv (u 12)).1 b0 hn (by omega) h10
      by_cases h0 : v0 < n
      · rw [if_pos h0] at hi
        have hlt : (pForm (w 0) L a (w 6)).2.1 0 < st := by rw [hg, (hv (w 6)).1, hst]; exact nI_lt h0 (by omega)
        have e1 : tPart w L a st = tOut (tP1 w L a) := by unfold tPart; rw [if_neg hF2, hk, hs, if_pos rfl, if_pos hlt]
        have e2 : mRd u L a = va_up (va_up (mForm u L a) 9 (fun _ => 3)) 10 (fun _ => mRdC u L a) := by unfold mRd; rw [if_neg hF, hs, if_neg (by decide), hi, if_neg (by decide)]
        have e3 : mRdB u L a = if ¬ mRdC u L a = -1 then 0 else 1 := by unfold mRdB; rw [if_neg hF, hs, if_neg (by decide), hi, if_neg (by decide)]
        have e4 : mRdC u L a = if nI v1 ≤ 300 then (if nI v2 ≤ 300 then -1 else 2) else 1 := by unfold mRdC mWN; rw [hs, if_pos (by decide), (hv (u 12)).2.1, (hv (u 12)).2.2]
        have c0 : nI v0 ≤ 300 := nI_le (b := 300) (by omega) (by decide)
        have e5 : tOut (tP1 w L a) 7 0 = if nI v1 ≤ 300 then (if nI v2 ≤ 300 then 0 else 3) else 3 := by
          rw [tOut_7]
          unfold tOutR
          rw [e15, e16, e17, hs, if_neg (by decide), (hv (w 6)).1, (hv (w 6)).2.1, (hv (w 6)).2.2, if_pos c0]
        have e6 : tOut (tP1 w L a) 8 0 = if nI v1 ≤ 300 then (if nI v2 ≤ 300 then -2000004 else 2) else 1 := by
          rw [tOut_8]
          unfold tOutC
          rw [e15, e16, e18, hs, if_neg (by decide), (hv (w 6)).1, (hv (w 6)).2.1, (hv (w 6)).2.2, if_pos c0]
        rw [e1, e2, e3, e4, e5, e6]
        by_cases h1 : v1 ≤ 300
        · have c1 : nI v1 ≤ 300 := nI_le (b := 300) h1 (by decide)
          rw [if_pos c1, if_pos c1, if_pos c1]
          by_cases hh2 : v2 ≤ 300
          · left
            have c2 : nI v2 ≤ 300 := nI_le (b := 300) hh2 (by decide)
            rw [if_pos c2, if_pos c2]
            exact ⟨rfl, rfl, hF, Or.inr ⟨hs, v0, v1, v2, ⟨h0, h1, hh2⟩, hv⟩⟩
          · right
            have c2 : ¬ nI v2 ≤ 300 := nI_ge (a := 300) (by omega) (by omega)
            rw [if_neg c2, if_neg c2, if_neg c2]
            exact ⟨by decide, by decide, show (3 : Int32) = 3 from rfl, fun q => absurd (show (3 : Int32) = 2 from q) (by decide), fun _ => rfl⟩
        · right
          have c1 : ¬ nI v1 ≤ 300 := nI_ge (a := 300) (by omega) (by omega)
          rw [if_neg c1, if_neg c1, if_neg c1]
          exact ⟨by decide, by decide, show (3 : Int32) = 3 from rfl, fun q => absurd (show (3 : Int32) = 2 from q) (by decide), fun _ => rfl⟩
      · right
        rw [if_neg h0] at hi
        have hlt : ¬ (pForm (w 0) L a (w 6)).2.1 0 < st := by rw [hg, (hv (w 6)).1, hst]; exact nI_nlt (by omega) (by omega)
        have e1 : tPart w L a st = va_up (tP1 w L a) 7 (fun _ => 2) := by unfold tPart; rw [if_neg hF2, hk, hs, if_pos rfl, if_neg hlt]
        have e2 : mRd u L a = va_up (mForm u L a) 9 (fun _ => 2) := by unfold mRd; rw [if_neg hF, hs, if_neg (by decide), hi, if_pos rfl]
        have e3 : mRdB u L a = 0 := by unfold mRdB; rw [if_neg hF, hs, if_neg (by decide), hi, if_pos rfl]
        rw [e1, e2, e3]
        exact ⟨show ¬ (2 : Int32) = 0 by decide, rfl, show (2 : Int32) = 2 from rfl, fun _ => (congrFun (va_upo (by decide)) 0).trans e18, fun q => absurd rfl q⟩
