/-! rows written as numbers; rows in the place of others that agree on all places -/
def mkU (t : List Nat) : U := fun r k => nI (((t.getD r 0) >>> (32 * k)) % 4294967296)
def eqI (a b : Int32) : Bool := Nat.beq a.toBitVec.toNat b.toBitVec.toNat
theorem eqI_of {a b : Int32} (h : eqI a b = true) : a = b := by
  have h1 := Nat.eq_of_beq_eq_true h
  exact Int32.toBitVec_inj.mp (BitVec.eq_of_toNat_eq h1)
def eqR : Nat → (Nat → Int32) → (Nat → Int32) → Bool
  | 0, _, _ => true
  | n + 1, f, g => eqI (f n) (g n) && eqR n f g
theorem eqR_of : ∀ {n : Nat} {f g : Nat → Int32}, eqR n f g = true → ∀ k, k < n → f k = g k
  | 0, _, _, _, k, hk => absurd hk (Nat.not_lt_zero k)
  | n + 1, f, g, h, k, hk => by
    have h : (eqI (f n) (g n) && eqR n f g) = true := h
    rw [Bool.and_eq_true] at h
    by_cases c : k = n
    · subst c; exact eqI_of h.1
    · exact eqR_of h.2 k (by omega)
theorem y_and {a b : Bool} (h : (a && b) = true) : a = true ∧ b = true := by
  rw [Bool.and_eq_true] at h
  exact h
def eqU (u v : U) : Bool := (eqI (u 0 0) (v 0 0) && (eqI (u 4 0) (v 4 0) && (eqI (u 5 0) (v 5 0) && (eqI (u 6 0) (v 6 0) && (eqI (u 7 0) (v 7 0) && (eqI (u 11 0) (v 11 0) && (eqI (u 12 0) (v 12 0) && (eqR 10 (u 1) (v 1) && (eqR 10 (u 2) (v 2) && (eqR 10 (u 3) (v 3) && (eqR 3 (u 8) (v 8) && (eqR 3 (u 9) (v 9) && (eqR 5 (u 10) (v 10) && (eqR 32 (u 13) (v 13) && (eqR 32 (u 14) (v 14) && (eqR 32 (u 15) (v 15) && eqR 32 (u 16) (v 16)))))))))))))))))
def cWx (cI cC cL : ClassId) (Q : Nat → Nat → Nat) (Z : Nat → U) (v t : U) : va_W := List.flatten [cCl Q, cHi cL Q (Z 7), cLn cI (Q 1) (Z 1), cLn cI (Q 2) (Z 2), cLn cI (Q 3) (Z 3), cLn cI (Q 4) (Z 4), cLo cI (Q 0) v, cSt cI (Q 0) v, cPr cI (Q 0) v, cTx cI cC (Q 6) t, cSt cI (Q 5) (Z 5)]
theorem cWx_eq {cI cC cL : ClassId} {Q : Nat → Nat → Nat} {Z : Nat → U} : cWx cI cC cL Q Z (Z 0) (Z 6) = cWd cI cC cL Q Z := rfl
theorem cWx_cg {cI cC cL : ClassId} {Q : Nat → Nat → Nat} {Z : Nat → U} {v v2 t : U} (h0 : v 0 0 = v2 0 0) (h4 : v 4 0 = v2 4 0) (h5 : v 5 0 = v2 5 0) (h6 : v 6 0 = v2 6 0) (h7 : v 7 0 = v2 7 0) (h11 : v 11 0 = v2 11 0) (h12 : v 12 0 = v2 12 0) (a1 : v 1 = v2 1) (a2 : v 2 = v2 2) (a3 : v 3 = v2 3) (a8 : v 8 = v2 8) (a9 : v 9 = v2 9) (a10 : v 10 = v2 10) (a13 : v 13 = v2 13) (a14 : v 14 = v2 14) (a15 : v 15 = v2 15) (a16 : v 16 = v2 16) : cWx cI cC cL Q Z v t = cWx cI cC cL Q Z v2 t := by
  unfold cWx cLo cSt cPr
  rw [h0, h4, h5, h6, h7, h11, h12, a1, a2, a3, a8, a9, a10, a13, a14, a15, a16]
theorem cWx_cgT {cI cC cL : ClassId} {Q : Nat → Nat → Nat} {Z : Nat → U} {v t t2 : U} (h1 : t 1 0 = t2 1 0) (h2 : t 2 0 = t2 2 0) (h3 : t 3 0 = t2 3 0) (h4 : t 4 0 = t2 4 0) (h5 : t 5 0 = t2 5 0) (h7 : t 7 0 = t2 7 0) (h8 : t 8 0 = t2 8 0) (a0 : t 0 = t2 0) (a6 : t 6 = t2 6) : cWx cI cC cL Q Z v t = cWx cI cC cL Q Z v t2 := by
  unfold cWx cTx
  rw [h1, h2, h3, h4, h5, h7, h8, a0, a6]
set_option maxRecDepth 100000 in
set_option maxHeartbeats 4000000 in
theorem y_norm {D : va_G} {cI cC cL : ClassId} {A : Nat → Prop} {s : State} {H : Heap} {locs : List Loc} {Q : Nat → Nat → Nat} {Z : Nat → U} {W2 : va_W} {u u2 w : U} {k : Nat} {g : Nat → U} (hw : y_W D cI cC cL A s H locs (cWd cI cC cL Q Z ++ W2)) (P : PW Z u w k g) (h : eqU u u2 = true) : y_W D cI cC cL A s H locs (cWd cI cC cL Q (va_up Z 0 u2) ++ W2) ∧ PW (va_up Z 0 u2) u2 w k g := by
  refine ⟨?_, P.up0 u2⟩
  have e0 := P.l
  subst e0
  obtain ⟨h0, hz0⟩ := y_and h
  obtain ⟨h4, hz1⟩ := y_and hz0
  obtain ⟨h5, hz2⟩ := y_and hz1
  obtain ⟨h6, hz3⟩ := y_and hz2
  obtain ⟨h7, hz4⟩ := y_and hz3
  obtain ⟨h11, hz5⟩ := y_and hz4
  obtain ⟨h12, hz6⟩ := y_and hz5
  obtain ⟨a1, hz7⟩ := y_and hz6
  obtain ⟨a2, hz8⟩ := y_and hz7
  obtain ⟨a3, hz9⟩ := y_and hz8
  obtain ⟨a8, hz10⟩ := y_and hz9
  obtain ⟨a9, hz11⟩ := y_and hz10
  obtain ⟨a10, hz12⟩ := y_and hz11
  obtain ⟨a13, hz13⟩ := y_and hz12
  obtain ⟨a14, hz14⟩ := y_and hz13
  obtain ⟨a15, a16⟩ := y_and hz14
  have hw : y_W D cI cC cL A s H locs (cWx cI cC cL Q Z (Z 0) (Z 6) ++ W2) := hw
  have hw : y_W D cI cC cL A s H locs (cWx cI cC cL Q Z (va_up (Z 0) 1 (u2 1)) (Z 6) ++ W2) := hw.cong 62 (a := Q 0 1) (cA := cI) (n := 10) (f := Z 0 1) (u2 1) rfl (eqR_of a1) rfl
  have hw : y_W D cI cC cL A s H locs (cWx cI cC cL Q Z (va_up (va_up (Z 0) 1 (u2 1)) 2 (u2 2)) (Z 6) ++ W2) := hw.cong 63 (a := Q 0 2) (cA := cI) (n := 10) (f := Z 0 2) (u2 2) rfl (eqR_of a2) rfl
  have hw : y_W D cI cC cL A s H locs (cWx cI cC cL Q Z (va_up (va_up (va_up (Z 0) 1 (u2 1)) 2 (u2 2)) 3 (u2 3)) (Z 6) ++ W2) := hw.cong 64 (a := Q 0 3) (cA := cI) (n := 10) (f := Z 0 3) (u2 3) rfl (eqR_of a3) rfl
  have hw : y_W D cI cC cL A s H locs (cWx cI cC cL Q Z (va_up (va_up (va_up (va_up (Z 0) 1 (u2 1)) 2 (u2 2)) 3 (u2 3)) 8 (u2 8)) (Z 6) ++ W2) := hw.cong 66 (a := Q 0 5) (cA := cI) (n := 3) (f := Z 0 8) (u2 8) rfl (eqR_of a8) rfl
  have hw : y_W D cI cC cL A s H locs (cWx cI cC cL Q Z (va_up (va_up (va_up (va_up (va_up (Z 0) 1 (u2 1)) 2 (u2 2)) 3 (u2 3)) 8 (u2 8)) 9 (u2 9)) (Z 6) ++ W2) := hw.cong 67 (a := Q 0 6) (cA := cI) (n := 3) (f := Z 0 9) (u2 9) rfl (eqR_of a9) rfl
  have hw : y_W D cI cC cL A s H locs (cWx cI cC cL Q Z (va_up (va_up (va_up (va_up (va_up (va_up (Z 0) 1 (u2 1)) 2 (u2 2)) 3 (u2 3)) 8 (u2 8)) 9 (u2 9)) 10 (u2 10)) (Z 6) ++ W2) := hw.cong 56 (a := Q 0 8) (cA := cI) (n := 5) (f := Z 0 10) (u2 10) rfl (eqR_of a10) rfl
  have hw : y_W D cI cC cL A s H locs (cWx cI cC cL Q Z (va_up (va_up (va_up (va_up (va_up (va_up (va_up (Z 0) 1 (u2 1)) 2 (u2 2)) 3 (u2 3)) 8 (u2 8)) 9 (u2 9)) 10 (u2 10)) 13 (u2 13)) (Z 6) ++ W2) := hw.cong 57 (a := Q 0 9) (cA := cI) (n := 32) (f := Z 0 13) (u2 13) rfl (eqR_of a13) rfl
  have hw : y_W D cI cC cL A s H locs (cWx cI cC cL Q Z (va_up (va_up (va_up (va_up (va_up (va_up (va_up (va_up (Z 0) 1 (u2 1)) 2 (u2 2)) 3 (u2 3)) 8 (u2 8)) 9 (u2 9)) 10 (u2 10)) 13 (u2 13)) 14 (u2 14)) (Z 6) ++ W2) := hw.cong 58 (a := Q 0 10) (cA := cI) (n := 32) (f := Z 0 14) (u2 14) rfl (eqR_of a14) rfl
  have hw : y_W D cI cC cL A s H locs (cWx cI cC cL Q Z (va_up (va_up (va_up (va_up (va_up (va_up (va_up (va_up (va_up (Z 0) 1 (u2 1)) 2 (u2 2)) 3 (u2 3)) 8 (u2 8)) 9 (u2 9)) 10 (u2 10)) 13 (u2 13)) 14 (u2 14)) 15 (u2 15)) (Z 6) ++ W2) := hw.cong 59 (a := Q 0 11) (cA := cI) (n := 32) (f := Z 0 15) (u2 15) rfl (eqR_of a15) rfl
  have hw : y_W D cI cC cL A s H locs (cWx cI cC cL Q Z (va_up (va_up (va_up (va_up (va_up (va_up (va_up (va_up (va_up (va_up (Z 0) 1 (u2 1)) 2 (u2 2)) 3 (u2 3)) 8 (u2 8)) 9 (u2 9)) 10 (u2 10)) 13 (u2 13)) 14 (u2 14)) 15 (u2 15)) 16 (u2 16)) (Z 6) ++ W2) := hw.cong 60 (a := Q 0 12) (cA := cI) (n := 32) (f := Z 0 16) (u2 16) rfl (eqR_of a16) rfl
  have e : cWx cI cC cL Q Z (va_up (va_up (va_up (va_up (va_up (va_up (va_up (va_up (va_up (va_up (Z 0) 1 (u2 1)) 2 (u2 2)) 3 (u2 3)) 8 (u2 8)) 9 (u2 9)) 10 (u2 10)) 13 (u2 13)) 14 (u2 14)) 15 (u2 15)) 16 (u2 16)) (Z 6) = cWx cI cC cL Q Z u2 (Z 6) := cWx_cg (eqI_of h0) (eqI_of h4) (eqI_of h5) (eqI_of h6) (eqI_of h7) (eqI_of h11) (eqI_of h12) rfl rfl rfl rfl rfl rfl rfl rfl rfl rfl
  exact y_W_eq hw (by rw [e]; rfl)
def eqT (u v : U) : Bool := (eqI (u 1 0) (v 1 0) && (eqI (u 2 0) (v 2 0) && (eqI (u 3 0) (v 3 0) && (eqI (u 4 0) (v 4 0) && (eqI (u 5 0) (v 5 0) && (eqI (u 7 0) (v 7 0) && (eqI (u 8 0) (v 8 0) && (eqR 60 (u 0) (v 0) && eqR 3 (u 6) (v 6)))))))))
set_option maxRecDepth 100000 in
set_option maxHeartbeats 4000000 in
theorem y_normT {D : va_G} {cI cC cL : ClassId} {A : Nat → Prop} {s : State} {H : Heap} {locs : List Loc} {Q : Nat → Nat → Nat} {Z : Nat → U} {W2 : va_W} {u w w2 : U} {k : Nat} {g : Nat → U} (hw : y_W D cI cC cL A s H locs (cWd cI cC cL Q Z ++ W2)) (P : PW Z u w k g) (h : eqT w w2 = true) : y_W D cI cC cL A s H locs (cWd cI cC cL Q (va_up Z 6 w2) ++ W2) ∧ PW (va_up Z 6 w2) u w2 k g := by
  refine ⟨?_, P.up6 w2⟩
  have e6 := P.t
  subst e6
  obtain ⟨h1, hz0⟩ := y_and h
  obtain ⟨h2, hz1⟩ := y_and hz0
  obtain ⟨h3, hz2⟩ := y_and hz1
  obtain ⟨h4, hz3⟩ := y_and hz2
  obtain ⟨h5, hz4⟩ := y_and hz3
  obtain ⟨h7, hz5⟩ := y_and hz4
  obtain ⟨h8, hz6⟩ := y_and hz5
  obtain ⟨a0, a6⟩ := y_and hz6
  have hw : y_W D cI cC cL A s H locs (cWx cI cC cL Q Z (Z 0) (Z 6) ++ W2) := hw
  have hw : y_W D cI cC cL A s H locs (cWx cI cC cL Q Z (Z 0) (va_up (Z 6) 0 (w2 0)) ++ W2) := hw.cong 69 (a := Q 6 1) (cA := cC) (n := 60) (f := Z 6 0) (w2 0) rfl (eqR_of a0) rfl
  have hw : y_W D cI cC cL A s H locs (cWx cI cC cL Q Z (Z 0) (va_up (va_up (Z 6) 0 (w2 0)) 6 (w2 6)) ++ W2) := hw.cong 70 (a := Q 6 2) (cA := cI) (n := 3) (f := Z 6 6) (w2 6) rfl (eqR_of a6) rfl
  have e : cWx cI cC cL Q Z (Z 0) (va_up (va_up (Z 6) 0 (w2 0)) 6 (w2 6)) = cWx cI cC cL Q Z (Z 0) w2 := cWx_cgT (eqI_of h1) (eqI_of h2) (eqI_of h3) (eqI_of h4) (eqI_of h5) (eqI_of h7) (eqI_of h8) rfl rfl
  exact y_W_eq hw (by rw [e]; rfl)
/-- the line in order, by a count -/
def okRb : Nat → (Nat → Int32) → Bool
  | 0, _ => true
  | n + 1, f => (eqI (f n) (-1) || (eqI (f n) 0 || (eqI (f n) 1 || eqI (f n) 2))) && okRb n f
theorem okRb_of : ∀ {n : Nat} {f : Nat → Int32}, okRb n f = true → ∀ j, j < n → f j = -1 ∨ ∃ k, k < 3 ∧ f j = nI k
  | 0, _, _, j, hj => absurd hj (Nat.not_lt_zero j)
  | n + 1, f, h, j, hj => by
    obtain ⟨h1, h2⟩ := y_and (show ((eqI (f n) (-1) || (eqI (f n) 0 || (eqI (f n) 1 || eqI (f n) 2))) && okRb n f) = true from h)
    by_cases c : j = n
    · subst c
      simp only [Bool.or_eq_true] at h1
      rcases h1 with h1 | h1 | h1 | h1
      · exact Or.inl (eqI_of h1)
      · exact Or.inr ⟨0, by decide, eqI_of h1⟩
      · exact Or.inr ⟨1, by decide, eqI_of h1⟩
      · exact Or.inr ⟨2, by decide, eqI_of h1⟩
    · exact okRb_of h2 j (by omega)
def lOkb (u : U) (n B : Nat) : Bool := eqI (u 0 0) (nI n) && (okRb 32 (u 14) && (eqI (u 11 0) (nI (u 11 0).toNatClampNeg) && (Nat.ble (u 11 0).toNatClampNeg B && (eqI (u 12 0) (nI (u 12 0).toNatClampNeg) && Nat.ble (u 12 0).toNatClampNeg B))))
theorem lOk_of {u : U} {n B : Nat} (h : lOkb u n B = true) : lOk u n B := by
  obtain ⟨h1, h⟩ := y_and h
  obtain ⟨h2, h⟩ := y_and h
  obtain ⟨h3, h⟩ := y_and h
  obtain ⟨h4, h⟩ := y_and h
  obtain ⟨h5, h6⟩ := y_and h
  exact ⟨eqI_of h1, okRb_of h2, _, _, eqI_of h3, Nat.le_of_ble_eq_true h4, eqI_of h5, Nat.le_of_ble_eq_true h6⟩
