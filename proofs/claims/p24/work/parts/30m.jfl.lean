/-! floats: numbers of the format by exponent and tail; what halving, doubling, comparing and taking the tail make of them -/
def fF (e t : Nat) : UInt32 := UInt32.ofNat (e * 8388608 + t)
theorem fQmin : FP.Core.Fmt.qmin FP.Core.b32 = -149 := by decide
theorem fQmax : FP.Core.Fmt.qmax FP.Core.b32 = 104 := by decide
theorem fF_nat {e t : Nat} (he : e < 256) (ht : t < 8388608) : (fF e t).toNat = e * 8388608 + t := by
  unfold fF
  rw [UInt32.toNat_ofNat']
  omega
theorem fF_dec {e t : Nat} (h1 : 1 ≤ e) (he : e < 255) (ht : t < 8388608) : FP.Core.decode FP.Core.b32 (fF e t).toNat = .fin false (8388608 + t) ((e : Int) - 150) := by
  rw [fF_nat (by omega) ht]
  have hE : FP.Core.fieldE FP.Core.b32 (e * 8388608 + t) = e := by
    show (e * 8388608 + t) / 8388608 % 256 = e
    omega
  have hT : FP.Core.fieldT FP.Core.b32 (e * 8388608 + t) = t := by
    show (e * 8388608 + t) % 8388608 = t
    omega
  have hS : FP.Core.fieldS FP.Core.b32 (e * 8388608 + t) = false := by
    show ((e * 8388608 + t) / 8388608 / 256 % 2 == 1) = false
    rw [show (e * 8388608 + t) / 8388608 / 256 % 2 = 0 from by omega]
    rfl
  unfold FP.Core.decode
  rw [hE, hT, hS, if_neg (show ¬ e = FP.Core.Fmt.exps FP.Core.b32 - 1 from by show ¬ e = 255; omega), if_neg (by omega), fQmin]
  show FP.Core.Datum.fin false (8388608 + t) ((-149 : Int) + ((e : Int) - 1)) = _
  rw [show ((-149 : Int) + ((e : Int) - 1)) = (e : Int) - 150 from by omega]
theorem fF_enc {c : Nat} {q : Int} (h1 : 8388608 ≤ c) (h2 : c < 16777216) (hq1 : -149 ≤ q) (hq2 : q ≤ 104) : UInt32.ofNat (FP.Core.encode FP.Core.b32 (.fin false c q)) = fF (q + 150).toNat (c - 8388608) := by
  unfold fF
  refine congrArg UInt32.ofNat ?_
  show (if c < FP.Core.Fmt.tails FP.Core.b32 then FP.Core.assemble FP.Core.b32 false 0 c else FP.Core.assemble FP.Core.b32 false ((q - FP.Core.Fmt.qmin FP.Core.b32).toNat + 1) (c - FP.Core.Fmt.tails FP.Core.b32)) = _
  rw [if_neg (show ¬ c < FP.Core.Fmt.tails FP.Core.b32 from by show ¬ c < 8388608; omega), fQmin]
  show (0 * 256 + ((q - (-149)).toNat + 1)) * 8388608 + (c - 8388608) = _
  rw [show (q - (-149)).toNat + 1 = (q + 150).toNat from by omega]
  omega
theorem fNear_ex {B : Nat} (M : Nat) (hB : 0 < B) : FP.Core.nearest (M * B) B = M := by
  unfold FP.Core.nearest
  rw [Nat.mul_mod_left, if_pos (by omega), Nat.mul_div_cancel M hB]
theorem fNear_ge {A B M : Nat} (hB : 0 < B) (h : M * B ≤ A) : M ≤ FP.Core.nearest A B := by
  unfold FP.Core.nearest
  have h1 : M ≤ A / B := (Nat.le_div_iff_mul_le hB).mpr h
  split
  · exact h1
  · split <;> omega
theorem fNear_le {A B M : Nat} (hB : 0 < B) (h : A ≤ M * B) : FP.Core.nearest A B ≤ M := by
  have h1 : A / B ≤ M := Nat.div_le_of_le_mul (by rw [Nat.mul_comm]; exact h)
  have h4 := Nat.div_add_mod A B
  unfold FP.Core.nearest
  rcases Nat.lt_or_ge (A / B) M with h2 | h2
  · have h5 := Nat.mod_lt (A / B) (show 0 < 2 by decide)
    split
    · exact h1
    · split <;> omega
  · have h3 : A / B = M := Nat.le_antisymm h1 h2
    rw [h3, Nat.mul_comm] at h4
    rw [if_pos (show 2 * (A % B) < B from by omega)]
    exact h1
theorem fRnd {A B M : Nat} {e k : Int} (hA : A ≠ 0) (hk : FP.Core.leading A B = k) (hM : FP.Core.nearest (FP.Core.unitsNum A e (k + e - 23)) (FP.Core.unitsDen B e (k + e - 23)) = M) (h1 : 8388608 ≤ M) (h2 : M ≤ 16777216) (hq1 : -149 ≤ k + e - 23) (hq2 : k + e - 23 ≤ 103) :
    ∃ c q, FP.Core.roundRatio FP.Core.b32 false A B e = .fin false c q ∧ 8388608 ≤ c ∧ c < 16777216 ∧ (q = k + e - 23 ∨ q = k + e - 22) ∧ (M < 16777216 → c = M ∧ q = k + e - 23) := by
  have hQ : FP.Core.quantum FP.Core.b32 A B e = k + e - 23 := by
    unfold FP.Core.quantum
    rw [hk, fQmin, show ((FP.Core.b32.p : Nat) : Int) = 24 from rfl]
    omega
  unfold FP.Core.roundRatio
  rw [if_neg hA]
  unfold FP.Core.roundAt
  rw [hQ, hM]
  unfold FP.Core.settle FP.Core.bound
  rw [fQmax]
  by_cases h : M < 16777216
  · rw [if_pos (show M < 2 ^ FP.Core.b32.p from h), if_pos (by omega)]
    exact ⟨M, k + e - 23, rfl, h1, h, Or.inl rfl, fun _ => ⟨rfl, rfl⟩⟩
  · rw [if_neg (show ¬ M < 2 ^ FP.Core.b32.p from h), if_pos (by omega)]
    exact ⟨8388608, k + e - 23 + 1, rfl, by omega, by omega, Or.inr (by omega), fun z => absurd z h⟩
theorem fLead1 {c j : Nat} (hc : c ≠ 0) (hj : c.log2 = j) : FP.Core.leading c 1 = (j : Int) := by
  unfold FP.Core.leading
  rw [hj, show (1 : Nat).log2 = 0 from by decide]
  dsimp only
  rw [show (((j : Int) - ((0 : Nat) : Int))).toNat = j from by omega, show (-((j : Int) - ((0 : Nat) : Int))).toNat = 0 from by omega, if_pos (by rw [Nat.one_mul, Nat.pow_zero, Nat.mul_one, ← hj]; exact Nat.log2_self_le hc)]
  omega
theorem fLog {c j : Nat} (h1 : 2 ^ j ≤ c) (h2 : c < 2 ^ (j + 1)) : c.log2 = j := (Nat.log2_eq_iff (by have := Nat.two_pow_pos j; omega)).mpr ⟨h1, h2⟩
theorem fLead2 {c d : Nat} (hc1 : 8388608 ≤ c) (hc2 : c < 16777216) (hd1 : 8388608 ≤ d) (hd2 : d < 16777216) : FP.Core.leading c d = if d ≤ c then 0 else -1 := by
  unfold FP.Core.leading
  rw [fLog (j := 23) hc1 hc2, fLog (j := 23) hd1 hd2]
  dsimp only
  rw [show ((((23 : Nat) : Int) - ((23 : Nat) : Int))).toNat = 0 from by decide, show (-(((23 : Nat) : Int) - ((23 : Nat) : Int))).toNat = 0 from by decide, Nat.pow_zero, Nat.mul_one, Nat.mul_one]
  by_cases h : d ≤ c
  · rw [if_pos h, if_pos h]; decide
  · rw [if_neg h, if_neg h]; decide
theorem fUn {A : Nat} {e q : Int} {j : Nat} (h : (e - q).toNat = j) : FP.Core.unitsNum A e q = A * 2 ^ j := by
  unfold FP.Core.unitsNum
  rw [h]
theorem fUd {A : Nat} {e q : Int} {j : Nat} (h : (q - e).toNat = j) : FP.Core.unitsDen A e q = A * 2 ^ j := by
  unfold FP.Core.unitsDen
  rw [h]
theorem fC2 : FP.Core.decode FP.Core.b32 FP.fconst2.toNat = .fin false 8388608 (-22) := by decide +kernel
theorem fC1 : FP.Core.decode FP.Core.b32 FP.fconst1.toNat = .fin false 8388608 (-23) := by decide +kernel
theorem fC0 : FP.Core.decode FP.Core.b32 FP.fconst0.toNat = .fin false 0 (-149) := by decide +kernel
theorem fC8 : FP.Core.decode FP.Core.b32 (1258291200 : UInt32).toNat = .fin false 8388608 0 := by decide +kernel
theorem fDiv2 {e t : Nat} (h1 : 2 ≤ e) (he : e < 255) (ht : t < 8388608) : FP.fdiv (fF e t) FP.fconst2 = fF (e - 1) t := by
  show UInt32.ofNat (FP.Core.encode FP.Core.b32 (FP.Core.quotient FP.Core.b32 (FP.Core.decode FP.Core.b32 (fF e t).toNat) (FP.Core.decode FP.Core.b32 FP.fconst2.toNat))) = _
  rw [fF_dec (by omega) he ht, fC2]
  show UInt32.ofNat (FP.Core.encode FP.Core.b32 (FP.Core.roundRatio FP.Core.b32 false (8388608 + t) 8388608 (((e : Int) - 150) - (-22)))) = _
  obtain ⟨c, q, h, g1, g2, g3, g4⟩ := fRnd (A := 8388608 + t) (B := 8388608) (M := 8388608 + t) (e := ((e : Int) - 150) - (-22)) (k := 0) (by omega) (by rw [fLead2 (by omega) (by omega) (by omega) (by omega), if_pos (by omega)]) (by rw [fUn (j := 23) (by omega), fUd (j := 0) (by omega)]; exact fNear_ex (B := 8388608) (8388608 + t) (by decide)) (by omega) (by omega) (by omega) (by omega)
  obtain ⟨rfl, rfl⟩ := g4 (by omega)
  rw [h, fF_enc (by omega) (by omega) (by omega) (by omega), show ((0 : Int) + (((e : Int) - 150) - (-22)) - 23 + 150).toNat = e - 1 from by omega, Nat.add_sub_cancel_left]
theorem fLog46 {t : Nat} (ht : t < 8388608) : ((8388608 + t) * 8388608).log2 = 46 := fLog (j := 46) (by omega) (by omega)
theorem fMul2 {e t : Nat} (h1 : 1 ≤ e) (he : e < 200) (ht : t < 8388608) : FP.fmul (fF e t) FP.fconst2 = fF (e + 1) t := by
  show UInt32.ofNat (FP.Core.encode FP.Core.b32 (FP.Core.round FP.Core.b32 (FP.Core.exactProduct (FP.Core.decode FP.Core.b32 (fF e t).toNat) (FP.Core.decode FP.Core.b32 FP.fconst2.toNat)))) = _
  rw [fF_dec h1 (by omega) ht, fC2]
  show UInt32.ofNat (FP.Core.encode FP.Core.b32 (FP.Core.roundRatio FP.Core.b32 false ((8388608 + t) * 8388608) 1 (((e : Int) - 150) + (-22)))) = _
  obtain ⟨c, q, h, g1, g2, g3, g4⟩ := fRnd (A := (8388608 + t) * 8388608) (B := 1) (M := 8388608 + t) (e := ((e : Int) - 150) + (-22)) (k := 46) (by omega) (fLead1 (j := 46) (by omega) (fLog46 ht)) (by rw [fUn (j := 0) (by omega), fUd (j := 23) (by omega), Nat.pow_zero, Nat.mul_one, Nat.one_mul]; exact fNear_ex (B := 8388608) (8388608 + t) (by decide)) (by omega) (by omega) (by omega) (by omega)
  obtain ⟨rfl, rfl⟩ := g4 (by omega)
  rw [h, fF_enc (by omega) (by omega) (by omega) (by omega), show ((46 : Int) + (((e : Int) - 150) + (-22)) - 23 + 150).toNat = e + 1 from by omega, Nat.add_sub_cancel_left]
theorem fCmpV {c d : Nat} {q r : Int} {x y : UInt32} {a b : Nat} {op : CmpOp} (hx : FP.Core.decode FP.Core.b32 x.toNat = .fin false c q) (hy : FP.Core.decode FP.Core.b32 y.toNat = .fin false d r) (ha : FP.Core.inUnits c q (min q r) = a) (hb : FP.Core.inUnits d r (min q r) = b) : Op.cmpValue (FP.fcmp x y) op = if a < b then -1 else if a = b then 0 else 1 := by
  have h : FP.fcmp x y = some (compare (a : Int) (b : Int)) := by
    show FP.Core.order (FP.Core.decode FP.Core.b32 x.toNat) (FP.Core.decode FP.Core.b32 y.toNat) = _
    rw [hx, hy]
    show some (compare ((FP.Core.inUnits c q (min q r) : Nat) : Int) ((FP.Core.inUnits d r (min q r) : Nat) : Int)) = _
    rw [ha, hb]
  rw [h]
  show Op.cmpValue (some (if (a : Int) < b then Ordering.lt else if (a : Int) = b then Ordering.eq else Ordering.gt)) op = _
  by_cases h1 : a < b
  · rw [if_pos h1, if_pos (by omega)]; rfl
  · rw [if_neg h1, if_neg (show ¬ (a : Int) < b from by omega)]
    by_cases h2 : a = b
    · rw [if_pos h2, if_pos (by omega)]; rfl
    · rw [if_neg h2, if_neg (show ¬ (a : Int) = b from by omega)]; rfl
theorem fIu {c j : Nat} {q m : Int} (h : (q - m).toNat = j) : FP.Core.inUnits c q m = c * 2 ^ j := by
  unfold FP.Core.inUnits
  rw [h]
theorem fCmp0 {e t : Nat} (h1 : 1 ≤ e) (he : e < 255) (ht : t < 8388608) {op : CmpOp} : Op.cmpValue (FP.fcmp (fF e t) FP.fconst0) op = 1 := by
  have hp := Nat.two_pow_pos (e - 1)
  have hm : (8388608 + t) * 1 ≤ (8388608 + t) * 2 ^ (e - 1) := Nat.mul_le_mul_left _ hp
  rw [fCmpV (fF_dec h1 he ht) fC0 (fIu (j := e - 1) (by omega)) (fIu (j := 0) (by omega)), if_neg (by omega), if_neg (by omega)]
theorem fCmp00 {op : CmpOp} : Op.cmpValue (FP.fcmp FP.fconst0 FP.fconst0) op = 0 := by
  rw [fCmpV fC0 fC0 (fIu (j := 0) (by omega)) (fIu (j := 0) (by omega))]
  rfl
theorem fCmp2g {e t : Nat} (h1 : 128 ≤ e) (he : e < 255) (ht : t < 8388608) {op : CmpOp} : ¬ Op.cmpValue (FP.fcmp (fF e t) FP.fconst2) op < 0 := by
  have hp := Nat.two_pow_pos (e - 128)
  have hm : (8388608 + t) * 1 ≤ (8388608 + t) * 2 ^ (e - 128) := Nat.mul_le_mul_left _ hp
  rw [fCmpV (fF_dec (by omega) he ht) fC2 (fIu (j := e - 128) (by omega)) (fIu (j := 0) (by omega)), if_neg (by omega)]
  split <;> decide
theorem fCmp2l {e t : Nat} (h1 : 1 ≤ e) (he : e < 128) (ht : t < 8388608) {op : CmpOp} : Op.cmpValue (FP.fcmp (fF e t) FP.fconst2) op < 0 := by
  have hm : 8388608 * 2 ^ 1 ≤ 8388608 * 2 ^ (128 - e) := Nat.mul_le_mul_left _ (Nat.pow_le_pow_right (by decide) (by omega))
  rw [fCmpV (fF_dec h1 (by omega) ht) fC2 (fIu (j := 0) (by omega)) (fIu (j := 128 - e) (by omega)), if_pos (by omega)]
  decide
theorem fCmp1g {e t : Nat} (h1 : 127 ≤ e) (he : e < 255) (ht : t < 8388608) {op : CmpOp} : ¬ Op.cmpValue (FP.fcmp (fF e t) FP.fconst1) op < 0 := by
  have hp := Nat.two_pow_pos (e - 127)
  have hm : (8388608 + t) * 1 ≤ (8388608 + t) * 2 ^ (e - 127) := Nat.mul_le_mul_left _ hp
  rw [fCmpV (fF_dec (by omega) he ht) fC1 (fIu (j := e - 127) (by omega)) (fIu (j := 0) (by omega)), if_neg (by omega)]
  split <;> decide
theorem fCmp1l {e t : Nat} (h1 : 1 ≤ e) (he : e < 127) (ht : t < 8388608) {op : CmpOp} : Op.cmpValue (FP.fcmp (fF e t) FP.fconst1) op < 0 := by
  have hm : 8388608 * 2 ^ 1 ≤ 8388608 * 2 ^ (127 - e) := Nat.mul_le_mul_left _ (Nat.pow_le_pow_right (by decide) (by omega))
  rw [fCmpV (fF_dec h1 (by omega) ht) fC1 (fIu (j := 0) (by omega)) (fIu (j := 127 - e) (by omega)), if_pos (by omega)]
  decide
theorem fF_n32 {e t : Nat} (he : e < 255) (ht : t < 8388608) : vf_n32 (fF e t) := by
  show (fF e t &&& 0x7fffffff).toNat ≤ 2139095040
  rw [UInt32.toNat_and, fF_nat (by omega) ht]
  rw [show (0x7fffffff : UInt32).toNat = 2 ^ 31 - 1 from rfl, Nat.and_two_pow_sub_one_eq_mod]
  omega
/-- the tail of a number from 1 to 2, as a number; t of j digits -/
theorem fSub1 {t j : Nat} (hj : t.log2 = j) (h0 : t ≠ 0) (ht : t < 8388608) : ∃ M, FP.fsub (fF 127 t) FP.fconst1 = fF (j + 104) (M - 8388608) ∧ M = t * 2 ^ (23 - j) ∧ 8388608 ≤ M ∧ M < 16777216 ∧ j ≤ 22 := by
  have h1 := Nat.log2_self_le h0
  have h2 : t < 2 ^ (j + 1) := hj ▸ Nat.lt_log2_self
  have hj22 : j ≤ 22 := by
    rcases Nat.lt_or_ge j 23 with h | h
    · omega
    · have : 2 ^ 23 ≤ 2 ^ j := Nat.pow_le_pow_right (by decide) h
      rw [hj] at h1
      omega
  rw [hj] at h1
  have hM1 : 2 ^ j * 2 ^ (23 - j) ≤ t * 2 ^ (23 - j) := Nat.mul_le_mul_right _ h1
  have hM2 : t * 2 ^ (23 - j) < 2 ^ (j + 1) * 2 ^ (23 - j) := Nat.mul_lt_mul_of_pos_right h2 (Nat.two_pow_pos _)
  rw [← Nat.pow_add, show j + (23 - j) = 23 from by omega] at hM1
  rw [← Nat.pow_add, show j + 1 + (23 - j) = 24 from by omega] at hM2
  refine ⟨t * 2 ^ (23 - j), ?_, rfl, hM1, hM2, hj22⟩
  show UInt32.ofNat (FP.Core.encode FP.Core.b32 (FP.Core.round FP.Core.b32 (FP.Core.exactSum (FP.Core.decode FP.Core.b32 (fF 127 t).toNat) (FP.Core.negate (FP.Core.decode FP.Core.b32 FP.fconst1.toNat))))) = _
  rw [fF_dec (by decide) (by decide) ht, fC1]
  have hv : FP.Core.sumUnits false (8388608 + t) (((127 : Nat) : Int) - 150) true 8388608 (-23) (min (((127 : Nat) : Int) - 150) (-23)) = (t : Int) := by
    unfold FP.Core.sumUnits FP.Core.signed
    rw [fIu (j := 0) (by omega), fIu (j := 0) (by omega)]
    simp only [if_true, if_false, Bool.false_eq_true]
    omega
  show UInt32.ofNat (FP.Core.encode FP.Core.b32 (FP.Core.round FP.Core.b32 (.fin (FP.Core.sumSign false true (FP.Core.sumUnits false (8388608 + t) (((127 : Nat) : Int) - 150) true 8388608 (-23) (min (((127 : Nat) : Int) - 150) (-23)))) (FP.Core.sumUnits false (8388608 + t) (((127 : Nat) : Int) - 150) true 8388608 (-23) (min (((127 : Nat) : Int) - 150) (-23))).natAbs (min (((127 : Nat) : Int) - 150) (-23))))) = _
  rw [hv]
  have hs : FP.Core.sumSign false true (t : Int) = false := by
    unfold FP.Core.sumSign
    rw [if_neg (by omega)]
    exact decide_eq_false (by omega)
  rw [hs, show ((t : Int)).natAbs = t from rfl, show min (((127 : Nat) : Int) - 150) (-23) = -23 from by decide]
  show UInt32.ofNat (FP.Core.encode FP.Core.b32 (FP.Core.roundRatio FP.Core.b32 false t 1 (-23))) = _
  obtain ⟨c, q, h, g1, g2, g3, g4⟩ := fRnd (A := t) (B := 1) (M := t * 2 ^ (23 - j)) (e := -23) (k := (j : Int)) h0 (fLead1 h0 hj) (by rw [fUn (j := 23 - j) (by omega), fUd (j := 0) (by omega), Nat.pow_zero, Nat.mul_one]; have := fNear_ex (B := 1) (t * 2 ^ (23 - j)) (by decide); rw [Nat.mul_one] at this; exact this) hM1 (Nat.le_of_lt hM2) (by omega) (by omega)
  obtain ⟨rfl, rfl⟩ := g4 hM2
  rw [h, fF_enc hM1 hM2 (by omega) (by omega), show ((j : Int) + (-23) - 23 + 150).toNat = j + 104 from by omega]
theorem fMul8 {e t : Nat} (h1 : 1 ≤ e) (he : e < 200) (ht : t < 8388608) : FP.fmul (fF e t) 1258291200 = fF (e + 23) t := by
  show UInt32.ofNat (FP.Core.encode FP.Core.b32 (FP.Core.round FP.Core.b32 (FP.Core.exactProduct (FP.Core.decode FP.Core.b32 (fF e t).toNat) (FP.Core.decode FP.Core.b32 (1258291200 : UInt32).toNat)))) = _
  rw [fF_dec h1 (by omega) ht, fC8]
  show UInt32.ofNat (FP.Core.encode FP.Core.b32 (FP.Core.roundRatio FP.Core.b32 false ((8388608 + t) * 8388608) 1 (((e : Int) - 150) + 0))) = _
  obtain ⟨c, q, h, g1, g2, g3, g4⟩ := fRnd (A := (8388608 + t) * 8388608) (B := 1) (M := 8388608 + t) (e := ((e : Int) - 150) + 0) (k := 46) (by omega) (fLead1 (j := 46) (by omega) (fLog46 ht)) (by rw [fUn (j := 0) (by omega), fUd (j := 23) (by omega), Nat.pow_zero, Nat.mul_one, Nat.one_mul]; exact fNear_ex (B := 8388608) (8388608 + t) (by decide)) (by omega) (by omega) (by omega) (by omega)
  obtain ⟨rfl, rfl⟩ := g4 (by omega)
  rw [h, fF_enc (by omega) (by omega) (by omega) (by omega), show ((46 : Int) + (((e : Int) - 150) + 0) - 23 + 150).toNat = e + 23 from by omega, Nat.add_sub_cancel_left]
theorem fSub0 : FP.fsub (fF 127 0) FP.fconst1 = 0 := by decide +kernel
theorem fMul0 : FP.fmul 0 1258291200 = 0 := by decide +kernel
theorem fInt0 : FP.Core.f2i 0 = 0 := by decide +kernel
theorem fSub_n {t : Nat} (ht : t < 8388608) : vf_n32 (FP.fsub (fF 127 t) FP.fconst1) := by
  by_cases h0 : t = 0
  · subst h0; rw [fSub0]; show (0 : UInt32) &&& 0x7fffffff ≤ 0x7f800000; decide
  · obtain ⟨M, h, -, g1, g2, g3⟩ := fSub1 rfl h0 ht
    rw [h]
    exact fF_n32 (by omega) (by omega)
theorem fMul_n {t : Nat} (ht : t < 8388608) : vf_n32 (FP.fmul (FP.fsub (fF 127 t) FP.fconst1) 1258291200) := by
  by_cases h0 : t = 0
  · subst h0; rw [fSub0, fMul0]; show (0 : UInt32) &&& 0x7fffffff ≤ 0x7f800000; decide
  · obtain ⟨M, h, -, g1, g2, g3⟩ := fSub1 rfl h0 ht
    rw [h, fMul8 (by omega) (by omega) (by omega)]
    exact fF_n32 (by omega) (by omega)
theorem fTail {t : Nat} (ht : t < 8388608) : FP.f2i (FP.fmul (FP.fsub (fF 127 t) FP.fconst1) 1258291200) = nI t := by
  by_cases h0 : t = 0
  · subst h0; rw [fSub0, fMul0]; exact fInt0
  · obtain ⟨M, h, hM, g1, g2, g3⟩ := fSub1 rfl h0 ht
    rw [h, fMul8 (by omega) (by omega) (by omega)]
    show FP.Core.toI (FP.Core.decode FP.Core.b32 (fF (t.log2 + 104 + 23) (M - 8388608)).toNat) = nI t
    rw [fF_dec (by omega) (by omega) (by omega), show 8388608 + (M - 8388608) = M from by omega]
    have ht2 : FP.Core.truncate false M (((t.log2 + 104 + 23 : Nat) : Int) - 150) = (t : Int) := by
      unfold FP.Core.truncate FP.Core.signed
      rw [show (((t.log2 + 104 + 23 : Nat) : Int) - 150).toNat = 0 from by omega, show (-(((t.log2 + 104 + 23 : Nat) : Int) - 150)).toNat = 23 - t.log2 from by omega, Nat.pow_zero, Nat.mul_one, hM, Nat.mul_div_cancel _ (Nat.two_pow_pos _)]
      rfl
    show Int32.ofInt (max (-2 ^ 31) (min (2 ^ 31 - 1) (FP.Core.truncate false M (((t.log2 + 104 + 23 : Nat) : Int) - 150)))) = nI t
    rw [ht2, show max (-2 ^ 31 : Int) (min (2 ^ 31 - 1) (t : Int)) = (t : Int) from by omega]
    exact Int32.ofInt_eq_ofNat
/-- whole numbers, and their quotient -/
theorem fI2f {a : Nat} (h0 : a ≠ 0) (ha : a < 2 ^ 31) : ∃ c q, FP.Core.decode FP.Core.b32 (FP.i2f (nI a)).toNat = .fin false c q ∧ 8388608 ≤ c ∧ c < 16777216 ∧ -23 ≤ q ∧ q ≤ 8 := by
  have h1 := Nat.log2_self_le h0
  have h2 : a < 2 ^ (a.log2 + 1) := Nat.lt_log2_self
  have hj : a.log2 < 31 := (Nat.log2_lt h0).mpr ha
  have hM : 8388608 ≤ FP.Core.nearest (FP.Core.unitsNum a 0 ((a.log2 : Int) + 0 - 23)) (FP.Core.unitsDen 1 0 ((a.log2 : Int) + 0 - 23)) ∧ FP.Core.nearest (FP.Core.unitsNum a 0 ((a.log2 : Int) + 0 - 23)) (FP.Core.unitsDen 1 0 ((a.log2 : Int) + 0 - 23)) ≤ 16777216 := by
    rw [fUn (j := 23 - a.log2) (by omega), fUd (j := a.log2 - 23) (by omega), Nat.one_mul]
    have hp := Nat.two_pow_pos (a.log2 - 23)
    constructor
    · refine fNear_ge hp ?_
      have g1 : 2 ^ a.log2 * 2 ^ (23 - a.log2) ≤ a * 2 ^ (23 - a.log2) := Nat.mul_le_mul_right _ h1
      refine Nat.le_trans (Nat.le_of_eq ?_) g1
      rw [← Nat.pow_add, show (8388608 : Nat) = 2 ^ 23 from rfl, ← Nat.pow_add]
      congr 1
      omega
    · refine fNear_le hp ?_
      have g1 : a * 2 ^ (23 - a.log2) ≤ 2 ^ (a.log2 + 1) * 2 ^ (23 - a.log2) := Nat.mul_le_mul_right _ (Nat.le_of_lt h2)
      refine Nat.le_trans g1 (Nat.le_of_eq ?_)
      rw [← Nat.pow_add, show (16777216 : Nat) = 2 ^ 24 from rfl, ← Nat.pow_add]
      congr 1
      omega
  obtain ⟨c, q, h, g1, g2, g3, g4⟩ := fRnd (A := a) (B := 1) (e := 0) (k := (a.log2 : Int)) h0 (fLead1 h0 rfl) rfl hM.1 hM.2 (by omega) (by omega)
  refine ⟨c, q, ?_, g1, g2, by omega, by omega⟩
  have e1 : FP.i2f (nI a) = fF (q + 150).toNat (c - 8388608) := by
    rw [← fF_enc g1 g2 (by omega) (by omega), ← h]
    show UInt32.ofNat (FP.Core.encode FP.Core.b32 (FP.Core.round FP.Core.b32 (FP.Core.ofInt (nI a).toInt))) = _
    rw [nI_toInt ha]
    unfold FP.Core.ofInt
    rw [show decide ((a : Int) < 0) = false from decide_eq_false (by omega), show ((a : Int)).natAbs = a from rfl]
    rfl
  rw [e1, fF_dec (by omega) (by omega) (by omega), show 8388608 + (c - 8388608) = c from by omega, show (((q + 150).toNat : Nat) : Int) - 150 = q from by omega]
theorem fQuot {a b : Nat} (ha0 : a ≠ 0) (ha : a < 2 ^ 31) (hb0 : b ≠ 0) (hb : b < 2 ^ 31) : ∃ e t, FP.fdiv (FP.i2f (nI a)) (FP.i2f (nI b)) = fF e t ∧ 1 ≤ e ∧ e < 255 ∧ t < 8388608 := by
  obtain ⟨c, q, hc, c1, c2, q1, q2⟩ := fI2f ha0 ha
  obtain ⟨d, r, hd, d1, d2, r1, r2⟩ := fI2f hb0 hb
  have key : ∃ c' q', FP.Core.roundRatio FP.Core.b32 false c d (q - r) = .fin false c' q' ∧ 8388608 ≤ c' ∧ c' < 16777216 ∧ -149 ≤ q' ∧ q' ≤ 104 := by
    by_cases h : d ≤ c
    · obtain ⟨c', q', h1, g1, g2, g3, -⟩ := fRnd (A := c) (B := d) (e := q - r) (k := 0) (by omega) (by rw [fLead2 c1 c2 d1 d2, if_pos h]) rfl (by rw [fUn (j := 23) (by omega), fUd (j := 0) (by omega)]; exact fNear_ge (by omega) (by omega)) (by rw [fUn (j := 23) (by omega), fUd (j := 0) (by omega)]; exact fNear_le (by omega) (by omega)) (by omega) (by omega)
      exact ⟨c', q', h1, g1, g2, by omega, by omega⟩
    · obtain ⟨c', q', h1, g1, g2, g3, -⟩ := fRnd (A := c) (B := d) (e := q - r) (k := -1) (by omega) (by rw [fLead2 c1 c2 d1 d2, if_neg h]) rfl (by rw [fUn (j := 24) (by omega), fUd (j := 0) (by omega)]; exact fNear_ge (by omega) (by omega)) (by rw [fUn (j := 24) (by omega), fUd (j := 0) (by omega)]; exact fNear_le (by omega) (by omega)) (by omega) (by omega)
      exact ⟨c', q', h1, g1, g2, by omega, by omega⟩
  obtain ⟨c', q', h1, g1, g2, g3, g4⟩ := key
  refine ⟨(q' + 150).toNat, c' - 8388608, ?_, by omega, by omega, by omega⟩
  rw [← fF_enc g1 g2 g3 g4, ← h1]
  show UInt32.ofNat (FP.Core.encode FP.Core.b32 (FP.Core.quotient FP.Core.b32 (FP.Core.decode FP.Core.b32 (FP.i2f (nI a)).toNat) (FP.Core.decode FP.Core.b32 (FP.i2f (nI b)).toNat))) = _
  rw [hc, hd]
  show UInt32.ofNat (FP.Core.encode FP.Core.b32 (if d = 0 then _ else FP.Core.roundRatio FP.Core.b32 false c d (q - r))) = _
  rw [if_neg (by omega)]
theorem fQuot0 {b : Nat} (hb0 : b ≠ 0) (hb : b < 2 ^ 31) : FP.fdiv (FP.i2f (nI 0)) (FP.i2f (nI b)) = FP.fconst0 := by
  obtain ⟨d, r, hd, d1, d2, r1, r2⟩ := fI2f hb0 hb
  have h0 : FP.Core.decode FP.Core.b32 (FP.i2f (nI 0)).toNat = .fin false 0 (-149) := by decide +kernel
  show UInt32.ofNat (FP.Core.encode FP.Core.b32 (FP.Core.quotient FP.Core.b32 (FP.Core.decode FP.Core.b32 (FP.i2f (nI 0)).toNat) (FP.Core.decode FP.Core.b32 (FP.i2f (nI b)).toNat))) = _
  rw [h0, hd]
  show UInt32.ofNat (FP.Core.encode FP.Core.b32 (if d = 0 then _ else FP.Core.roundRatio FP.Core.b32 false 0 d (-149 - r))) = _
  rw [if_neg (by omega)]
  unfold FP.Core.roundRatio
  rw [if_pos rfl]
  decide +kernel
/-- the class's bits, of a number of the format -/
theorem fBit {e t : Nat} (he : e < 255) (ht : t < 8388608) : nI e <<< ((23 : Int32) &&& 31) ||| nI t = nI (e * 8388608 + t) := by
  rw [pk_shlN (n := e) ((23 : Int32) &&& 31) 23 (by decide) (by omega)]
  apply Int32.toBitVec_inj.1
  show BitVec.ofNat 32 (e * 2 ^ 23) ||| BitVec.ofNat 32 t = BitVec.ofNat 32 (e * 8388608 + t)
  have h : BitVec.ofNat 32 (e * 2 ^ 23) ||| BitVec.ofNat 32 t = BitVec.ofNat 32 (e * 2 ^ 23 ||| t) := by
    apply BitVec.eq_of_getLsbD_eq
    intro i hi
    simp [hi]
  rw [h, show e * 8388608 + t = 2 ^ 23 * e + t from by omega, Nat.two_pow_add_eq_or_of_lt (by omega), Nat.mul_comm]
theorem fNaN_F {e t : Nat} (he : e < 255) (h1 : 1 ≤ e) (ht : t < 8388608) : fBits (fF e t) = nI (e * 8388608 + t) := by
  unfold fBits fNaN
  rw [if_pos (by rw [if_pos (by rw [fCmpV (fF_dec h1 he ht) (fF_dec h1 he ht) (fIu (j := 0) (by omega)) (fIu (j := 0) (by omega)), if_neg (Nat.lt_irrefl _), if_pos rfl])])]
  rfl
