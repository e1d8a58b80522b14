/-! mending: the class's and the model's alike -/
theorem i_bm {x : Int} (h1 : -2147483648 ≤ x) (h2 : x < 2147483648) : x.bmod (2 ^ 32) = x := by
  rw [Int.bmod_def]
  split <;> omega
theorem i_bm64 {x : Int} (h1 : -2147483648 ≤ x) (h2 : x < 2147483648) : x.bmod (2 ^ 64) = x := by
  rw [Int.bmod_def]
  split <;> omega
theorem i_fd {A B q : Int} (hB : 0 < B) (h1 : q * B ≤ A) (h2 : A < q * B + B) : A / B = q := by
  have g1 : q ≤ A / B := Int.le_ediv_of_mul_le hB h1
  have g2 : A / B < q + 1 := Int.ediv_lt_of_lt_mul hB (by rw [Int.add_mul, Int.one_mul]; exact h2)
  omega
theorem i_sg {a : Int32} : a.toBitVec.msb = decide (a.toInt < 0) := BitVec.msb_eq_toInt
theorem i_xs {a b : Int32} (ha : a.toInt < 0) (hb : 0 ≤ b.toInt) : ¬ 0 ≤ a ^^^ b := by
  intro h
  have h1 : 0 ≤ (a ^^^ b).toInt := y_leI.mp h
  have h2 : (a ^^^ b).toBitVec.msb = true := by
    show (a.toBitVec ^^^ b.toBitVec).msb = true
    rw [BitVec.msb_xor, i_sg, i_sg, decide_eq_true ha, decide_eq_false (by omega)]
    rfl
  rw [i_sg] at h2
  have := of_decide_eq_true h2
  omega
/-- a quotient, rounded down: ints -/
theorem jFD_v {a b : Int32} {A : Int} {B : Nat} (ha : a.toInt = A) (h1 : -1000000000 ≤ A) (h2 : A ≤ 1000000000) (hb : b = nI B) (hB : 1 ≤ B) (hB2 : B ≤ 1000000) : (jFD a b).toInt = A / (B : Int) := by
  have hbi : b.toInt = (B : Int) := by rw [hb]; exact nI_toInt (by omega)
  rcases Int.lt_or_le A 0 with hA | hA
  · obtain ⟨N, rfl⟩ : ∃ N : Nat, A = -(N : Int) := ⟨A.natAbs, by omega⟩
    have hm := Nat.div_add_mod N B
    have hml := Nat.mod_lt N (show 0 < B by omega)
    have hdl : N / B ≤ N := Nat.div_le_self N B
    have hBm : B * (N / B) ≤ N := by omega
    generalize hD : N / B = d at hm hdl hBm
    generalize hR : N % B = r at hm hml
    have hq : (a / b).toInt = -(d : Int) := by
      rw [Int32.toInt_div, ha, hbi, Int.neg_tdiv, ← Int.ofNat_tdiv, hD]
      exact i_bm (by omega) (by omega)
    have hqb : -(d : Int) * (B : Int) = -((B * d : Nat) : Int) := by
      rw [Int.neg_mul, Int.natCast_mul, Int.mul_comm]
    have hqm : (a / b * b).toInt = -((B * d : Nat) : Int) := by
      rw [Int32.toInt_mul, hq, hbi, hqb]
      exact i_bm (by omega) (by omega)
    unfold jFD
    rw [if_neg (i_xs (by rw [ha]; exact hA) (by rw [hbi]; omega))]
    by_cases he : a / b * b = a
    · rw [if_pos he, hq]
      have : (a / b * b).toInt = a.toInt := by rw [he]
      rw [hqm, ha] at this
      exact (i_fd (by omega) (by rw [hqb]; omega) (by rw [hqb]; omega)).symm
    · rw [if_neg he, Int32.toInt_sub, hq, show (1 : Int32).toInt = 1 from rfl, i_bm (by omega) (by omega)]
      have hr : r ≠ 0 := by
        intro z
        apply he
        apply Int32.toInt.inj
        rw [hqm, ha]
        omega
      refine (i_fd (by omega) ?_ ?_).symm
      · rw [Int.sub_mul, hqb, Int.one_mul]; omega
      · rw [Int.sub_mul, hqb, Int.one_mul]; omega
  · obtain ⟨N, rfl⟩ : ∃ N : Nat, A = (N : Int) := ⟨A.natAbs, by omega⟩
    have ea : a = nI N := Int32.toInt.inj (by rw [ha, nI_toInt (by omega)])
    have hx : 0 ≤ a ^^^ b := by
      rw [ea, hb]
      have e : nI N ^^^ nI B = nI (N ^^^ B) := by
        apply Int32.toBitVec_inj.1
        show BitVec.ofNat 32 N ^^^ BitVec.ofNat 32 B = BitVec.ofNat 32 (N ^^^ B)
        apply BitVec.eq_of_getLsbD_eq
        intro i hi
        simp [hi]
      rw [e]
      exact nI_pos' (Nat.xor_lt_two_pow (by omega) (by omega))
    unfold jFD
    rw [if_pos hx, ea, hb, pk_div (by omega) (by omega) (by omega), nI_toInt (Nat.lt_of_le_of_lt (Nat.div_le_self N B) (by omega))]
    rfl
theorem lg_le {x y : Int64} : lg_cmp x y ≤ 0 ↔ x.toInt ≤ y.toInt := by
  unfold lg_cmp
  by_cases h1 : x > y
  · rw [if_pos h1]
    have := Int64.lt_iff_toInt_lt.mp h1
    constructor
    · intro z; exact absurd z (by decide)
    · intro z; omega
  · rw [if_neg h1]
    have h2 : x.toInt ≤ y.toInt := by
      have : ¬ y.toInt < x.toInt := fun z => h1 (Int64.lt_iff_toInt_lt.mpr z)
      omega
    constructor
    · intro _; exact h2
    · intro _; split <;> decide
/-- a quotient, rounded down: longs -/
theorem mDn_v {a b : Int64} {A : Int} {B : Nat} (ha : a.toInt = A) (h1 : -1000000000 ≤ A) (h2 : A ≤ 1000000000) (hb : b.toInt = (B : Int)) (hB : 1 ≤ B) (hB2 : B ≤ 1000000) : (mDn a b).toInt = A / (B : Int) := by
  rcases Int.lt_or_le A 0 with hA | hA
  · obtain ⟨N, rfl⟩ : ∃ N : Nat, A = -(N : Int) := ⟨A.natAbs, by omega⟩
    have hm := Nat.div_add_mod N B
    have hml := Nat.mod_lt N (show 0 < B by omega)
    have hdl : N / B ≤ N := Nat.div_le_self N B
    have hBm : B * (N / B) ≤ N := by omega
    generalize hD : N / B = d at hm hdl hBm
    generalize hR : N % B = r at hm hml
    have hq : (a / b).toInt = -(d : Int) := by
      rw [Int64.toInt_div, ha, hb, Int.neg_tdiv, ← Int.ofNat_tdiv, hD]
      exact i_bm64 (by omega) (by omega)
    have hqb : -(d : Int) * (B : Int) = -((B * d : Nat) : Int) := by
      rw [Int.neg_mul, Int.natCast_mul, Int.mul_comm]
    have hqm : (a / b * b).toInt = -((B * d : Nat) : Int) := by
      rw [Int64.toInt_mul, hq, hb, hqb]
      exact i_bm64 (by omega) (by omega)
    unfold mDn
    by_cases he : lg_cmp (a / b * b) a ≤ 0
    · rw [if_pos he, hq]
      have he2 := lg_le.mp he
      rw [hqm, ha] at he2
      exact (i_fd (by omega) (by rw [hqb]; omega) (by rw [hqb]; omega)).symm
    · rw [if_neg he, Int64.toInt_sub, hq, show (1 : Int64).toInt = 1 from rfl, i_bm64 (by omega) (by omega)]
      have he2 : ¬ (a / b * b).toInt ≤ a.toInt := fun z => he (lg_le.mpr z)
      rw [hqm, ha] at he2
      refine (i_fd (by omega) ?_ ?_).symm
      · rw [Int.sub_mul, hqb, Int.one_mul]; omega
      · rw [Int.sub_mul, hqb, Int.one_mul]; omega
  · obtain ⟨N, rfl⟩ : ∃ N : Nat, A = (N : Int) := ⟨A.natAbs, by omega⟩
    have hm := Nat.div_add_mod N B
    have hml := Nat.mod_lt N (show 0 < B by omega)
    have hdl : N / B ≤ N := Nat.div_le_self N B
    have hBm : B * (N / B) ≤ N := by omega
    generalize hD : N / B = d at hm hdl hBm
    generalize hR : N % B = r at hm hml
    have hq : (a / b).toInt = (d : Int) := by
      rw [Int64.toInt_div, ha, hb, ← Int.ofNat_tdiv, hD]
      exact i_bm64 (by omega) (by omega)
    have hqb : (d : Int) * (B : Int) = ((B * d : Nat) : Int) := by rw [Int.natCast_mul, Int.mul_comm]
    have hqm : (a / b * b).toInt = ((B * d : Nat) : Int) := by
      rw [Int64.toInt_mul, hq, hb, hqb]
      exact i_bm64 (by omega) (by omega)
    unfold mDn
    rw [if_pos (lg_le.mpr (by rw [hqm, ha]; omega)), hq]
    exact (i_fd (by omega) (by rw [hqb]; omega) (by rw [hqb]; omega)).symm
