/-! the class's texts by hand, and what would be: echo, emptyAfter, worn, safe (the trial component is 5) -/
def jTypR (x : Int32) (L : Nat) : Int32 := if ¬ jOut x 32 126 = 0 then -2000001 else if L < 60 then nI (L + 1) else -2000003
def jTypU (Z : Nat → U) (x : Int32) (L : Nat) : Nat → U := if ¬ jOut x 32 126 = 0 then Z else if L < 60 then va_up Z 6 (tApp (Z 6) L x) else Z
theorem nI_nar {a : Nat} (h : a < 65536) : vp_nar .char (nI a) = nI a := by
  rw [vp_nar_char]
  apply Int32.toInt.inj
  have h1 : (nI a).toUInt32.toUInt16.toUInt32.toNat = a := by
    have : (nI a).toUInt32.toNat = a := by
      show (Int32.ofNat a).toUInt32.toNat = a
      rw [show Int32.ofNat a = (UInt32.ofNat a).toInt32 from rfl]
      show (UInt32.ofNat a).toNat = a
      rw [UInt32.toNat_ofNat']
      omega
    rw [UInt16.toNat_toUInt32, UInt32.toNat_toUInt16, this]
    omega
  have h2 : (nI a).toUInt32.toUInt16.toUInt32 = UInt32.ofNat a := by
    apply UInt32.toNat.inj
    rw [h1, UInt32.toNat_ofNat']
    omega
  rw [h2]
  rfl
theorem nI_i2c {a : Nat} (h : a < 65536) : ((nI a).toUInt32 % 65536).toInt32 = nI a := by
  have h1 : (nI a).toUInt32 % 65536 = UInt32.ofNat a := by
    apply UInt32.toNat.inj
    have : (nI a).toUInt32.toNat = a := by
      show (Int32.ofNat a).toUInt32.toNat = a
      rw [show Int32.ofNat a = (UInt32.ofNat a).toInt32 from rfl]
      show (UInt32.ofNat a).toNat = a
      rw [UInt32.toNat_ofNat']
      omega
    rw [UInt32.toNat_mod, this, UInt32.toNat_ofNat']
    show a % 65536 = _
    omega
  rw [h1]
  rfl
/-- echo: the trial behind it, the output -/
def jEc (u w : U) (x : Int32) (n a : Nat) : U × Int32 := jLone x (u 10 0) (stMix u w) n a
def jEchR (Z : Nat → U) (x y : Int32) (n : Nat) : Int32 := if ¬ jOut x 0 10000 = 0 then -2000001 else if ¬ jOut y 1 40 = 0 then -2000001 else (jEc (Z 0) (Z 5) x n y.toNatClampNeg).2
def jEchU (Z : Nat → U) (x y : Int32) (n : Nat) : Nat → U := if ¬ jOut x 0 10000 = 0 then Z else if ¬ jOut y 1 40 = 0 then Z else va_up Z 5 (jEc (Z 0) (Z 5) x n y.toNatClampNeg).1
/-- emptyAfter: fuel, how many yet -/
def jEA (cap : Int32) (n : Nat) : Nat → Nat → U → U × Int32
  | 0, _, w => (w, -2000004)
  | g + 1, k, w => if jSum (w 1) n = 0 then (w, nI k) else jEA cap n g (k + 1) (jHO 0 cap w n).1
/-- the trial without the shares of a stage -/
def jOW (u w : U) (n k : Nat) : U × Int32 := jLone 10000 (u 10 0) (jCS (stMix u w) k 0 0) n n
def jWn (u w : U) (n : Nat) : Nat → U × Int32 × Int32
  | 0 => ((jOW u w n 0).1, 0, (jOW u w n 0).2)
  | k + 1 => ((jOW u (jWn u w n k).1 n (k + 1)).1, if (jOW u (jWn u w n k).1 n (k + 1)).2 ≤ (jWn u w n k).2.2 then (jWn u w n k).2.1 else nI (k + 1), if (jOW u (jWn u w n k).1 n (k + 1)).2 ≤ (jWn u w n k).2.2 then (jWn u w n k).2.2 else (jOW u (jWn u w n k).1 n (k + 1)).2)
def jWoR (Z : Nat → U) (x : Int32) (n : Nat) : Int32 := if ¬ jOut x 0 1 = 0 then -2000001 else if ¬ x = 0 then (jWn (Z 0) (Z 5) n (n - 1)).2.2 else (jWn (Z 0) (Z 5) n (n - 1)).2.1
def jWoU (Z : Nat → U) (x : Int32) (n : Nat) : Nat → U := if ¬ jOut x 0 1 = 0 then Z else va_up Z 5 (jWn (Z 0) (Z 5) n (n - 1)).1
/-- safe: fuel, the step, what is found yet -/
def jSf (cap : Int32) (n : Nat) : Nat → Nat → Nat → U → U × Nat
  | 0, _, f, w => (w, f)
  | g + 1, s, f, w => if s = 0 then (w, f) else if f + s ≤ 10000 then (if jHd (nI (f + s)) cap (jEm w) n 40 7 0 = 0 then jSf cap n g (s / 2) (f + s) (jHd (nI (f + s)) cap (jEm w) n 40) else jSf cap n g (s / 2) f (jHd (nI (f + s)) cap (jEm w) n 40)) else jSf cap n g (s / 2) f w
theorem va_up_o {Z : Nat → U} {k j : Nat} {w : U} (h : j ≠ k) : va_up Z k w j = Z j := if_neg h
theorem va_up_s {Z : Nat → U} {k : Nat} {w : U} : va_up Z k w k = w := if_pos rfl
theorem jEA_e {cap : Int32} {n g k : Nat} {w : U} (hg : 0 < g) (h : jSum (w 1) n = 0) : jEA cap n g k w = (w, nI k) := by
  obtain ⟨j, rfl⟩ : ∃ j, g = j + 1 := ⟨g - 1, by omega⟩
  rw [jEA, if_pos h]
theorem jEA_s {cap : Int32} {n g k : Nat} {w : U} (hg : 0 < g) (h : ¬ jSum (w 1) n = 0) : jEA cap n g k w = jEA cap n (g - 1) (k + 1) (jHO 0 cap w n).1 := by
  obtain ⟨j, rfl⟩ : ∃ j, g = j + 1 := ⟨g - 1, by omega⟩
  rw [jEA, if_neg h]
  rfl
theorem jSf_e {cap : Int32} {n g f : Nat} {w : U} : jSf cap n g 0 f w = (w, f) := by
  cases g with
  | zero => rfl
  | succ g => rw [jSf, if_pos rfl]
theorem jSf_x {cap : Int32} {n g s f : Nat} {w : U} (hg : 0 < g) (hs : ¬ s = 0) (h : ¬ f + s ≤ 10000) : jSf cap n g s f w = jSf cap n (g - 1) (s / 2) f w := by
  obtain ⟨j, rfl⟩ : ∃ j, g = j + 1 := ⟨g - 1, by omega⟩
  rw [jSf, if_neg hs, if_neg h]
  rfl
theorem jSf_y {cap : Int32} {n g s f : Nat} {w : U} (hg : 0 < g) (hs : ¬ s = 0) (h : f + s ≤ 10000) (hh : jHd (nI (f + s)) cap (jEm w) n 40 7 0 = 0) : jSf cap n g s f w = jSf cap n (g - 1) (s / 2) (f + s) (jHd (nI (f + s)) cap (jEm w) n 40) := by
  obtain ⟨j, rfl⟩ : ∃ j, g = j + 1 := ⟨g - 1, by omega⟩
  rw [jSf, if_neg hs, if_pos h, if_pos hh]
  rfl
theorem jSf_n {cap : Int32} {n g s f : Nat} {w : U} (hg : 0 < g) (hs : ¬ s = 0) (h : f + s ≤ 10000) (hh : ¬ jHd (nI (f + s)) cap (jEm w) n 40 7 0 = 0) : jSf cap n g s f w = jSf cap n (g - 1) (s / 2) f (jHd (nI (f + s)) cap (jEm w) n 40) := by
  obtain ⟨j, rfl⟩ : ∃ j, g = j + 1 := ⟨g - 1, by omega⟩
  rw [jSf, if_neg hs, if_pos h, if_neg hh]
  rfl
theorem y_10f {P : Prop} {d : Decidable P} (h : (@ite Int32 P d 1 0) = 0) : ¬ P := by
  intro hp
  rw [if_pos hp] at h
  exact absurd h (by decide)
theorem y_10t {P : Prop} {d : Decidable P} (h : ¬ (@ite Int32 P d 1 0) = 0) : P := by
  by_cases hp : P
  · exact hp
  · rw [if_neg hp] at h
    exact absurd rfl h
/-- the cells that a trial without shares needs -/
def cOW (cI : ClassId) (Q : Nat → Nat → Nat) (Z : Nat → U) (w : U) : va_W := List.flatten [cCl Q, cLo cI (Q 0) (Z 0), cSt cI (Q 0) (Z 0), cSt cI (Q 5) w]
