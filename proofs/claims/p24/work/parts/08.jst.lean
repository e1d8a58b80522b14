/-! what the methods of the stages do, as functions of rows (0 many, 1 charge, 2 stays, 3 leaks, 4 given, 5 came out, 6 leaked, 7 spilled) -/
def jMin (x y : Int32) : Int32 := if y < x then y else x
def jHas (x n : Int32) : Int32 := if x < 0 then 0 else if n ≤ x then 0 else 1
theorem jHas_01 {x n : Int32} : jHas x n = 0 ∨ jHas x n = 1 := by
  unfold jHas
  by_cases h : x < 0
  · rw [if_pos h]; exact Or.inl rfl
  · rw [if_neg h]; by_cases h2 : n ≤ x
    · rw [if_pos h2]; exact Or.inl rfl
    · rw [if_neg h2]; exact Or.inr rfl
def jStay (u : U) (k : Nat) : Int32 := u 1 k * u 2 k / 1000
def jLeak (u : U) (k : Nat) : Int32 := (u 1 k - jStay u k) * u 3 k / 1000
def jLeav (u : U) (k : Nat) : Int32 := u 1 k - jStay u k - jLeak u k
/-- one stage of a hand-over: u the rows, x what comes -/
def jHS (cap : Int32) (w : U × Int32) (k : Nat) : U × Int32 :=
  (va_up (va_up (va_up w.1 1 (upd (w.1 1) k (jMin (jStay w.1 k + w.2) cap))) 6 (fun _ => w.1 6 0 + jLeak w.1 k)) 7 (fun _ => w.1 7 0 + ((jStay w.1 k + w.2) - jMin (jStay w.1 k + w.2) cap)), w.1 1 k - jStay w.1 k - jLeak w.1 k)
def jHL (x cap : Int32) (u : U) : Nat → U × Int32
  | 0 => (u, x)
  | k + 1 => jHS cap (jHL x cap u k) k
/-- a hand-over of n stages: the rows, the output -/
def jHO (x cap : Int32) (u : U) (n : Nat) : U × Int32 :=
  (va_up (va_up (jHL x cap u n).1 4 (fun _ => (jHL x cap u n).1 4 0 + x)) 5 (fun _ => (jHL x cap u n).1 5 0 + (jHL x cap u n).2), (jHL x cap u n).2)
def jEm (u : U) : U := va_up (va_up (va_up (va_up (va_up u 1 (fun _ => 0)) 4 (fun _ => 0)) 5 (fun _ => 0)) 6 (fun _ => 0)) 7 (fun _ => 0)
def jIt (cap : Int32) (n : Nat) (w : U × Int32) : Nat → U × Int32
  | 0 => w
  | k + 1 => jHO 0 cap (jIt cap n w k).1 n
def jLone (x cap : Int32) (u : U) (n k : Nat) : U × Int32 := jIt cap n (jHO x cap (jEm u) n) k
def jHd (x cap : Int32) (u : U) (n : Nat) : Nat → U
  | 0 => u
  | k + 1 => if jHd x cap u n k 7 0 = 0 then (jHO x cap (jHd x cap u n k) n).1 else jHd x cap u n k
def jCS (u : U) (k : Nat) (x y : Int32) : U := va_up (va_up u 2 (upd (u 2) k x)) 3 (upd (u 3) k y)
/-- the shares of the stages from a on are 0, i of them -/
def jCM (u : U) (a : Nat) : Nat → U
  | 0 => u
  | i + 1 => jCS (jCM u a i) (a + i) 0 0
def jSum (f : Nat → Int32) : Nat → Int32
  | 0 => 0
  | k + 1 => jSum f k + f k
def jFill (f : Nat → Int32) (x : Int32) : Nat → (Nat → Int32)
  | 0 => f
  | k + 1 => upd (jFill f x k) k x
theorem jFill_at (f : Nat → Int32) (x : Int32) : ∀ (n k : Nat), k < n → jFill f x n k = x
  | 0, k, h => absurd h (Nat.not_lt_zero k)
  | n + 1, k, h => by
    show upd (jFill f x n) n x k = x
    unfold upd
    by_cases hk : k = n
    · rw [if_pos hk]
    · rw [if_neg hk]
      exact jFill_at f x n k (by omega)
theorem jHL_0 (x cap : Int32) (u : U) (r : Nat) (h1 : r ≠ 1) (h6 : r ≠ 6) (h7 : r ≠ 7) : ∀ k, (jHL x cap u k).1 r = u r
  | 0 => rfl
  | k + 1 => by
    show (jHS cap (jHL x cap u k) k).1 r = u r
    unfold jHS
    simp only [va_up, if_neg h1, if_neg h6, if_neg h7]
    exact jHL_0 x cap u r h1 h6 h7 k
theorem jHO_0 (x cap : Int32) (u : U) (n r : Nat) (h1 : r ≠ 1) (h4 : r ≠ 4) (h5 : r ≠ 5) (h6 : r ≠ 6) (h7 : r ≠ 7) : (jHO x cap u n).1 r = u r := by
  unfold jHO
  simp only [va_up, if_neg h4, if_neg h5]
  exact jHL_0 x cap u r h1 h6 h7 n
theorem jHd_on (x cap : Int32) (u : U) (n i : Nat) (h : ¬ jHd x cap u n i 7 0 = 0) : ∀ k, jHd x cap u n (i + k) = jHd x cap u n i
  | 0 => rfl
  | k + 1 => by
    have e := jHd_on x cap u n i h k
    show (if jHd x cap u n (i + k) 7 0 = 0 then (jHO x cap (jHd x cap u n (i + k)) n).1 else jHd x cap u n (i + k)) = _
    rw [e, if_neg h]
