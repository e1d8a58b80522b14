/-! the rows of what is made anew -/
def jSt0 : U := fun r _ => if r = 0 then 4 else 0
def jLn0 : U := fun r k => if r = 0 then 4 else if r = 10 then sFst k else 0
def jTx0 : U := fun _ _ => 0
def jZ0 : Nat → U := fun k => if k < 5 then jLn0 else if k = 5 then jSt0 else fun _ _ => 0
def cHN (cI cL : ClassId) (Q : Nat → Nat → Nat) : va_W := List.flatten [cHi cL Q (fun _ _ => 0), cLn cI (Q 1) jLn0, cLn cI (Q 2) jLn0, cLn cI (Q 3) jLn0, cLn cI (Q 4) jLn0]
def jMd1 : U := fun r => if r = 0 then upd (upd (upd (upd (upd (fun _ => 0) 0 4) 5 20000) 7 1000) 8 4000) 9 9000 else fun _ => 0
def jMd0 : U := va_up jMd1 0 (mBeg (jMd1 0) 4)
section YQ
variable {D : va_G} {cI cC cL : ClassId} {A : Nat → Prop} {s : State} {H : Heap} {locs : List Loc}
theorem y_W_eq {ws ws' : va_W} (hw : y_W D cI cC cL A s H locs ws) (h : ws = ws') : y_W D cI cC cL A s H locs ws' := h ▸ hw
theorem y_congQ {ws ws' : va_W} (hw : y_W D cI cC cL A s H locs ws) (q0 : Nat) {a : Nat} {cA : ClassId} {n : Nat} {f : Nat → Option Nat} (g : Nat → Option Nat) (ha : ws[q0]? = some (a, .inl (cA, n, .inr (.inr (.inr (.inr f)))))) (h : ∀ k, k < n → f k = g k) (hw' : ws.set q0 (a, .inl (cA, n, .inr (.inr (.inr (.inr g))))) = ws') : y_W D cI cC cL A s H locs ws' := by
  obtain ⟨hK, hP, hD, hS, hA⟩ := hw
  subst hw'
  refine ⟨hK, hP.set hD ha ?_ (fun _ _ => rfl), hD.set ha, hS, hA⟩
  show H[a]? = some (vp_cell _ _)
  have e : vp_cell cA (n, .inr (.inr (.inr (.inr f)))) = vp_cell cA (n, .inr (.inr (.inr (.inr g)))) := by
    rw [vp_cell_q, vp_cell_q]
    unfold arrV
    congr 1
    apply Array.ext
    · simp
    · intro i h1 h2
      simp only [Array.size_ofFn] at h1
      simp [h i h1]
  rw [← e]
  exact hP q0 _ ha
theorem y_cWN {o ln hn tx tr : va_W} (hw : y_W D cI cC cL A s H locs ((((o ++ ln) ++ hn) ++ tx) ++ tr)) : y_W D cI cC cL A s H locs (o ++ (hn ++ (ln ++ (tx ++ tr)))) := by
  have h1 : y_W D cI cC cL A s H locs (o ++ (ln ++ (hn ++ (tx ++ tr)))) := y_W_eq hw (by simp only [List.append_assoc])
  have h2 := h1.mid
  have h3 : y_W D cI cC cL A s H locs (ln ++ ((o ++ hn) ++ (tx ++ tr))) := y_W_eq h2 (by simp only [List.append_assoc])
  exact y_W_eq h3.mid (by simp only [List.append_assoc])
end YQ
