/-! a method of the program at one of its blocks -/
def mm_At (d y : Nat) (Q : mm_Q) : mm_J := mm_Lf (fun J => (px_P y).2.2 J (mm_Ev px_P d) Q)
abbrev Ev : Nat → mm_C := mm_Ev px_P
theorem at_step {d y : Nat} {Q : mm_Q} {b : mm_J → mm_C → mm_Q → mm_J} {nL : Nat} {B : Nat × Nat} (hP : px_P y = (nL, B, b)) {t : Nat} {lv : mm_L} {st : List Value} {μ : mm_M} {κ : Nat × Nat} (h : b (mm_At d y Q) (Ev d) Q t lv st μ κ) : mm_At d y Q t lv st μ κ := by
  refine mm_Lf_step ?_
  show (px_P y).2.2 (mm_At d y Q) (Ev d) Q t lv st μ κ
  rw [hP]
  exact h
theorem ev_step {d y : Nat} {Q : mm_Q} {b : mm_J → mm_C → mm_Q → mm_J} {nL : Nat} {B : Nat × Nat} (hP : px_P y = (nL, B, b)) {as : List Value} {μ : mm_M} (h0 : mm_sum as ≤ nL) (h : b (mm_At d y Q) (Ev d) Q 0 (mm_en as nL) [] μ (0, 0)) : Ev (d + 1) y as μ Q := by
  refine mm_Ev_step (by rw [hP]; exact h0) ?_
  show (px_P y).2.2 (mm_At d y Q) (Ev d) Q 0 (mm_en as (px_P y).1) [] μ (0, 0)
  rw [hP]
  exact h
