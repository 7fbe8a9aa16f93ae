/-! text constants, a static that is only carried, returns of narrow types, throws -/
def mm_bad : mm_K := fun _ _ _ _ => False
def mm_pop (k : mm_K) : mm_K := fun lv st μ κ => match st with
  | v :: st => v.category = 1 ∧ k lv st μ κ
  | _ => False
/-- a static that holds a reference or null -/
def mm_zq (k : mm_K) : mm_K := fun lv st μ κ => k lv (.ref (mm_ext + 50) :: st) μ κ ∧ k lv (.null :: st) μ κ
/-- the texts that are spelled: and or not true false -/
def mm_sl5 : List Nat := [3, 2, 3, 4, 5]
def mm_sb5 : List (List Int32) := [[97, 110, 100], [111, 114], [110, 111, 116], [116, 114, 117, 101], [102, 97, 108, 115, 101]]
def mm_sgv (k : mm_K) : mm_K := fun lv st μ κ => match st with
  | .ref a :: st => ∃ j, j < 5 ∧ a = mm_ext + (j + 1) ∧ k lv (.ref (mm_ext + (j + 101)) :: st) μ κ
  | _ => False
def mm_sgc (k : mm_K) : mm_K := fun lv st μ κ => match st with
  | .ref a :: st => ∃ j, j < 5 ∧ a = mm_ext + (j + 1) ∧ k lv (.int 0 :: st) μ κ
  | _ => False
def mm_sln (k : mm_K) : mm_K := fun lv st μ κ => match st with
  | .ref a :: st => ∃ j, j < 5 ∧ a = mm_ext + (j + 101) ∧ k lv (.int (Int32.ofNat (mm_sl5.getD j 0)) :: st) μ κ
  | _ => False
def mm_sbl (k : mm_K) : mm_K := fun lv st μ κ => match st with
  | .int i :: .ref a :: st => ∃ j, j < 5 ∧ a = mm_ext + (j + 101) ∧ vp_in i (mm_sl5.getD j 0) ∧ k lv (.int ((mm_sb5.getD j []).getD i.toNatClampNeg 0) :: st) μ κ
  | _ => False
/-- a call of a text's own method -/
def mm_css (y na : Nat) (C : mm_C) (k : mm_K) : mm_K := fun lv st μ κ => mm_pa na [] st (fun as st => (∃ j As, j < 5 ∧ as = .ref (mm_ext + (j + 1)) :: As) ∧ mm_sum st ≤ 8 ∧ C y as μ (fun v μ => k lv (mm_ps v st) μ κ))
def mm_rtn (ty : FieldType) (Q : mm_Q) : mm_K := fun _ st μ _ => match st with
  | [.int v] => narrow ty (.int v) = .int v ∧ Q (some (.int v)) μ
  | _ => False
/-- a throw of an exception of kind n: told to Q as a value that no method returns -/
def mm_thr (n : Nat) (Q : mm_Q) : mm_K := fun _ st μ κ => mm_sum st ≤ 8 ∧ Q (some (.retAddr n)) μ
