/-! a method of the program at one of its blocks -/
def mm_At (d y : Nat) (Q : mm_Q) : mm_J := mm_Lf (fun J => (px_P y).2.2 J (mm_Ev px_P d) Q)
abbrev Ev : Nat → mm_C := mm_Ev px_P
theorem at_step {d y : Nat} {Q : mm_Q} {b : mm_J → mm_C → mm_Q → mm_J} {nL : Nat} {B : Nat × Nat} (hP : px_P y = (nL, B, b)) {t : Nat} {lv : mm_L} {st : List Value} {μ : mm_M} {κ : Nat × Nat} (h : b (mm_At d y Q) (Ev d) Q t lv st μ κ) : mm_At d y Q t lv st μ κ := by
  refine mm_Lf_step ?_
  show (px_P y).2.2 (mm_At d y Q) (Ev d) Q t lv st μ κ
  rw [hP]
  exact h
theorem ev_step {d y : Nat} {Q : mm_Q} {b : mm_J → mm_C → mm_Q → mm_J} {nL : Nat} {B : Nat × Nat} (hP : px_P y = (nL, B, b)) {as : List Value} {μ : mm_M} (h0 : mm_sum as ≤ nL) (h : b (mm_At d y Q) (Ev d) Q 0 (mm_en as nL) [] μ (0, 0)) : Ev (d + 1) y as μ Q := by
  refine mm_Ev_step (by rw [hP]; exact h0) ?_
  show (px_P y).2.2 (mm_At d y Q) (Ev d) Q 0 (mm_en as (px_P y).1) [] μ (0, 0)
  rw [hP]
  exact h
/-! the words, applied: what each does to a state -/
def mm_ldim (o : Option Value) (k : mm_K) : mm_K := fun lv st μ κ => match o with
  | some (.int x) => k lv (.int x :: st) μ κ
  | _ => False
theorem e_ldi {i : Nat} {k : mm_K} {lv : mm_L} {st : List Value} {μ : mm_M} {κ : Nat × Nat} : mm_ldi i k lv st μ κ = mm_ldim (mm_lg lv i) k lv st μ κ := rfl
theorem e_ldim {x} {k : mm_K} {lv : mm_L} {st : List Value} {μ : mm_M} {κ : Nat × Nat} : mm_ldim (some (.int x)) k lv st μ κ = k lv (.int x :: st) μ κ := rfl
def mm_ldlm (o : Option Value) (k : mm_K) : mm_K := fun lv st μ κ => match o with
  | some (.long x) => k lv (.long x :: st) μ κ
  | _ => False
theorem e_ldl {i : Nat} {k : mm_K} {lv : mm_L} {st : List Value} {μ : mm_M} {κ : Nat × Nat} : mm_ldl i k lv st μ κ = mm_ldlm (mm_lg lv i) k lv st μ κ := rfl
theorem e_ldlm {x} {k : mm_K} {lv : mm_L} {st : List Value} {μ : mm_M} {κ : Nat × Nat} : mm_ldlm (some (.long x)) k lv st μ κ = k lv (.long x :: st) μ κ := rfl
def mm_ldam (o : Option Value) (k : mm_K) : mm_K := fun lv st μ κ => match o with
  | some (.ref x) => k lv (.ref x :: st) μ κ
  | _ => False
theorem e_lda {i : Nat} {k : mm_K} {lv : mm_L} {st : List Value} {μ : mm_M} {κ : Nat × Nat} : mm_lda i k lv st μ κ = mm_ldam (mm_lg lv i) k lv st μ κ := rfl
theorem e_ldam {x} {k : mm_K} {lv : mm_L} {st : List Value} {μ : mm_M} {κ : Nat × Nat} : mm_ldam (some (.ref x)) k lv st μ κ = k lv (.ref x :: st) μ κ := rfl
theorem e_sti {i : Nat} {x} {k : mm_K} {lv : mm_L} {st : List Value} {μ : mm_M} {κ : Nat × Nat} : mm_sti i k lv (.int x :: st) μ κ = (k (mm_s1 (.int x) lv i) st μ κ) := rfl
theorem e_stl {i : Nat} {x} {k : mm_K} {lv : mm_L} {st : List Value} {μ : mm_M} {κ : Nat × Nat} : mm_stl i k lv (.long x :: st) μ κ = (k (mm_s2 (.long x) lv i) st μ κ) := rfl
theorem e_sta {i : Nat} {x} {k : mm_K} {lv : mm_L} {st : List Value} {μ : mm_M} {κ : Nat × Nat} : mm_sta i k lv (.ref x :: st) μ κ = (k (mm_s1 (.ref x) lv i) st μ κ) := rfl
def mm_incm (o : Option Value) (i : Nat) (y : Int32) (k : mm_K) : mm_K := fun lv st μ κ => match o with
  | some (.int x) => k (mm_s1 (.int (x + y)) lv i) st μ κ
  | _ => False
theorem e_inc {i : Nat} {y : Int32} {k : mm_K} {lv : mm_L} {st : List Value} {μ : mm_M} {κ : Nat × Nat} : mm_inc i (.int y) k lv st μ κ = mm_incm (mm_lg lv i) i y k lv st μ κ := by unfold mm_inc mm_incm; split <;> simp_all
theorem e_incm {i : Nat} {x y : Int32} {k : mm_K} {lv : mm_L} {st : List Value} {μ : mm_M} {κ : Nat × Nat} : mm_incm (some (.int x)) i y k lv st μ κ = k (mm_s1 (.int (x + y)) lv i) st μ κ := rfl
theorem e_ii {f} {x y} {k : mm_K} {lv : mm_L} {st : List Value} {μ : mm_M} {κ : Nat × Nat} : mm_ii f k lv (.int y :: .int x :: st) μ κ = (k lv (.int (f x y) :: st) μ κ) := rfl
theorem e_ll {f} {x y} {k : mm_K} {lv : mm_L} {st : List Value} {μ : mm_M} {κ : Nat × Nat} : mm_ll f k lv (.long y :: .long x :: st) μ κ = (k lv (.long (f x y) :: st) μ κ) := rfl
theorem e_ld {f} {x y} {k : mm_K} {lv : mm_L} {st : List Value} {μ : mm_M} {κ : Nat × Nat} : mm_ld f k lv (.long y :: .long x :: st) μ κ = (¬ y = 0 ∧ k lv (.long (f x y) :: st) μ κ) := rfl
theorem e_ls {f} {x y} {k : mm_K} {lv : mm_L} {st : List Value} {μ : mm_M} {κ : Nat × Nat} : mm_ls f k lv (.int y :: .long x :: st) μ κ = (k lv (.long (f x y) :: st) μ κ) := rfl
theorem e_i1 {f} {x} {k : mm_K} {lv : mm_L} {st : List Value} {μ : mm_M} {κ : Nat × Nat} : mm_i1 f k lv (.int x :: st) μ κ = (k lv (.int (f x) :: st) μ κ) := rfl
theorem e_l1 {f} {x} {k : mm_K} {lv : mm_L} {st : List Value} {μ : mm_M} {κ : Nat × Nat} : mm_l1 f k lv (.long x :: st) μ κ = (k lv (.long (f x) :: st) μ κ) := rfl
theorem e_i2l {x} {k : mm_K} {lv : mm_L} {st : List Value} {μ : mm_M} {κ : Nat × Nat} : mm_i2l k lv (.int x :: st) μ κ = (k lv (.long x.toInt64 :: st) μ κ) := rfl
theorem e_l2i {x} {k : mm_K} {lv : mm_L} {st : List Value} {μ : mm_M} {κ : Nat × Nat} : mm_l2i k lv (.long x :: st) μ κ = (k lv (.int x.toInt32 :: st) μ κ) := rfl
theorem e_cmp {x y} {k : mm_K} {lv : mm_L} {st : List Value} {μ : mm_M} {κ : Nat × Nat} : mm_cmp k lv (.long y :: .long x :: st) μ κ = (k lv (.int (lg_cmp x y) :: st) μ κ) := rfl
theorem e_dupi {x} {k : mm_K} {lv : mm_L} {st : List Value} {μ : mm_M} {κ : Nat × Nat} : mm_dup k lv (.int x :: st) μ κ = k lv (.int x :: .int x :: st) μ κ := by simp [mm_dup, Value.category]
theorem e_dupr {x} {k : mm_K} {lv : mm_L} {st : List Value} {μ : mm_M} {κ : Nat × Nat} : mm_dup k lv (.ref x :: st) μ κ = k lv (.ref x :: .ref x :: st) μ κ := by simp [mm_dup, Value.category]
theorem e_dup2 {x y} {k : mm_K} {lv : mm_L} {st : List Value} {μ : mm_M} {κ : Nat × Nat} : mm_dup2 k lv (.int x :: .ref y :: st) μ κ = k lv (.int x :: .ref y :: .int x :: .ref y :: st) μ κ := by simp [mm_dup2, Value.category]
theorem e_if_eq {t : Nat} {J : mm_J} {x} {k : mm_K} {lv : mm_L} {st : List Value} {μ : mm_M} {κ : Nat × Nat} : mm_ifc .eq t J k lv (.int x :: st) μ κ = ((x = 0 → J t lv st μ κ) ∧ (¬ x = 0 → k lv st μ κ)) := rfl
theorem e_ic_eq {t : Nat} {J : mm_J} {x y} {k : mm_K} {lv : mm_L} {st : List Value} {μ : mm_M} {κ : Nat × Nat} : mm_icm .eq t J k lv (.int y :: .int x :: st) μ κ = ((x = y → J t lv st μ κ) ∧ (¬ x = y → k lv st μ κ)) := rfl
theorem e_if_ne {t : Nat} {J : mm_J} {x} {k : mm_K} {lv : mm_L} {st : List Value} {μ : mm_M} {κ : Nat × Nat} : mm_ifc .ne t J k lv (.int x :: st) μ κ = ((¬ x = 0 → J t lv st μ κ) ∧ (x = 0 → k lv st μ κ)) := rfl
theorem e_ic_ne {t : Nat} {J : mm_J} {x y} {k : mm_K} {lv : mm_L} {st : List Value} {μ : mm_M} {κ : Nat × Nat} : mm_icm .ne t J k lv (.int y :: .int x :: st) μ κ = ((¬ x = y → J t lv st μ κ) ∧ (x = y → k lv st μ κ)) := rfl
theorem e_if_lt {t : Nat} {J : mm_J} {x} {k : mm_K} {lv : mm_L} {st : List Value} {μ : mm_M} {κ : Nat × Nat} : mm_ifc .lt t J k lv (.int x :: st) μ κ = ((x < 0 → J t lv st μ κ) ∧ (¬ x < 0 → k lv st μ κ)) := rfl
theorem e_ic_lt {t : Nat} {J : mm_J} {x y} {k : mm_K} {lv : mm_L} {st : List Value} {μ : mm_M} {κ : Nat × Nat} : mm_icm .lt t J k lv (.int y :: .int x :: st) μ κ = ((x < y → J t lv st μ κ) ∧ (¬ x < y → k lv st μ κ)) := rfl
theorem e_if_ge {t : Nat} {J : mm_J} {x} {k : mm_K} {lv : mm_L} {st : List Value} {μ : mm_M} {κ : Nat × Nat} : mm_ifc .ge t J k lv (.int x :: st) μ κ = ((0 ≤ x → J t lv st μ κ) ∧ (¬ 0 ≤ x → k lv st μ κ)) := rfl
theorem e_ic_ge {t : Nat} {J : mm_J} {x y} {k : mm_K} {lv : mm_L} {st : List Value} {μ : mm_M} {κ : Nat × Nat} : mm_icm .ge t J k lv (.int y :: .int x :: st) μ κ = ((y ≤ x → J t lv st μ κ) ∧ (¬ y ≤ x → k lv st μ κ)) := rfl
theorem e_if_gt {t : Nat} {J : mm_J} {x} {k : mm_K} {lv : mm_L} {st : List Value} {μ : mm_M} {κ : Nat × Nat} : mm_ifc .gt t J k lv (.int x :: st) μ κ = ((0 < x → J t lv st μ κ) ∧ (¬ 0 < x → k lv st μ κ)) := rfl
theorem e_ic_gt {t : Nat} {J : mm_J} {x y} {k : mm_K} {lv : mm_L} {st : List Value} {μ : mm_M} {κ : Nat × Nat} : mm_icm .gt t J k lv (.int y :: .int x :: st) μ κ = ((y < x → J t lv st μ κ) ∧ (¬ y < x → k lv st μ κ)) := rfl
theorem e_if_le {t : Nat} {J : mm_J} {x} {k : mm_K} {lv : mm_L} {st : List Value} {μ : mm_M} {κ : Nat × Nat} : mm_ifc .le t J k lv (.int x :: st) μ κ = ((x ≤ 0 → J t lv st μ κ) ∧ (¬ x ≤ 0 → k lv st μ κ)) := rfl
theorem e_ic_le {t : Nat} {J : mm_J} {x y} {k : mm_K} {lv : mm_L} {st : List Value} {μ : mm_M} {κ : Nat × Nat} : mm_icm .le t J k lv (.int y :: .int x :: st) μ κ = ((x ≤ y → J t lv st μ κ) ∧ (¬ x ≤ y → k lv st μ κ)) := rfl
theorem e_tsw {J : mm_J} {lo : Int} {d : Nat} {ts : List Nat} {x} {lv : mm_L} {st : List Value} {μ : mm_M} {κ : Nat × Nat} : mm_tsw J lo (d :: ts) lv (.int x :: st) μ κ = (mm_sw J d x lo ts lv st μ κ) := rfl
theorem e_sw0 {J : mm_J} {lo : Int} {d : Nat} {x : Int32} {lv : mm_L} {st : List Value} {μ : mm_M} {κ : Nat × Nat} : mm_sw J d x lo [] lv st μ κ = (J d lv st μ κ) := rfl
theorem e_sw1 {J : mm_J} {lo : Int} {d t : Nat} {ts : List Nat} {x : Int32} {lv : mm_L} {st : List Value} {μ : mm_M} {κ : Nat × Nat} : mm_sw J d x lo (t :: ts) lv st μ κ = ((x.toInt = lo → J t lv st μ κ) ∧ (¬ x.toInt = lo → mm_sw J d x (lo + 1) ts lv st μ κ)) := rfl
theorem e_get2 {ci f a : Nat} {k : mm_K} {lv : mm_L} {st : List Value} {μ : mm_M} {κ : Nat × Nat} : mm_get [ci, f, 2] k lv (.ref a :: st) μ κ = (mm_z μ a = .inr ci ∧ ∃ b, mm_r μ a f = some b ∧ k lv (.ref b :: st) μ κ) := rfl
theorem e_get0 {ci f a : Nat} {k : mm_K} {lv : mm_L} {st : List Value} {μ : mm_M} {κ : Nat × Nat} : mm_get [ci, f, 0] k lv (.ref a :: st) μ κ = (mm_z μ a = .inr ci ∧ k lv (.int (mm_i μ a f) :: st) μ κ) := rfl
theorem e_get3 {ci f a : Nat} {k : mm_K} {lv : mm_L} {st : List Value} {μ : mm_M} {κ : Nat × Nat} : mm_get [ci, f, 3] k lv (.ref a :: st) μ κ = (mm_z μ a = .inr ci ∧ k lv (.int (mm_i μ a f) :: st) μ κ) := rfl
theorem e_put0 {ci f a : Nat} {v : Int32} {k : mm_K} {lv : mm_L} {st : List Value} {μ : mm_M} {κ : Nat × Nat} : mm_put [ci, f, 0] k lv (.int v :: .ref a :: st) μ κ = (mm_z μ a = .inr ci ∧ k lv st (mm_si μ a f v) κ) := rfl
theorem e_put3 {ci f a : Nat} {v : Int32} {k : mm_K} {lv : mm_L} {st : List Value} {μ : mm_M} {κ : Nat × Nat} : mm_put [ci, f, 3] k lv (.int v :: .ref a :: st) μ κ = (mm_z μ a = .inr ci ∧ (v = 0 ∨ v = 1) ∧ k lv st (mm_si μ a f v) κ) := rfl
theorem e_put2 {ci f a b : Nat} {k : mm_K} {lv : mm_L} {st : List Value} {μ : mm_M} {κ : Nat × Nat} : mm_put [ci, f, 2] k lv (.ref b :: .ref a :: st) μ κ = (mm_z μ a = .inr ci ∧ b < mm_n μ ∧ k lv st (mm_sr μ a f (some b)) κ) := rfl
theorem e_ald {ty} {i a} {k : mm_K} {lv : mm_L} {st : List Value} {μ : mm_M} {κ : Nat × Nat} : mm_ald ty k lv (.int i :: .ref a :: st) μ κ = (∃ n, mm_z μ a = .inl (ty, n) ∧ vp_in i n ∧ k lv (.int (mm_i μ a i.toNatClampNeg) :: st) μ κ) := rfl
theorem e_lld {i a} {k : mm_K} {lv : mm_L} {st : List Value} {μ : mm_M} {κ : Nat × Nat} : mm_lld k lv (.int i :: .ref a :: st) μ κ = (∃ n, mm_z μ a = .inl (.long, n) ∧ vp_in i n ∧ k lv (.long (mm_l μ a i.toNatClampNeg) :: st) μ κ) := rfl
theorem e_rld {C} {i a} {k : mm_K} {lv : mm_L} {st : List Value} {μ : mm_M} {κ : Nat × Nat} : mm_rld C k lv (.int i :: .ref a :: st) μ κ = (∃ n, mm_z μ a = .inl (.object C, n) ∧ vp_in i n ∧ ∃ b, mm_r μ a i.toNatClampNeg = some b ∧ k lv (.ref b :: st) μ κ) := rfl
theorem e_ast {ty f} {v i a} {k : mm_K} {lv : mm_L} {st : List Value} {μ : mm_M} {κ : Nat × Nat} : mm_ast ty f k lv (.int v :: .int i :: .ref a :: st) μ κ = (∃ n, mm_z μ a = .inl (ty, n) ∧ vp_in i n ∧ k lv st (mm_si μ a i.toNatClampNeg (f v)) κ) := rfl
theorem e_lst {v i a} {k : mm_K} {lv : mm_L} {st : List Value} {μ : mm_M} {κ : Nat × Nat} : mm_lst k lv (.long v :: .int i :: .ref a :: st) μ κ = (∃ n, mm_z μ a = .inl (.long, n) ∧ vp_in i n ∧ k lv st (mm_sl μ a i.toNatClampNeg v) κ) := rfl
theorem e_rst {C ci} {b i a} {k : mm_K} {lv : mm_L} {st : List Value} {μ : mm_M} {κ : Nat × Nat} : mm_rst C ci k lv (.ref b :: .int i :: .ref a :: st) μ κ = (∃ n, mm_z μ a = .inl (.object C, n) ∧ vp_in i n ∧ mm_z μ b = .inr ci ∧ k lv st (mm_sr μ a i.toNatClampNeg (some b)) κ) := rfl
theorem e_len {a} {k : mm_K} {lv : mm_L} {st : List Value} {μ : mm_M} {κ : Nat × Nat} : mm_len k lv (.ref a :: st) μ κ = (∃ ty n, mm_z μ a = .inl (ty, n) ∧ k lv (.int (Int32.ofNat n) :: st) μ κ) := rfl
theorem e_rk {rk n} {i a} {k : mm_K} {lv : mm_L} {st : List Value} {μ : mm_M} {κ : Nat × Nat} : mm_rk rk n k lv (.int i :: .ref a :: st) μ κ = (a = mm_ext ∧ vp_in i n ∧ k lv (.int (rk i.toNatClampNeg) :: st) μ κ) := rfl
theorem e_cpi {n dp b sp a} {k : mm_K} {lv : mm_L} {st : List Value} {μ : mm_M} {κ : Nat × Nat} : mm_cpi k lv (.int n :: .int dp :: .ref b :: .int sp :: .ref a :: st) μ κ = (mm_sum st ≤ 8 ∧ ∃ n0 n1, mm_z μ a = .inl (.int, n0) ∧ mm_z μ b = .inl (.int, n1) ∧ ¬ sp < 0 ∧ ¬ dp < 0 ∧ ¬ n < 0 ∧ sp.toNatClampNeg + n.toNatClampNeg ≤ n0 ∧ dp.toNatClampNeg + n.toNatClampNeg ≤ n1 ∧ k lv st (mm_ci μ a sp.toNatClampNeg b dp.toNatClampNeg n.toNatClampNeg) κ) := rfl
theorem e_cpl {n dp b sp a} {k : mm_K} {lv : mm_L} {st : List Value} {μ : mm_M} {κ : Nat × Nat} : mm_cpl k lv (.int n :: .int dp :: .ref b :: .int sp :: .ref a :: st) μ κ = (mm_sum st ≤ 8 ∧ ∃ n0 n1, mm_z μ a = .inl (.long, n0) ∧ mm_z μ b = .inl (.long, n1) ∧ ¬ sp < 0 ∧ ¬ dp < 0 ∧ ¬ n < 0 ∧ sp.toNatClampNeg + n.toNatClampNeg ≤ n0 ∧ dp.toNatClampNeg + n.toNatClampNeg ≤ n1 ∧ k lv st (mm_cl μ a sp.toNatClampNeg b dp.toNatClampNeg n.toNatClampNeg) κ) := rfl
theorem e_ret {Q : mm_Q} {v} {lv : mm_L} {μ : mm_M} {κ : Nat × Nat} : mm_ret Q lv [.int v] μ κ = (Q (some (.int v)) μ) := rfl
theorem e_rtz {Q : mm_Q} {v} {lv : mm_L} {μ : mm_M} {κ : Nat × Nat} : mm_rtz Q lv [.int v] μ κ = ((v = 0 ∨ v = 1) ∧ Q (some (.int v)) μ) := rfl
theorem e_rtl {Q : mm_Q} {v} {lv : mm_L} {μ : mm_M} {κ : Nat × Nat} : mm_rtl Q lv [.long v] μ κ = (Q (some (.long v)) μ) := rfl
theorem e_rtv {Q : mm_Q} {lv : mm_L} {μ : mm_M} {κ : Nat × Nat} : mm_rtv Q lv [] μ κ = (Q none μ) := rfl
theorem e_cst {v} {k : mm_K} {lv : mm_L} {st : List Value} {μ : mm_M} {κ : Nat × Nat} : mm_cst v k lv st μ κ = (k lv (v :: st) μ κ) := rfl
theorem e_go {t : Nat} {J : mm_J} {lv : mm_L} {st : List Value} {μ : mm_M} {κ : Nat × Nat} : mm_go t J lv st μ κ = (J t lv st μ κ) := rfl
/-- what is left to do behind a call -/
def mm_kk (k : mm_K) (lv : mm_L) (st : List Value) (κ : Nat × Nat) : mm_Q := fun v μ => k lv (mm_ps v st) μ κ
theorem e_kkn {k : mm_K} {lv : mm_L} {st : List Value} {μ : mm_M} {κ : Nat × Nat} : mm_kk k lv st κ none μ = k lv st μ κ := rfl
theorem e_kks {v} {k : mm_K} {lv : mm_L} {st : List Value} {μ : mm_M} {κ : Nat × Nat} : mm_kk k lv st κ (some v) μ = k lv (v :: st) μ κ := rfl
theorem e_cas0 {y : Nat} {C : mm_C} {k : mm_K} {lv : mm_L} {st : List Value} {μ : mm_M} {κ : Nat × Nat} : mm_cas y 0 C k lv (st) μ κ = (mm_sum st ≤ 8 ∧ C y [] μ (mm_kk k lv st κ)) := rfl
theorem e_cas1 {y : Nat} {C : mm_C} {v0 : Value} {k : mm_K} {lv : mm_L} {st : List Value} {μ : mm_M} {κ : Nat × Nat} : mm_cas y 1 C k lv (v0 :: st) μ κ = (mm_sum st ≤ 8 ∧ C y [v0] μ (mm_kk k lv st κ)) := rfl
theorem e_cav1 {y ci a : Nat} {C : mm_C} {k : mm_K} {lv : mm_L} {st : List Value} {μ : mm_M} {κ : Nat × Nat} : mm_cav y 1 ci C k lv (.ref a :: st) μ κ = (mm_z μ a = .inr ci ∧ mm_sum st ≤ 8 ∧ C y [.ref a] μ (mm_kk k lv st κ)) := rfl
theorem e_cas2 {y : Nat} {C : mm_C} {v0 v1 : Value} {k : mm_K} {lv : mm_L} {st : List Value} {μ : mm_M} {κ : Nat × Nat} : mm_cas y 2 C k lv (v1 :: v0 :: st) μ κ = (mm_sum st ≤ 8 ∧ C y [v0, v1] μ (mm_kk k lv st κ)) := rfl
theorem e_cav2 {y ci a : Nat} {C : mm_C} {v1 : Value} {k : mm_K} {lv : mm_L} {st : List Value} {μ : mm_M} {κ : Nat × Nat} : mm_cav y 2 ci C k lv (v1 :: .ref a :: st) μ κ = (mm_z μ a = .inr ci ∧ mm_sum st ≤ 8 ∧ C y [.ref a, v1] μ (mm_kk k lv st κ)) := rfl
theorem e_cas3 {y : Nat} {C : mm_C} {v0 v1 v2 : Value} {k : mm_K} {lv : mm_L} {st : List Value} {μ : mm_M} {κ : Nat × Nat} : mm_cas y 3 C k lv (v2 :: v1 :: v0 :: st) μ κ = (mm_sum st ≤ 8 ∧ C y [v0, v1, v2] μ (mm_kk k lv st κ)) := rfl
theorem e_cav3 {y ci a : Nat} {C : mm_C} {v1 v2 : Value} {k : mm_K} {lv : mm_L} {st : List Value} {μ : mm_M} {κ : Nat × Nat} : mm_cav y 3 ci C k lv (v2 :: v1 :: .ref a :: st) μ κ = (mm_z μ a = .inr ci ∧ mm_sum st ≤ 8 ∧ C y [.ref a, v1, v2] μ (mm_kk k lv st κ)) := rfl
theorem e_cas4 {y : Nat} {C : mm_C} {v0 v1 v2 v3 : Value} {k : mm_K} {lv : mm_L} {st : List Value} {μ : mm_M} {κ : Nat × Nat} : mm_cas y 4 C k lv (v3 :: v2 :: v1 :: v0 :: st) μ κ = (mm_sum st ≤ 8 ∧ C y [v0, v1, v2, v3] μ (mm_kk k lv st κ)) := rfl
theorem e_cav4 {y ci a : Nat} {C : mm_C} {v1 v2 v3 : Value} {k : mm_K} {lv : mm_L} {st : List Value} {μ : mm_M} {κ : Nat × Nat} : mm_cav y 4 ci C k lv (v3 :: v2 :: v1 :: .ref a :: st) μ κ = (mm_z μ a = .inr ci ∧ mm_sum st ≤ 8 ∧ C y [.ref a, v1, v2, v3] μ (mm_kk k lv st κ)) := rfl
theorem e_cas5 {y : Nat} {C : mm_C} {v0 v1 v2 v3 v4 : Value} {k : mm_K} {lv : mm_L} {st : List Value} {μ : mm_M} {κ : Nat × Nat} : mm_cas y 5 C k lv (v4 :: v3 :: v2 :: v1 :: v0 :: st) μ κ = (mm_sum st ≤ 8 ∧ C y [v0, v1, v2, v3, v4] μ (mm_kk k lv st κ)) := rfl
theorem e_cav5 {y ci a : Nat} {C : mm_C} {v1 v2 v3 v4 : Value} {k : mm_K} {lv : mm_L} {st : List Value} {μ : mm_M} {κ : Nat × Nat} : mm_cav y 5 ci C k lv (v4 :: v3 :: v2 :: v1 :: .ref a :: st) μ κ = (mm_z μ a = .inr ci ∧ mm_sum st ≤ 8 ∧ C y [.ref a, v1, v2, v3, v4] μ (mm_kk k lv st κ)) := rfl
theorem e_cas6 {y : Nat} {C : mm_C} {v0 v1 v2 v3 v4 v5 : Value} {k : mm_K} {lv : mm_L} {st : List Value} {μ : mm_M} {κ : Nat × Nat} : mm_cas y 6 C k lv (v5 :: v4 :: v3 :: v2 :: v1 :: v0 :: st) μ κ = (mm_sum st ≤ 8 ∧ C y [v0, v1, v2, v3, v4, v5] μ (mm_kk k lv st κ)) := rfl
theorem e_cav6 {y ci a : Nat} {C : mm_C} {v1 v2 v3 v4 v5 : Value} {k : mm_K} {lv : mm_L} {st : List Value} {μ : mm_M} {κ : Nat × Nat} : mm_cav y 6 ci C k lv (v5 :: v4 :: v3 :: v2 :: v1 :: .ref a :: st) μ κ = (mm_z μ a = .inr ci ∧ mm_sum st ≤ 8 ∧ C y [.ref a, v1, v2, v3, v4, v5] μ (mm_kk k lv st κ)) := rfl
theorem e_cas7 {y : Nat} {C : mm_C} {v0 v1 v2 v3 v4 v5 v6 : Value} {k : mm_K} {lv : mm_L} {st : List Value} {μ : mm_M} {κ : Nat × Nat} : mm_cas y 7 C k lv (v6 :: v5 :: v4 :: v3 :: v2 :: v1 :: v0 :: st) μ κ = (mm_sum st ≤ 8 ∧ C y [v0, v1, v2, v3, v4, v5, v6] μ (mm_kk k lv st κ)) := rfl
theorem e_cav7 {y ci a : Nat} {C : mm_C} {v1 v2 v3 v4 v5 v6 : Value} {k : mm_K} {lv : mm_L} {st : List Value} {μ : mm_M} {κ : Nat × Nat} : mm_cav y 7 ci C k lv (v6 :: v5 :: v4 :: v3 :: v2 :: v1 :: .ref a :: st) μ κ = (mm_z μ a = .inr ci ∧ mm_sum st ≤ 8 ∧ C y [.ref a, v1, v2, v3, v4, v5, v6] μ (mm_kk k lv st κ)) := rfl
