/-! THE SMALL MACHINE: a memory of numbered cells, a predicate transformer for blocks of instructions; jumps by a least fixed point, calls by depth. All of it is pure; part 20 ties it to the machine's own judgement W. -/
/-- ints (fields, int, byte and boolean arrays), longs, references, the shape of each cell, how many cells there are -/
abbrev mm_M : Type := (Nat → Nat → Int32) × (Nat → Nat → Int64) × (Nat → Nat → Option Nat) × (Nat → (FieldType × Nat) ⊕ Nat) × Nat
def mm_i (μ : mm_M) : Nat → Nat → Int32 := μ.1
def mm_l (μ : mm_M) : Nat → Nat → Int64 := μ.2.1
def mm_r (μ : mm_M) : Nat → Nat → Option Nat := μ.2.2.1
def mm_z (μ : mm_M) : Nat → (FieldType × Nat) ⊕ Nat := μ.2.2.2.1
def mm_n (μ : mm_M) : Nat := μ.2.2.2.2
def mm_u {α : Type} (f : Nat → Nat → α) (a k : Nat) (v : α) : Nat → Nat → α := fun b j => if b = a ∧ j = k then v else f b j
def mm_si (μ : mm_M) (a k : Nat) (v : Int32) : mm_M := (mm_u μ.1 a k v, μ.2)
def mm_sl (μ : mm_M) (a k : Nat) (v : Int64) : mm_M := (μ.1, mm_u μ.2.1 a k v, μ.2.2)
def mm_sr (μ : mm_M) (a k : Nat) (v : Option Nat) : mm_M := (μ.1, μ.2.1, mm_u μ.2.2.1 a k v, μ.2.2.2)
/-- a new cell, zeroed, at the next number -/
def mm_na (μ : mm_M) (z : (FieldType × Nat) ⊕ Nat) : mm_M :=
  (fun b j => if b = mm_n μ then 0 else μ.1 b j, fun b j => if b = mm_n μ then 0 else μ.2.1 b j, fun b j => if b = mm_n μ then none else μ.2.2.1 b j, fun b => if b = mm_n μ then z else mm_z μ b, mm_n μ + 1)
/-- a stretch of ints (longs) copied -/
def mm_ci (μ : mm_M) (a sp b dp n : Nat) : mm_M := (fun c j => if c = b then va_cpy (μ.1 a) (μ.1 b) sp dp n j else μ.1 c j, μ.2)
def mm_cl (μ : mm_M) (a sp b dp n : Nat) : mm_M := (μ.1, fun c j => if c = b then va_cpy (μ.2.1 a) (μ.2.1 b) sp dp n j else μ.2.1 c j, μ.2.2)
theorem mm_i_si (μ : mm_M) (a k : Nat) (v : Int32) (b j : Nat) : mm_i (mm_si μ a k v) b j = if b = a ∧ j = k then v else mm_i μ b j := rfl
theorem mm_i_sl (μ : mm_M) (a k : Nat) (v : Int64) : mm_i (mm_sl μ a k v) = mm_i μ := rfl
theorem mm_i_sr (μ : mm_M) (a k : Nat) (v : Option Nat) : mm_i (mm_sr μ a k v) = mm_i μ := rfl
theorem mm_l_si (μ : mm_M) (a k : Nat) (v : Int32) : mm_l (mm_si μ a k v) = mm_l μ := rfl
theorem mm_l_sl (μ : mm_M) (a k : Nat) (v : Int64) (b j : Nat) : mm_l (mm_sl μ a k v) b j = if b = a ∧ j = k then v else mm_l μ b j := rfl
theorem mm_l_sr (μ : mm_M) (a k : Nat) (v : Option Nat) : mm_l (mm_sr μ a k v) = mm_l μ := rfl
theorem mm_r_si (μ : mm_M) (a k : Nat) (v : Int32) : mm_r (mm_si μ a k v) = mm_r μ := rfl
theorem mm_r_sl (μ : mm_M) (a k : Nat) (v : Int64) : mm_r (mm_sl μ a k v) = mm_r μ := rfl
theorem mm_r_sr (μ : mm_M) (a k : Nat) (v : Option Nat) (b j : Nat) : mm_r (mm_sr μ a k v) b j = if b = a ∧ j = k then v else mm_r μ b j := rfl
theorem mm_z_si (μ : mm_M) (a k : Nat) (v : Int32) : mm_z (mm_si μ a k v) = mm_z μ := rfl
theorem mm_z_sl (μ : mm_M) (a k : Nat) (v : Int64) : mm_z (mm_sl μ a k v) = mm_z μ := rfl
theorem mm_z_sr (μ : mm_M) (a k : Nat) (v : Option Nat) : mm_z (mm_sr μ a k v) = mm_z μ := rfl
theorem mm_n_si (μ : mm_M) (a k : Nat) (v : Int32) : mm_n (mm_si μ a k v) = mm_n μ := rfl
theorem mm_n_sl (μ : mm_M) (a k : Nat) (v : Int64) : mm_n (mm_sl μ a k v) = mm_n μ := rfl
theorem mm_n_sr (μ : mm_M) (a k : Nat) (v : Option Nat) : mm_n (mm_sr μ a k v) = mm_n μ := rfl
theorem mm_i_ci (μ : mm_M) (a sp b dp n c j : Nat) : mm_i (mm_ci μ a sp b dp n) c j = if c = b then va_cpy (mm_i μ a) (mm_i μ b) sp dp n j else mm_i μ c j := rfl
theorem mm_l_ci (μ : mm_M) (a sp b dp n : Nat) : mm_l (mm_ci μ a sp b dp n) = mm_l μ := rfl
theorem mm_r_ci (μ : mm_M) (a sp b dp n : Nat) : mm_r (mm_ci μ a sp b dp n) = mm_r μ := rfl
theorem mm_z_ci (μ : mm_M) (a sp b dp n : Nat) : mm_z (mm_ci μ a sp b dp n) = mm_z μ := rfl
theorem mm_n_ci (μ : mm_M) (a sp b dp n : Nat) : mm_n (mm_ci μ a sp b dp n) = mm_n μ := rfl
theorem mm_i_cl (μ : mm_M) (a sp b dp n : Nat) : mm_i (mm_cl μ a sp b dp n) = mm_i μ := rfl
theorem mm_l_cl (μ : mm_M) (a sp b dp n c j : Nat) : mm_l (mm_cl μ a sp b dp n) c j = if c = b then va_cpy (mm_l μ a) (mm_l μ b) sp dp n j else mm_l μ c j := rfl
theorem mm_r_cl (μ : mm_M) (a sp b dp n : Nat) : mm_r (mm_cl μ a sp b dp n) = mm_r μ := rfl
theorem mm_z_cl (μ : mm_M) (a sp b dp n : Nat) : mm_z (mm_cl μ a sp b dp n) = mm_z μ := rfl
theorem mm_n_cl (μ : mm_M) (a sp b dp n : Nat) : mm_n (mm_cl μ a sp b dp n) = mm_n μ := rfl
/-! locals by their places -/
abbrev mm_L : Type := List (Option Value)
def mm_lg : mm_L → Nat → Option Value
  | [], _ => none
  | x :: _, 0 => x
  | _ :: l, n + 1 => mm_lg l n
def mm_kl : mm_L → mm_L
  | [] => []
  | _ :: l => none :: l
def mm_c2 : Option Value → Option Value
  | some (.long _) => none
  | some (.double _) => none
  | x => x
/-- a store of one word -/
def mm_s1 (v : Value) : mm_L → Nat → mm_L
  | [], _ => []
  | _ :: l, 0 => some v :: l
  | x :: l, 1 => mm_c2 x :: mm_s1 v l 0
  | x :: l, n + 2 => x :: mm_s1 v l (n + 1)
/-- a store of two words -/
def mm_s2 (v : Value) : mm_L → Nat → mm_L
  | [], _ => []
  | _ :: l, 0 => some v :: mm_kl l
  | x :: l, 1 => mm_c2 x :: mm_s2 v l 0
  | x :: l, n + 2 => x :: mm_s2 v l (n + 1)
/-- the locals at a method's entry -/
def mm_en : List Value → Nat → mm_L
  | _, 0 => []
  | [], n + 1 => none :: mm_en [] n
  | .long x :: vs, n + 2 => some (.long x) :: none :: mm_en vs n
  | .double _ :: _, _ + 1 => []
  | v :: vs, n + 1 => some v :: mm_en vs n
abbrev mm_K : Type := mm_L → List Value → mm_M → Nat × Nat → Prop
abbrev mm_J : Type := Nat → mm_K
abbrev mm_Q : Type := Option Value → mm_M → Prop
abbrev mm_C : Type := Nat → List Value → mm_M → mm_Q → Prop
/-- what RANKS holds (a static array that nobody writes), known under this number -/
def mm_ext : Nat := 1000000
def mm_ldi (i : Nat) (k : mm_K) : mm_K := fun lv st μ κ => match mm_lg lv i with
  | some (.int x) => k lv (.int x :: st) μ κ
  | _ => False
def mm_ldl (i : Nat) (k : mm_K) : mm_K := fun lv st μ κ => match mm_lg lv i with
  | some (.long x) => k lv (.long x :: st) μ κ
  | _ => False
def mm_lda (i : Nat) (k : mm_K) : mm_K := fun lv st μ κ => match mm_lg lv i with
  | some (.ref x) => k lv (.ref x :: st) μ κ
  | _ => False
def mm_sti (i : Nat) (k : mm_K) : mm_K := fun lv st μ κ => match st with
  | .int x :: st => k (mm_s1 (.int x) lv i) st μ κ
  | _ => False
def mm_stl (i : Nat) (k : mm_K) : mm_K := fun lv st μ κ => match st with
  | .long x :: st => k (mm_s2 (.long x) lv i) st μ κ
  | _ => False
def mm_sta (i : Nat) (k : mm_K) : mm_K := fun lv st μ κ => match st with
  | .ref x :: st => k (mm_s1 (.ref x) lv i) st μ κ
  | _ => False
def mm_inc (i : Nat) (v : Value) (k : mm_K) : mm_K := fun lv st μ κ => match mm_lg lv i, v with
  | some (.int x), .int y => k (mm_s1 (.int (x + y)) lv i) st μ κ
  | _, _ => False
def mm_ii (f : Int32 → Int32 → Int32) (k : mm_K) : mm_K := fun lv st μ κ => match st with
  | .int y :: .int x :: st => k lv (.int (f x y) :: st) μ κ
  | _ => False
def mm_ll (f : Int64 → Int64 → Int64) (k : mm_K) : mm_K := fun lv st μ κ => match st with
  | .long y :: .long x :: st => k lv (.long (f x y) :: st) μ κ
  | _ => False
/-- a division: the divisor isn't 0 -/
def mm_ld (f : Int64 → Int64 → Int64) (k : mm_K) : mm_K := fun lv st μ κ => match st with
  | .long y :: .long x :: st => ¬ y = 0 ∧ k lv (.long (f x y) :: st) μ κ
  | _ => False
def mm_ls (f : Int64 → Int32 → Int64) (k : mm_K) : mm_K := fun lv st μ κ => match st with
  | .int y :: .long x :: st => k lv (.long (f x y) :: st) μ κ
  | _ => False
def mm_i1 (f : Int32 → Int32) (k : mm_K) : mm_K := fun lv st μ κ => match st with
  | .int x :: st => k lv (.int (f x) :: st) μ κ
  | _ => False
def mm_l1 (f : Int64 → Int64) (k : mm_K) : mm_K := fun lv st μ κ => match st with
  | .long x :: st => k lv (.long (f x) :: st) μ κ
  | _ => False
def mm_i2l (k : mm_K) : mm_K := fun lv st μ κ => match st with
  | .int x :: st => k lv (.long x.toInt64 :: st) μ κ
  | _ => False
def mm_l2i (k : mm_K) : mm_K := fun lv st μ κ => match st with
  | .long x :: st => k lv (.int x.toInt32 :: st) μ κ
  | _ => False
def mm_cmp (k : mm_K) : mm_K := fun lv st μ κ => match st with
  | .long y :: .long x :: st => k lv (.int (lg_cmp x y) :: st) μ κ
  | _ => False
def mm_dup (k : mm_K) : mm_K := fun lv st μ κ => match st with
  | v :: st => v.category = 1 ∧ k lv (v :: v :: st) μ κ
  | _ => False
def mm_dup2 (k : mm_K) : mm_K := fun lv st μ κ => match st with
  | v :: u :: st => v.category = 1 ∧ u.category = 1 ∧ k lv (v :: u :: v :: u :: st) μ κ
  | _ => False
/-- a branch: taken to block t under the first condition, else on -/
def mm_br (t : Nat) (yes no : Int32 → Prop) (J : mm_J) (k : mm_K) : mm_K := fun lv st μ κ => match st with
  | .int x :: st => (yes x → J t lv st μ κ) ∧ (no x → k lv st μ κ)
  | _ => False
def mm_br2 (t : Nat) (yes no : Int32 → Int32 → Prop) (J : mm_J) (k : mm_K) : mm_K := fun lv st μ κ => match st with
  | .int y :: .int x :: st => (yes x y → J t lv st μ κ) ∧ (no x y → k lv st μ κ)
  | _ => False
def mm_ifc (c : Jvm.ClassFile.Cond) (t : Nat) (J : mm_J) (k : mm_K) : mm_K := match c with
  | .eq => mm_br t (fun x => x = 0) (fun x => ¬ x = 0) J k
  | .ne => mm_br t (fun x => ¬ x = 0) (fun x => x = 0) J k
  | .lt => mm_br t (fun x => x < 0) (fun x => ¬ x < 0) J k
  | .ge => mm_br t (fun x => 0 ≤ x) (fun x => ¬ 0 ≤ x) J k
  | .gt => mm_br t (fun x => 0 < x) (fun x => ¬ 0 < x) J k
  | .le => mm_br t (fun x => x ≤ 0) (fun x => ¬ x ≤ 0) J k
def mm_icm (c : Jvm.ClassFile.Cond) (t : Nat) (J : mm_J) (k : mm_K) : mm_K := match c with
  | .eq => mm_br2 t (fun x y => x = y) (fun x y => ¬ x = y) J k
  | .ne => mm_br2 t (fun x y => ¬ x = y) (fun x y => x = y) J k
  | .lt => mm_br2 t (fun x y => x < y) (fun x y => ¬ x < y) J k
  | .ge => mm_br2 t (fun x y => y ≤ x) (fun x y => ¬ y ≤ x) J k
  | .gt => mm_br2 t (fun x y => y < x) (fun x y => ¬ y < x) J k
  | .le => mm_br2 t (fun x y => x ≤ y) (fun x y => ¬ x ≤ y) J k
/-- a switch over ints from lo on -/
def mm_sw (J : mm_J) (d : Nat) (x : Int32) : Int → List Nat → mm_K
  | _, [] => J d
  | lo, t :: ts => fun lv st μ κ => (x.toInt = lo → J t lv st μ κ) ∧ (¬ x.toInt = lo → mm_sw J d x (lo + 1) ts lv st μ κ)
def mm_tsw (J : mm_J) (lo : Int) (xs : List Nat) : mm_K := fun lv st μ κ => match st, xs with
  | .int x :: st, d :: ts => mm_sw J d x lo ts lv st μ κ
  | _, _ => False
/-- fields: xs = class, place, kind (0 int, 2 reference, 3 boolean) -/
def mm_get (xs : List Nat) (k : mm_K) : mm_K := fun lv st μ κ => match st, xs with
  | .ref a :: st, [ci, f, 2] => mm_z μ a = .inr ci ∧ ∃ b, mm_r μ a f = some b ∧ k lv (.ref b :: st) μ κ
  | .ref a :: st, [ci, f, _] => mm_z μ a = .inr ci ∧ k lv (.int (mm_i μ a f) :: st) μ κ
  | _, _ => False
def mm_put (xs : List Nat) (k : mm_K) : mm_K := fun lv st μ κ => match st, xs with
  | .int v :: .ref a :: st, [ci, f, 0] => mm_z μ a = .inr ci ∧ k lv st (mm_si μ a f v) κ
  | .int v :: .ref a :: st, [ci, f, 3] => mm_z μ a = .inr ci ∧ (v = 0 ∨ v = 1) ∧ k lv st (mm_si μ a f v) κ
  | .ref b :: .ref a :: st, [ci, f, 2] => mm_z μ a = .inr ci ∧ b < mm_n μ ∧ k lv st (mm_sr μ a f (some b)) κ
  | _, _ => False
/-- arrays of ints by type; xs = [] but for RANKS -/
def mm_ald (ty : FieldType) (k : mm_K) : mm_K := fun lv st μ κ => match st with
  | .int i :: .ref a :: st => ∃ n, mm_z μ a = .inl (ty, n) ∧ vp_in i n ∧ k lv (.int (mm_i μ a i.toNatClampNeg) :: st) μ κ
  | _ => False
def mm_lld (k : mm_K) : mm_K := fun lv st μ κ => match st with
  | .int i :: .ref a :: st => ∃ n, mm_z μ a = .inl (.long, n) ∧ vp_in i n ∧ k lv (.long (mm_l μ a i.toNatClampNeg) :: st) μ κ
  | _ => False
def mm_rld (C : String) (k : mm_K) : mm_K := fun lv st μ κ => match st with
  | .int i :: .ref a :: st => ∃ n, mm_z μ a = .inl (.object C, n) ∧ vp_in i n ∧ ∃ b, mm_r μ a i.toNatClampNeg = some b ∧ k lv (.ref b :: st) μ κ
  | _ => False
def mm_ast (ty : FieldType) (f : Int32 → Int32) (k : mm_K) : mm_K := fun lv st μ κ => match st with
  | .int v :: .int i :: .ref a :: st => ∃ n, mm_z μ a = .inl (ty, n) ∧ vp_in i n ∧ k lv st (mm_si μ a i.toNatClampNeg (f v)) κ
  | _ => False
def mm_lst (k : mm_K) : mm_K := fun lv st μ κ => match st with
  | .long v :: .int i :: .ref a :: st => ∃ n, mm_z μ a = .inl (.long, n) ∧ vp_in i n ∧ k lv st (mm_sl μ a i.toNatClampNeg v) κ
  | _ => False
def mm_rst (C : String) (ci : Nat) (k : mm_K) : mm_K := fun lv st μ κ => match st with
  | .ref b :: .int i :: .ref a :: st => ∃ n, mm_z μ a = .inl (.object C, n) ∧ vp_in i n ∧ mm_z μ b = .inr ci ∧ k lv st (mm_sr μ a i.toNatClampNeg (some b)) κ
  | _ => False
def mm_len (k : mm_K) : mm_K := fun lv st μ κ => match st with
  | .ref a :: st => ∃ ty n, mm_z μ a = .inl (ty, n) ∧ k lv (.int (Int32.ofNat n) :: st) μ κ
  | _ => False
/-- RANKS[i], the array on the stack under its own number -/
def mm_rk (rk : Nat → Int32) (n : Nat) (k : mm_K) : mm_K := fun lv st μ κ => match st with
  | .int i :: .ref a :: st => a = mm_ext ∧ vp_in i n ∧ k lv (.int (rk i.toNatClampNeg) :: st) μ κ
  | _ => False
/-- a reference that a state of n cells knows -/
def mm_vk (n : Nat) : Value → Prop
  | .ref a => a < n ∨ mm_ext ≤ a
  | _ => True
def mm_ks (n : Nat) : List Value → Prop
  | [] => True
  | v :: l => mm_vk n v ∧ mm_ks n l
def mm_kv (n : Nat) : mm_L → Prop
  | [] => True
  | some v :: l => mm_vk n v ∧ mm_kv n l
  | none :: l => mm_kv n l
/-- new objects and arrays -/
def mm_new (ci N : Nat) (B : Nat × Nat) (k : mm_K) : mm_K := fun lv st μ κ => mm_n μ < mm_ext ∧ mm_ks (mm_n μ) st ∧ mm_kv (mm_n μ) lv ∧ κ.1 + 1 ≤ B.1 ∧ κ.2 + N ≤ B.2 ∧ k lv (.ref (mm_n μ) :: st) (mm_na μ (.inr ci)) (κ.1 + 1, κ.2 + N)
def mm_nar (ty : FieldType) (B : Nat × Nat) (k : mm_K) : mm_K := fun lv st μ κ => match st with
  | .int v :: st => mm_n μ < mm_ext ∧ mm_ks (mm_n μ) st ∧ mm_kv (mm_n μ) lv ∧ ¬ v < 0 ∧ v.toNatClampNeg ≤ 4000 ∧ κ.1 + 1 ≤ B.1 ∧ κ.2 + v.toNatClampNeg ≤ B.2 ∧ k lv (.ref (mm_n μ) :: st) (mm_na μ (.inl (ty, v.toNatClampNeg))) (κ.1 + 1, κ.2 + v.toNatClampNeg)
  | _ => False
/-- a call: the arguments come off the stack -/
def mm_pa : Nat → List Value → List Value → (List Value → List Value → Prop) → Prop
  | 0, as, st, k => k as st
  | n + 1, as, v :: st, k => mm_pa n (v :: as) st k
  | _ + 1, _, [], _ => False
def mm_sum : List Value → Nat
  | [] => 0
  | v :: l => v.category + mm_sum l
def mm_ps : Option Value → List Value → List Value
  | some v, st => v :: st
  | none, st => st
/-- static, of a method that makes nothing -/
def mm_cas (y na : Nat) (C : mm_C) (k : mm_K) : mm_K := fun lv st μ κ => mm_pa na [] st (fun as st => mm_sum st ≤ 8 ∧ C y as μ (fun v μ => k lv (mm_ps v st) μ κ))
/-- of an object, of a method that makes nothing -/
def mm_rc (ci : Nat) (μ : mm_M) : List Value → Prop
  | .ref a :: _ => mm_z μ a = .inr ci
  | _ => False
def mm_cav (y na ci : Nat) (C : mm_C) (k : mm_K) : mm_K := fun lv st μ κ => mm_pa na [] st (fun as st => mm_rc ci μ as ∧ mm_sum st ≤ 8 ∧ C y as μ (fun v μ => k lv (mm_ps v st) μ κ))
/-- of a method that may make mc cells of ms slots -/
def mm_rf : List Value → Prop
  | .ref _ :: _ => True
  | _ => False
def mm_can (y na mc ms : Nat) (B : Nat × Nat) (C : mm_C) (k : mm_K) : mm_K := fun lv st μ κ => mm_pa na [] st (fun as st => mm_rf as ∧ mm_sum st ≤ 8 ∧ mm_ks (mm_n μ) st ∧ mm_kv (mm_n μ) lv ∧ κ.1 + mc ≤ B.1 ∧ κ.2 + ms ≤ B.2 ∧ C y as μ (fun v μ => k lv (mm_ps v st) μ (κ.1 + mc, κ.2 + ms)))
/-- Object.<init> -/
def mm_obi (k : mm_K) : mm_K := fun lv st μ κ => match st with
  | .ref _ :: st => mm_sum st ≤ 8 ∧ k lv st μ κ
  | _ => False
/-- System.arraycopy -/
def mm_cpi (k : mm_K) : mm_K := fun lv st μ κ => match st with
  | .int n :: .int dp :: .ref b :: .int sp :: .ref a :: st => mm_sum st ≤ 8 ∧ ∃ n0 n1, mm_z μ a = .inl (.int, n0) ∧ mm_z μ b = .inl (.int, n1) ∧ ¬ sp < 0 ∧ ¬ dp < 0 ∧ ¬ n < 0 ∧ sp.toNatClampNeg + n.toNatClampNeg ≤ n0 ∧ dp.toNatClampNeg + n.toNatClampNeg ≤ n1 ∧ k lv st (mm_ci μ a sp.toNatClampNeg b dp.toNatClampNeg n.toNatClampNeg) κ
  | _ => False
def mm_cpl (k : mm_K) : mm_K := fun lv st μ κ => match st with
  | .int n :: .int dp :: .ref b :: .int sp :: .ref a :: st => mm_sum st ≤ 8 ∧ ∃ n0 n1, mm_z μ a = .inl (.long, n0) ∧ mm_z μ b = .inl (.long, n1) ∧ ¬ sp < 0 ∧ ¬ dp < 0 ∧ ¬ n < 0 ∧ sp.toNatClampNeg + n.toNatClampNeg ≤ n0 ∧ dp.toNatClampNeg + n.toNatClampNeg ≤ n1 ∧ k lv st (mm_cl μ a sp.toNatClampNeg b dp.toNatClampNeg n.toNatClampNeg) κ
  | _ => False
def mm_ret (Q : mm_Q) : mm_K := fun _ st μ _ => match st with
  | [.int v] => Q (some (.int v)) μ
  | _ => False
def mm_rtz (Q : mm_Q) : mm_K := fun _ st μ _ => match st with
  | [.int v] => (v = 0 ∨ v = 1) ∧ Q (some (.int v)) μ
  | _ => False
def mm_rtl (Q : mm_Q) : mm_K := fun _ st μ _ => match st with
  | [.long v] => Q (some (.long v)) μ
  | _ => False
def mm_rtv (Q : mm_Q) : mm_K := fun _ st μ _ => match st with
  | [] => Q none μ
  | _ => False
def mm_cst (v : Value) (k : mm_K) : mm_K := fun lv st μ κ => k lv (v :: st) μ κ
/-- a jump -/
def mm_go (t : Nat) (J : mm_J) : mm_K := J t
/-- the least family of states closed under the blocks of a method -/
def mm_Lf (F : mm_J → mm_J) : mm_J := fun t lv st μ κ => ∀ X : mm_J, (∀ t lv st μ κ, (∃ Y : mm_J, (∀ t lv st μ κ, Y t lv st μ κ → X t lv st μ κ) ∧ F Y t lv st μ κ) → X t lv st μ κ) → X t lv st μ κ
theorem mm_Lf_step {F : mm_J → mm_J} {t : Nat} {lv : mm_L} {st : List Value} {μ : mm_M} {κ : Nat × Nat} (h : F (mm_Lf F) t lv st μ κ) : mm_Lf F t lv st μ κ :=
  fun X hX => hX t lv st μ κ ⟨mm_Lf F, fun _ _ _ _ _ h => h X hX, h⟩
/-- a method: its words of locals, what it may make, its blocks -/
abbrev mm_D : Type := Nat × (Nat × Nat) × (mm_J → mm_C → mm_Q → mm_J)
/-- a call of depth d -/
def mm_Ev (P : Nat → mm_D) : Nat → mm_C
  | 0 => fun _ _ _ _ => False
  | d + 1 => fun y as μ Q => mm_sum as ≤ (P y).1 ∧ mm_Lf (fun J => (P y).2.2 J (mm_Ev P d) Q) 0 (mm_en as (P y).1) [] μ (0, 0)
theorem mm_Ev_step {P : Nat → mm_D} {d y : Nat} {as : List Value} {μ : mm_M} {Q : mm_Q} (h0 : mm_sum as ≤ (P y).1) (h : (P y).2.2 (mm_Lf (fun J => (P y).2.2 J (mm_Ev P d) Q)) (mm_Ev P d) Q 0 (mm_en as (P y).1) [] μ (0, 0)) : mm_Ev P (d + 1) y as μ Q := ⟨h0, mm_Lf_step h⟩
