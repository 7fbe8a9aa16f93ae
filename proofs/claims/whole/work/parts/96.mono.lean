/-! what holds of more ends holds of a call -/
def LK (k k' : mm_K) : Prop := ∀ lv st μ κ, k lv st μ κ → k' lv st μ κ
theorem lk_rf {k : mm_K} : LK k k := fun _ _ _ _ h => h
theorem lk_cst {v : Value} {k k' : mm_K} (h : LK k k') : LK (mm_cst v k) (mm_cst v k') := fun _ _ _ _ q => h _ _ _ _ q
theorem lk_zq {k k' : mm_K} (h : LK k k') : LK (mm_zq k) (mm_zq k') := fun _ _ _ _ q => ⟨h _ _ _ _ q.1, h _ _ _ _ q.2⟩
theorem lk_new {ci N : Nat} {B : Nat × Nat} {k k' : mm_K} (h : LK k k') : LK (mm_new ci N B k) (mm_new ci N B k') := fun _ _ _ _ q => ⟨q.1, q.2.1, q.2.2.1, q.2.2.2.1, q.2.2.2.2.1, h _ _ _ _ q.2.2.2.2.2⟩
theorem lk_ldi {i : Nat} {k k' : mm_K} (h : LK k k') : LK (mm_ldi i k) (mm_ldi i k') := fun lv st μ κ => by
  unfold mm_ldi
  split
  all_goals first | exact fun q => q.elim | exact h _ _ _ _ | exact fun q => ⟨q.1, h _ _ _ _ q.2⟩ | exact fun q => ⟨q.1, q.2.1, h _ _ _ _ q.2.2⟩ | exact fun ⟨a, b, c, q⟩ => ⟨a, b, c, h _ _ _ _ q⟩ | exact fun ⟨a, b, q⟩ => ⟨a, b, h _ _ _ _ q⟩ | exact fun ⟨a, b, c, d, q⟩ => ⟨a, b, c, d, h _ _ _ _ q⟩ | exact fun ⟨a, b, c, d, e, q⟩ => ⟨a, b, c, d, e, h _ _ _ _ q⟩ | exact fun ⟨a, b, c, d, e, f, g, q⟩ => ⟨a, b, c, d, e, f, g, h _ _ _ _ q⟩ | exact fun ⟨a, b, c, d, e, f, g, i, j, l, q⟩ => ⟨a, b, c, d, e, f, g, i, j, l, h _ _ _ _ q⟩
theorem lk_ldl {i : Nat} {k k' : mm_K} (h : LK k k') : LK (mm_ldl i k) (mm_ldl i k') := fun lv st μ κ => by
  unfold mm_ldl
  split
  all_goals first | exact fun q => q.elim | exact h _ _ _ _ | exact fun q => ⟨q.1, h _ _ _ _ q.2⟩ | exact fun q => ⟨q.1, q.2.1, h _ _ _ _ q.2.2⟩ | exact fun ⟨a, b, c, q⟩ => ⟨a, b, c, h _ _ _ _ q⟩ | exact fun ⟨a, b, q⟩ => ⟨a, b, h _ _ _ _ q⟩ | exact fun ⟨a, b, c, d, q⟩ => ⟨a, b, c, d, h _ _ _ _ q⟩ | exact fun ⟨a, b, c, d, e, q⟩ => ⟨a, b, c, d, e, h _ _ _ _ q⟩ | exact fun ⟨a, b, c, d, e, f, g, q⟩ => ⟨a, b, c, d, e, f, g, h _ _ _ _ q⟩ | exact fun ⟨a, b, c, d, e, f, g, i, j, l, q⟩ => ⟨a, b, c, d, e, f, g, i, j, l, h _ _ _ _ q⟩
theorem lk_lda {i : Nat} {k k' : mm_K} (h : LK k k') : LK (mm_lda i k) (mm_lda i k') := fun lv st μ κ => by
  unfold mm_lda
  split
  all_goals first | exact fun q => q.elim | exact h _ _ _ _ | exact fun q => ⟨q.1, h _ _ _ _ q.2⟩ | exact fun q => ⟨q.1, q.2.1, h _ _ _ _ q.2.2⟩ | exact fun ⟨a, b, c, q⟩ => ⟨a, b, c, h _ _ _ _ q⟩ | exact fun ⟨a, b, q⟩ => ⟨a, b, h _ _ _ _ q⟩ | exact fun ⟨a, b, c, d, q⟩ => ⟨a, b, c, d, h _ _ _ _ q⟩ | exact fun ⟨a, b, c, d, e, q⟩ => ⟨a, b, c, d, e, h _ _ _ _ q⟩ | exact fun ⟨a, b, c, d, e, f, g, q⟩ => ⟨a, b, c, d, e, f, g, h _ _ _ _ q⟩ | exact fun ⟨a, b, c, d, e, f, g, i, j, l, q⟩ => ⟨a, b, c, d, e, f, g, i, j, l, h _ _ _ _ q⟩
theorem lk_sti {i : Nat} {k k' : mm_K} (h : LK k k') : LK (mm_sti i k) (mm_sti i k') := fun lv st μ κ => by
  unfold mm_sti
  split
  all_goals first | exact fun q => q.elim | exact h _ _ _ _ | exact fun q => ⟨q.1, h _ _ _ _ q.2⟩ | exact fun q => ⟨q.1, q.2.1, h _ _ _ _ q.2.2⟩ | exact fun ⟨a, b, c, q⟩ => ⟨a, b, c, h _ _ _ _ q⟩ | exact fun ⟨a, b, q⟩ => ⟨a, b, h _ _ _ _ q⟩ | exact fun ⟨a, b, c, d, q⟩ => ⟨a, b, c, d, h _ _ _ _ q⟩ | exact fun ⟨a, b, c, d, e, q⟩ => ⟨a, b, c, d, e, h _ _ _ _ q⟩ | exact fun ⟨a, b, c, d, e, f, g, q⟩ => ⟨a, b, c, d, e, f, g, h _ _ _ _ q⟩ | exact fun ⟨a, b, c, d, e, f, g, i, j, l, q⟩ => ⟨a, b, c, d, e, f, g, i, j, l, h _ _ _ _ q⟩
theorem lk_stl {i : Nat} {k k' : mm_K} (h : LK k k') : LK (mm_stl i k) (mm_stl i k') := fun lv st μ κ => by
  unfold mm_stl
  split
  all_goals first | exact fun q => q.elim | exact h _ _ _ _ | exact fun q => ⟨q.1, h _ _ _ _ q.2⟩ | exact fun q => ⟨q.1, q.2.1, h _ _ _ _ q.2.2⟩ | exact fun ⟨a, b, c, q⟩ => ⟨a, b, c, h _ _ _ _ q⟩ | exact fun ⟨a, b, q⟩ => ⟨a, b, h _ _ _ _ q⟩ | exact fun ⟨a, b, c, d, q⟩ => ⟨a, b, c, d, h _ _ _ _ q⟩ | exact fun ⟨a, b, c, d, e, q⟩ => ⟨a, b, c, d, e, h _ _ _ _ q⟩ | exact fun ⟨a, b, c, d, e, f, g, q⟩ => ⟨a, b, c, d, e, f, g, h _ _ _ _ q⟩ | exact fun ⟨a, b, c, d, e, f, g, i, j, l, q⟩ => ⟨a, b, c, d, e, f, g, i, j, l, h _ _ _ _ q⟩
theorem lk_sta {i : Nat} {k k' : mm_K} (h : LK k k') : LK (mm_sta i k) (mm_sta i k') := fun lv st μ κ => by
  unfold mm_sta
  split
  all_goals first | exact fun q => q.elim | exact h _ _ _ _ | exact fun q => ⟨q.1, h _ _ _ _ q.2⟩ | exact fun q => ⟨q.1, q.2.1, h _ _ _ _ q.2.2⟩ | exact fun ⟨a, b, c, q⟩ => ⟨a, b, c, h _ _ _ _ q⟩ | exact fun ⟨a, b, q⟩ => ⟨a, b, h _ _ _ _ q⟩ | exact fun ⟨a, b, c, d, q⟩ => ⟨a, b, c, d, h _ _ _ _ q⟩ | exact fun ⟨a, b, c, d, e, q⟩ => ⟨a, b, c, d, e, h _ _ _ _ q⟩ | exact fun ⟨a, b, c, d, e, f, g, q⟩ => ⟨a, b, c, d, e, f, g, h _ _ _ _ q⟩ | exact fun ⟨a, b, c, d, e, f, g, i, j, l, q⟩ => ⟨a, b, c, d, e, f, g, i, j, l, h _ _ _ _ q⟩
theorem lk_inc {i : Nat} {v : Value} {k k' : mm_K} (h : LK k k') : LK (mm_inc i v k) (mm_inc i v k') := fun lv st μ κ => by
  unfold mm_inc
  split
  all_goals first | exact fun q => q.elim | exact h _ _ _ _ | exact fun q => ⟨q.1, h _ _ _ _ q.2⟩ | exact fun q => ⟨q.1, q.2.1, h _ _ _ _ q.2.2⟩ | exact fun ⟨a, b, c, q⟩ => ⟨a, b, c, h _ _ _ _ q⟩ | exact fun ⟨a, b, q⟩ => ⟨a, b, h _ _ _ _ q⟩ | exact fun ⟨a, b, c, d, q⟩ => ⟨a, b, c, d, h _ _ _ _ q⟩ | exact fun ⟨a, b, c, d, e, q⟩ => ⟨a, b, c, d, e, h _ _ _ _ q⟩ | exact fun ⟨a, b, c, d, e, f, g, q⟩ => ⟨a, b, c, d, e, f, g, h _ _ _ _ q⟩ | exact fun ⟨a, b, c, d, e, f, g, i, j, l, q⟩ => ⟨a, b, c, d, e, f, g, i, j, l, h _ _ _ _ q⟩
theorem lk_ii {f : Int32 → Int32 → Int32} {k k' : mm_K} (h : LK k k') : LK (mm_ii f k) (mm_ii f k') := fun lv st μ κ => by
  unfold mm_ii
  split
  all_goals first | exact fun q => q.elim | exact h _ _ _ _ | exact fun q => ⟨q.1, h _ _ _ _ q.2⟩ | exact fun q => ⟨q.1, q.2.1, h _ _ _ _ q.2.2⟩ | exact fun ⟨a, b, c, q⟩ => ⟨a, b, c, h _ _ _ _ q⟩ | exact fun ⟨a, b, q⟩ => ⟨a, b, h _ _ _ _ q⟩ | exact fun ⟨a, b, c, d, q⟩ => ⟨a, b, c, d, h _ _ _ _ q⟩ | exact fun ⟨a, b, c, d, e, q⟩ => ⟨a, b, c, d, e, h _ _ _ _ q⟩ | exact fun ⟨a, b, c, d, e, f, g, q⟩ => ⟨a, b, c, d, e, f, g, h _ _ _ _ q⟩ | exact fun ⟨a, b, c, d, e, f, g, i, j, l, q⟩ => ⟨a, b, c, d, e, f, g, i, j, l, h _ _ _ _ q⟩
theorem lk_ll {f : Int64 → Int64 → Int64} {k k' : mm_K} (h : LK k k') : LK (mm_ll f k) (mm_ll f k') := fun lv st μ κ => by
  unfold mm_ll
  split
  all_goals first | exact fun q => q.elim | exact h _ _ _ _ | exact fun q => ⟨q.1, h _ _ _ _ q.2⟩ | exact fun q => ⟨q.1, q.2.1, h _ _ _ _ q.2.2⟩ | exact fun ⟨a, b, c, q⟩ => ⟨a, b, c, h _ _ _ _ q⟩ | exact fun ⟨a, b, q⟩ => ⟨a, b, h _ _ _ _ q⟩ | exact fun ⟨a, b, c, d, q⟩ => ⟨a, b, c, d, h _ _ _ _ q⟩ | exact fun ⟨a, b, c, d, e, q⟩ => ⟨a, b, c, d, e, h _ _ _ _ q⟩ | exact fun ⟨a, b, c, d, e, f, g, q⟩ => ⟨a, b, c, d, e, f, g, h _ _ _ _ q⟩ | exact fun ⟨a, b, c, d, e, f, g, i, j, l, q⟩ => ⟨a, b, c, d, e, f, g, i, j, l, h _ _ _ _ q⟩
theorem lk_ld {f : Int64 → Int64 → Int64} {k k' : mm_K} (h : LK k k') : LK (mm_ld f k) (mm_ld f k') := fun lv st μ κ => by
  unfold mm_ld
  split
  all_goals first | exact fun q => q.elim | exact h _ _ _ _ | exact fun q => ⟨q.1, h _ _ _ _ q.2⟩ | exact fun q => ⟨q.1, q.2.1, h _ _ _ _ q.2.2⟩ | exact fun ⟨a, b, c, q⟩ => ⟨a, b, c, h _ _ _ _ q⟩ | exact fun ⟨a, b, q⟩ => ⟨a, b, h _ _ _ _ q⟩ | exact fun ⟨a, b, c, d, q⟩ => ⟨a, b, c, d, h _ _ _ _ q⟩ | exact fun ⟨a, b, c, d, e, q⟩ => ⟨a, b, c, d, e, h _ _ _ _ q⟩ | exact fun ⟨a, b, c, d, e, f, g, q⟩ => ⟨a, b, c, d, e, f, g, h _ _ _ _ q⟩ | exact fun ⟨a, b, c, d, e, f, g, i, j, l, q⟩ => ⟨a, b, c, d, e, f, g, i, j, l, h _ _ _ _ q⟩
theorem lk_ls {f : Int64 → Int32 → Int64} {k k' : mm_K} (h : LK k k') : LK (mm_ls f k) (mm_ls f k') := fun lv st μ κ => by
  unfold mm_ls
  split
  all_goals first | exact fun q => q.elim | exact h _ _ _ _ | exact fun q => ⟨q.1, h _ _ _ _ q.2⟩ | exact fun q => ⟨q.1, q.2.1, h _ _ _ _ q.2.2⟩ | exact fun ⟨a, b, c, q⟩ => ⟨a, b, c, h _ _ _ _ q⟩ | exact fun ⟨a, b, q⟩ => ⟨a, b, h _ _ _ _ q⟩ | exact fun ⟨a, b, c, d, q⟩ => ⟨a, b, c, d, h _ _ _ _ q⟩ | exact fun ⟨a, b, c, d, e, q⟩ => ⟨a, b, c, d, e, h _ _ _ _ q⟩ | exact fun ⟨a, b, c, d, e, f, g, q⟩ => ⟨a, b, c, d, e, f, g, h _ _ _ _ q⟩ | exact fun ⟨a, b, c, d, e, f, g, i, j, l, q⟩ => ⟨a, b, c, d, e, f, g, i, j, l, h _ _ _ _ q⟩
theorem lk_i1 {f : Int32 → Int32} {k k' : mm_K} (h : LK k k') : LK (mm_i1 f k) (mm_i1 f k') := fun lv st μ κ => by
  unfold mm_i1
  split
  all_goals first | exact fun q => q.elim | exact h _ _ _ _ | exact fun q => ⟨q.1, h _ _ _ _ q.2⟩ | exact fun q => ⟨q.1, q.2.1, h _ _ _ _ q.2.2⟩ | exact fun ⟨a, b, c, q⟩ => ⟨a, b, c, h _ _ _ _ q⟩ | exact fun ⟨a, b, q⟩ => ⟨a, b, h _ _ _ _ q⟩ | exact fun ⟨a, b, c, d, q⟩ => ⟨a, b, c, d, h _ _ _ _ q⟩ | exact fun ⟨a, b, c, d, e, q⟩ => ⟨a, b, c, d, e, h _ _ _ _ q⟩ | exact fun ⟨a, b, c, d, e, f, g, q⟩ => ⟨a, b, c, d, e, f, g, h _ _ _ _ q⟩ | exact fun ⟨a, b, c, d, e, f, g, i, j, l, q⟩ => ⟨a, b, c, d, e, f, g, i, j, l, h _ _ _ _ q⟩
theorem lk_l1 {f : Int64 → Int64} {k k' : mm_K} (h : LK k k') : LK (mm_l1 f k) (mm_l1 f k') := fun lv st μ κ => by
  unfold mm_l1
  split
  all_goals first | exact fun q => q.elim | exact h _ _ _ _ | exact fun q => ⟨q.1, h _ _ _ _ q.2⟩ | exact fun q => ⟨q.1, q.2.1, h _ _ _ _ q.2.2⟩ | exact fun ⟨a, b, c, q⟩ => ⟨a, b, c, h _ _ _ _ q⟩ | exact fun ⟨a, b, q⟩ => ⟨a, b, h _ _ _ _ q⟩ | exact fun ⟨a, b, c, d, q⟩ => ⟨a, b, c, d, h _ _ _ _ q⟩ | exact fun ⟨a, b, c, d, e, q⟩ => ⟨a, b, c, d, e, h _ _ _ _ q⟩ | exact fun ⟨a, b, c, d, e, f, g, q⟩ => ⟨a, b, c, d, e, f, g, h _ _ _ _ q⟩ | exact fun ⟨a, b, c, d, e, f, g, i, j, l, q⟩ => ⟨a, b, c, d, e, f, g, i, j, l, h _ _ _ _ q⟩
theorem lk_i2l  {k k' : mm_K} (h : LK k k') : LK (mm_i2l k) (mm_i2l k') := fun lv st μ κ => by
  unfold mm_i2l
  split
  all_goals first | exact fun q => q.elim | exact h _ _ _ _ | exact fun q => ⟨q.1, h _ _ _ _ q.2⟩ | exact fun q => ⟨q.1, q.2.1, h _ _ _ _ q.2.2⟩ | exact fun ⟨a, b, c, q⟩ => ⟨a, b, c, h _ _ _ _ q⟩ | exact fun ⟨a, b, q⟩ => ⟨a, b, h _ _ _ _ q⟩ | exact fun ⟨a, b, c, d, q⟩ => ⟨a, b, c, d, h _ _ _ _ q⟩ | exact fun ⟨a, b, c, d, e, q⟩ => ⟨a, b, c, d, e, h _ _ _ _ q⟩ | exact fun ⟨a, b, c, d, e, f, g, q⟩ => ⟨a, b, c, d, e, f, g, h _ _ _ _ q⟩ | exact fun ⟨a, b, c, d, e, f, g, i, j, l, q⟩ => ⟨a, b, c, d, e, f, g, i, j, l, h _ _ _ _ q⟩
theorem lk_l2i  {k k' : mm_K} (h : LK k k') : LK (mm_l2i k) (mm_l2i k') := fun lv st μ κ => by
  unfold mm_l2i
  split
  all_goals first | exact fun q => q.elim | exact h _ _ _ _ | exact fun q => ⟨q.1, h _ _ _ _ q.2⟩ | exact fun q => ⟨q.1, q.2.1, h _ _ _ _ q.2.2⟩ | exact fun ⟨a, b, c, q⟩ => ⟨a, b, c, h _ _ _ _ q⟩ | exact fun ⟨a, b, q⟩ => ⟨a, b, h _ _ _ _ q⟩ | exact fun ⟨a, b, c, d, q⟩ => ⟨a, b, c, d, h _ _ _ _ q⟩ | exact fun ⟨a, b, c, d, e, q⟩ => ⟨a, b, c, d, e, h _ _ _ _ q⟩ | exact fun ⟨a, b, c, d, e, f, g, q⟩ => ⟨a, b, c, d, e, f, g, h _ _ _ _ q⟩ | exact fun ⟨a, b, c, d, e, f, g, i, j, l, q⟩ => ⟨a, b, c, d, e, f, g, i, j, l, h _ _ _ _ q⟩
theorem lk_cmp  {k k' : mm_K} (h : LK k k') : LK (mm_cmp k) (mm_cmp k') := fun lv st μ κ => by
  unfold mm_cmp
  split
  all_goals first | exact fun q => q.elim | exact h _ _ _ _ | exact fun q => ⟨q.1, h _ _ _ _ q.2⟩ | exact fun q => ⟨q.1, q.2.1, h _ _ _ _ q.2.2⟩ | exact fun ⟨a, b, c, q⟩ => ⟨a, b, c, h _ _ _ _ q⟩ | exact fun ⟨a, b, q⟩ => ⟨a, b, h _ _ _ _ q⟩ | exact fun ⟨a, b, c, d, q⟩ => ⟨a, b, c, d, h _ _ _ _ q⟩ | exact fun ⟨a, b, c, d, e, q⟩ => ⟨a, b, c, d, e, h _ _ _ _ q⟩ | exact fun ⟨a, b, c, d, e, f, g, q⟩ => ⟨a, b, c, d, e, f, g, h _ _ _ _ q⟩ | exact fun ⟨a, b, c, d, e, f, g, i, j, l, q⟩ => ⟨a, b, c, d, e, f, g, i, j, l, h _ _ _ _ q⟩
theorem lk_dup  {k k' : mm_K} (h : LK k k') : LK (mm_dup k) (mm_dup k') := fun lv st μ κ => by
  unfold mm_dup
  split
  all_goals first | exact fun q => q.elim | exact h _ _ _ _ | exact fun q => ⟨q.1, h _ _ _ _ q.2⟩ | exact fun q => ⟨q.1, q.2.1, h _ _ _ _ q.2.2⟩ | exact fun ⟨a, b, c, q⟩ => ⟨a, b, c, h _ _ _ _ q⟩ | exact fun ⟨a, b, q⟩ => ⟨a, b, h _ _ _ _ q⟩ | exact fun ⟨a, b, c, d, q⟩ => ⟨a, b, c, d, h _ _ _ _ q⟩ | exact fun ⟨a, b, c, d, e, q⟩ => ⟨a, b, c, d, e, h _ _ _ _ q⟩ | exact fun ⟨a, b, c, d, e, f, g, q⟩ => ⟨a, b, c, d, e, f, g, h _ _ _ _ q⟩ | exact fun ⟨a, b, c, d, e, f, g, i, j, l, q⟩ => ⟨a, b, c, d, e, f, g, i, j, l, h _ _ _ _ q⟩
theorem lk_dup2  {k k' : mm_K} (h : LK k k') : LK (mm_dup2 k) (mm_dup2 k') := fun lv st μ κ => by
  unfold mm_dup2
  split
  all_goals first | exact fun q => q.elim | exact h _ _ _ _ | exact fun q => ⟨q.1, h _ _ _ _ q.2⟩ | exact fun q => ⟨q.1, q.2.1, h _ _ _ _ q.2.2⟩ | exact fun ⟨a, b, c, q⟩ => ⟨a, b, c, h _ _ _ _ q⟩ | exact fun ⟨a, b, q⟩ => ⟨a, b, h _ _ _ _ q⟩ | exact fun ⟨a, b, c, d, q⟩ => ⟨a, b, c, d, h _ _ _ _ q⟩ | exact fun ⟨a, b, c, d, e, q⟩ => ⟨a, b, c, d, e, h _ _ _ _ q⟩ | exact fun ⟨a, b, c, d, e, f, g, q⟩ => ⟨a, b, c, d, e, f, g, h _ _ _ _ q⟩ | exact fun ⟨a, b, c, d, e, f, g, i, j, l, q⟩ => ⟨a, b, c, d, e, f, g, i, j, l, h _ _ _ _ q⟩
theorem lk_get {xs : List Nat} {k k' : mm_K} (h : LK k k') : LK (mm_get xs k) (mm_get xs k') := fun lv st μ κ => by
  unfold mm_get
  split
  all_goals first | exact fun q => q.elim | exact h _ _ _ _ | exact fun q => ⟨q.1, h _ _ _ _ q.2⟩ | exact fun q => ⟨q.1, q.2.1, h _ _ _ _ q.2.2⟩ | exact fun ⟨a, b, c, q⟩ => ⟨a, b, c, h _ _ _ _ q⟩ | exact fun ⟨a, b, q⟩ => ⟨a, b, h _ _ _ _ q⟩ | exact fun ⟨a, b, c, d, q⟩ => ⟨a, b, c, d, h _ _ _ _ q⟩ | exact fun ⟨a, b, c, d, e, q⟩ => ⟨a, b, c, d, e, h _ _ _ _ q⟩ | exact fun ⟨a, b, c, d, e, f, g, q⟩ => ⟨a, b, c, d, e, f, g, h _ _ _ _ q⟩ | exact fun ⟨a, b, c, d, e, f, g, i, j, l, q⟩ => ⟨a, b, c, d, e, f, g, i, j, l, h _ _ _ _ q⟩
theorem lk_put {xs : List Nat} {k k' : mm_K} (h : LK k k') : LK (mm_put xs k) (mm_put xs k') := fun lv st μ κ => by
  unfold mm_put
  split
  all_goals first | exact fun q => q.elim | exact h _ _ _ _ | exact fun q => ⟨q.1, h _ _ _ _ q.2⟩ | exact fun q => ⟨q.1, q.2.1, h _ _ _ _ q.2.2⟩ | exact fun ⟨a, b, c, q⟩ => ⟨a, b, c, h _ _ _ _ q⟩ | exact fun ⟨a, b, q⟩ => ⟨a, b, h _ _ _ _ q⟩ | exact fun ⟨a, b, c, d, q⟩ => ⟨a, b, c, d, h _ _ _ _ q⟩ | exact fun ⟨a, b, c, d, e, q⟩ => ⟨a, b, c, d, e, h _ _ _ _ q⟩ | exact fun ⟨a, b, c, d, e, f, g, q⟩ => ⟨a, b, c, d, e, f, g, h _ _ _ _ q⟩ | exact fun ⟨a, b, c, d, e, f, g, i, j, l, q⟩ => ⟨a, b, c, d, e, f, g, i, j, l, h _ _ _ _ q⟩
theorem lk_ald {ty : FieldType} {k k' : mm_K} (h : LK k k') : LK (mm_ald ty k) (mm_ald ty k') := fun lv st μ κ => by
  unfold mm_ald
  split
  all_goals first | exact fun q => q.elim | exact h _ _ _ _ | exact fun q => ⟨q.1, h _ _ _ _ q.2⟩ | exact fun q => ⟨q.1, q.2.1, h _ _ _ _ q.2.2⟩ | exact fun ⟨a, b, c, q⟩ => ⟨a, b, c, h _ _ _ _ q⟩ | exact fun ⟨a, b, q⟩ => ⟨a, b, h _ _ _ _ q⟩ | exact fun ⟨a, b, c, d, q⟩ => ⟨a, b, c, d, h _ _ _ _ q⟩ | exact fun ⟨a, b, c, d, e, q⟩ => ⟨a, b, c, d, e, h _ _ _ _ q⟩ | exact fun ⟨a, b, c, d, e, f, g, q⟩ => ⟨a, b, c, d, e, f, g, h _ _ _ _ q⟩ | exact fun ⟨a, b, c, d, e, f, g, i, j, l, q⟩ => ⟨a, b, c, d, e, f, g, i, j, l, h _ _ _ _ q⟩
theorem lk_lld  {k k' : mm_K} (h : LK k k') : LK (mm_lld k) (mm_lld k') := fun lv st μ κ => by
  unfold mm_lld
  split
  all_goals first | exact fun q => q.elim | exact h _ _ _ _ | exact fun q => ⟨q.1, h _ _ _ _ q.2⟩ | exact fun q => ⟨q.1, q.2.1, h _ _ _ _ q.2.2⟩ | exact fun ⟨a, b, c, q⟩ => ⟨a, b, c, h _ _ _ _ q⟩ | exact fun ⟨a, b, q⟩ => ⟨a, b, h _ _ _ _ q⟩ | exact fun ⟨a, b, c, d, q⟩ => ⟨a, b, c, d, h _ _ _ _ q⟩ | exact fun ⟨a, b, c, d, e, q⟩ => ⟨a, b, c, d, e, h _ _ _ _ q⟩ | exact fun ⟨a, b, c, d, e, f, g, q⟩ => ⟨a, b, c, d, e, f, g, h _ _ _ _ q⟩ | exact fun ⟨a, b, c, d, e, f, g, i, j, l, q⟩ => ⟨a, b, c, d, e, f, g, i, j, l, h _ _ _ _ q⟩
theorem lk_rld {C : String} {k k' : mm_K} (h : LK k k') : LK (mm_rld C k) (mm_rld C k') := fun lv st μ κ => by
  unfold mm_rld
  split
  all_goals first | exact fun q => q.elim | exact h _ _ _ _ | exact fun q => ⟨q.1, h _ _ _ _ q.2⟩ | exact fun q => ⟨q.1, q.2.1, h _ _ _ _ q.2.2⟩ | exact fun ⟨a, b, c, q⟩ => ⟨a, b, c, h _ _ _ _ q⟩ | exact fun ⟨a, b, q⟩ => ⟨a, b, h _ _ _ _ q⟩ | exact fun ⟨a, b, c, d, q⟩ => ⟨a, b, c, d, h _ _ _ _ q⟩ | exact fun ⟨a, b, c, d, e, q⟩ => ⟨a, b, c, d, e, h _ _ _ _ q⟩ | exact fun ⟨a, b, c, d, e, f, g, q⟩ => ⟨a, b, c, d, e, f, g, h _ _ _ _ q⟩ | exact fun ⟨a, b, c, d, e, f, g, i, j, l, q⟩ => ⟨a, b, c, d, e, f, g, i, j, l, h _ _ _ _ q⟩
theorem lk_ast {ty : FieldType} {f : Int32 → Int32} {k k' : mm_K} (h : LK k k') : LK (mm_ast ty f k) (mm_ast ty f k') := fun lv st μ κ => by
  unfold mm_ast
  split
  all_goals first | exact fun q => q.elim | exact h _ _ _ _ | exact fun q => ⟨q.1, h _ _ _ _ q.2⟩ | exact fun q => ⟨q.1, q.2.1, h _ _ _ _ q.2.2⟩ | exact fun ⟨a, b, c, q⟩ => ⟨a, b, c, h _ _ _ _ q⟩ | exact fun ⟨a, b, q⟩ => ⟨a, b, h _ _ _ _ q⟩ | exact fun ⟨a, b, c, d, q⟩ => ⟨a, b, c, d, h _ _ _ _ q⟩ | exact fun ⟨a, b, c, d, e, q⟩ => ⟨a, b, c, d, e, h _ _ _ _ q⟩ | exact fun ⟨a, b, c, d, e, f, g, q⟩ => ⟨a, b, c, d, e, f, g, h _ _ _ _ q⟩ | exact fun ⟨a, b, c, d, e, f, g, i, j, l, q⟩ => ⟨a, b, c, d, e, f, g, i, j, l, h _ _ _ _ q⟩
theorem lk_lst  {k k' : mm_K} (h : LK k k') : LK (mm_lst k) (mm_lst k') := fun lv st μ κ => by
  unfold mm_lst
  split
  all_goals first | exact fun q => q.elim | exact h _ _ _ _ | exact fun q => ⟨q.1, h _ _ _ _ q.2⟩ | exact fun q => ⟨q.1, q.2.1, h _ _ _ _ q.2.2⟩ | exact fun ⟨a, b, c, q⟩ => ⟨a, b, c, h _ _ _ _ q⟩ | exact fun ⟨a, b, q⟩ => ⟨a, b, h _ _ _ _ q⟩ | exact fun ⟨a, b, c, d, q⟩ => ⟨a, b, c, d, h _ _ _ _ q⟩ | exact fun ⟨a, b, c, d, e, q⟩ => ⟨a, b, c, d, e, h _ _ _ _ q⟩ | exact fun ⟨a, b, c, d, e, f, g, q⟩ => ⟨a, b, c, d, e, f, g, h _ _ _ _ q⟩ | exact fun ⟨a, b, c, d, e, f, g, i, j, l, q⟩ => ⟨a, b, c, d, e, f, g, i, j, l, h _ _ _ _ q⟩
theorem lk_rst {C : String} {ci : Nat} {k k' : mm_K} (h : LK k k') : LK (mm_rst C ci k) (mm_rst C ci k') := fun lv st μ κ => by
  unfold mm_rst
  split
  all_goals first | exact fun q => q.elim | exact h _ _ _ _ | exact fun q => ⟨q.1, h _ _ _ _ q.2⟩ | exact fun q => ⟨q.1, q.2.1, h _ _ _ _ q.2.2⟩ | exact fun ⟨a, b, c, q⟩ => ⟨a, b, c, h _ _ _ _ q⟩ | exact fun ⟨a, b, q⟩ => ⟨a, b, h _ _ _ _ q⟩ | exact fun ⟨a, b, c, d, q⟩ => ⟨a, b, c, d, h _ _ _ _ q⟩ | exact fun ⟨a, b, c, d, e, q⟩ => ⟨a, b, c, d, e, h _ _ _ _ q⟩ | exact fun ⟨a, b, c, d, e, f, g, q⟩ => ⟨a, b, c, d, e, f, g, h _ _ _ _ q⟩ | exact fun ⟨a, b, c, d, e, f, g, i, j, l, q⟩ => ⟨a, b, c, d, e, f, g, i, j, l, h _ _ _ _ q⟩
theorem lk_len  {k k' : mm_K} (h : LK k k') : LK (mm_len k) (mm_len k') := fun lv st μ κ => by
  unfold mm_len
  split
  all_goals first | exact fun q => q.elim | exact h _ _ _ _ | exact fun q => ⟨q.1, h _ _ _ _ q.2⟩ | exact fun q => ⟨q.1, q.2.1, h _ _ _ _ q.2.2⟩ | exact fun ⟨a, b, c, q⟩ => ⟨a, b, c, h _ _ _ _ q⟩ | exact fun ⟨a, b, q⟩ => ⟨a, b, h _ _ _ _ q⟩ | exact fun ⟨a, b, c, d, q⟩ => ⟨a, b, c, d, h _ _ _ _ q⟩ | exact fun ⟨a, b, c, d, e, q⟩ => ⟨a, b, c, d, e, h _ _ _ _ q⟩ | exact fun ⟨a, b, c, d, e, f, g, q⟩ => ⟨a, b, c, d, e, f, g, h _ _ _ _ q⟩ | exact fun ⟨a, b, c, d, e, f, g, i, j, l, q⟩ => ⟨a, b, c, d, e, f, g, i, j, l, h _ _ _ _ q⟩
theorem lk_rk {rk : Nat → Int32} {n : Nat} {k k' : mm_K} (h : LK k k') : LK (mm_rk rk n k) (mm_rk rk n k') := fun lv st μ κ => by
  unfold mm_rk
  split
  all_goals first | exact fun q => q.elim | exact h _ _ _ _ | exact fun q => ⟨q.1, h _ _ _ _ q.2⟩ | exact fun q => ⟨q.1, q.2.1, h _ _ _ _ q.2.2⟩ | exact fun ⟨a, b, c, q⟩ => ⟨a, b, c, h _ _ _ _ q⟩ | exact fun ⟨a, b, q⟩ => ⟨a, b, h _ _ _ _ q⟩ | exact fun ⟨a, b, c, d, q⟩ => ⟨a, b, c, d, h _ _ _ _ q⟩ | exact fun ⟨a, b, c, d, e, q⟩ => ⟨a, b, c, d, e, h _ _ _ _ q⟩ | exact fun ⟨a, b, c, d, e, f, g, q⟩ => ⟨a, b, c, d, e, f, g, h _ _ _ _ q⟩ | exact fun ⟨a, b, c, d, e, f, g, i, j, l, q⟩ => ⟨a, b, c, d, e, f, g, i, j, l, h _ _ _ _ q⟩
theorem lk_nar {ty : FieldType} {B : Nat × Nat} {k k' : mm_K} (h : LK k k') : LK (mm_nar ty B k) (mm_nar ty B k') := fun lv st μ κ => by
  unfold mm_nar
  split
  all_goals first | exact fun q => q.elim | exact h _ _ _ _ | exact fun q => ⟨q.1, h _ _ _ _ q.2⟩ | exact fun q => ⟨q.1, q.2.1, h _ _ _ _ q.2.2⟩ | exact fun ⟨a, b, c, q⟩ => ⟨a, b, c, h _ _ _ _ q⟩ | exact fun ⟨a, b, q⟩ => ⟨a, b, h _ _ _ _ q⟩ | exact fun ⟨a, b, c, d, q⟩ => ⟨a, b, c, d, h _ _ _ _ q⟩ | exact fun ⟨a, b, c, d, e, q⟩ => ⟨a, b, c, d, e, h _ _ _ _ q⟩ | exact fun ⟨a, b, c, d, e, f, g, q⟩ => ⟨a, b, c, d, e, f, g, h _ _ _ _ q⟩ | exact fun ⟨a, b, c, d, e, f, g, i, j, l, q⟩ => ⟨a, b, c, d, e, f, g, i, j, l, h _ _ _ _ q⟩
theorem lk_obi  {k k' : mm_K} (h : LK k k') : LK (mm_obi k) (mm_obi k') := fun lv st μ κ => by
  unfold mm_obi
  split
  all_goals first | exact fun q => q.elim | exact h _ _ _ _ | exact fun q => ⟨q.1, h _ _ _ _ q.2⟩ | exact fun q => ⟨q.1, q.2.1, h _ _ _ _ q.2.2⟩ | exact fun ⟨a, b, c, q⟩ => ⟨a, b, c, h _ _ _ _ q⟩ | exact fun ⟨a, b, q⟩ => ⟨a, b, h _ _ _ _ q⟩ | exact fun ⟨a, b, c, d, q⟩ => ⟨a, b, c, d, h _ _ _ _ q⟩ | exact fun ⟨a, b, c, d, e, q⟩ => ⟨a, b, c, d, e, h _ _ _ _ q⟩ | exact fun ⟨a, b, c, d, e, f, g, q⟩ => ⟨a, b, c, d, e, f, g, h _ _ _ _ q⟩ | exact fun ⟨a, b, c, d, e, f, g, i, j, l, q⟩ => ⟨a, b, c, d, e, f, g, i, j, l, h _ _ _ _ q⟩
theorem lk_cpi  {k k' : mm_K} (h : LK k k') : LK (mm_cpi k) (mm_cpi k') := fun lv st μ κ => by
  unfold mm_cpi
  split
  all_goals first | exact fun q => q.elim | exact h _ _ _ _ | exact fun q => ⟨q.1, h _ _ _ _ q.2⟩ | exact fun q => ⟨q.1, q.2.1, h _ _ _ _ q.2.2⟩ | exact fun ⟨a, b, c, q⟩ => ⟨a, b, c, h _ _ _ _ q⟩ | exact fun ⟨a, b, q⟩ => ⟨a, b, h _ _ _ _ q⟩ | exact fun ⟨a, b, c, d, q⟩ => ⟨a, b, c, d, h _ _ _ _ q⟩ | exact fun ⟨a, b, c, d, e, q⟩ => ⟨a, b, c, d, e, h _ _ _ _ q⟩ | exact fun ⟨a, b, c, d, e, f, g, q⟩ => ⟨a, b, c, d, e, f, g, h _ _ _ _ q⟩ | exact fun ⟨a, b, c, d, e, f, g, i, j, l, q⟩ => ⟨a, b, c, d, e, f, g, i, j, l, h _ _ _ _ q⟩
theorem lk_cpl  {k k' : mm_K} (h : LK k k') : LK (mm_cpl k) (mm_cpl k') := fun lv st μ κ => by
  unfold mm_cpl
  split
  all_goals first | exact fun q => q.elim | exact h _ _ _ _ | exact fun q => ⟨q.1, h _ _ _ _ q.2⟩ | exact fun q => ⟨q.1, q.2.1, h _ _ _ _ q.2.2⟩ | exact fun ⟨a, b, c, q⟩ => ⟨a, b, c, h _ _ _ _ q⟩ | exact fun ⟨a, b, q⟩ => ⟨a, b, h _ _ _ _ q⟩ | exact fun ⟨a, b, c, d, q⟩ => ⟨a, b, c, d, h _ _ _ _ q⟩ | exact fun ⟨a, b, c, d, e, q⟩ => ⟨a, b, c, d, e, h _ _ _ _ q⟩ | exact fun ⟨a, b, c, d, e, f, g, q⟩ => ⟨a, b, c, d, e, f, g, h _ _ _ _ q⟩ | exact fun ⟨a, b, c, d, e, f, g, i, j, l, q⟩ => ⟨a, b, c, d, e, f, g, i, j, l, h _ _ _ _ q⟩
theorem lk_pop  {k k' : mm_K} (h : LK k k') : LK (mm_pop k) (mm_pop k') := fun lv st μ κ => by
  unfold mm_pop
  split
  all_goals first | exact fun q => q.elim | exact h _ _ _ _ | exact fun q => ⟨q.1, h _ _ _ _ q.2⟩ | exact fun q => ⟨q.1, q.2.1, h _ _ _ _ q.2.2⟩ | exact fun ⟨a, b, c, q⟩ => ⟨a, b, c, h _ _ _ _ q⟩ | exact fun ⟨a, b, q⟩ => ⟨a, b, h _ _ _ _ q⟩ | exact fun ⟨a, b, c, d, q⟩ => ⟨a, b, c, d, h _ _ _ _ q⟩ | exact fun ⟨a, b, c, d, e, q⟩ => ⟨a, b, c, d, e, h _ _ _ _ q⟩ | exact fun ⟨a, b, c, d, e, f, g, q⟩ => ⟨a, b, c, d, e, f, g, h _ _ _ _ q⟩ | exact fun ⟨a, b, c, d, e, f, g, i, j, l, q⟩ => ⟨a, b, c, d, e, f, g, i, j, l, h _ _ _ _ q⟩
theorem lk_sgv  {k k' : mm_K} (h : LK k k') : LK (mm_sgv k) (mm_sgv k') := fun lv st μ κ => by
  unfold mm_sgv
  split
  all_goals first | exact fun q => q.elim | exact h _ _ _ _ | exact fun q => ⟨q.1, h _ _ _ _ q.2⟩ | exact fun q => ⟨q.1, q.2.1, h _ _ _ _ q.2.2⟩ | exact fun ⟨a, b, c, q⟩ => ⟨a, b, c, h _ _ _ _ q⟩ | exact fun ⟨a, b, q⟩ => ⟨a, b, h _ _ _ _ q⟩ | exact fun ⟨a, b, c, d, q⟩ => ⟨a, b, c, d, h _ _ _ _ q⟩ | exact fun ⟨a, b, c, d, e, q⟩ => ⟨a, b, c, d, e, h _ _ _ _ q⟩ | exact fun ⟨a, b, c, d, e, f, g, q⟩ => ⟨a, b, c, d, e, f, g, h _ _ _ _ q⟩ | exact fun ⟨a, b, c, d, e, f, g, i, j, l, q⟩ => ⟨a, b, c, d, e, f, g, i, j, l, h _ _ _ _ q⟩
theorem lk_sgc  {k k' : mm_K} (h : LK k k') : LK (mm_sgc k) (mm_sgc k') := fun lv st μ κ => by
  unfold mm_sgc
  split
  all_goals first | exact fun q => q.elim | exact h _ _ _ _ | exact fun q => ⟨q.1, h _ _ _ _ q.2⟩ | exact fun q => ⟨q.1, q.2.1, h _ _ _ _ q.2.2⟩ | exact fun ⟨a, b, c, q⟩ => ⟨a, b, c, h _ _ _ _ q⟩ | exact fun ⟨a, b, q⟩ => ⟨a, b, h _ _ _ _ q⟩ | exact fun ⟨a, b, c, d, q⟩ => ⟨a, b, c, d, h _ _ _ _ q⟩ | exact fun ⟨a, b, c, d, e, q⟩ => ⟨a, b, c, d, e, h _ _ _ _ q⟩ | exact fun ⟨a, b, c, d, e, f, g, q⟩ => ⟨a, b, c, d, e, f, g, h _ _ _ _ q⟩ | exact fun ⟨a, b, c, d, e, f, g, i, j, l, q⟩ => ⟨a, b, c, d, e, f, g, i, j, l, h _ _ _ _ q⟩
theorem lk_sln  {k k' : mm_K} (h : LK k k') : LK (mm_sln k) (mm_sln k') := fun lv st μ κ => by
  unfold mm_sln
  split
  all_goals first | exact fun q => q.elim | exact h _ _ _ _ | exact fun q => ⟨q.1, h _ _ _ _ q.2⟩ | exact fun q => ⟨q.1, q.2.1, h _ _ _ _ q.2.2⟩ | exact fun ⟨a, b, c, q⟩ => ⟨a, b, c, h _ _ _ _ q⟩ | exact fun ⟨a, b, q⟩ => ⟨a, b, h _ _ _ _ q⟩ | exact fun ⟨a, b, c, d, q⟩ => ⟨a, b, c, d, h _ _ _ _ q⟩ | exact fun ⟨a, b, c, d, e, q⟩ => ⟨a, b, c, d, e, h _ _ _ _ q⟩ | exact fun ⟨a, b, c, d, e, f, g, q⟩ => ⟨a, b, c, d, e, f, g, h _ _ _ _ q⟩ | exact fun ⟨a, b, c, d, e, f, g, i, j, l, q⟩ => ⟨a, b, c, d, e, f, g, i, j, l, h _ _ _ _ q⟩
theorem lk_sbl  {k k' : mm_K} (h : LK k k') : LK (mm_sbl k) (mm_sbl k') := fun lv st μ κ => by
  unfold mm_sbl
  split
  all_goals first | exact fun q => q.elim | exact h _ _ _ _ | exact fun q => ⟨q.1, h _ _ _ _ q.2⟩ | exact fun q => ⟨q.1, q.2.1, h _ _ _ _ q.2.2⟩ | exact fun ⟨a, b, c, q⟩ => ⟨a, b, c, h _ _ _ _ q⟩ | exact fun ⟨a, b, q⟩ => ⟨a, b, h _ _ _ _ q⟩ | exact fun ⟨a, b, c, d, q⟩ => ⟨a, b, c, d, h _ _ _ _ q⟩ | exact fun ⟨a, b, c, d, e, q⟩ => ⟨a, b, c, d, e, h _ _ _ _ q⟩ | exact fun ⟨a, b, c, d, e, f, g, q⟩ => ⟨a, b, c, d, e, f, g, h _ _ _ _ q⟩ | exact fun ⟨a, b, c, d, e, f, g, i, j, l, q⟩ => ⟨a, b, c, d, e, f, g, i, j, l, h _ _ _ _ q⟩
theorem lk_br {t : Nat} {y n : Int32 → Prop} {J : mm_J} {k k' : mm_K} (h : LK k k') : LK (mm_br t y n J k) (mm_br t y n J k') := fun lv st μ κ => by
  unfold mm_br
  split
  · exact fun q => ⟨q.1, fun z => h _ _ _ _ (q.2 z)⟩
  · exact fun q => q.elim
theorem lk_br2 {t : Nat} {y n : Int32 → Int32 → Prop} {J : mm_J} {k k' : mm_K} (h : LK k k') : LK (mm_br2 t y n J k) (mm_br2 t y n J k') := fun lv st μ κ => by
  unfold mm_br2
  split
  · exact fun q => ⟨q.1, fun z => h _ _ _ _ (q.2 z)⟩
  · exact fun q => q.elim
theorem lk_ifc {c : Jvm.ClassFile.Cond} {t : Nat} {J : mm_J} {k k' : mm_K} (h : LK k k') : LK (mm_ifc c t J k) (mm_ifc c t J k') := by
  unfold mm_ifc; split <;> exact lk_br h
theorem lk_icm {c : Jvm.ClassFile.Cond} {t : Nat} {J : mm_J} {k k' : mm_K} (h : LK k k') : LK (mm_icm c t J k) (mm_icm c t J k') := by
  unfold mm_icm; split <;> exact lk_br2 h
def MC (C : mm_C) : Prop := ∀ y as μ Q Q', (∀ r μ', Q r μ' → Q' r μ') → C y as μ Q → C y as μ Q'
theorem pa_mn {f g : List Value → List Value → Prop} (h : ∀ as st, f as st → g as st) : ∀ (n : Nat) (as st : List Value), mm_pa n as st f → mm_pa n as st g
  | 0, as, st, q => h as st q
  | n + 1, as, [], q => q.elim
  | n + 1, as, v :: st, q => pa_mn h n (v :: as) st q
theorem lk_cas {y na : Nat} {C : mm_C} {k k' : mm_K} (hC : MC C) (h : LK k k') : LK (mm_cas y na C k) (mm_cas y na C k') := fun _ _ _ _ q => pa_mn (fun as st z => ⟨z.1, hC _ _ _ _ _ (fun r μ' w => h _ _ _ _ w) z.2⟩) _ _ _ q
theorem lk_cav {y na ci : Nat} {C : mm_C} {k k' : mm_K} (hC : MC C) (h : LK k k') : LK (mm_cav y na ci C k) (mm_cav y na ci C k') := fun _ _ _ _ q => pa_mn (fun as st z => ⟨z.1, z.2.1, hC _ _ _ _ _ (fun r μ' w => h _ _ _ _ w) z.2.2⟩) _ _ _ q
theorem lk_css {y na : Nat} {C : mm_C} {k k' : mm_K} (hC : MC C) (h : LK k k') : LK (mm_css y na C k) (mm_css y na C k') := fun _ _ _ _ q => pa_mn (fun as st z => ⟨z.1, z.2.1, hC _ _ _ _ _ (fun r μ' w => h _ _ _ _ w) z.2.2⟩) _ _ _ q
theorem lk_can {y na mc ms : Nat} {B : Nat × Nat} {C : mm_C} {k k' : mm_K} (hC : MC C) (h : LK k k') : LK (mm_can y na mc ms B C k) (mm_can y na mc ms B C k') := fun _ _ _ _ q => pa_mn (fun as st z => ⟨z.1, z.2.1, z.2.2.1, z.2.2.2.1, z.2.2.2.2.1, z.2.2.2.2.2.1, hC _ _ _ _ _ (fun r μ' w => h _ _ _ _ w) z.2.2.2.2.2.2⟩) _ _ _ q
theorem lk_ret {Q Q' : mm_Q} (hQ : ∀ r μ, Q r μ → Q' r μ) : LK (mm_ret Q) (mm_ret Q') := fun lv st μ κ => by
  unfold mm_ret; split
  · exact hQ _ _
  · exact fun q => q
theorem lk_rtz {Q Q' : mm_Q} (hQ : ∀ r μ, Q r μ → Q' r μ) : LK (mm_rtz Q) (mm_rtz Q') := fun lv st μ κ => by
  unfold mm_rtz; split
  · exact fun q => ⟨q.1, hQ _ _ q.2⟩
  · exact fun q => q
theorem lk_rtl {Q Q' : mm_Q} (hQ : ∀ r μ, Q r μ → Q' r μ) : LK (mm_rtl Q) (mm_rtl Q') := fun lv st μ κ => by
  unfold mm_rtl; split
  · exact hQ _ _
  · exact fun q => q
theorem lk_rtv {Q Q' : mm_Q} (hQ : ∀ r μ, Q r μ → Q' r μ) : LK (mm_rtv Q) (mm_rtv Q') := fun lv st μ κ => by
  unfold mm_rtv; split
  · exact hQ _ _
  · exact fun q => q
theorem lk_rtn {Q Q' : mm_Q} {ty : FieldType} (hQ : ∀ r μ, Q r μ → Q' r μ) : LK (mm_rtn ty Q) (mm_rtn ty Q') := fun lv st μ κ => by
  unfold mm_rtn; split
  · exact fun q => ⟨q.1, hQ _ _ q.2⟩
  · exact fun q => q
theorem lk_tx {Q Q' : mm_Q} {n : Nat} (hQ : ∀ r μ, Q r μ → Q' r μ) : LK (mm_tx n Q) (mm_tx n Q') := fun lv st μ κ q => ⟨q.1, q.2.1, hQ _ _ q.2.2⟩
def MB (b : mm_J → mm_C → mm_Q → mm_J) : Prop := ∀ (J : mm_J) (C : mm_C) (Q Q' : mm_Q), MC C → (∀ r μ, Q r μ → Q' r μ) → ∀ t, LK (b J C Q t) (b J C Q' t)
set_option maxRecDepth 100000 in
theorem mb_X0_init : MB pb_X0_init := fun J C Q Q' hC hQ t => match t with
  | 0 => lk_lda <| lk_obi <| lk_lda <| lk_cst <| lk_nar <| lk_put <| lk_rtv hQ
  | _ + 1 => fun _ _ _ _ q => q.elim
set_option maxRecDepth 100000 in
theorem mb_X0_isFull : MB pb_X0_isFull := fun J C Q Q' hC hQ t => match t with
  | 0 => lk_lda <| lk_get <| lk_cst <| lk_icm <| lk_cst <| lk_rf
  | 1 => lk_cst <| lk_rf
  | 2 => lk_rtz hQ
  | _ + 3 => fun _ _ _ _ q => q.elim
set_option maxRecDepth 100000 in
theorem mb_X0_enter : MB pb_X0_enter := fun J C Q Q' hC hQ t => match t with
  | 0 => lk_lda <| lk_cav hC <| lk_ifc <| lk_rtv hQ
  | 1 => lk_lda <| lk_get <| lk_cst <| lk_ii <| lk_sti <| lk_lda <| lk_get <| lk_ldi <| lk_ldi <| lk_ast <| lk_lda <| lk_get <| lk_ldi <| lk_cst <| lk_ii <| lk_ldi <| lk_ast <| lk_lda <| lk_get <| lk_ldi <| lk_cst <| lk_ii <| lk_ldi <| lk_ast <| lk_lda <| lk_get <| lk_ldi <| lk_cst <| lk_ii <| lk_ldi <| lk_ast <| lk_lda <| lk_get <| lk_ldi <| lk_cst <| lk_ii <| lk_ldi <| lk_ast <| lk_lda <| lk_dup <| lk_get <| lk_cst <| lk_ii <| lk_put <| lk_rtv hQ
  | _ + 2 => fun _ _ _ _ q => q.elim
set_option maxRecDepth 100000 in
theorem mb_X1_init : MB pb_X1_init := fun J C Q Q' hC hQ t => match t with
  | 0 => lk_lda <| lk_obi <| lk_lda <| lk_new <| lk_dup <| lk_can hC <| lk_put <| lk_lda <| lk_cst <| lk_nar <| lk_put <| lk_rtv hQ
  | _ + 1 => fun _ _ _ _ q => q.elim
set_option maxRecDepth 100000 in
theorem mb_X1_read : MB pb_X1_read := fun J C Q Q' hC hQ t => match t with
  | 0 => lk_lda <| lk_get <| lk_cav hC <| lk_lda <| lk_cst <| lk_put <| lk_lda <| lk_cst <| lk_put <| lk_lda <| lk_cst <| lk_put <| lk_lda <| lk_cst <| lk_put <| lk_lda <| lk_cst <| lk_put <| lk_cst <| lk_sti <| lk_rf
  | 1 => lk_ldi <| lk_cst <| lk_icm <| lk_lda <| lk_lda <| lk_ldi <| lk_cav hC <| lk_lda <| lk_get <| lk_cst <| lk_icm <| lk_cst <| lk_rf
  | 2 => lk_lda <| lk_cav hC <| lk_rf
  | 3 => lk_sti <| lk_lda <| lk_lda <| lk_ldi <| lk_ldi <| lk_cav hC <| lk_put <| lk_lda <| lk_get <| lk_ifc <| lk_lda <| lk_get <| lk_ifc <| lk_rf
  | 4 => lk_lda <| lk_cav hC <| lk_lda <| lk_ldi <| lk_put <| lk_inc <| lk_rf
  | 5 => lk_lda <| lk_cst <| lk_cav hC <| lk_rtv hQ
  | _ + 6 => fun _ _ _ _ q => q.elim
set_option maxRecDepth 100000 in
theorem mb_X1_faultOfToken : MB pb_X1_faultOfToken := fun J C Q Q' hC hQ t => match t with
  | 0 => lk_lda <| lk_get <| lk_cst <| lk_icm <| lk_cst <| lk_ret hQ
  | 1 => lk_ldi <| lk_cst <| lk_icm <| lk_cst <| lk_ret hQ
  | 2 => lk_lda <| lk_get <| lk_cst <| lk_icm <| lk_lda <| lk_get <| lk_cst <| lk_icm <| lk_rf
  | 3 => lk_lda <| lk_get <| lk_cst <| lk_icm <| lk_cst <| lk_rf
  | 4 => lk_cst <| lk_rf
  | 5 => lk_sti <| lk_ldi <| lk_ifc <| lk_lda <| lk_get <| lk_ifc <| lk_ldi <| lk_cst <| lk_icm <| lk_rf
  | 6 => lk_cst <| lk_rf
  | 7 => lk_cst <| lk_rf
  | 8 => lk_ret hQ
  | _ + 9 => fun _ _ _ _ q => q.elim
set_option maxRecDepth 100000 in
theorem mb_X1_scan : MB pb_X1_scan := fun J C Q Q' hC hQ t => match t with
  | 0 => lk_lda <| lk_lda <| lk_get <| lk_put <| lk_rf
  | 1 => lk_lda <| lk_get <| lk_ldi <| lk_icm <| lk_lda <| lk_lda <| lk_get <| lk_ald <| lk_cst <| lk_icm <| lk_lda <| lk_dup <| lk_get <| lk_cst <| lk_ii <| lk_put <| lk_rf
  | 2 => lk_lda <| lk_cst <| lk_put <| lk_lda <| lk_lda <| lk_get <| lk_cst <| lk_ii <| lk_put <| lk_lda <| lk_get <| lk_ldi <| lk_icm <| lk_lda <| lk_cst <| lk_put <| lk_rf
  | 3 => lk_lda <| lk_lda <| lk_get <| lk_ald <| lk_cas hC <| lk_ifc <| lk_lda <| lk_lda <| lk_ldi <| lk_cav hC <| lk_rf
  | 4 => lk_lda <| lk_lda <| lk_get <| lk_ald <| lk_cas hC <| lk_ifc <| lk_lda <| lk_lda <| lk_ldi <| lk_cav hC <| lk_rf
  | 5 => lk_lda <| lk_lda <| lk_lda <| lk_get <| lk_ald <| lk_cas hC <| lk_put <| lk_rf
  | 6 => lk_rtv hQ
  | _ + 7 => fun _ _ _ _ q => q.elim
set_option maxRecDepth 100000 in
theorem mb_X1_scanWord : MB pb_X1_scanWord := fun J C Q Q' hC hQ t => match t with
  | 0 => lk_lda <| lk_get <| lk_ldi <| lk_icm <| lk_lda <| lk_lda <| lk_get <| lk_ald <| lk_cas hC <| lk_ifc <| lk_lda <| lk_dup <| lk_get <| lk_cst <| lk_ii <| lk_put <| lk_rf
  | 1 => lk_lda <| lk_get <| lk_lda <| lk_get <| lk_ii <| lk_cst <| lk_icm <| lk_lda <| lk_lda <| lk_get <| lk_ald <| lk_cst <| lk_icm <| lk_lda <| lk_cst <| lk_put <| lk_lda <| lk_lda <| lk_lda <| lk_get <| lk_ald <| lk_cst <| lk_ii <| lk_put <| lk_rf
  | 2 => lk_lda <| lk_lda <| lk_cst <| lk_cav hC <| lk_ifc <| lk_lda <| lk_cst <| lk_put <| lk_rf
  | 3 => lk_lda <| lk_lda <| lk_cst <| lk_cav hC <| lk_ifc <| lk_lda <| lk_cst <| lk_put <| lk_rf
  | 4 => lk_lda <| lk_lda <| lk_cst <| lk_cav hC <| lk_ifc <| lk_lda <| lk_cst <| lk_put <| lk_rf
  | 5 => lk_lda <| lk_lda <| lk_cst <| lk_cav hC <| lk_ifc <| lk_lda <| lk_cst <| lk_put <| lk_rf
  | 6 => lk_lda <| lk_lda <| lk_cst <| lk_cav hC <| lk_ifc <| lk_lda <| lk_cst <| lk_put <| lk_rf
  | 7 => lk_lda <| lk_cst <| lk_put <| lk_rf
  | 8 => lk_rtv hQ
  | _ + 9 => fun _ _ _ _ q => q.elim
set_option maxRecDepth 100000 in
theorem mb_X1_isSpelled : MB pb_X1_isSpelled := fun J C Q Q' hC hQ t => match t with
  | 0 => lk_lda <| lk_get <| lk_lda <| lk_get <| lk_ii <| lk_lda <| lk_css hC <| lk_icm <| lk_cst <| lk_rtz hQ
  | 1 => lk_cst <| lk_sti <| lk_rf
  | 2 => lk_ldi <| lk_lda <| lk_css hC <| lk_icm <| lk_lda <| lk_lda <| lk_get <| lk_ldi <| lk_ii <| lk_ald <| lk_lda <| lk_ldi <| lk_css hC <| lk_icm <| lk_cst <| lk_rtz hQ
  | 3 => lk_inc <| lk_rf
  | 4 => lk_cst <| lk_rtz hQ
  | _ + 5 => fun _ _ _ _ q => q.elim
set_option maxRecDepth 100000 in
theorem mb_X1_scanNumber : MB pb_X1_scanNumber := fun J C Q Q' hC hQ t => match t with
  | 0 => lk_lda <| lk_lda <| lk_lda <| lk_get <| lk_ald <| lk_cst <| lk_ii <| lk_put <| lk_rf
  | 1 => lk_lda <| lk_get <| lk_ldi <| lk_icm <| lk_lda <| lk_lda <| lk_get <| lk_ald <| lk_cas hC <| lk_ifc <| lk_lda <| lk_lda <| lk_get <| lk_cst <| lk_ii <| lk_lda <| lk_lda <| lk_get <| lk_ald <| lk_ii <| lk_cst <| lk_ii <| lk_put <| lk_lda <| lk_dup <| lk_get <| lk_cst <| lk_ii <| lk_put <| lk_rf
  | 2 => lk_lda <| lk_lda <| lk_get <| lk_lda <| lk_get <| lk_ii <| lk_cst <| lk_icm <| lk_cst <| lk_rf
  | 3 => lk_cst <| lk_rf
  | 4 => lk_put <| lk_rtv hQ
  | _ + 5 => fun _ _ _ _ q => q.elim
set_option maxRecDepth 100000 in
theorem mb_X1_isLetter : MB pb_X1_isLetter := fun J C Q Q' hC hQ t => match t with
  | 0 => lk_ldi <| lk_cst <| lk_icm <| lk_ldi <| lk_cst <| lk_icm <| lk_cst <| lk_rf
  | 1 => lk_cst <| lk_rf
  | 2 => lk_rtz hQ
  | _ + 3 => fun _ _ _ _ q => q.elim
set_option maxRecDepth 100000 in
theorem mb_X1_isFigure : MB pb_X1_isFigure := fun J C Q Q' hC hQ t => match t with
  | 0 => lk_ldi <| lk_cst <| lk_icm <| lk_ldi <| lk_cst <| lk_icm <| lk_cst <| lk_rf
  | 1 => lk_cst <| lk_rf
  | 2 => lk_rtz hQ
  | _ + 3 => fun _ _ _ _ q => q.elim
set_option maxRecDepth 100000 in
theorem mb_X1_kindOfSign : MB pb_X1_kindOfSign := fun J C Q Q' hC hQ t => match t with
  | 0 => lk_ldi <| lk_rf
  | 1 => lk_cst <| lk_ret hQ
  | 2 => lk_cst <| lk_ret hQ
  | 3 => lk_cst <| lk_ret hQ
  | 4 => lk_cst <| lk_ret hQ
  | 5 => lk_cst <| lk_ret hQ
  | 6 => lk_cst <| lk_ret hQ
  | 7 => lk_cst <| lk_ret hQ
  | 8 => lk_cst <| lk_ret hQ
  | 9 => lk_cst <| lk_ret hQ
  | 10 => lk_cst <| lk_ret hQ
  | _ + 11 => fun _ _ _ _ q => q.elim
set_option maxRecDepth 100000 in
theorem mb_X1_stateBehind : MB pb_X1_stateBehind := fun J C Q Q' hC hQ t => match t with
  | 0 => lk_lda <| lk_get <| lk_rf
  | 1 => lk_lda <| lk_get <| lk_cst <| lk_icm <| lk_lda <| lk_get <| lk_cst <| lk_icm <| lk_rf
  | 2 => lk_cst <| lk_ret hQ
  | 3 => lk_lda <| lk_get <| lk_cst <| lk_icm <| lk_lda <| lk_get <| lk_cst <| lk_icm <| lk_rf
  | 4 => lk_cst <| lk_ret hQ
  | 5 => lk_lda <| lk_cst <| lk_cst <| lk_cav hC <| lk_ret hQ
  | 6 => lk_lda <| lk_cst <| lk_cst <| lk_cav hC <| lk_ret hQ
  | 7 => lk_lda <| lk_get <| lk_cst <| lk_icm <| lk_lda <| lk_get <| lk_cst <| lk_icm <| lk_lda <| lk_get <| lk_cst <| lk_icm <| lk_rf
  | 8 => lk_cst <| lk_ret hQ
  | 9 => lk_lda <| lk_cav hC <| lk_ifc <| lk_cst <| lk_rf
  | 10 => lk_cst <| lk_rf
  | 11 => lk_ret hQ
  | 12 => lk_lda <| lk_cst <| lk_cst <| lk_cav hC <| lk_ret hQ
  | 13 => lk_lda <| lk_cav hC <| lk_ifc <| lk_cst <| lk_rf
  | 14 => lk_lda <| lk_cav hC <| lk_rf
  | 15 => lk_ret hQ
  | 16 => lk_lda <| lk_cav hC <| lk_ret hQ
  | _ + 17 => fun _ _ _ _ q => q.elim
set_option maxRecDepth 100000 in
theorem mb_X1_behindLeaf : MB pb_X1_behindLeaf := fun J C Q Q' hC hQ t => match t with
  | 0 => lk_lda <| lk_get <| lk_cst <| lk_icm <| lk_lda <| lk_get <| lk_cst <| lk_icm <| lk_rf
  | 1 => lk_ldi <| lk_ret hQ
  | 2 => lk_lda <| lk_get <| lk_cst <| lk_icm <| lk_ldi <| lk_rf
  | 3 => lk_cst <| lk_rf
  | 4 => lk_ret hQ
  | _ + 5 => fun _ _ _ _ q => q.elim
set_option maxRecDepth 100000 in
theorem mb_X1_goesOnSum : MB pb_X1_goesOnSum := fun J C Q Q' hC hQ t => match t with
  | 0 => lk_lda <| lk_get <| lk_cst <| lk_icm <| lk_lda <| lk_get <| lk_cst <| lk_icm <| lk_lda <| lk_get <| lk_cst <| lk_icm <| lk_lda <| lk_get <| lk_cst <| lk_icm <| lk_rf
  | 1 => lk_cst <| lk_rf
  | 2 => lk_cst <| lk_rf
  | 3 => lk_rtz hQ
  | _ + 4 => fun _ _ _ _ q => q.elim
set_option maxRecDepth 100000 in
theorem mb_X1_behindOne : MB pb_X1_behindOne := fun J C Q Q' hC hQ t => match t with
  | 0 => lk_lda <| lk_get <| lk_cst <| lk_icm <| lk_lda <| lk_get <| lk_cst <| lk_icm <| lk_rf
  | 1 => lk_cst <| lk_ret hQ
  | 2 => lk_lda <| lk_get <| lk_cst <| lk_icm <| lk_lda <| lk_get <| lk_ifc <| lk_cst <| lk_ret hQ
  | 3 => lk_lda <| lk_get <| lk_ifc <| lk_lda <| lk_get <| lk_ifc <| lk_cst <| lk_rf
  | 4 => lk_cst <| lk_rf
  | 5 => lk_ret hQ
  | _ + 6 => fun _ _ _ _ q => q.elim
set_option maxRecDepth 100000 in
theorem mb_X1_take : MB pb_X1_take := fun J C Q Q' hC hQ t => match t with
  | 0 => lk_lda <| lk_get <| lk_rf
  | 1 => lk_lda <| lk_get <| lk_lda <| lk_get <| lk_lda <| lk_get <| lk_cav hC <| lk_rf
  | 2 => lk_lda <| lk_dup <| lk_get <| lk_cst <| lk_ii <| lk_put <| lk_lda <| lk_dup <| lk_get <| lk_cst <| lk_ii <| lk_put <| lk_lda <| lk_cst <| lk_cav hC <| lk_rf
  | 3 => lk_lda <| lk_dup <| lk_get <| lk_cst <| lk_ii <| lk_put <| lk_lda <| lk_cst <| lk_cav hC <| lk_rf
  | 4 => lk_lda <| lk_cst <| lk_cav hC <| lk_lda <| lk_cav hC <| lk_rf
  | 5 => lk_lda <| lk_cav hC <| lk_rf
  | 6 => lk_rtv hQ
  | _ + 7 => fun _ _ _ _ q => q.elim
set_option maxRecDepth 100000 in
theorem mb_X1_takeOperator : MB pb_X1_takeOperator := fun J C Q Q' hC hQ t => match t with
  | 0 => lk_lda <| lk_get <| lk_cst <| lk_icm <| lk_lda <| lk_get <| lk_cst <| lk_icm <| lk_lda <| lk_get <| lk_cst <| lk_icm <| lk_lda <| lk_cst <| lk_cav hC <| lk_rtv hQ
  | 1 => lk_lda <| lk_cst <| lk_lda <| lk_get <| lk_rk <| lk_cav hC <| lk_lda <| lk_lda <| lk_get <| lk_cav hC <| lk_rtv hQ
  | _ + 2 => fun _ _ _ _ q => q.elim
set_option maxRecDepth 100000 in
theorem mb_X1_hold : MB pb_X1_hold := fun J C Q Q' hC hQ t => match t with
  | 0 => lk_lda <| lk_get <| lk_cst <| lk_icm <| lk_lda <| lk_get <| lk_lda <| lk_get <| lk_ldi <| lk_ast <| lk_lda <| lk_dup <| lk_get <| lk_cst <| lk_ii <| lk_put <| lk_rf
  | 1 => lk_rtv hQ
  | _ + 2 => fun _ _ _ _ q => q.elim
set_option maxRecDepth 100000 in
theorem mb_X1_settle : MB pb_X1_settle := fun J C Q Q' hC hQ t => match t with
  | 0 => lk_lda <| lk_get <| lk_ifc <| lk_cst <| lk_lda <| lk_get <| lk_lda <| lk_get <| lk_cst <| lk_ii <| lk_ald <| lk_rk <| lk_ldi <| lk_icm <| lk_lda <| lk_dup <| lk_get <| lk_cst <| lk_ii <| lk_put <| lk_lda <| lk_get <| lk_lda <| lk_get <| lk_ald <| lk_cst <| lk_icm <| lk_lda <| lk_dup <| lk_get <| lk_cst <| lk_ii <| lk_put <| lk_rf
  | 1 => lk_lda <| lk_get <| lk_lda <| lk_get <| lk_lda <| lk_get <| lk_ald <| lk_cst <| lk_cav hC <| lk_rf
  | 2 => lk_rtv hQ
  | _ + 3 => fun _ _ _ _ q => q.elim
set_option maxRecDepth 100000 in
theorem mb_X1_dropBracket : MB pb_X1_dropBracket := fun J C Q Q' hC hQ t => match t with
  | 0 => lk_lda <| lk_get <| lk_ifc <| lk_lda <| lk_dup <| lk_get <| lk_cst <| lk_ii <| lk_put <| lk_lda <| lk_dup <| lk_get <| lk_cst <| lk_ii <| lk_put <| lk_lda <| lk_dup <| lk_get <| lk_cst <| lk_ii <| lk_put <| lk_rf
  | 1 => lk_rtv hQ
  | _ + 2 => fun _ _ _ _ q => q.elim
set_option maxRecDepth 100000 in
theorem mb_X2_init : MB pb_X2_init := fun J C Q Q' hC hQ t => match t with
  | 0 => lk_lda <| lk_obi <| lk_lda <| lk_cst <| lk_nar <| lk_put <| lk_lda <| lk_cst <| lk_nar <| lk_put <| lk_rtv hQ
  | _ + 1 => fun _ _ _ _ q => q.elim
set_option maxRecDepth 100000 in
theorem mb_X2_truth : MB pb_X2_truth := fun J C Q Q' hC hQ t => match t with
  | 0 => lk_lda <| lk_cst <| lk_put <| lk_cst <| lk_sti <| lk_rf
  | 1 => lk_ldi <| lk_lda <| lk_get <| lk_icm <| lk_lda <| lk_lda <| lk_get <| lk_ldi <| lk_ald <| lk_lda <| lk_get <| lk_ldi <| lk_ald <| lk_lda <| lk_ldi <| lk_cav hC <| lk_inc <| lk_rf
  | 2 => lk_lda <| lk_get <| lk_cst <| lk_icm <| lk_lda <| lk_get <| lk_cst <| lk_ald <| lk_ifc <| lk_rf
  | 3 => lk_cst <| lk_ret hQ
  | 4 => lk_lda <| lk_get <| lk_cst <| lk_lld <| lk_cst <| lk_cmp <| lk_ifc <| lk_cst <| lk_rf
  | 5 => lk_cst <| lk_rf
  | 6 => lk_ret hQ
  | _ + 7 => fun _ _ _ _ q => q.elim
set_option maxRecDepth 100000 in
theorem mb_X2_carryOut : MB pb_X2_carryOut := fun J C Q Q' hC hQ t => match t with
  | 0 => lk_ldi <| lk_rf
  | 1 => lk_lda <| lk_ldi <| lk_i2l <| lk_cav hC <| lk_rf
  | 2 => lk_lda <| lk_lda <| lk_ldi <| lk_ldi <| lk_ii <| lk_ald <| lk_i2l <| lk_cav hC <| lk_rf
  | 3 => lk_lda <| lk_cst <| lk_cav hC <| lk_rf
  | 4 => lk_lda <| lk_cst <| lk_cav hC <| lk_rf
  | 5 => lk_lda <| lk_ldi <| lk_cav hC <| lk_rf
  | 6 => lk_lda <| lk_ldi <| lk_cav hC <| lk_rf
  | 7 => lk_rtv hQ
  | _ + 8 => fun _ _ _ _ q => q.elim
set_option maxRecDepth 100000 in
theorem mb_X2_push : MB pb_X2_push := fun J C Q Q' hC hQ t => match t with
  | 0 => lk_lda <| lk_get <| lk_cst <| lk_icm <| lk_lda <| lk_get <| lk_lda <| lk_get <| lk_ldl <| lk_lst <| lk_lda <| lk_get <| lk_lda <| lk_get <| lk_cst <| lk_ast <| lk_lda <| lk_dup <| lk_get <| lk_cst <| lk_ii <| lk_put <| lk_rf
  | 1 => lk_rtv hQ
  | _ + 2 => fun _ _ _ _ q => q.elim
set_option maxRecDepth 100000 in
theorem mb_X2_turn : MB pb_X2_turn := fun J C Q Q' hC hQ t => match t with
  | 0 => lk_lda <| lk_get <| lk_cst <| lk_icm <| lk_rtv hQ
  | 1 => lk_lda <| lk_get <| lk_lda <| lk_get <| lk_cst <| lk_ii <| lk_lld <| lk_stl <| lk_lda <| lk_get <| lk_lda <| lk_get <| lk_cst <| lk_ii <| lk_ldi <| lk_cst <| lk_icm <| lk_cst <| lk_ldl <| lk_ll <| lk_rf
  | 2 => lk_ldl <| lk_l1 <| lk_rf
  | 3 => lk_lst <| lk_rtv hQ
  | _ + 4 => fun _ _ _ _ q => q.elim
set_option maxRecDepth 100000 in
theorem mb_X2_join : MB pb_X2_join := fun J C Q Q' hC hQ t => match t with
  | 0 => lk_lda <| lk_get <| lk_cst <| lk_icm <| lk_rtv hQ
  | 1 => lk_lda <| lk_dup <| lk_get <| lk_cst <| lk_ii <| lk_put <| lk_ldi <| lk_cst <| lk_icm <| lk_ldi <| lk_cst <| lk_icm <| lk_rf
  | 2 => lk_lda <| lk_ldi <| lk_cst <| lk_icm <| lk_cst <| lk_rf
  | 3 => lk_cst <| lk_rf
  | 4 => lk_cav hC <| lk_rtv hQ
  | 5 => lk_lda <| lk_get <| lk_lda <| lk_get <| lk_lld <| lk_stl <| lk_lda <| lk_get <| lk_lda <| lk_get <| lk_cst <| lk_ii <| lk_ald <| lk_ifc <| lk_lda <| lk_get <| lk_lda <| lk_get <| lk_ald <| lk_ifc <| lk_ldi <| lk_cst <| lk_icm <| lk_ldl <| lk_cst <| lk_cmp <| lk_ifc <| lk_rf
  | 6 => lk_cst <| lk_rf
  | 7 => lk_cst <| lk_rf
  | 8 => lk_sti <| lk_lda <| lk_get <| lk_lda <| lk_get <| lk_cst <| lk_ii <| lk_ldi <| lk_ifc <| lk_cst <| lk_rf
  | 9 => lk_ldi <| lk_lda <| lk_get <| lk_lda <| lk_get <| lk_cst <| lk_ii <| lk_lld <| lk_ldl <| lk_cas hC <| lk_rf
  | 10 => lk_lst <| lk_lda <| lk_get <| lk_lda <| lk_get <| lk_cst <| lk_ii <| lk_ldi <| lk_ast <| lk_rtv hQ
  | _ + 11 => fun _ _ _ _ q => q.elim
set_option maxRecDepth 100000 in
theorem mb_X2_joinTruths : MB pb_X2_joinTruths := fun J C Q Q' hC hQ t => match t with
  | 0 => lk_lda <| lk_get <| lk_cst <| lk_ii <| lk_sti <| lk_lda <| lk_get <| lk_ldi <| lk_ald <| lk_ifc <| lk_lda <| lk_get <| lk_ldi <| lk_lld <| lk_ldi <| lk_i2l <| lk_cmp <| lk_ifc <| lk_rf
  | 1 => lk_lda <| lk_get <| lk_lda <| lk_get <| lk_ald <| lk_ifc <| lk_lda <| lk_get <| lk_lda <| lk_get <| lk_lld <| lk_ldi <| lk_i2l <| lk_cmp <| lk_ifc <| lk_rf
  | 2 => lk_cst <| lk_rf
  | 3 => lk_cst <| lk_rf
  | 4 => lk_sti <| lk_lda <| lk_get <| lk_ldi <| lk_ldi <| lk_ifc <| lk_lda <| lk_get <| lk_ldi <| lk_ald <| lk_ifc <| lk_lda <| lk_get <| lk_lda <| lk_get <| lk_ald <| lk_ifc <| lk_rf
  | 5 => lk_cst <| lk_rf
  | 6 => lk_cst <| lk_rf
  | 7 => lk_ast <| lk_lda <| lk_get <| lk_ldi <| lk_ldi <| lk_ifc <| lk_ldi <| lk_i2l <| lk_rf
  | 8 => lk_cst <| lk_ldi <| lk_ii <| lk_i2l <| lk_rf
  | 9 => lk_lst <| lk_rtv hQ
  | _ + 10 => fun _ _ _ _ q => q.elim
set_option maxRecDepth 100000 in
theorem mb_X2_reckon : MB pb_X2_reckon := fun J C Q Q' hC hQ t => match t with
  | 0 => lk_ldi <| lk_rf
  | 1 => lk_ldl <| lk_ldl <| lk_ll <| lk_rtl hQ
  | 2 => lk_ldl <| lk_ldl <| lk_ll <| lk_rtl hQ
  | 3 => lk_ldl <| lk_ldl <| lk_ll <| lk_rtl hQ
  | 4 => lk_ldl <| lk_cst <| lk_cmp <| lk_ifc <| lk_cst <| lk_rf
  | 5 => lk_ldl <| lk_ldl <| lk_ld <| lk_rf
  | 6 => lk_rtl hQ
  | 7 => lk_ldl <| lk_ldl <| lk_cmp <| lk_ifc <| lk_cst <| lk_rf
  | 8 => lk_cst <| lk_rf
  | 9 => lk_rtl hQ
  | 10 => lk_ldl <| lk_ldl <| lk_cmp <| lk_ifc <| lk_cst <| lk_rf
  | 11 => lk_cst <| lk_rf
  | 12 => lk_rtl hQ
  | 13 => lk_ldl <| lk_ldl <| lk_cmp <| lk_ifc <| lk_cst <| lk_rf
  | 14 => lk_cst <| lk_rf
  | 15 => lk_rtl hQ
  | _ + 16 => fun _ _ _ _ q => q.elim
set_option maxRecDepth 100000 in
theorem mb_X3_init : MB pb_X3_init := fun J C Q Q' hC hQ t => match t with
  | 0 => lk_lda <| lk_obi <| lk_lda <| lk_cst <| lk_nar <| lk_put <| lk_rtv hQ
  | _ + 1 => fun _ _ _ _ q => q.elim
set_option maxRecDepth 100000 in
theorem mb_X3_forget : MB pb_X3_forget := fun J C Q Q' hC hQ t => match t with
  | 0 => lk_lda <| lk_get <| lk_cst <| lk_cas hC <| lk_rtv hQ
  | _ + 1 => fun _ _ _ _ q => q.elim
set_option maxRecDepth 100000 in
theorem mb_X3_copyFrom : MB pb_X3_copyFrom := fun J C Q Q' hC hQ t => match t with
  | 0 => lk_lda <| lk_get <| lk_cst <| lk_lda <| lk_get <| lk_cst <| lk_lda <| lk_get <| lk_len <| lk_cpl <| lk_rtv hQ
  | _ + 1 => fun _ _ _ _ q => q.elim
set_option maxRecDepth 100000 in
theorem mb_X3_countRows : MB pb_X3_countRows := fun J C Q Q' hC hQ t => match t with
  | 0 => lk_cst <| lk_sti <| lk_cst <| lk_sti <| lk_rf
  | 1 => lk_ldi <| lk_cst <| lk_icm <| lk_lda <| lk_ldi <| lk_cav hC <| lk_ifc <| lk_inc <| lk_rf
  | 2 => lk_inc <| lk_rf
  | 3 => lk_ldi <| lk_ret hQ
  | _ + 4 => fun _ _ _ _ q => q.elim
set_option maxRecDepth 100000 in
theorem mb_X3_isSolved : MB pb_X3_isSolved := fun J C Q Q' hC hQ t => match t with
  | 0 => lk_lda <| lk_ldi <| lk_cav hC <| lk_ifc <| lk_lda <| lk_ldi <| lk_cav hC <| lk_cst <| lk_icm <| lk_cst <| lk_rf
  | 1 => lk_cst <| lk_rf
  | 2 => lk_rtz hQ
  | _ + 3 => fun _ _ _ _ q => q.elim
set_option maxRecDepth 100000 in
theorem mb_X3_solvedSet : MB pb_X3_solvedSet := fun J C Q Q' hC hQ t => match t with
  | 0 => lk_cst <| lk_sti <| lk_cst <| lk_sti <| lk_rf
  | 1 => lk_ldi <| lk_cst <| lk_icm <| lk_lda <| lk_ldi <| lk_cav hC <| lk_ifc <| lk_ldi <| lk_cst <| lk_ldi <| lk_ii <| lk_ii <| lk_sti <| lk_rf
  | 2 => lk_inc <| lk_rf
  | 3 => lk_ldi <| lk_ret hQ
  | _ + 4 => fun _ _ _ _ q => q.elim
set_option maxRecDepth 100000 in
theorem mb_X3_learn : MB pb_X3_learn := fun J C Q Q' hC hQ t => match t with
  | 0 => lk_cst <| lk_sti <| lk_rf
  | 1 => lk_ldi <| lk_cst <| lk_icm <| lk_lda <| lk_get <| lk_cst <| lk_ldi <| lk_ii <| lk_ldi <| lk_ldi <| lk_ii <| lk_cst <| lk_ii <| lk_i2l <| lk_lst <| lk_inc <| lk_rf
  | 2 => lk_cst <| lk_sti <| lk_rf
  | 3 => lk_ldi <| lk_cst <| lk_icm <| lk_lda <| lk_ldi <| lk_cav hC <| lk_ifc <| lk_lda <| lk_ldi <| lk_cst <| lk_cav hC <| lk_rf
  | 4 => lk_inc <| lk_rf
  | 5 => lk_lda <| lk_cst <| lk_cst <| lk_cav hC <| lk_sti <| lk_ldi <| lk_cst <| lk_icm <| lk_rtv hQ
  | 6 => lk_lda <| lk_ldi <| lk_cav hC <| lk_cst <| lk_sti <| lk_rf
  | 7 => lk_ldi <| lk_ldi <| lk_icm <| lk_lda <| lk_ldi <| lk_cav hC <| lk_ifc <| lk_lda <| lk_ldi <| lk_ldi <| lk_cav hC <| lk_rf
  | 8 => lk_inc <| lk_rf
  | 9 => lk_rtv hQ
  | _ + 10 => fun _ _ _ _ q => q.elim
set_option maxRecDepth 100000 in
theorem mb_X3_otherWorld : MB pb_X3_otherWorld := fun J C Q Q' hC hQ t => match t with
  | 0 => lk_lda <| lk_ldi <| lk_cav hC <| lk_ifc <| lk_lda <| lk_ldi <| lk_cav hC <| lk_rf
  | 1 => lk_ldi <| lk_rf
  | 2 => lk_sti <| lk_ldi <| lk_cst <| lk_icm <| lk_cst <| lk_rtl hQ
  | 3 => lk_lda <| lk_ldi <| lk_cav hC <| lk_stl <| lk_ldi <| lk_ldi <| lk_icm <| lk_ldl <| lk_rtl hQ
  | 4 => lk_lda <| lk_ldi <| lk_ldi <| lk_cav hC <| lk_stl <| lk_ldl <| lk_cst <| lk_cmp <| lk_ifc <| lk_cst <| lk_rf
  | 5 => lk_lda <| lk_ldi <| lk_ldi <| lk_cav hC <| lk_l1 <| lk_ldl <| lk_ll <| lk_ldl <| lk_ld <| lk_rf
  | 6 => lk_rtl hQ
  | _ + 7 => fun _ _ _ _ q => q.elim
set_option maxRecDepth 100000 in
theorem mb_X3_leastThatMakesWhole : MB pb_X3_leastThatMakesWhole := fun J C Q Q' hC hQ t => match t with
  | 0 => lk_cst <| lk_stl <| lk_cst <| lk_sti <| lk_rf
  | 1 => lk_ldi <| lk_cst <| lk_icm <| lk_lda <| lk_ldi <| lk_ldi <| lk_cav hC <| lk_stl <| lk_ldl <| lk_lda <| lk_ldi <| lk_ldi <| lk_cav hC <| lk_cas hC <| lk_stl <| lk_ldl <| lk_cst <| lk_cmp <| lk_ifc <| lk_ldl <| lk_cst <| lk_cmp <| lk_ifc <| lk_ldl <| lk_ldl <| lk_ld <| lk_stl <| lk_ldl <| lk_ldl <| lk_cas hC <| lk_stl <| lk_ldl <| lk_cst <| lk_cmp <| lk_ifc <| lk_ldl <| lk_rf
  | 2 => lk_ldl <| lk_ldl <| lk_ld <| lk_ldl <| lk_ll <| lk_rf
  | 3 => lk_stl <| lk_rf
  | 4 => lk_inc <| lk_rf
  | 5 => lk_ldl <| lk_rtl hQ
  | _ + 6 => fun _ _ _ _ q => q.elim
set_option maxRecDepth 100000 in
theorem mb_X3_at : MB pb_X3_at := fun J C Q Q' hC hQ t => match t with
  | 0 => lk_lda <| lk_get <| lk_ldi <| lk_cst <| lk_ii <| lk_ldi <| lk_ii <| lk_lld <| lk_rtl hQ
  | _ + 1 => fun _ _ _ _ q => q.elim
set_option maxRecDepth 100000 in
theorem mb_X3_isPivot : MB pb_X3_isPivot := fun J C Q Q' hC hQ t => match t with
  | 0 => lk_lda <| lk_ldi <| lk_ldi <| lk_cav hC <| lk_cst <| lk_cmp <| lk_ifc <| lk_cst <| lk_rf
  | 1 => lk_cst <| lk_rf
  | 2 => lk_rtz hQ
  | _ + 3 => fun _ _ _ _ q => q.elim
set_option maxRecDepth 100000 in
theorem mb_X3_firstBehind : MB pb_X3_firstBehind := fun J C Q Q' hC hQ t => match t with
  | 0 => lk_lda <| lk_ldi <| lk_ldi <| lk_cst <| lk_ii <| lk_cav hC <| lk_ret hQ
  | _ + 1 => fun _ _ _ _ q => q.elim
set_option maxRecDepth 100000 in
theorem mb_X3_firstOf : MB pb_X3_firstOf := fun J C Q Q' hC hQ t => match t with
  | 0 => lk_ldi <| lk_sti <| lk_rf
  | 1 => lk_ldi <| lk_cst <| lk_icm <| lk_lda <| lk_ldi <| lk_ldi <| lk_cav hC <| lk_cst <| lk_cmp <| lk_ifc <| lk_ldi <| lk_ret hQ
  | 2 => lk_inc <| lk_rf
  | 3 => lk_cst <| lk_ret hQ
  | _ + 4 => fun _ _ _ _ q => q.elim
set_option maxRecDepth 100000 in
theorem mb_X3_clearAt : MB pb_X3_clearAt := fun J C Q Q' hC hQ t => match t with
  | 0 => lk_lda <| lk_ldi <| lk_ldi <| lk_cav hC <| lk_stl <| lk_lda <| lk_ldi <| lk_ldi <| lk_cav hC <| lk_stl <| lk_ldl <| lk_cst <| lk_cmp <| lk_ifc <| lk_rtv hQ
  | 1 => lk_cst <| lk_sti <| lk_rf
  | 2 => lk_ldi <| lk_cst <| lk_icm <| lk_lda <| lk_get <| lk_ldi <| lk_cst <| lk_ii <| lk_ldi <| lk_ii <| lk_lda <| lk_ldi <| lk_ldi <| lk_cav hC <| lk_ldl <| lk_ll <| lk_lda <| lk_ldi <| lk_ldi <| lk_cav hC <| lk_ldl <| lk_ll <| lk_ll <| lk_lst <| lk_inc <| lk_rf
  | 3 => lk_lda <| lk_ldi <| lk_lda <| lk_ldi <| lk_cav hC <| lk_cav hC <| lk_rtv hQ
  | _ + 4 => fun _ _ _ _ q => q.elim
set_option maxRecDepth 100000 in
theorem mb_X3_settleNewRow : MB pb_X3_settleNewRow := fun J C Q Q' hC hQ t => match t with
  | 0 => lk_lda <| lk_get <| lk_cst <| lk_lda <| lk_get <| lk_ldi <| lk_cst <| lk_ii <| lk_cst <| lk_cpl <| lk_lda <| lk_ldi <| lk_cav hC <| lk_stl <| lk_lda <| lk_ldi <| lk_lda <| lk_ldi <| lk_ldi <| lk_cav hC <| lk_cst <| lk_cmp <| lk_ifc <| lk_ldl <| lk_l1 <| lk_rf
  | 1 => lk_ldl <| lk_rf
  | 2 => lk_cav hC <| lk_rtv hQ
  | _ + 3 => fun _ _ _ _ q => q.elim
set_option maxRecDepth 100000 in
theorem mb_X3_divide : MB pb_X3_divide := fun J C Q Q' hC hQ t => match t with
  | 0 => lk_ldl <| lk_cst <| lk_cmp <| lk_ifc <| lk_rtv hQ
  | 1 => lk_cst <| lk_sti <| lk_rf
  | 2 => lk_ldi <| lk_cst <| lk_icm <| lk_lda <| lk_get <| lk_ldi <| lk_cst <| lk_ii <| lk_ldi <| lk_ii <| lk_dup2 <| lk_lld <| lk_ldl <| lk_ld <| lk_lst <| lk_inc <| lk_rf
  | 3 => lk_rtv hQ
  | _ + 4 => fun _ _ _ _ q => q.elim
set_option maxRecDepth 100000 in
theorem mb_X3_commonDivisorOf : MB pb_X3_commonDivisorOf := fun J C Q Q' hC hQ t => match t with
  | 0 => lk_cst <| lk_stl <| lk_cst <| lk_sti <| lk_rf
  | 1 => lk_ldi <| lk_cst <| lk_icm <| lk_ldl <| lk_lda <| lk_ldi <| lk_ldi <| lk_cav hC <| lk_cas hC <| lk_stl <| lk_inc <| lk_rf
  | 2 => lk_ldl <| lk_rtl hQ
  | _ + 3 => fun _ _ _ _ q => q.elim
set_option maxRecDepth 100000 in
theorem mb_X3_commonDivisor : MB pb_X3_commonDivisor := fun J C Q Q' hC hQ t => match t with
  | 0 => lk_ldl <| lk_cst <| lk_cmp <| lk_ifc <| lk_ldl <| lk_l1 <| lk_rf
  | 1 => lk_ldl <| lk_rf
  | 2 => lk_stl <| lk_ldl <| lk_cst <| lk_cmp <| lk_ifc <| lk_ldl <| lk_l1 <| lk_rf
  | 3 => lk_ldl <| lk_rf
  | 4 => lk_stl <| lk_cst <| lk_sti <| lk_rf
  | 5 => lk_ldi <| lk_cst <| lk_icm <| lk_ldl <| lk_cst <| lk_cmp <| lk_ifc <| lk_ldl <| lk_ldl <| lk_ld <| lk_stl <| lk_ldl <| lk_stl <| lk_ldl <| lk_stl <| lk_inc <| lk_rf
  | 6 => lk_ldl <| lk_rtl hQ
  | _ + 7 => fun _ _ _ _ q => q.elim
set_option maxRecDepth 100000 in
theorem mb_X4_init : MB pb_X4_init := fun J C Q Q' hC hQ t => match t with
  | 0 => lk_lda <| lk_obi <| lk_lda <| lk_cst <| lk_nar <| lk_put <| lk_lda <| lk_cst <| lk_nar <| lk_put <| lk_rtv hQ
  | _ + 1 => fun _ _ _ _ q => q.elim
set_option maxRecDepth 100000 in
theorem mb_X4_empty : MB pb_X4_empty := fun J C Q Q' hC hQ t => match t with
  | 0 => lk_lda <| lk_cst <| lk_put <| lk_lda <| lk_cst <| lk_put <| lk_rtv hQ
  | _ + 1 => fun _ _ _ _ q => q.elim
set_option maxRecDepth 100000 in
theorem mb_X4_append : MB pb_X4_append := fun J C Q Q' hC hQ t => match t with
  | 0 => lk_lda <| lk_get <| lk_cst <| lk_icm <| lk_rtv hQ
  | 1 => lk_lda <| lk_get <| lk_lda <| lk_get <| lk_ldi <| lk_ast <| lk_lda <| lk_get <| lk_lda <| lk_get <| lk_ldi <| lk_ast <| lk_lda <| lk_dup <| lk_get <| lk_cst <| lk_ii <| lk_put <| lk_ldi <| lk_cst <| lk_icm <| lk_lda <| lk_dup <| lk_get <| lk_cst <| lk_ldi <| lk_ii <| lk_ii <| lk_put <| lk_rf
  | 2 => lk_rtv hQ
  | _ + 3 => fun _ _ _ _ q => q.elim
set_option maxRecDepth 100000 in
theorem mb_X4_copyFrom : MB pb_X4_copyFrom := fun J C Q Q' hC hQ t => match t with
  | 0 => lk_lda <| lk_get <| lk_cst <| lk_lda <| lk_get <| lk_cst <| lk_lda <| lk_get <| lk_cpi <| lk_lda <| lk_get <| lk_cst <| lk_lda <| lk_get <| lk_cst <| lk_lda <| lk_get <| lk_cpi <| lk_lda <| lk_lda <| lk_get <| lk_put <| lk_lda <| lk_lda <| lk_get <| lk_put <| lk_rtv hQ
  | _ + 1 => fun _ _ _ _ q => q.elim
set_option maxRecDepth 100000 in
theorem mb_X5_init : MB pb_X5_init := fun J C Q Q' hC hQ t => match t with
  | 0 => lk_lda <| lk_obi <| lk_lda <| lk_new <| lk_dup <| lk_can hC <| lk_put <| lk_lda <| lk_new <| lk_dup <| lk_can hC <| lk_put <| lk_lda <| lk_cst <| lk_nar <| lk_put <| lk_cst <| lk_sti <| lk_rf
  | 1 => lk_ldi <| lk_cst <| lk_icm <| lk_lda <| lk_get <| lk_ldi <| lk_new <| lk_dup <| lk_can hC <| lk_rst <| lk_inc <| lk_rf
  | 2 => lk_rtv hQ
  | _ + 3 => fun _ _ _ _ q => q.elim
set_option maxRecDepth 100000 in
theorem mb_X5_begin : MB pb_X5_begin := fun J C Q Q' hC hQ t => match t with
  | 0 => lk_lda <| lk_get <| lk_cav hC <| lk_lda <| lk_get <| lk_cst <| lk_cst <| lk_cav hC <| lk_lda <| lk_cst <| lk_put <| lk_lda <| lk_cst <| lk_put <| lk_cst <| lk_sti <| lk_rf
  | 1 => lk_ldi <| lk_cst <| lk_icm <| lk_lda <| lk_get <| lk_ldi <| lk_rld <| lk_cav hC <| lk_inc <| lk_rf
  | 2 => lk_rtv hQ
  | _ + 3 => fun _ _ _ _ q => q.elim
set_option maxRecDepth 100000 in
theorem mb_X5_hasClosed : MB pb_X5_hasClosed := fun J C Q Q' hC hQ t => match t with
  | 0 => lk_lda <| lk_get <| lk_ldi <| lk_ii <| lk_ifc <| lk_cst <| lk_rf
  | 1 => lk_cst <| lk_rf
  | 2 => lk_rtz hQ
  | _ + 3 => fun _ _ _ _ q => q.elim
set_option maxRecDepth 100000 in
theorem mb_X5_startCursor : MB pb_X5_startCursor := fun J C Q Q' hC hQ t => match t with
  | 0 => lk_lda <| lk_get <| lk_lda <| lk_cav hC <| lk_lda <| lk_cst <| lk_put <| lk_lda <| lk_cst <| lk_put <| lk_rtv hQ
  | _ + 1 => fun _ _ _ _ q => q.elim
set_option maxRecDepth 100000 in
theorem mb_X6_init : MB pb_X6_init := fun J C Q Q' hC hQ t => match t with
  | 0 => lk_lda <| lk_obi <| lk_lda <| lk_cst <| lk_nar <| lk_put <| lk_lda <| lk_cst <| lk_nar <| lk_put <| lk_lda <| lk_cst <| lk_nar <| lk_put <| lk_lda <| lk_cst <| lk_put <| lk_lda <| lk_cst <| lk_nar <| lk_put <| lk_lda <| lk_new <| lk_dup <| lk_can hC <| lk_put <| lk_lda <| lk_new <| lk_dup <| lk_can hC <| lk_put <| lk_lda <| lk_new <| lk_dup <| lk_can hC <| lk_put <| lk_lda <| lk_new <| lk_dup <| lk_can hC <| lk_put <| lk_cst <| lk_sti <| lk_rf
  | 1 => lk_ldi <| lk_cst <| lk_icm <| lk_lda <| lk_get <| lk_ldi <| lk_new <| lk_dup <| lk_can hC <| lk_rst <| lk_inc <| lk_rf
  | 2 => lk_rtv hQ
  | _ + 3 => fun _ _ _ _ q => q.elim
set_option maxRecDepth 100000 in
theorem mb_X6_object : MB pb_X6_object := fun J C Q Q' hC hQ t => match t with
  | 0 => lk_lda <| lk_get <| lk_ifc <| lk_cst <| lk_ret hQ
  | 1 => lk_lda <| lk_get <| lk_cst <| lk_icm <| lk_cst <| lk_ret hQ
  | 2 => lk_cst <| lk_sti <| lk_rf
  | 3 => lk_ldi <| lk_cst <| lk_icm <| lk_lda <| lk_get <| lk_lda <| lk_get <| lk_cst <| lk_ii <| lk_ldi <| lk_ii <| lk_cst <| lk_ast <| lk_inc <| lk_rf
  | 4 => lk_lda <| lk_dup <| lk_get <| lk_cst <| lk_ii <| lk_put <| lk_lda <| lk_get <| lk_cst <| lk_ii <| lk_ret hQ
  | _ + 5 => fun _ _ _ _ q => q.elim
set_option maxRecDepth 100000 in
theorem mb_X6_set : MB pb_X6_set := fun J C Q Q' hC hQ t => match t with
  | 0 => lk_lda <| lk_ldi <| lk_cav hC <| lk_ifc <| lk_ldi <| lk_cas hC <| lk_ifc <| lk_rf
  | 1 => lk_cst <| lk_ret hQ
  | 2 => lk_ldi <| lk_cst <| lk_icm <| lk_ldi <| lk_cst <| lk_icm <| lk_rf
  | 3 => lk_cst <| lk_ret hQ
  | 4 => lk_lda <| lk_get <| lk_ifc <| lk_cst <| lk_ret hQ
  | 5 => lk_lda <| lk_get <| lk_ldi <| lk_cst <| lk_ii <| lk_ldi <| lk_ii <| lk_ldi <| lk_ast <| lk_cst <| lk_ret hQ
  | _ + 6 => fun _ _ _ _ q => q.elim
set_option maxRecDepth 100000 in
theorem mb_X6_user : MB pb_X6_user := fun J C Q Q' hC hQ t => match t with
  | 0 => lk_lda <| lk_get <| lk_cst <| lk_icm <| lk_cst <| lk_ret hQ
  | 1 => lk_lda <| lk_get <| lk_lda <| lk_get <| lk_rld <| lk_cav hC <| lk_lda <| lk_dup <| lk_get <| lk_cst <| lk_ii <| lk_put <| lk_lda <| lk_get <| lk_cst <| lk_ii <| lk_ret hQ
  | _ + 2 => fun _ _ _ _ q => q.elim
set_option maxRecDepth 100000 in
theorem mb_X6_type : MB pb_X6_type := fun J C Q Q' hC hQ t => match t with
  | 0 => lk_ldi <| lk_ifc <| lk_ldi <| lk_cst <| lk_icm <| lk_rf
  | 1 => lk_cst <| lk_ret hQ
  | 2 => lk_ldi <| lk_ifc <| lk_lda <| lk_cst <| lk_put <| lk_cst <| lk_ret hQ
  | 3 => lk_lda <| lk_get <| lk_ldi <| lk_ii <| lk_cst <| lk_icm <| lk_cst <| lk_ret hQ
  | 4 => lk_ldi <| lk_cst <| lk_ii <| lk_sti <| lk_rf
  | 5 => lk_ldi <| lk_ifc <| lk_lda <| lk_get <| lk_lda <| lk_get <| lk_ldl <| lk_cst <| lk_ldi <| lk_ii <| lk_ls <| lk_l2i <| lk_cst <| lk_ii <| lk_ast <| lk_lda <| lk_dup <| lk_get <| lk_cst <| lk_ii <| lk_put <| lk_inc <| lk_rf
  | 6 => lk_lda <| lk_get <| lk_ret hQ
  | _ + 7 => fun _ _ _ _ q => q.elim
set_option maxRecDepth 100000 in
theorem mb_X6_rule : MB pb_X6_rule := fun J C Q Q' hC hQ t => match t with
  | 0 => lk_lda <| lk_ldi <| lk_cav hC <| lk_ifc <| lk_cst <| lk_ret hQ
  | 1 => lk_lda <| lk_cav hC <| lk_sti <| lk_ldi <| lk_ifc <| lk_cst <| lk_ldi <| lk_ii <| lk_ret hQ
  | 2 => lk_lda <| lk_get <| lk_ldi <| lk_rld <| lk_get <| lk_lda <| lk_get <| lk_get <| lk_cav hC <| lk_lda <| lk_lda <| lk_get <| lk_ldi <| lk_rld <| lk_cst <| lk_cav hC <| lk_ret hQ
  | _ + 3 => fun _ _ _ _ q => q.elim
set_option maxRecDepth 100000 in
theorem mb_X6_place : MB pb_X6_place := fun J C Q Q' hC hQ t => match t with
  | 0 => lk_lda <| lk_get <| lk_ret hQ
  | _ + 1 => fun _ _ _ _ q => q.elim
set_option maxRecDepth 100000 in
theorem mb_X6_close : MB pb_X6_close := fun J C Q Q' hC hQ t => match t with
  | 0 => lk_lda <| lk_ldi <| lk_cav hC <| lk_ifc <| lk_cst <| lk_ret hQ
  | 1 => lk_ldi <| lk_ifc <| lk_ldi <| lk_cst <| lk_icm <| lk_rf
  | 2 => lk_cst <| lk_ret hQ
  | 3 => lk_lda <| lk_get <| lk_ldi <| lk_rld <| lk_get <| lk_sti <| lk_lda <| lk_get <| lk_ldi <| lk_rld <| lk_ldi <| lk_put <| lk_ldi <| lk_ret hQ
  | _ + 4 => fun _ _ _ _ q => q.elim
set_option maxRecDepth 100000 in
theorem mb_X6_seen : MB pb_X6_seen := fun J C Q Q' hC hQ t => match t with
  | 0 => lk_lda <| lk_ldi <| lk_cav hC <| lk_ifc <| lk_cst <| lk_ret hQ
  | 1 => lk_ldi <| lk_rf
  | 2 => lk_lda <| lk_lda <| lk_get <| lk_ldi <| lk_rld <| lk_cst <| lk_cav hC <| lk_ret hQ
  | 3 => lk_lda <| lk_get <| lk_lda <| lk_lda <| lk_get <| lk_ldi <| lk_rld <| lk_cst <| lk_cav hC <| lk_ii <| lk_ret hQ
  | 4 => lk_lda <| lk_lda <| lk_get <| lk_ldi <| lk_rld <| lk_cst <| lk_cav hC <| lk_ret hQ
  | 5 => lk_cst <| lk_ret hQ
  | _ + 6 => fun _ _ _ _ q => q.elim
set_option maxRecDepth 100000 in
theorem mb_X6_ask : MB pb_X6_ask := fun J C Q Q' hC hQ t => match t with
  | 0 => lk_lda <| lk_ldi <| lk_cav hC <| lk_ifc <| lk_cst <| lk_ret hQ
  | 1 => lk_lda <| lk_get <| lk_cav hC <| lk_ifc <| lk_cst <| lk_ret hQ
  | 2 => lk_lda <| lk_ldi <| lk_cst <| lk_cav hC <| lk_sti <| lk_ldi <| lk_ifc <| lk_ldi <| lk_ret hQ
  | 3 => lk_lda <| lk_cst <| lk_put <| lk_cst <| lk_sti <| lk_rf
  | 4 => lk_ldi <| lk_lda <| lk_get <| lk_icm <| lk_lda <| lk_lda <| lk_get <| lk_ldi <| lk_rld <| lk_lda <| lk_get <| lk_get <| lk_ldi <| lk_cav hC <| lk_ifc <| lk_lda <| lk_get <| lk_lda <| lk_get <| lk_ldi <| lk_ast <| lk_lda <| lk_dup <| lk_get <| lk_cst <| lk_ii <| lk_put <| lk_rf
  | 5 => lk_inc <| lk_rf
  | 6 => lk_lda <| lk_get <| lk_ret hQ
  | _ + 7 => fun _ _ _ _ q => q.elim
set_option maxRecDepth 100000 in
theorem mb_X6_found : MB pb_X6_found := fun J C Q Q' hC hQ t => match t with
  | 0 => lk_ldi <| lk_ifc <| lk_ldi <| lk_lda <| lk_get <| lk_icm <| lk_rf
  | 1 => lk_cst <| lk_ret hQ
  | 2 => lk_lda <| lk_get <| lk_ldi <| lk_ald <| lk_ret hQ
  | _ + 3 => fun _ _ _ _ q => q.elim
set_option maxRecDepth 100000 in
theorem mb_X6_cell : MB pb_X6_cell := fun J C Q Q' hC hQ t => match t with
  | 0 => lk_lda <| lk_ldi <| lk_cav hC <| lk_ifc <| lk_ldi <| lk_cas hC <| lk_ifc <| lk_rf
  | 1 => lk_cst <| lk_ret hQ
  | 2 => lk_ldi <| lk_ldi <| lk_icm <| lk_cst <| lk_ret hQ
  | 3 => lk_lda <| lk_get <| lk_cav hC <| lk_ifc <| lk_cst <| lk_ret hQ
  | 4 => lk_lda <| lk_get <| lk_ldi <| lk_rld <| lk_cst <| lk_ldi <| lk_ii <| lk_cav hC <| lk_ifc <| lk_lda <| lk_get <| lk_ldi <| lk_cst <| lk_ldi <| lk_ldi <| lk_cst <| lk_cav hC <| lk_cst <| lk_ret hQ
  | 5 => lk_lda <| lk_get <| lk_ldi <| lk_cst <| lk_ldi <| lk_ldi <| lk_cst <| lk_cav hC <| lk_lda <| lk_lda <| lk_get <| lk_ldi <| lk_rld <| lk_ldi <| lk_ldi <| lk_ldi <| lk_cav hC <| lk_ret hQ
  | _ + 6 => fun _ _ _ _ q => q.elim
set_option maxRecDepth 100000 in
theorem mb_X6_cursor : MB pb_X6_cursor := fun J C Q Q' hC hQ t => match t with
  | 0 => lk_lda <| lk_ldi <| lk_cav hC <| lk_ifc <| lk_cst <| lk_ret hQ
  | 1 => lk_lda <| lk_get <| lk_cav hC <| lk_ifc <| lk_cst <| lk_ret hQ
  | 2 => lk_lda <| lk_ldi <| lk_cst <| lk_cav hC <| lk_sti <| lk_ldi <| lk_ifc <| lk_ldi <| lk_ret hQ
  | 3 => lk_lda <| lk_get <| lk_ldi <| lk_rld <| lk_lda <| lk_get <| lk_get <| lk_cav hC <| lk_cst <| lk_ret hQ
  | _ + 4 => fun _ _ _ _ q => q.elim
set_option maxRecDepth 100000 in
theorem mb_X6_step : MB pb_X6_step := fun J C Q Q' hC hQ t => match t with
  | 0 => lk_lda <| lk_ldi <| lk_cav hC <| lk_ifc <| lk_cst <| lk_ret hQ
  | 1 => lk_lda <| lk_get <| lk_ldi <| lk_rld <| lk_sta <| lk_lda <| lk_get <| lk_ifc <| lk_cst <| lk_ret hQ
  | 2 => lk_lda <| lk_get <| lk_cav hC <| lk_ifc <| lk_cst <| lk_ret hQ
  | 3 => lk_lda <| lk_lda <| lk_get <| lk_get <| lk_cav hC <| lk_ifc <| lk_lda <| lk_get <| lk_ldi <| lk_cst <| lk_cst <| lk_cst <| lk_cst <| lk_cav hC <| lk_cst <| lk_ret hQ
  | 4 => lk_lda <| lk_get <| lk_ldi <| lk_cst <| lk_cst <| lk_cst <| lk_cst <| lk_cav hC <| lk_lda <| lk_lda <| lk_cav hC <| lk_ret hQ
  | _ + 5 => fun _ _ _ _ q => q.elim
set_option maxRecDepth 100000 in
theorem mb_X6_solved : MB pb_X6_solved := fun J C Q Q' hC hQ t => match t with
  | 0 => lk_lda <| lk_ldi <| lk_cav hC <| lk_ifc <| lk_ldi <| lk_cas hC <| lk_ifc <| lk_lda <| lk_ldi <| lk_cav hC <| lk_ifc <| lk_rf
  | 1 => lk_cst <| lk_ret hQ
  | 2 => lk_lda <| lk_get <| lk_ldi <| lk_rld <| lk_get <| lk_ldi <| lk_rld <| lk_ldi <| lk_cav hC <| lk_ifc <| lk_cst <| lk_rf
  | 3 => lk_cst <| lk_rf
  | 4 => lk_ret hQ
  | _ + 5 => fun _ _ _ _ q => q.elim
set_option maxRecDepth 100000 in
theorem mb_X6_would : MB pb_X6_would := fun J C Q Q' hC hQ t => match t with
  | 0 => lk_lda <| lk_ldi <| lk_cav hC <| lk_ifc <| lk_ldi <| lk_cas hC <| lk_ifc <| lk_lda <| lk_ldi <| lk_cav hC <| lk_ifc <| lk_rf
  | 1 => lk_cst <| lk_ret hQ
  | 2 => lk_lda <| lk_ldi <| lk_cav hC <| lk_ifc <| lk_cst <| lk_ret hQ
  | 3 => lk_lda <| lk_lda <| lk_get <| lk_ldi <| lk_rld <| lk_ldi <| lk_ldi <| lk_cav hC <| lk_lda <| lk_get <| lk_ldi <| lk_cav hC <| lk_ifc <| lk_cst <| lk_rf
  | 4 => lk_cst <| lk_rf
  | 5 => lk_ret hQ
  | _ + 6 => fun _ _ _ _ q => q.elim
set_option maxRecDepth 100000 in
theorem mb_X6_world : MB pb_X6_world := fun J C Q Q' hC hQ t => match t with
  | 0 => lk_lda <| lk_ldi <| lk_cav hC <| lk_ifc <| lk_ldi <| lk_cas hC <| lk_ifc <| lk_lda <| lk_ldi <| lk_cav hC <| lk_ifc <| lk_lda <| lk_ldi <| lk_cav hC <| lk_ifc <| lk_rf
  | 1 => lk_cst <| lk_rtl hQ
  | 2 => lk_lda <| lk_get <| lk_ldi <| lk_rld <| lk_get <| lk_ldi <| lk_rld <| lk_sta <| lk_lda <| lk_ldi <| lk_cav hC <| lk_ifc <| lk_cst <| lk_rtl hQ
  | 3 => lk_lda <| lk_ldi <| lk_ldi <| lk_cav hC <| lk_rtl hQ
  | _ + 4 => fun _ _ _ _ q => q.elim
set_option maxRecDepth 100000 in
theorem mb_X6_rows : MB pb_X6_rows := fun J C Q Q' hC hQ t => match t with
  | 0 => lk_lda <| lk_ldi <| lk_cav hC <| lk_ifc <| lk_ldi <| lk_cas hC <| lk_ifc <| lk_rf
  | 1 => lk_cst <| lk_ret hQ
  | 2 => lk_lda <| lk_get <| lk_ldi <| lk_rld <| lk_get <| lk_ldi <| lk_rld <| lk_cav hC <| lk_ret hQ
  | _ + 3 => fun _ _ _ _ q => q.elim
set_option maxRecDepth 100000 in
theorem mb_X6_audit : MB pb_X6_audit := fun J C Q Q' hC hQ t => match t with
  | 0 => lk_ldi <| lk_ifc <| lk_ldi <| lk_lda <| lk_get <| lk_get <| lk_icm <| lk_rf
  | 1 => lk_cst <| lk_ret hQ
  | 2 => lk_ldi <| lk_ifc <| lk_ldi <| lk_cst <| lk_icm <| lk_rf
  | 3 => lk_cst <| lk_ret hQ
  | 4 => lk_lda <| lk_get <| lk_get <| lk_ldi <| lk_cst <| lk_ii <| lk_ldi <| lk_ii <| lk_ald <| lk_ret hQ
  | _ + 5 => fun _ _ _ _ q => q.elim
set_option maxRecDepth 100000 in
theorem mb_X6_told : MB pb_X6_told := fun J C Q Q' hC hQ t => match t with
  | 0 => lk_ldi <| lk_rf
  | 1 => lk_lda <| lk_get <| lk_ret hQ
  | 2 => lk_lda <| lk_get <| lk_ret hQ
  | 3 => lk_lda <| lk_get <| lk_ret hQ
  | 4 => lk_lda <| lk_get <| lk_get <| lk_ret hQ
  | 5 => lk_lda <| lk_get <| lk_ifc <| lk_cst <| lk_rf
  | 6 => lk_cst <| lk_rf
  | 7 => lk_ret hQ
  | 8 => lk_cst <| lk_ret hQ
  | _ + 9 => fun _ _ _ _ q => q.elim
set_option maxRecDepth 100000 in
theorem mb_X6_clear : MB pb_X6_clear := fun J C Q Q' hC hQ t => match t with
  | 0 => lk_lda <| lk_cst <| lk_put <| lk_lda <| lk_cst <| lk_put <| lk_lda <| lk_cst <| lk_put <| lk_lda <| lk_cst <| lk_put <| lk_lda <| lk_cst <| lk_put <| lk_lda <| lk_cst <| lk_put <| lk_lda <| lk_get <| lk_cst <| lk_put <| lk_rtv hQ
  | _ + 1 => fun _ _ _ _ q => q.elim
set_option maxRecDepth 100000 in
theorem mb_X6_isObject : MB pb_X6_isObject := fun J C Q Q' hC hQ t => match t with
  | 0 => lk_ldi <| lk_ifc <| lk_ldi <| lk_lda <| lk_get <| lk_icm <| lk_cst <| lk_rf
  | 1 => lk_cst <| lk_rf
  | 2 => lk_rtz hQ
  | _ + 3 => fun _ _ _ _ q => q.elim
set_option maxRecDepth 100000 in
theorem mb_X6_isUser : MB pb_X6_isUser := fun J C Q Q' hC hQ t => match t with
  | 0 => lk_ldi <| lk_ifc <| lk_ldi <| lk_lda <| lk_get <| lk_icm <| lk_cst <| lk_rf
  | 1 => lk_cst <| lk_rf
  | 2 => lk_rtz hQ
  | _ + 3 => fun _ _ _ _ q => q.elim
set_option maxRecDepth 100000 in
theorem mb_X6_isField : MB pb_X6_isField := fun J C Q Q' hC hQ t => match t with
  | 0 => lk_ldi <| lk_ifc <| lk_ldi <| lk_cst <| lk_icm <| lk_cst <| lk_rf
  | 1 => lk_cst <| lk_rf
  | 2 => lk_rtz hQ
  | _ + 3 => fun _ _ _ _ q => q.elim
set_option maxRecDepth 100000 in
theorem mb_X6_isSet : MB pb_X6_isSet := fun J C Q Q' hC hQ t => match t with
  | 0 => lk_ldi <| lk_ifc <| lk_ldi <| lk_lda <| lk_get <| lk_ii <| lk_ifc <| lk_cst <| lk_rf
  | 1 => lk_cst <| lk_rf
  | 2 => lk_rtz hQ
  | _ + 3 => fun _ _ _ _ q => q.elim
set_option maxRecDepth 100000 in
theorem mb_X6_takeTape : MB pb_X6_takeTape := fun J C Q Q' hC hQ t => match t with
  | 0 => lk_lda <| lk_get <| lk_lda <| lk_get <| lk_lda <| lk_get <| lk_cav hC <| lk_lda <| lk_cst <| lk_put <| lk_lda <| lk_lda <| lk_get <| lk_get <| lk_ifc <| lk_cst <| lk_rf
  | 1 => lk_lda <| lk_get <| lk_get <| lk_rf
  | 2 => lk_put <| lk_lda <| lk_get <| lk_get <| lk_ret hQ
  | _ + 3 => fun _ _ _ _ q => q.elim
set_option maxRecDepth 100000 in
theorem mb_X6_takeQuery : MB pb_X6_takeQuery := fun J C Q Q' hC hQ t => match t with
  | 0 => lk_lda <| lk_cav hC <| lk_sti <| lk_ldi <| lk_ifc <| lk_lda <| lk_get <| lk_ldi <| lk_ldi <| lk_cst <| lk_cst <| lk_cst <| lk_cav hC <| lk_cst <| lk_ldi <| lk_ii <| lk_ret hQ
  | 1 => lk_lda <| lk_get <| lk_ldi <| lk_rld <| lk_lda <| lk_get <| lk_get <| lk_get <| lk_cav hC <| lk_ifc <| lk_lda <| lk_get <| lk_ldi <| lk_ldi <| lk_cst <| lk_cst <| lk_cst <| lk_cav hC <| lk_cst <| lk_ret hQ
  | 2 => lk_lda <| lk_get <| lk_ldi <| lk_ldi <| lk_cst <| lk_cst <| lk_cst <| lk_cav hC <| lk_cst <| lk_ret hQ
  | _ + 3 => fun _ _ _ _ q => q.elim
set_option maxRecDepth 100000 in
theorem mb_X6_isSeen : MB pb_X6_isSeen := fun J C Q Q' hC hQ t => match t with
  | 0 => lk_lda <| lk_get <| lk_lda <| lk_get <| lk_lda <| lk_get <| lk_ldi <| lk_cst <| lk_ii <| lk_cav hC <| lk_cst <| lk_icm <| lk_cst <| lk_rf
  | 1 => lk_cst <| lk_rf
  | 2 => lk_rtz hQ
  | _ + 3 => fun _ _ _ _ q => q.elim
set_option maxRecDepth 100000 in
theorem mb_X6_isMatch : MB pb_X6_isMatch := fun J C Q Q' hC hQ t => match t with
  | 0 => lk_lda <| lk_lda <| lk_ldi <| lk_cav hC <| lk_ifc <| lk_lda <| lk_get <| lk_lda <| lk_lda <| lk_get <| lk_ldi <| lk_cst <| lk_ii <| lk_cav hC <| lk_cst <| lk_icm <| lk_cst <| lk_rf
  | 1 => lk_cst <| lk_rf
  | 2 => lk_rtz hQ
  | _ + 3 => fun _ _ _ _ q => q.elim
set_option maxRecDepth 100000 in
theorem mb_X6_countByRule : MB pb_X6_countByRule := fun J C Q Q' hC hQ t => match t with
  | 0 => lk_cst <| lk_sti <| lk_cst <| lk_sti <| lk_rf
  | 1 => lk_ldi <| lk_lda <| lk_get <| lk_icm <| lk_lda <| lk_get <| lk_lda <| lk_get <| lk_lda <| lk_get <| lk_ldi <| lk_cst <| lk_ii <| lk_cav hC <| lk_ldi <| lk_icm <| lk_inc <| lk_rf
  | 2 => lk_inc <| lk_rf
  | 3 => lk_ldi <| lk_ret hQ
  | _ + 4 => fun _ _ _ _ q => q.elim
set_option maxRecDepth 100000 in
theorem mb_X6_countBetween : MB pb_X6_countBetween := fun J C Q Q' hC hQ t => match t with
  | 0 => lk_cst <| lk_sti <| lk_cst <| lk_sti <| lk_rf
  | 1 => lk_ldi <| lk_lda <| lk_get <| lk_icm <| lk_lda <| lk_get <| lk_ldi <| lk_cst <| lk_ii <| lk_ldi <| lk_ii <| lk_ald <| lk_sti <| lk_ldi <| lk_ldi <| lk_icm <| lk_ldi <| lk_ldi <| lk_icm <| lk_lda <| lk_lda <| lk_ldi <| lk_cav hC <| lk_ifc <| lk_inc <| lk_rf
  | 2 => lk_inc <| lk_rf
  | 3 => lk_ldi <| lk_ret hQ
  | _ + 4 => fun _ _ _ _ q => q.elim
set_option maxRecDepth 100000 in
theorem mb_X6_moveCursor : MB pb_X6_moveCursor := fun J C Q Q' hC hQ t => match t with
  | 0 => lk_lda <| lk_get <| lk_cst <| lk_ii <| lk_sti <| lk_rf
  | 1 => lk_ldi <| lk_lda <| lk_get <| lk_icm <| lk_lda <| lk_lda <| lk_lda <| lk_get <| lk_ldi <| lk_cav hC <| lk_ifc <| lk_lda <| lk_ldi <| lk_put <| lk_ldi <| lk_ret hQ
  | 2 => lk_inc <| lk_rf
  | 3 => lk_lda <| lk_lda <| lk_get <| lk_cst <| lk_ii <| lk_put <| lk_cst <| lk_ret hQ
  | _ + 4 => fun _ _ _ _ q => q.elim
set_option maxRecDepth 100000 in
theorem mb_X6_hiddenFrom : MB pb_X6_hiddenFrom := fun J C Q Q' hC hQ t => match t with
  | 0 => lk_lda <| lk_cst <| lk_ldi <| lk_ii <| lk_cav hC <| lk_sti <| lk_cst <| lk_sti <| lk_cst <| lk_sti <| lk_rf
  | 1 => lk_ldi <| lk_lda <| lk_get <| lk_icm <| lk_ldi <| lk_ifc <| lk_lda <| lk_lda <| lk_ldi <| lk_cav hC <| lk_ifc <| lk_rf
  | 2 => lk_ldi <| lk_cst <| lk_ldi <| lk_ii <| lk_ii <| lk_sti <| lk_rf
  | 3 => lk_inc <| lk_rf
  | 4 => lk_ldi <| lk_ret hQ
  | _ + 5 => fun _ _ _ _ q => q.elim
set_option maxRecDepth 100000 in
theorem mb_X6_total : MB pb_X6_total := fun J C Q Q' hC hQ t => match t with
  | 0 => lk_cst <| lk_sti <| lk_cst <| lk_sti <| lk_rf
  | 1 => lk_ldi <| lk_lda <| lk_get <| lk_icm <| lk_ldi <| lk_ldi <| lk_ii <| lk_cst <| lk_ii <| lk_ifc <| lk_ldi <| lk_lda <| lk_get <| lk_ldi <| lk_cst <| lk_ii <| lk_ldi <| lk_ii <| lk_ald <| lk_ii <| lk_sti <| lk_rf
  | 2 => lk_inc <| lk_rf
  | 3 => lk_ldi <| lk_ret hQ
  | _ + 4 => fun _ _ _ _ q => q.elim
set_option maxRecDepth 100000 in
theorem mb_X6_tryOut : MB pb_X6_tryOut := fun J C Q Q' hC hQ t => match t with
  | 0 => lk_lda <| lk_get <| lk_lda <| lk_get <| lk_ldi <| lk_rld <| lk_cav hC <| lk_lda <| lk_get <| lk_ldi <| lk_cav hC <| lk_rtv hQ
  | _ + 1 => fun _ _ _ _ q => q.elim
set_option maxRecDepth 100000 in
theorem mb_X6_tell : MB pb_X6_tell := fun J C Q Q' hC hQ t => match t with
  | 0 => lk_lda <| lk_lda <| lk_ldi <| lk_ldi <| lk_cav hC <| lk_lda <| lk_get <| lk_ldi <| lk_rld <| lk_sta <| lk_lda <| lk_get <| lk_cav hC <| lk_lda <| lk_cav hC <| lk_cst <| lk_ii <| lk_ii <| lk_sti <| lk_ldi <| lk_lda <| lk_lda <| lk_ldi <| lk_cav hC <| lk_ii <| lk_ifc <| lk_cst <| lk_rtz hQ
  | 1 => lk_lda <| lk_lda <| lk_get <| lk_cav hC <| lk_lda <| lk_cst <| lk_put <| lk_cst <| lk_rtz hQ
  | _ + 2 => fun _ _ _ _ q => q.elim
set_option maxRecDepth 100000 in
theorem mb_X7_init : MB pb_X7_init := fun J C Q Q' hC hQ t => match t with
  | 0 => lk_lda <| lk_obi <| lk_lda <| lk_cst <| lk_nar <| lk_put <| lk_lda <| lk_cst <| lk_nar <| lk_put <| lk_lda <| lk_cst <| lk_put <| lk_lda <| lk_cst <| lk_nar <| lk_put <| lk_lda <| lk_cst <| lk_nar <| lk_put <| lk_lda <| lk_cst <| lk_nar <| lk_put <| lk_lda <| lk_cst <| lk_nar <| lk_put <| lk_lda <| lk_cst <| lk_nar <| lk_put <| lk_lda <| lk_cst <| lk_nar <| lk_put <| lk_lda <| lk_cst <| lk_nar <| lk_put <| lk_lda <| lk_cst <| lk_nar <| lk_put <| lk_lda <| lk_cst <| lk_nar <| lk_put <| lk_lda <| lk_cst <| lk_nar <| lk_put <| lk_lda <| lk_cst <| lk_nar <| lk_put <| lk_lda <| lk_cst <| lk_nar <| lk_put <| lk_lda <| lk_cst <| lk_nar <| lk_put <| lk_rtv hQ
  | _ + 1 => fun _ _ _ _ q => q.elim
set_option maxRecDepth 100000 in
theorem mb_X7_thrown : MB pb_X7_thrown := fun J C Q Q' hC hQ t => match t with
  | 0 => lk_lda <| lk_get <| lk_ret hQ
  | _ + 1 => fun _ _ _ _ q => q.elim
set_option maxRecDepth 100000 in
theorem mb_X7_isObject : MB pb_X7_isObject := fun J C Q Q' hC hQ t => match t with
  | 0 => lk_ldi <| lk_ifc <| lk_ldi <| lk_lda <| lk_get <| lk_icm <| lk_cst <| lk_rf
  | 1 => lk_cst <| lk_rf
  | 2 => lk_rtz hQ
  | _ + 3 => fun _ _ _ _ q => q.elim
set_option maxRecDepth 100000 in
theorem mb_X7_isUser : MB pb_X7_isUser := fun J C Q Q' hC hQ t => match t with
  | 0 => lk_ldi <| lk_ifc <| lk_ldi <| lk_lda <| lk_get <| lk_icm <| lk_cst <| lk_rf
  | 1 => lk_cst <| lk_rf
  | 2 => lk_rtz hQ
  | _ + 3 => fun _ _ _ _ q => q.elim
set_option maxRecDepth 100000 in
theorem mb_X7_isField : MB pb_X7_isField := fun J C Q Q' hC hQ t => match t with
  | 0 => lk_ldi <| lk_ifc <| lk_ldi <| lk_cst <| lk_icm <| lk_cst <| lk_rf
  | 1 => lk_cst <| lk_rf
  | 2 => lk_rtz hQ
  | _ + 3 => fun _ _ _ _ q => q.elim
set_option maxRecDepth 100000 in
theorem mb_X7_isSet : MB pb_X7_isSet := fun J C Q Q' hC hQ t => match t with
  | 0 => lk_ldi <| lk_ifc <| lk_ldi <| lk_cst <| lk_lda <| lk_get <| lk_ii <| lk_icm <| lk_cst <| lk_rf
  | 1 => lk_cst <| lk_rf
  | 2 => lk_rtz hQ
  | _ + 3 => fun _ _ _ _ q => q.elim
set_option maxRecDepth 100000 in
theorem mb_X7_object : MB pb_X7_object := fun J C Q Q' hC hQ t => match t with
  | 0 => lk_lda <| lk_cst <| lk_put <| lk_lda <| lk_get <| lk_ifc <| lk_cst <| lk_ret hQ
  | 1 => lk_lda <| lk_get <| lk_cst <| lk_icm <| lk_cst <| lk_ret hQ
  | 2 => lk_cst <| lk_sti <| lk_rf
  | 3 => lk_ldi <| lk_cst <| lk_icm <| lk_lda <| lk_get <| lk_cst <| lk_lda <| lk_get <| lk_ii <| lk_ldi <| lk_ii <| lk_cst <| lk_ast <| lk_inc <| lk_rf
  | 4 => lk_lda <| lk_dup <| lk_get <| lk_cst <| lk_ii <| lk_put <| lk_lda <| lk_get <| lk_cst <| lk_ii <| lk_ret hQ
  | _ + 5 => fun _ _ _ _ q => q.elim
