/-! a call that makes nothing leaves the shapes as they are -/
def LZ (Z : Nat → (FieldType × Nat) ⊕ Nat) (k k' : mm_K) : Prop := ∀ lv st μ κ, mm_z μ = Z → k lv st μ κ → k' lv st μ κ
section
variable {Z : Nat → (FieldType × Nat) ⊕ Nat}
theorem lz_F : LZ Z (fun _ _ _ _ => False) (fun _ _ _ _ => False) := fun _ _ _ _ _ q => q
theorem lz_bad : LZ Z mm_bad mm_bad := fun _ _ _ _ _ q => q
theorem lz_cst {v : Value} {k k' : mm_K} (h : LZ Z k k') : LZ Z (mm_cst v k) (mm_cst v k') := fun _ _ _ _ z q => h _ _ _ _ z q
theorem lz_zq {k k' : mm_K} (h : LZ Z k k') : LZ Z (mm_zq k) (mm_zq k') := fun _ _ _ _ z q => ⟨h _ _ _ _ z q.1, h _ _ _ _ z q.2⟩
theorem lz_go {t : Nat} {J J' : mm_J} (hJ : ∀ t, LZ Z (J t) (J' t)) : LZ Z (mm_go t J) (mm_go t J') := hJ t
theorem lz_ldi {i : Nat} {k k' : mm_K} (h : LZ Z k k') : LZ Z (mm_ldi i k) (mm_ldi i k') := fun lv st μ κ z => by
  unfold mm_ldi
  split
  all_goals first | exact fun q => q.elim | exact h _ _ _ _ z | exact fun q => ⟨q.1, h _ _ _ _ z q.2⟩ | exact fun q => ⟨q.1, q.2.1, h _ _ _ _ z q.2.2⟩ | exact fun ⟨a, b, q⟩ => ⟨a, b, h _ _ _ _ z q⟩ | exact fun ⟨a, b, c, q⟩ => ⟨a, b, c, h _ _ _ _ z q⟩ | exact fun ⟨a, b, c, d, q⟩ => ⟨a, b, c, d, h _ _ _ _ z q⟩ | exact fun ⟨a, b, c, d, e, q⟩ => ⟨a, b, c, d, e, h _ _ _ _ z q⟩ | exact fun ⟨a, b, c, d, e, f, g, q⟩ => ⟨a, b, c, d, e, f, g, h _ _ _ _ z q⟩ | exact fun ⟨a, b, c, d, e, f, g, i, j, l, q⟩ => ⟨a, b, c, d, e, f, g, i, j, l, h _ _ _ _ z q⟩
theorem lz_ldl {i : Nat} {k k' : mm_K} (h : LZ Z k k') : LZ Z (mm_ldl i k) (mm_ldl i k') := fun lv st μ κ z => by
  unfold mm_ldl
  split
  all_goals first | exact fun q => q.elim | exact h _ _ _ _ z | exact fun q => ⟨q.1, h _ _ _ _ z q.2⟩ | exact fun q => ⟨q.1, q.2.1, h _ _ _ _ z q.2.2⟩ | exact fun ⟨a, b, q⟩ => ⟨a, b, h _ _ _ _ z q⟩ | exact fun ⟨a, b, c, q⟩ => ⟨a, b, c, h _ _ _ _ z q⟩ | exact fun ⟨a, b, c, d, q⟩ => ⟨a, b, c, d, h _ _ _ _ z q⟩ | exact fun ⟨a, b, c, d, e, q⟩ => ⟨a, b, c, d, e, h _ _ _ _ z q⟩ | exact fun ⟨a, b, c, d, e, f, g, q⟩ => ⟨a, b, c, d, e, f, g, h _ _ _ _ z q⟩ | exact fun ⟨a, b, c, d, e, f, g, i, j, l, q⟩ => ⟨a, b, c, d, e, f, g, i, j, l, h _ _ _ _ z q⟩
theorem lz_lda {i : Nat} {k k' : mm_K} (h : LZ Z k k') : LZ Z (mm_lda i k) (mm_lda i k') := fun lv st μ κ z => by
  unfold mm_lda
  split
  all_goals first | exact fun q => q.elim | exact h _ _ _ _ z | exact fun q => ⟨q.1, h _ _ _ _ z q.2⟩ | exact fun q => ⟨q.1, q.2.1, h _ _ _ _ z q.2.2⟩ | exact fun ⟨a, b, q⟩ => ⟨a, b, h _ _ _ _ z q⟩ | exact fun ⟨a, b, c, q⟩ => ⟨a, b, c, h _ _ _ _ z q⟩ | exact fun ⟨a, b, c, d, q⟩ => ⟨a, b, c, d, h _ _ _ _ z q⟩ | exact fun ⟨a, b, c, d, e, q⟩ => ⟨a, b, c, d, e, h _ _ _ _ z q⟩ | exact fun ⟨a, b, c, d, e, f, g, q⟩ => ⟨a, b, c, d, e, f, g, h _ _ _ _ z q⟩ | exact fun ⟨a, b, c, d, e, f, g, i, j, l, q⟩ => ⟨a, b, c, d, e, f, g, i, j, l, h _ _ _ _ z q⟩
theorem lz_sti {i : Nat} {k k' : mm_K} (h : LZ Z k k') : LZ Z (mm_sti i k) (mm_sti i k') := fun lv st μ κ z => by
  unfold mm_sti
  split
  all_goals first | exact fun q => q.elim | exact h _ _ _ _ z | exact fun q => ⟨q.1, h _ _ _ _ z q.2⟩ | exact fun q => ⟨q.1, q.2.1, h _ _ _ _ z q.2.2⟩ | exact fun ⟨a, b, q⟩ => ⟨a, b, h _ _ _ _ z q⟩ | exact fun ⟨a, b, c, q⟩ => ⟨a, b, c, h _ _ _ _ z q⟩ | exact fun ⟨a, b, c, d, q⟩ => ⟨a, b, c, d, h _ _ _ _ z q⟩ | exact fun ⟨a, b, c, d, e, q⟩ => ⟨a, b, c, d, e, h _ _ _ _ z q⟩ | exact fun ⟨a, b, c, d, e, f, g, q⟩ => ⟨a, b, c, d, e, f, g, h _ _ _ _ z q⟩ | exact fun ⟨a, b, c, d, e, f, g, i, j, l, q⟩ => ⟨a, b, c, d, e, f, g, i, j, l, h _ _ _ _ z q⟩
theorem lz_stl {i : Nat} {k k' : mm_K} (h : LZ Z k k') : LZ Z (mm_stl i k) (mm_stl i k') := fun lv st μ κ z => by
  unfold mm_stl
  split
  all_goals first | exact fun q => q.elim | exact h _ _ _ _ z | exact fun q => ⟨q.1, h _ _ _ _ z q.2⟩ | exact fun q => ⟨q.1, q.2.1, h _ _ _ _ z q.2.2⟩ | exact fun ⟨a, b, q⟩ => ⟨a, b, h _ _ _ _ z q⟩ | exact fun ⟨a, b, c, q⟩ => ⟨a, b, c, h _ _ _ _ z q⟩ | exact fun ⟨a, b, c, d, q⟩ => ⟨a, b, c, d, h _ _ _ _ z q⟩ | exact fun ⟨a, b, c, d, e, q⟩ => ⟨a, b, c, d, e, h _ _ _ _ z q⟩ | exact fun ⟨a, b, c, d, e, f, g, q⟩ => ⟨a, b, c, d, e, f, g, h _ _ _ _ z q⟩ | exact fun ⟨a, b, c, d, e, f, g, i, j, l, q⟩ => ⟨a, b, c, d, e, f, g, i, j, l, h _ _ _ _ z q⟩
theorem lz_sta {i : Nat} {k k' : mm_K} (h : LZ Z k k') : LZ Z (mm_sta i k) (mm_sta i k') := fun lv st μ κ z => by
  unfold mm_sta
  split
  all_goals first | exact fun q => q.elim | exact h _ _ _ _ z | exact fun q => ⟨q.1, h _ _ _ _ z q.2⟩ | exact fun q => ⟨q.1, q.2.1, h _ _ _ _ z q.2.2⟩ | exact fun ⟨a, b, q⟩ => ⟨a, b, h _ _ _ _ z q⟩ | exact fun ⟨a, b, c, q⟩ => ⟨a, b, c, h _ _ _ _ z q⟩ | exact fun ⟨a, b, c, d, q⟩ => ⟨a, b, c, d, h _ _ _ _ z q⟩ | exact fun ⟨a, b, c, d, e, q⟩ => ⟨a, b, c, d, e, h _ _ _ _ z q⟩ | exact fun ⟨a, b, c, d, e, f, g, q⟩ => ⟨a, b, c, d, e, f, g, h _ _ _ _ z q⟩ | exact fun ⟨a, b, c, d, e, f, g, i, j, l, q⟩ => ⟨a, b, c, d, e, f, g, i, j, l, h _ _ _ _ z q⟩
theorem lz_inc {i : Nat} {v : Value} {k k' : mm_K} (h : LZ Z k k') : LZ Z (mm_inc i v k) (mm_inc i v k') := fun lv st μ κ z => by
  unfold mm_inc
  split
  all_goals first | exact fun q => q.elim | exact h _ _ _ _ z | exact fun q => ⟨q.1, h _ _ _ _ z q.2⟩ | exact fun q => ⟨q.1, q.2.1, h _ _ _ _ z q.2.2⟩ | exact fun ⟨a, b, q⟩ => ⟨a, b, h _ _ _ _ z q⟩ | exact fun ⟨a, b, c, q⟩ => ⟨a, b, c, h _ _ _ _ z q⟩ | exact fun ⟨a, b, c, d, q⟩ => ⟨a, b, c, d, h _ _ _ _ z q⟩ | exact fun ⟨a, b, c, d, e, q⟩ => ⟨a, b, c, d, e, h _ _ _ _ z q⟩ | exact fun ⟨a, b, c, d, e, f, g, q⟩ => ⟨a, b, c, d, e, f, g, h _ _ _ _ z q⟩ | exact fun ⟨a, b, c, d, e, f, g, i, j, l, q⟩ => ⟨a, b, c, d, e, f, g, i, j, l, h _ _ _ _ z q⟩
theorem lz_ii {f : Int32 → Int32 → Int32} {k k' : mm_K} (h : LZ Z k k') : LZ Z (mm_ii f k) (mm_ii f k') := fun lv st μ κ z => by
  unfold mm_ii
  split
  all_goals first | exact fun q => q.elim | exact h _ _ _ _ z | exact fun q => ⟨q.1, h _ _ _ _ z q.2⟩ | exact fun q => ⟨q.1, q.2.1, h _ _ _ _ z q.2.2⟩ | exact fun ⟨a, b, q⟩ => ⟨a, b, h _ _ _ _ z q⟩ | exact fun ⟨a, b, c, q⟩ => ⟨a, b, c, h _ _ _ _ z q⟩ | exact fun ⟨a, b, c, d, q⟩ => ⟨a, b, c, d, h _ _ _ _ z q⟩ | exact fun ⟨a, b, c, d, e, q⟩ => ⟨a, b, c, d, e, h _ _ _ _ z q⟩ | exact fun ⟨a, b, c, d, e, f, g, q⟩ => ⟨a, b, c, d, e, f, g, h _ _ _ _ z q⟩ | exact fun ⟨a, b, c, d, e, f, g, i, j, l, q⟩ => ⟨a, b, c, d, e, f, g, i, j, l, h _ _ _ _ z q⟩
theorem lz_ll {f : Int64 → Int64 → Int64} {k k' : mm_K} (h : LZ Z k k') : LZ Z (mm_ll f k) (mm_ll f k') := fun lv st μ κ z => by
  unfold mm_ll
  split
  all_goals first | exact fun q => q.elim | exact h _ _ _ _ z | exact fun q => ⟨q.1, h _ _ _ _ z q.2⟩ | exact fun q => ⟨q.1, q.2.1, h _ _ _ _ z q.2.2⟩ | exact fun ⟨a, b, q⟩ => ⟨a, b, h _ _ _ _ z q⟩ | exact fun ⟨a, b, c, q⟩ => ⟨a, b, c, h _ _ _ _ z q⟩ | exact fun ⟨a, b, c, d, q⟩ => ⟨a, b, c, d, h _ _ _ _ z q⟩ | exact fun ⟨a, b, c, d, e, q⟩ => ⟨a, b, c, d, e, h _ _ _ _ z q⟩ | exact fun ⟨a, b, c, d, e, f, g, q⟩ => ⟨a, b, c, d, e, f, g, h _ _ _ _ z q⟩ | exact fun ⟨a, b, c, d, e, f, g, i, j, l, q⟩ => ⟨a, b, c, d, e, f, g, i, j, l, h _ _ _ _ z q⟩
theorem lz_ld {f : Int64 → Int64 → Int64} {k k' : mm_K} (h : LZ Z k k') : LZ Z (mm_ld f k) (mm_ld f k') := fun lv st μ κ z => by
  unfold mm_ld
  split
  all_goals first | exact fun q => q.elim | exact h _ _ _ _ z | exact fun q => ⟨q.1, h _ _ _ _ z q.2⟩ | exact fun q => ⟨q.1, q.2.1, h _ _ _ _ z q.2.2⟩ | exact fun ⟨a, b, q⟩ => ⟨a, b, h _ _ _ _ z q⟩ | exact fun ⟨a, b, c, q⟩ => ⟨a, b, c, h _ _ _ _ z q⟩ | exact fun ⟨a, b, c, d, q⟩ => ⟨a, b, c, d, h _ _ _ _ z q⟩ | exact fun ⟨a, b, c, d, e, q⟩ => ⟨a, b, c, d, e, h _ _ _ _ z q⟩ | exact fun ⟨a, b, c, d, e, f, g, q⟩ => ⟨a, b, c, d, e, f, g, h _ _ _ _ z q⟩ | exact fun ⟨a, b, c, d, e, f, g, i, j, l, q⟩ => ⟨a, b, c, d, e, f, g, i, j, l, h _ _ _ _ z q⟩
theorem lz_ls {f : Int64 → Int32 → Int64} {k k' : mm_K} (h : LZ Z k k') : LZ Z (mm_ls f k) (mm_ls f k') := fun lv st μ κ z => by
  unfold mm_ls
  split
  all_goals first | exact fun q => q.elim | exact h _ _ _ _ z | exact fun q => ⟨q.1, h _ _ _ _ z q.2⟩ | exact fun q => ⟨q.1, q.2.1, h _ _ _ _ z q.2.2⟩ | exact fun ⟨a, b, q⟩ => ⟨a, b, h _ _ _ _ z q⟩ | exact fun ⟨a, b, c, q⟩ => ⟨a, b, c, h _ _ _ _ z q⟩ | exact fun ⟨a, b, c, d, q⟩ => ⟨a, b, c, d, h _ _ _ _ z q⟩ | exact fun ⟨a, b, c, d, e, q⟩ => ⟨a, b, c, d, e, h _ _ _ _ z q⟩ | exact fun ⟨a, b, c, d, e, f, g, q⟩ => ⟨a, b, c, d, e, f, g, h _ _ _ _ z q⟩ | exact fun ⟨a, b, c, d, e, f, g, i, j, l, q⟩ => ⟨a, b, c, d, e, f, g, i, j, l, h _ _ _ _ z q⟩
theorem lz_i1 {f : Int32 → Int32} {k k' : mm_K} (h : LZ Z k k') : LZ Z (mm_i1 f k) (mm_i1 f k') := fun lv st μ κ z => by
  unfold mm_i1
  split
  all_goals first | exact fun q => q.elim | exact h _ _ _ _ z | exact fun q => ⟨q.1, h _ _ _ _ z q.2⟩ | exact fun q => ⟨q.1, q.2.1, h _ _ _ _ z q.2.2⟩ | exact fun ⟨a, b, q⟩ => ⟨a, b, h _ _ _ _ z q⟩ | exact fun ⟨a, b, c, q⟩ => ⟨a, b, c, h _ _ _ _ z q⟩ | exact fun ⟨a, b, c, d, q⟩ => ⟨a, b, c, d, h _ _ _ _ z q⟩ | exact fun ⟨a, b, c, d, e, q⟩ => ⟨a, b, c, d, e, h _ _ _ _ z q⟩ | exact fun ⟨a, b, c, d, e, f, g, q⟩ => ⟨a, b, c, d, e, f, g, h _ _ _ _ z q⟩ | exact fun ⟨a, b, c, d, e, f, g, i, j, l, q⟩ => ⟨a, b, c, d, e, f, g, i, j, l, h _ _ _ _ z q⟩
theorem lz_l1 {f : Int64 → Int64} {k k' : mm_K} (h : LZ Z k k') : LZ Z (mm_l1 f k) (mm_l1 f k') := fun lv st μ κ z => by
  unfold mm_l1
  split
  all_goals first | exact fun q => q.elim | exact h _ _ _ _ z | exact fun q => ⟨q.1, h _ _ _ _ z q.2⟩ | exact fun q => ⟨q.1, q.2.1, h _ _ _ _ z q.2.2⟩ | exact fun ⟨a, b, q⟩ => ⟨a, b, h _ _ _ _ z q⟩ | exact fun ⟨a, b, c, q⟩ => ⟨a, b, c, h _ _ _ _ z q⟩ | exact fun ⟨a, b, c, d, q⟩ => ⟨a, b, c, d, h _ _ _ _ z q⟩ | exact fun ⟨a, b, c, d, e, q⟩ => ⟨a, b, c, d, e, h _ _ _ _ z q⟩ | exact fun ⟨a, b, c, d, e, f, g, q⟩ => ⟨a, b, c, d, e, f, g, h _ _ _ _ z q⟩ | exact fun ⟨a, b, c, d, e, f, g, i, j, l, q⟩ => ⟨a, b, c, d, e, f, g, i, j, l, h _ _ _ _ z q⟩
theorem lz_i2l  {k k' : mm_K} (h : LZ Z k k') : LZ Z (mm_i2l k) (mm_i2l k') := fun lv st μ κ z => by
  unfold mm_i2l
  split
  all_goals first | exact fun q => q.elim | exact h _ _ _ _ z | exact fun q => ⟨q.1, h _ _ _ _ z q.2⟩ | exact fun q => ⟨q.1, q.2.1, h _ _ _ _ z q.2.2⟩ | exact fun ⟨a, b, q⟩ => ⟨a, b, h _ _ _ _ z q⟩ | exact fun ⟨a, b, c, q⟩ => ⟨a, b, c, h _ _ _ _ z q⟩ | exact fun ⟨a, b, c, d, q⟩ => ⟨a, b, c, d, h _ _ _ _ z q⟩ | exact fun ⟨a, b, c, d, e, q⟩ => ⟨a, b, c, d, e, h _ _ _ _ z q⟩ | exact fun ⟨a, b, c, d, e, f, g, q⟩ => ⟨a, b, c, d, e, f, g, h _ _ _ _ z q⟩ | exact fun ⟨a, b, c, d, e, f, g, i, j, l, q⟩ => ⟨a, b, c, d, e, f, g, i, j, l, h _ _ _ _ z q⟩
theorem lz_l2i  {k k' : mm_K} (h : LZ Z k k') : LZ Z (mm_l2i k) (mm_l2i k') := fun lv st μ κ z => by
  unfold mm_l2i
  split
  all_goals first | exact fun q => q.elim | exact h _ _ _ _ z | exact fun q => ⟨q.1, h _ _ _ _ z q.2⟩ | exact fun q => ⟨q.1, q.2.1, h _ _ _ _ z q.2.2⟩ | exact fun ⟨a, b, q⟩ => ⟨a, b, h _ _ _ _ z q⟩ | exact fun ⟨a, b, c, q⟩ => ⟨a, b, c, h _ _ _ _ z q⟩ | exact fun ⟨a, b, c, d, q⟩ => ⟨a, b, c, d, h _ _ _ _ z q⟩ | exact fun ⟨a, b, c, d, e, q⟩ => ⟨a, b, c, d, e, h _ _ _ _ z q⟩ | exact fun ⟨a, b, c, d, e, f, g, q⟩ => ⟨a, b, c, d, e, f, g, h _ _ _ _ z q⟩ | exact fun ⟨a, b, c, d, e, f, g, i, j, l, q⟩ => ⟨a, b, c, d, e, f, g, i, j, l, h _ _ _ _ z q⟩
theorem lz_cmp  {k k' : mm_K} (h : LZ Z k k') : LZ Z (mm_cmp k) (mm_cmp k') := fun lv st μ κ z => by
  unfold mm_cmp
  split
  all_goals first | exact fun q => q.elim | exact h _ _ _ _ z | exact fun q => ⟨q.1, h _ _ _ _ z q.2⟩ | exact fun q => ⟨q.1, q.2.1, h _ _ _ _ z q.2.2⟩ | exact fun ⟨a, b, q⟩ => ⟨a, b, h _ _ _ _ z q⟩ | exact fun ⟨a, b, c, q⟩ => ⟨a, b, c, h _ _ _ _ z q⟩ | exact fun ⟨a, b, c, d, q⟩ => ⟨a, b, c, d, h _ _ _ _ z q⟩ | exact fun ⟨a, b, c, d, e, q⟩ => ⟨a, b, c, d, e, h _ _ _ _ z q⟩ | exact fun ⟨a, b, c, d, e, f, g, q⟩ => ⟨a, b, c, d, e, f, g, h _ _ _ _ z q⟩ | exact fun ⟨a, b, c, d, e, f, g, i, j, l, q⟩ => ⟨a, b, c, d, e, f, g, i, j, l, h _ _ _ _ z q⟩
theorem lz_dup  {k k' : mm_K} (h : LZ Z k k') : LZ Z (mm_dup k) (mm_dup k') := fun lv st μ κ z => by
  unfold mm_dup
  split
  all_goals first | exact fun q => q.elim | exact h _ _ _ _ z | exact fun q => ⟨q.1, h _ _ _ _ z q.2⟩ | exact fun q => ⟨q.1, q.2.1, h _ _ _ _ z q.2.2⟩ | exact fun ⟨a, b, q⟩ => ⟨a, b, h _ _ _ _ z q⟩ | exact fun ⟨a, b, c, q⟩ => ⟨a, b, c, h _ _ _ _ z q⟩ | exact fun ⟨a, b, c, d, q⟩ => ⟨a, b, c, d, h _ _ _ _ z q⟩ | exact fun ⟨a, b, c, d, e, q⟩ => ⟨a, b, c, d, e, h _ _ _ _ z q⟩ | exact fun ⟨a, b, c, d, e, f, g, q⟩ => ⟨a, b, c, d, e, f, g, h _ _ _ _ z q⟩ | exact fun ⟨a, b, c, d, e, f, g, i, j, l, q⟩ => ⟨a, b, c, d, e, f, g, i, j, l, h _ _ _ _ z q⟩
theorem lz_dup2  {k k' : mm_K} (h : LZ Z k k') : LZ Z (mm_dup2 k) (mm_dup2 k') := fun lv st μ κ z => by
  unfold mm_dup2
  split
  all_goals first | exact fun q => q.elim | exact h _ _ _ _ z | exact fun q => ⟨q.1, h _ _ _ _ z q.2⟩ | exact fun q => ⟨q.1, q.2.1, h _ _ _ _ z q.2.2⟩ | exact fun ⟨a, b, q⟩ => ⟨a, b, h _ _ _ _ z q⟩ | exact fun ⟨a, b, c, q⟩ => ⟨a, b, c, h _ _ _ _ z q⟩ | exact fun ⟨a, b, c, d, q⟩ => ⟨a, b, c, d, h _ _ _ _ z q⟩ | exact fun ⟨a, b, c, d, e, q⟩ => ⟨a, b, c, d, e, h _ _ _ _ z q⟩ | exact fun ⟨a, b, c, d, e, f, g, q⟩ => ⟨a, b, c, d, e, f, g, h _ _ _ _ z q⟩ | exact fun ⟨a, b, c, d, e, f, g, i, j, l, q⟩ => ⟨a, b, c, d, e, f, g, i, j, l, h _ _ _ _ z q⟩
theorem lz_get {xs : List Nat} {k k' : mm_K} (h : LZ Z k k') : LZ Z (mm_get xs k) (mm_get xs k') := fun lv st μ κ z => by
  unfold mm_get
  split
  all_goals first | exact fun q => q.elim | exact h _ _ _ _ z | exact fun q => ⟨q.1, h _ _ _ _ z q.2⟩ | exact fun q => ⟨q.1, q.2.1, h _ _ _ _ z q.2.2⟩ | exact fun ⟨a, b, q⟩ => ⟨a, b, h _ _ _ _ z q⟩ | exact fun ⟨a, b, c, q⟩ => ⟨a, b, c, h _ _ _ _ z q⟩ | exact fun ⟨a, b, c, d, q⟩ => ⟨a, b, c, d, h _ _ _ _ z q⟩ | exact fun ⟨a, b, c, d, e, q⟩ => ⟨a, b, c, d, e, h _ _ _ _ z q⟩ | exact fun ⟨a, b, c, d, e, f, g, q⟩ => ⟨a, b, c, d, e, f, g, h _ _ _ _ z q⟩ | exact fun ⟨a, b, c, d, e, f, g, i, j, l, q⟩ => ⟨a, b, c, d, e, f, g, i, j, l, h _ _ _ _ z q⟩
theorem lz_put {xs : List Nat} {k k' : mm_K} (h : LZ Z k k') : LZ Z (mm_put xs k) (mm_put xs k') := fun lv st μ κ z => by
  unfold mm_put
  split
  all_goals first | exact fun q => q.elim | exact h _ _ _ _ z | exact fun q => ⟨q.1, h _ _ _ _ z q.2⟩ | exact fun q => ⟨q.1, q.2.1, h _ _ _ _ z q.2.2⟩ | exact fun ⟨a, b, q⟩ => ⟨a, b, h _ _ _ _ z q⟩ | exact fun ⟨a, b, c, q⟩ => ⟨a, b, c, h _ _ _ _ z q⟩ | exact fun ⟨a, b, c, d, q⟩ => ⟨a, b, c, d, h _ _ _ _ z q⟩ | exact fun ⟨a, b, c, d, e, q⟩ => ⟨a, b, c, d, e, h _ _ _ _ z q⟩ | exact fun ⟨a, b, c, d, e, f, g, q⟩ => ⟨a, b, c, d, e, f, g, h _ _ _ _ z q⟩ | exact fun ⟨a, b, c, d, e, f, g, i, j, l, q⟩ => ⟨a, b, c, d, e, f, g, i, j, l, h _ _ _ _ z q⟩
theorem lz_ald {ty : FieldType} {k k' : mm_K} (h : LZ Z k k') : LZ Z (mm_ald ty k) (mm_ald ty k') := fun lv st μ κ z => by
  unfold mm_ald
  split
  all_goals first | exact fun q => q.elim | exact h _ _ _ _ z | exact fun q => ⟨q.1, h _ _ _ _ z q.2⟩ | exact fun q => ⟨q.1, q.2.1, h _ _ _ _ z q.2.2⟩ | exact fun ⟨a, b, q⟩ => ⟨a, b, h _ _ _ _ z q⟩ | exact fun ⟨a, b, c, q⟩ => ⟨a, b, c, h _ _ _ _ z q⟩ | exact fun ⟨a, b, c, d, q⟩ => ⟨a, b, c, d, h _ _ _ _ z q⟩ | exact fun ⟨a, b, c, d, e, q⟩ => ⟨a, b, c, d, e, h _ _ _ _ z q⟩ | exact fun ⟨a, b, c, d, e, f, g, q⟩ => ⟨a, b, c, d, e, f, g, h _ _ _ _ z q⟩ | exact fun ⟨a, b, c, d, e, f, g, i, j, l, q⟩ => ⟨a, b, c, d, e, f, g, i, j, l, h _ _ _ _ z q⟩
theorem lz_lld  {k k' : mm_K} (h : LZ Z k k') : LZ Z (mm_lld k) (mm_lld k') := fun lv st μ κ z => by
  unfold mm_lld
  split
  all_goals first | exact fun q => q.elim | exact h _ _ _ _ z | exact fun q => ⟨q.1, h _ _ _ _ z q.2⟩ | exact fun q => ⟨q.1, q.2.1, h _ _ _ _ z q.2.2⟩ | exact fun ⟨a, b, q⟩ => ⟨a, b, h _ _ _ _ z q⟩ | exact fun ⟨a, b, c, q⟩ => ⟨a, b, c, h _ _ _ _ z q⟩ | exact fun ⟨a, b, c, d, q⟩ => ⟨a, b, c, d, h _ _ _ _ z q⟩ | exact fun ⟨a, b, c, d, e, q⟩ => ⟨a, b, c, d, e, h _ _ _ _ z q⟩ | exact fun ⟨a, b, c, d, e, f, g, q⟩ => ⟨a, b, c, d, e, f, g, h _ _ _ _ z q⟩ | exact fun ⟨a, b, c, d, e, f, g, i, j, l, q⟩ => ⟨a, b, c, d, e, f, g, i, j, l, h _ _ _ _ z q⟩
theorem lz_rld {C : String} {k k' : mm_K} (h : LZ Z k k') : LZ Z (mm_rld C k) (mm_rld C k') := fun lv st μ κ z => by
  unfold mm_rld
  split
  all_goals first | exact fun q => q.elim | exact h _ _ _ _ z | exact fun q => ⟨q.1, h _ _ _ _ z q.2⟩ | exact fun q => ⟨q.1, q.2.1, h _ _ _ _ z q.2.2⟩ | exact fun ⟨a, b, q⟩ => ⟨a, b, h _ _ _ _ z q⟩ | exact fun ⟨a, b, c, q⟩ => ⟨a, b, c, h _ _ _ _ z q⟩ | exact fun ⟨a, b, c, d, q⟩ => ⟨a, b, c, d, h _ _ _ _ z q⟩ | exact fun ⟨a, b, c, d, e, q⟩ => ⟨a, b, c, d, e, h _ _ _ _ z q⟩ | exact fun ⟨a, b, c, d, e, f, g, q⟩ => ⟨a, b, c, d, e, f, g, h _ _ _ _ z q⟩ | exact fun ⟨a, b, c, d, e, f, g, i, j, l, q⟩ => ⟨a, b, c, d, e, f, g, i, j, l, h _ _ _ _ z q⟩
theorem lz_ast {ty : FieldType} {f : Int32 → Int32} {k k' : mm_K} (h : LZ Z k k') : LZ Z (mm_ast ty f k) (mm_ast ty f k') := fun lv st μ κ z => by
  unfold mm_ast
  split
  all_goals first | exact fun q => q.elim | exact h _ _ _ _ z | exact fun q => ⟨q.1, h _ _ _ _ z q.2⟩ | exact fun q => ⟨q.1, q.2.1, h _ _ _ _ z q.2.2⟩ | exact fun ⟨a, b, q⟩ => ⟨a, b, h _ _ _ _ z q⟩ | exact fun ⟨a, b, c, q⟩ => ⟨a, b, c, h _ _ _ _ z q⟩ | exact fun ⟨a, b, c, d, q⟩ => ⟨a, b, c, d, h _ _ _ _ z q⟩ | exact fun ⟨a, b, c, d, e, q⟩ => ⟨a, b, c, d, e, h _ _ _ _ z q⟩ | exact fun ⟨a, b, c, d, e, f, g, q⟩ => ⟨a, b, c, d, e, f, g, h _ _ _ _ z q⟩ | exact fun ⟨a, b, c, d, e, f, g, i, j, l, q⟩ => ⟨a, b, c, d, e, f, g, i, j, l, h _ _ _ _ z q⟩
theorem lz_lst  {k k' : mm_K} (h : LZ Z k k') : LZ Z (mm_lst k) (mm_lst k') := fun lv st μ κ z => by
  unfold mm_lst
  split
  all_goals first | exact fun q => q.elim | exact h _ _ _ _ z | exact fun q => ⟨q.1, h _ _ _ _ z q.2⟩ | exact fun q => ⟨q.1, q.2.1, h _ _ _ _ z q.2.2⟩ | exact fun ⟨a, b, q⟩ => ⟨a, b, h _ _ _ _ z q⟩ | exact fun ⟨a, b, c, q⟩ => ⟨a, b, c, h _ _ _ _ z q⟩ | exact fun ⟨a, b, c, d, q⟩ => ⟨a, b, c, d, h _ _ _ _ z q⟩ | exact fun ⟨a, b, c, d, e, q⟩ => ⟨a, b, c, d, e, h _ _ _ _ z q⟩ | exact fun ⟨a, b, c, d, e, f, g, q⟩ => ⟨a, b, c, d, e, f, g, h _ _ _ _ z q⟩ | exact fun ⟨a, b, c, d, e, f, g, i, j, l, q⟩ => ⟨a, b, c, d, e, f, g, i, j, l, h _ _ _ _ z q⟩
theorem lz_rst {C : String} {ci : Nat} {k k' : mm_K} (h : LZ Z k k') : LZ Z (mm_rst C ci k) (mm_rst C ci k') := fun lv st μ κ z => by
  unfold mm_rst
  split
  all_goals first | exact fun q => q.elim | exact h _ _ _ _ z | exact fun q => ⟨q.1, h _ _ _ _ z q.2⟩ | exact fun q => ⟨q.1, q.2.1, h _ _ _ _ z q.2.2⟩ | exact fun ⟨a, b, q⟩ => ⟨a, b, h _ _ _ _ z q⟩ | exact fun ⟨a, b, c, q⟩ => ⟨a, b, c, h _ _ _ _ z q⟩ | exact fun ⟨a, b, c, d, q⟩ => ⟨a, b, c, d, h _ _ _ _ z q⟩ | exact fun ⟨a, b, c, d, e, q⟩ => ⟨a, b, c, d, e, h _ _ _ _ z q⟩ | exact fun ⟨a, b, c, d, e, f, g, q⟩ => ⟨a, b, c, d, e, f, g, h _ _ _ _ z q⟩ | exact fun ⟨a, b, c, d, e, f, g, i, j, l, q⟩ => ⟨a, b, c, d, e, f, g, i, j, l, h _ _ _ _ z q⟩
theorem lz_len  {k k' : mm_K} (h : LZ Z k k') : LZ Z (mm_len k) (mm_len k') := fun lv st μ κ z => by
  unfold mm_len
  split
  all_goals first | exact fun q => q.elim | exact h _ _ _ _ z | exact fun q => ⟨q.1, h _ _ _ _ z q.2⟩ | exact fun q => ⟨q.1, q.2.1, h _ _ _ _ z q.2.2⟩ | exact fun ⟨a, b, q⟩ => ⟨a, b, h _ _ _ _ z q⟩ | exact fun ⟨a, b, c, q⟩ => ⟨a, b, c, h _ _ _ _ z q⟩ | exact fun ⟨a, b, c, d, q⟩ => ⟨a, b, c, d, h _ _ _ _ z q⟩ | exact fun ⟨a, b, c, d, e, q⟩ => ⟨a, b, c, d, e, h _ _ _ _ z q⟩ | exact fun ⟨a, b, c, d, e, f, g, q⟩ => ⟨a, b, c, d, e, f, g, h _ _ _ _ z q⟩ | exact fun ⟨a, b, c, d, e, f, g, i, j, l, q⟩ => ⟨a, b, c, d, e, f, g, i, j, l, h _ _ _ _ z q⟩
theorem lz_rk {rk : Nat → Int32} {n : Nat} {k k' : mm_K} (h : LZ Z k k') : LZ Z (mm_rk rk n k) (mm_rk rk n k') := fun lv st μ κ z => by
  unfold mm_rk
  split
  all_goals first | exact fun q => q.elim | exact h _ _ _ _ z | exact fun q => ⟨q.1, h _ _ _ _ z q.2⟩ | exact fun q => ⟨q.1, q.2.1, h _ _ _ _ z q.2.2⟩ | exact fun ⟨a, b, q⟩ => ⟨a, b, h _ _ _ _ z q⟩ | exact fun ⟨a, b, c, q⟩ => ⟨a, b, c, h _ _ _ _ z q⟩ | exact fun ⟨a, b, c, d, q⟩ => ⟨a, b, c, d, h _ _ _ _ z q⟩ | exact fun ⟨a, b, c, d, e, q⟩ => ⟨a, b, c, d, e, h _ _ _ _ z q⟩ | exact fun ⟨a, b, c, d, e, f, g, q⟩ => ⟨a, b, c, d, e, f, g, h _ _ _ _ z q⟩ | exact fun ⟨a, b, c, d, e, f, g, i, j, l, q⟩ => ⟨a, b, c, d, e, f, g, i, j, l, h _ _ _ _ z q⟩
theorem lz_obi  {k k' : mm_K} (h : LZ Z k k') : LZ Z (mm_obi k) (mm_obi k') := fun lv st μ κ z => by
  unfold mm_obi
  split
  all_goals first | exact fun q => q.elim | exact h _ _ _ _ z | exact fun q => ⟨q.1, h _ _ _ _ z q.2⟩ | exact fun q => ⟨q.1, q.2.1, h _ _ _ _ z q.2.2⟩ | exact fun ⟨a, b, q⟩ => ⟨a, b, h _ _ _ _ z q⟩ | exact fun ⟨a, b, c, q⟩ => ⟨a, b, c, h _ _ _ _ z q⟩ | exact fun ⟨a, b, c, d, q⟩ => ⟨a, b, c, d, h _ _ _ _ z q⟩ | exact fun ⟨a, b, c, d, e, q⟩ => ⟨a, b, c, d, e, h _ _ _ _ z q⟩ | exact fun ⟨a, b, c, d, e, f, g, q⟩ => ⟨a, b, c, d, e, f, g, h _ _ _ _ z q⟩ | exact fun ⟨a, b, c, d, e, f, g, i, j, l, q⟩ => ⟨a, b, c, d, e, f, g, i, j, l, h _ _ _ _ z q⟩
theorem lz_cpi  {k k' : mm_K} (h : LZ Z k k') : LZ Z (mm_cpi k) (mm_cpi k') := fun lv st μ κ z => by
  unfold mm_cpi
  split
  all_goals first | exact fun q => q.elim | exact h _ _ _ _ z | exact fun q => ⟨q.1, h _ _ _ _ z q.2⟩ | exact fun q => ⟨q.1, q.2.1, h _ _ _ _ z q.2.2⟩ | exact fun ⟨a, b, q⟩ => ⟨a, b, h _ _ _ _ z q⟩ | exact fun ⟨a, b, c, q⟩ => ⟨a, b, c, h _ _ _ _ z q⟩ | exact fun ⟨a, b, c, d, q⟩ => ⟨a, b, c, d, h _ _ _ _ z q⟩ | exact fun ⟨a, b, c, d, e, q⟩ => ⟨a, b, c, d, e, h _ _ _ _ z q⟩ | exact fun ⟨a, b, c, d, e, f, g, q⟩ => ⟨a, b, c, d, e, f, g, h _ _ _ _ z q⟩ | exact fun ⟨a, b, c, d, e, f, g, i, j, l, q⟩ => ⟨a, b, c, d, e, f, g, i, j, l, h _ _ _ _ z q⟩
theorem lz_cpl  {k k' : mm_K} (h : LZ Z k k') : LZ Z (mm_cpl k) (mm_cpl k') := fun lv st μ κ z => by
  unfold mm_cpl
  split
  all_goals first | exact fun q => q.elim | exact h _ _ _ _ z | exact fun q => ⟨q.1, h _ _ _ _ z q.2⟩ | exact fun q => ⟨q.1, q.2.1, h _ _ _ _ z q.2.2⟩ | exact fun ⟨a, b, q⟩ => ⟨a, b, h _ _ _ _ z q⟩ | exact fun ⟨a, b, c, q⟩ => ⟨a, b, c, h _ _ _ _ z q⟩ | exact fun ⟨a, b, c, d, q⟩ => ⟨a, b, c, d, h _ _ _ _ z q⟩ | exact fun ⟨a, b, c, d, e, q⟩ => ⟨a, b, c, d, e, h _ _ _ _ z q⟩ | exact fun ⟨a, b, c, d, e, f, g, q⟩ => ⟨a, b, c, d, e, f, g, h _ _ _ _ z q⟩ | exact fun ⟨a, b, c, d, e, f, g, i, j, l, q⟩ => ⟨a, b, c, d, e, f, g, i, j, l, h _ _ _ _ z q⟩
theorem lz_pop  {k k' : mm_K} (h : LZ Z k k') : LZ Z (mm_pop k) (mm_pop k') := fun lv st μ κ z => by
  unfold mm_pop
  split
  all_goals first | exact fun q => q.elim | exact h _ _ _ _ z | exact fun q => ⟨q.1, h _ _ _ _ z q.2⟩ | exact fun q => ⟨q.1, q.2.1, h _ _ _ _ z q.2.2⟩ | exact fun ⟨a, b, q⟩ => ⟨a, b, h _ _ _ _ z q⟩ | exact fun ⟨a, b, c, q⟩ => ⟨a, b, c, h _ _ _ _ z q⟩ | exact fun ⟨a, b, c, d, q⟩ => ⟨a, b, c, d, h _ _ _ _ z q⟩ | exact fun ⟨a, b, c, d, e, q⟩ => ⟨a, b, c, d, e, h _ _ _ _ z q⟩ | exact fun ⟨a, b, c, d, e, f, g, q⟩ => ⟨a, b, c, d, e, f, g, h _ _ _ _ z q⟩ | exact fun ⟨a, b, c, d, e, f, g, i, j, l, q⟩ => ⟨a, b, c, d, e, f, g, i, j, l, h _ _ _ _ z q⟩
theorem lz_sgv  {k k' : mm_K} (h : LZ Z k k') : LZ Z (mm_sgv k) (mm_sgv k') := fun lv st μ κ z => by
  unfold mm_sgv
  split
  all_goals first | exact fun q => q.elim | exact h _ _ _ _ z | exact fun q => ⟨q.1, h _ _ _ _ z q.2⟩ | exact fun q => ⟨q.1, q.2.1, h _ _ _ _ z q.2.2⟩ | exact fun ⟨a, b, q⟩ => ⟨a, b, h _ _ _ _ z q⟩ | exact fun ⟨a, b, c, q⟩ => ⟨a, b, c, h _ _ _ _ z q⟩ | exact fun ⟨a, b, c, d, q⟩ => ⟨a, b, c, d, h _ _ _ _ z q⟩ | exact fun ⟨a, b, c, d, e, q⟩ => ⟨a, b, c, d, e, h _ _ _ _ z q⟩ | exact fun ⟨a, b, c, d, e, f, g, q⟩ => ⟨a, b, c, d, e, f, g, h _ _ _ _ z q⟩ | exact fun ⟨a, b, c, d, e, f, g, i, j, l, q⟩ => ⟨a, b, c, d, e, f, g, i, j, l, h _ _ _ _ z q⟩
theorem lz_sgc  {k k' : mm_K} (h : LZ Z k k') : LZ Z (mm_sgc k) (mm_sgc k') := fun lv st μ κ z => by
  unfold mm_sgc
  split
  all_goals first | exact fun q => q.elim | exact h _ _ _ _ z | exact fun q => ⟨q.1, h _ _ _ _ z q.2⟩ | exact fun q => ⟨q.1, q.2.1, h _ _ _ _ z q.2.2⟩ | exact fun ⟨a, b, q⟩ => ⟨a, b, h _ _ _ _ z q⟩ | exact fun ⟨a, b, c, q⟩ => ⟨a, b, c, h _ _ _ _ z q⟩ | exact fun ⟨a, b, c, d, q⟩ => ⟨a, b, c, d, h _ _ _ _ z q⟩ | exact fun ⟨a, b, c, d, e, q⟩ => ⟨a, b, c, d, e, h _ _ _ _ z q⟩ | exact fun ⟨a, b, c, d, e, f, g, q⟩ => ⟨a, b, c, d, e, f, g, h _ _ _ _ z q⟩ | exact fun ⟨a, b, c, d, e, f, g, i, j, l, q⟩ => ⟨a, b, c, d, e, f, g, i, j, l, h _ _ _ _ z q⟩
theorem lz_sln  {k k' : mm_K} (h : LZ Z k k') : LZ Z (mm_sln k) (mm_sln k') := fun lv st μ κ z => by
  unfold mm_sln
  split
  all_goals first | exact fun q => q.elim | exact h _ _ _ _ z | exact fun q => ⟨q.1, h _ _ _ _ z q.2⟩ | exact fun q => ⟨q.1, q.2.1, h _ _ _ _ z q.2.2⟩ | exact fun ⟨a, b, q⟩ => ⟨a, b, h _ _ _ _ z q⟩ | exact fun ⟨a, b, c, q⟩ => ⟨a, b, c, h _ _ _ _ z q⟩ | exact fun ⟨a, b, c, d, q⟩ => ⟨a, b, c, d, h _ _ _ _ z q⟩ | exact fun ⟨a, b, c, d, e, q⟩ => ⟨a, b, c, d, e, h _ _ _ _ z q⟩ | exact fun ⟨a, b, c, d, e, f, g, q⟩ => ⟨a, b, c, d, e, f, g, h _ _ _ _ z q⟩ | exact fun ⟨a, b, c, d, e, f, g, i, j, l, q⟩ => ⟨a, b, c, d, e, f, g, i, j, l, h _ _ _ _ z q⟩
theorem lz_sbl  {k k' : mm_K} (h : LZ Z k k') : LZ Z (mm_sbl k) (mm_sbl k') := fun lv st μ κ z => by
  unfold mm_sbl
  split
  all_goals first | exact fun q => q.elim | exact h _ _ _ _ z | exact fun q => ⟨q.1, h _ _ _ _ z q.2⟩ | exact fun q => ⟨q.1, q.2.1, h _ _ _ _ z q.2.2⟩ | exact fun ⟨a, b, q⟩ => ⟨a, b, h _ _ _ _ z q⟩ | exact fun ⟨a, b, c, q⟩ => ⟨a, b, c, h _ _ _ _ z q⟩ | exact fun ⟨a, b, c, d, q⟩ => ⟨a, b, c, d, h _ _ _ _ z q⟩ | exact fun ⟨a, b, c, d, e, q⟩ => ⟨a, b, c, d, e, h _ _ _ _ z q⟩ | exact fun ⟨a, b, c, d, e, f, g, q⟩ => ⟨a, b, c, d, e, f, g, h _ _ _ _ z q⟩ | exact fun ⟨a, b, c, d, e, f, g, i, j, l, q⟩ => ⟨a, b, c, d, e, f, g, i, j, l, h _ _ _ _ z q⟩
theorem lz_br {t : Nat} {y n : Int32 → Prop} {J J' : mm_J} {k k' : mm_K} (hJ : ∀ t, LZ Z (J t) (J' t)) (h : LZ Z k k') : LZ Z (mm_br t y n J k) (mm_br t y n J' k') := fun lv st μ κ z => by
  unfold mm_br
  split
  · exact fun q => ⟨fun w => hJ _ _ _ _ _ z (q.1 w), fun w => h _ _ _ _ z (q.2 w)⟩
  · exact fun q => q.elim
theorem lz_br2 {t : Nat} {y n : Int32 → Int32 → Prop} {J J' : mm_J} {k k' : mm_K} (hJ : ∀ t, LZ Z (J t) (J' t)) (h : LZ Z k k') : LZ Z (mm_br2 t y n J k) (mm_br2 t y n J' k') := fun lv st μ κ z => by
  unfold mm_br2
  split
  · exact fun q => ⟨fun w => hJ _ _ _ _ _ z (q.1 w), fun w => h _ _ _ _ z (q.2 w)⟩
  · exact fun q => q.elim
theorem lz_ifc {c : Jvm.ClassFile.Cond} {t : Nat} {J J' : mm_J} {k k' : mm_K} (hJ : ∀ t, LZ Z (J t) (J' t)) (h : LZ Z k k') : LZ Z (mm_ifc c t J k) (mm_ifc c t J' k') := by
  unfold mm_ifc; cases c <;> exact lz_br hJ h
theorem lz_icm {c : Jvm.ClassFile.Cond} {t : Nat} {J J' : mm_J} {k k' : mm_K} (hJ : ∀ t, LZ Z (J t) (J' t)) (h : LZ Z k k') : LZ Z (mm_icm c t J k) (mm_icm c t J' k') := by
  unfold mm_icm; cases c <;> exact lz_br2 hJ h
theorem lz_sw {J J' : mm_J} (hJ : ∀ t, LZ Z (J t) (J' t)) {d : Nat} {x : Int32} : ∀ (ts : List Nat) (lo : Int), LZ Z (mm_sw J d x lo ts) (mm_sw J' d x lo ts)
  | [], lo => hJ d
  | t :: ts, lo => fun lv st μ κ z q => ⟨fun w => hJ t _ _ _ _ z (q.1 w), fun w => lz_sw hJ ts (lo + 1) _ _ _ _ z (q.2 w)⟩
theorem lz_tsw {J J' : mm_J} {lo : Int} {xs : List Nat} (hJ : ∀ t, LZ Z (J t) (J' t)) : LZ Z (mm_tsw J lo xs) (mm_tsw J' lo xs) := fun lv st μ κ z => by
  unfold mm_tsw
  split
  · exact lz_sw hJ _ _ _ _ _ _ z
  · exact fun q => q.elim
def ZY (C : mm_C) (y : Nat) : Prop := ∀ as μ Q, C y as μ Q → C y as μ (fun r μ' => Q r μ' ∧ mm_z μ' = mm_z μ)
theorem lz_cas {y na : Nat} {C : mm_C} {k k' : mm_K} (hC : MC C) (hy : ZY C y) (h : LZ Z k k') : LZ Z (mm_cas y na C k) (mm_cas y na C k') := fun _ _ _ _ z q => pa_mn (fun as st w => ⟨w.1, hC _ _ _ _ _ (fun r μ' w => h _ _ _ _ (w.2.trans z) w.1) (hy _ _ _ w.2)⟩) _ _ _ q
theorem lz_cav {y na ci : Nat} {C : mm_C} {k k' : mm_K} (hC : MC C) (hy : ZY C y) (h : LZ Z k k') : LZ Z (mm_cav y na ci C k) (mm_cav y na ci C k') := fun _ _ _ _ z q => pa_mn (fun as st w => ⟨w.1, w.2.1, hC _ _ _ _ _ (fun r μ' w => h _ _ _ _ (w.2.trans z) w.1) (hy _ _ _ w.2.2)⟩) _ _ _ q
theorem lz_css {y na : Nat} {C : mm_C} {k k' : mm_K} (hC : MC C) (hy : ZY C y) (h : LZ Z k k') : LZ Z (mm_css y na C k) (mm_css y na C k') := fun _ _ _ _ z q => pa_mn (fun as st w => ⟨w.1, w.2.1, hC _ _ _ _ _ (fun r μ' w => h _ _ _ _ (w.2.trans z) w.1) (hy _ _ _ w.2.2)⟩) _ _ _ q
theorem lz_ret {Q Q' : mm_Q} (hQ : ∀ r μ, mm_z μ = Z → Q r μ → Q' r μ) : LZ Z (mm_ret Q) (mm_ret Q') := fun lv st μ κ z => by
  unfold mm_ret; split
  · exact hQ _ _ z
  · exact fun q => q
theorem lz_rtz {Q Q' : mm_Q} (hQ : ∀ r μ, mm_z μ = Z → Q r μ → Q' r μ) : LZ Z (mm_rtz Q) (mm_rtz Q') := fun lv st μ κ z => by
  unfold mm_rtz; split
  · exact fun q => ⟨q.1, hQ _ _ z q.2⟩
  · exact fun q => q
theorem lz_rtl {Q Q' : mm_Q} (hQ : ∀ r μ, mm_z μ = Z → Q r μ → Q' r μ) : LZ Z (mm_rtl Q) (mm_rtl Q') := fun lv st μ κ z => by
  unfold mm_rtl; split
  · exact hQ _ _ z
  · exact fun q => q
theorem lz_rtv {Q Q' : mm_Q} (hQ : ∀ r μ, mm_z μ = Z → Q r μ → Q' r μ) : LZ Z (mm_rtv Q) (mm_rtv Q') := fun lv st μ κ z => by
  unfold mm_rtv; split
  · exact hQ _ _ z
  · exact fun q => q
theorem lz_rtn {ty : FieldType} {Q Q' : mm_Q} (hQ : ∀ r μ, mm_z μ = Z → Q r μ → Q' r μ) : LZ Z (mm_rtn ty Q) (mm_rtn ty Q') := fun lv st μ κ z => by
  unfold mm_rtn; split
  · exact fun q => ⟨q.1, hQ _ _ z q.2⟩
  · exact fun q => q
theorem lz_tx {n : Nat} {Q Q' : mm_Q} (hQ : ∀ r μ, mm_z μ = Z → Q r μ → Q' r μ) : LZ Z (mm_tx n Q) (mm_tx n Q') := fun lv st μ κ z q => ⟨q.1, q.2.1, hQ _ _ z q.2.2⟩
end
/-- the methods that make nothing -/
def mkN : List Nat := [0, 3, 22, 30, 48, 52, 56, 94]
def ZB (b : mm_J → mm_C → mm_Q → mm_J) : Prop := ∀ (Z : Nat → (FieldType × Nat) ⊕ Nat) (J J' : mm_J) (C : mm_C) (Q Q' : mm_Q), (∀ t, LZ Z (J t) (J' t)) → MC C → (∀ y, y ∉ mkN → ZY C y) → (∀ r μ, mm_z μ = Z → Q r μ → Q' r μ) → ∀ t, LZ Z (b J C Q t) (b J' C Q' t)
set_option maxRecDepth 100000 in
theorem zb_X0_isFull : ZB pb_X0_isFull := fun Z J J' C Q Q' hJ hC hZ hQ t => match t with
  | 0 => lz_lda <| lz_get <| lz_cst <| lz_icm hJ <| lz_cst <| lz_go hJ
  | 1 => lz_cst <| lz_go hJ
  | 2 => lz_rtz hQ
  | _ + 3 => fun _ _ _ _ _ q => q.elim
set_option maxRecDepth 100000 in
theorem zb_X0_enter : ZB pb_X0_enter := fun Z J J' C Q Q' hJ hC hZ hQ t => match t with
  | 0 => lz_lda <| lz_cav hC (hZ _ (by decide)) <| lz_ifc hJ <| lz_rtv hQ
  | 1 => lz_lda <| lz_get <| lz_cst <| lz_ii <| lz_sti <| lz_lda <| lz_get <| lz_ldi <| lz_ldi <| lz_ast <| lz_lda <| lz_get <| lz_ldi <| lz_cst <| lz_ii <| lz_ldi <| lz_ast <| lz_lda <| lz_get <| lz_ldi <| lz_cst <| lz_ii <| lz_ldi <| lz_ast <| lz_lda <| lz_get <| lz_ldi <| lz_cst <| lz_ii <| lz_ldi <| lz_ast <| lz_lda <| lz_get <| lz_ldi <| lz_cst <| lz_ii <| lz_ldi <| lz_ast <| lz_lda <| lz_dup <| lz_get <| lz_cst <| lz_ii <| lz_put <| lz_rtv hQ
  | _ + 2 => fun _ _ _ _ _ q => q.elim
set_option maxRecDepth 100000 in
theorem zb_X1_read : ZB pb_X1_read := fun Z J J' C Q Q' hJ hC hZ hQ t => match t with
  | 0 => lz_lda <| lz_get <| lz_cav hC (hZ _ (by decide)) <| lz_lda <| lz_cst <| lz_put <| lz_lda <| lz_cst <| lz_put <| lz_lda <| lz_cst <| lz_put <| lz_lda <| lz_cst <| lz_put <| lz_lda <| lz_cst <| lz_put <| lz_cst <| lz_sti <| lz_go hJ
  | 1 => lz_ldi <| lz_cst <| lz_icm hJ <| lz_lda <| lz_lda <| lz_ldi <| lz_cav hC (hZ _ (by decide)) <| lz_lda <| lz_get <| lz_cst <| lz_icm hJ <| lz_cst <| lz_go hJ
  | 2 => lz_lda <| lz_cav hC (hZ _ (by decide)) <| lz_go hJ
  | 3 => lz_sti <| lz_lda <| lz_lda <| lz_ldi <| lz_ldi <| lz_cav hC (hZ _ (by decide)) <| lz_put <| lz_lda <| lz_get <| lz_ifc hJ <| lz_lda <| lz_get <| lz_ifc hJ <| lz_go hJ
  | 4 => lz_lda <| lz_cav hC (hZ _ (by decide)) <| lz_lda <| lz_ldi <| lz_put <| lz_inc <| lz_go hJ
  | 5 => lz_lda <| lz_cst <| lz_cav hC (hZ _ (by decide)) <| lz_rtv hQ
  | _ + 6 => fun _ _ _ _ _ q => q.elim
set_option maxRecDepth 100000 in
theorem zb_X1_faultOfToken : ZB pb_X1_faultOfToken := fun Z J J' C Q Q' hJ hC hZ hQ t => match t with
  | 0 => lz_lda <| lz_get <| lz_cst <| lz_icm hJ <| lz_cst <| lz_ret hQ
  | 1 => lz_ldi <| lz_cst <| lz_icm hJ <| lz_cst <| lz_ret hQ
  | 2 => lz_lda <| lz_get <| lz_cst <| lz_icm hJ <| lz_lda <| lz_get <| lz_cst <| lz_icm hJ <| lz_go hJ
  | 3 => lz_lda <| lz_get <| lz_cst <| lz_icm hJ <| lz_cst <| lz_go hJ
  | 4 => lz_cst <| lz_go hJ
  | 5 => lz_sti <| lz_ldi <| lz_ifc hJ <| lz_lda <| lz_get <| lz_ifc hJ <| lz_ldi <| lz_cst <| lz_icm hJ <| lz_go hJ
  | 6 => lz_cst <| lz_go hJ
  | 7 => lz_cst <| lz_go hJ
  | 8 => lz_ret hQ
  | _ + 9 => fun _ _ _ _ _ q => q.elim
set_option maxRecDepth 100000 in
theorem zb_X1_scan : ZB pb_X1_scan := fun Z J J' C Q Q' hJ hC hZ hQ t => match t with
  | 0 => lz_lda <| lz_lda <| lz_get <| lz_put <| lz_go hJ
  | 1 => lz_lda <| lz_get <| lz_ldi <| lz_icm hJ <| lz_lda <| lz_lda <| lz_get <| lz_ald <| lz_cst <| lz_icm hJ <| lz_lda <| lz_dup <| lz_get <| lz_cst <| lz_ii <| lz_put <| lz_go hJ
  | 2 => lz_lda <| lz_cst <| lz_put <| lz_lda <| lz_lda <| lz_get <| lz_cst <| lz_ii <| lz_put <| lz_lda <| lz_get <| lz_ldi <| lz_icm hJ <| lz_lda <| lz_cst <| lz_put <| lz_go hJ
  | 3 => lz_lda <| lz_lda <| lz_get <| lz_ald <| lz_cas hC (hZ _ (by decide)) <| lz_ifc hJ <| lz_lda <| lz_lda <| lz_ldi <| lz_cav hC (hZ _ (by decide)) <| lz_go hJ
  | 4 => lz_lda <| lz_lda <| lz_get <| lz_ald <| lz_cas hC (hZ _ (by decide)) <| lz_ifc hJ <| lz_lda <| lz_lda <| lz_ldi <| lz_cav hC (hZ _ (by decide)) <| lz_go hJ
  | 5 => lz_lda <| lz_lda <| lz_lda <| lz_get <| lz_ald <| lz_cas hC (hZ _ (by decide)) <| lz_put <| lz_go hJ
  | 6 => lz_rtv hQ
  | _ + 7 => fun _ _ _ _ _ q => q.elim
set_option maxRecDepth 100000 in
theorem zb_X1_scanWord : ZB pb_X1_scanWord := fun Z J J' C Q Q' hJ hC hZ hQ t => match t with
  | 0 => lz_lda <| lz_get <| lz_ldi <| lz_icm hJ <| lz_lda <| lz_lda <| lz_get <| lz_ald <| lz_cas hC (hZ _ (by decide)) <| lz_ifc hJ <| lz_lda <| lz_dup <| lz_get <| lz_cst <| lz_ii <| lz_put <| lz_go hJ
  | 1 => lz_lda <| lz_get <| lz_lda <| lz_get <| lz_ii <| lz_cst <| lz_icm hJ <| lz_lda <| lz_lda <| lz_get <| lz_ald <| lz_cst <| lz_icm hJ <| lz_lda <| lz_cst <| lz_put <| lz_lda <| lz_lda <| lz_lda <| lz_get <| lz_ald <| lz_cst <| lz_ii <| lz_put <| lz_go hJ
  | 2 => lz_lda <| lz_lda <| lz_cst <| lz_cav hC (hZ _ (by decide)) <| lz_ifc hJ <| lz_lda <| lz_cst <| lz_put <| lz_go hJ
  | 3 => lz_lda <| lz_lda <| lz_cst <| lz_cav hC (hZ _ (by decide)) <| lz_ifc hJ <| lz_lda <| lz_cst <| lz_put <| lz_go hJ
  | 4 => lz_lda <| lz_lda <| lz_cst <| lz_cav hC (hZ _ (by decide)) <| lz_ifc hJ <| lz_lda <| lz_cst <| lz_put <| lz_go hJ
  | 5 => lz_lda <| lz_lda <| lz_cst <| lz_cav hC (hZ _ (by decide)) <| lz_ifc hJ <| lz_lda <| lz_cst <| lz_put <| lz_go hJ
  | 6 => lz_lda <| lz_lda <| lz_cst <| lz_cav hC (hZ _ (by decide)) <| lz_ifc hJ <| lz_lda <| lz_cst <| lz_put <| lz_go hJ
  | 7 => lz_lda <| lz_cst <| lz_put <| lz_go hJ
  | 8 => lz_rtv hQ
  | _ + 9 => fun _ _ _ _ _ q => q.elim
set_option maxRecDepth 100000 in
theorem zb_X1_isSpelled : ZB pb_X1_isSpelled := fun Z J J' C Q Q' hJ hC hZ hQ t => match t with
  | 0 => lz_lda <| lz_get <| lz_lda <| lz_get <| lz_ii <| lz_lda <| lz_css hC (hZ _ (by decide)) <| lz_icm hJ <| lz_cst <| lz_rtz hQ
  | 1 => lz_cst <| lz_sti <| lz_go hJ
  | 2 => lz_ldi <| lz_lda <| lz_css hC (hZ _ (by decide)) <| lz_icm hJ <| lz_lda <| lz_lda <| lz_get <| lz_ldi <| lz_ii <| lz_ald <| lz_lda <| lz_ldi <| lz_css hC (hZ _ (by decide)) <| lz_icm hJ <| lz_cst <| lz_rtz hQ
  | 3 => lz_inc <| lz_go hJ
  | 4 => lz_cst <| lz_rtz hQ
  | _ + 5 => fun _ _ _ _ _ q => q.elim
set_option maxRecDepth 100000 in
theorem zb_X1_scanNumber : ZB pb_X1_scanNumber := fun Z J J' C Q Q' hJ hC hZ hQ t => match t with
  | 0 => lz_lda <| lz_lda <| lz_lda <| lz_get <| lz_ald <| lz_cst <| lz_ii <| lz_put <| lz_go hJ
  | 1 => lz_lda <| lz_get <| lz_ldi <| lz_icm hJ <| lz_lda <| lz_lda <| lz_get <| lz_ald <| lz_cas hC (hZ _ (by decide)) <| lz_ifc hJ <| lz_lda <| lz_lda <| lz_get <| lz_cst <| lz_ii <| lz_lda <| lz_lda <| lz_get <| lz_ald <| lz_ii <| lz_cst <| lz_ii <| lz_put <| lz_lda <| lz_dup <| lz_get <| lz_cst <| lz_ii <| lz_put <| lz_go hJ
  | 2 => lz_lda <| lz_lda <| lz_get <| lz_lda <| lz_get <| lz_ii <| lz_cst <| lz_icm hJ <| lz_cst <| lz_go hJ
  | 3 => lz_cst <| lz_go hJ
  | 4 => lz_put <| lz_rtv hQ
  | _ + 5 => fun _ _ _ _ _ q => q.elim
set_option maxRecDepth 100000 in
theorem zb_X1_isLetter : ZB pb_X1_isLetter := fun Z J J' C Q Q' hJ hC hZ hQ t => match t with
  | 0 => lz_ldi <| lz_cst <| lz_icm hJ <| lz_ldi <| lz_cst <| lz_icm hJ <| lz_cst <| lz_go hJ
  | 1 => lz_cst <| lz_go hJ
  | 2 => lz_rtz hQ
  | _ + 3 => fun _ _ _ _ _ q => q.elim
set_option maxRecDepth 100000 in
theorem zb_X1_isFigure : ZB pb_X1_isFigure := fun Z J J' C Q Q' hJ hC hZ hQ t => match t with
  | 0 => lz_ldi <| lz_cst <| lz_icm hJ <| lz_ldi <| lz_cst <| lz_icm hJ <| lz_cst <| lz_go hJ
  | 1 => lz_cst <| lz_go hJ
  | 2 => lz_rtz hQ
  | _ + 3 => fun _ _ _ _ _ q => q.elim
set_option maxRecDepth 100000 in
theorem zb_X1_kindOfSign : ZB pb_X1_kindOfSign := fun Z J J' C Q Q' hJ hC hZ hQ t => match t with
  | 0 => lz_ldi <| lz_tsw hJ
  | 1 => lz_cst <| lz_ret hQ
  | 2 => lz_cst <| lz_ret hQ
  | 3 => lz_cst <| lz_ret hQ
  | 4 => lz_cst <| lz_ret hQ
  | 5 => lz_cst <| lz_ret hQ
  | 6 => lz_cst <| lz_ret hQ
  | 7 => lz_cst <| lz_ret hQ
  | 8 => lz_cst <| lz_ret hQ
  | 9 => lz_cst <| lz_ret hQ
  | 10 => lz_cst <| lz_ret hQ
  | _ + 11 => fun _ _ _ _ _ q => q.elim
set_option maxRecDepth 100000 in
theorem zb_X1_stateBehind : ZB pb_X1_stateBehind := fun Z J J' C Q Q' hJ hC hZ hQ t => match t with
  | 0 => lz_lda <| lz_get <| lz_tsw hJ
  | 1 => lz_lda <| lz_get <| lz_cst <| lz_icm hJ <| lz_lda <| lz_get <| lz_cst <| lz_icm hJ <| lz_go hJ
  | 2 => lz_cst <| lz_ret hQ
  | 3 => lz_lda <| lz_get <| lz_cst <| lz_icm hJ <| lz_lda <| lz_get <| lz_cst <| lz_icm hJ <| lz_go hJ
  | 4 => lz_cst <| lz_ret hQ
  | 5 => lz_lda <| lz_cst <| lz_cst <| lz_cav hC (hZ _ (by decide)) <| lz_ret hQ
  | 6 => lz_lda <| lz_cst <| lz_cst <| lz_cav hC (hZ _ (by decide)) <| lz_ret hQ
  | 7 => lz_lda <| lz_get <| lz_cst <| lz_icm hJ <| lz_lda <| lz_get <| lz_cst <| lz_icm hJ <| lz_lda <| lz_get <| lz_cst <| lz_icm hJ <| lz_go hJ
  | 8 => lz_cst <| lz_ret hQ
  | 9 => lz_lda <| lz_cav hC (hZ _ (by decide)) <| lz_ifc hJ <| lz_cst <| lz_go hJ
  | 10 => lz_cst <| lz_go hJ
  | 11 => lz_ret hQ
  | 12 => lz_lda <| lz_cst <| lz_cst <| lz_cav hC (hZ _ (by decide)) <| lz_ret hQ
  | 13 => lz_lda <| lz_cav hC (hZ _ (by decide)) <| lz_ifc hJ <| lz_cst <| lz_go hJ
  | 14 => lz_lda <| lz_cav hC (hZ _ (by decide)) <| lz_go hJ
  | 15 => lz_ret hQ
  | 16 => lz_lda <| lz_cav hC (hZ _ (by decide)) <| lz_ret hQ
  | _ + 17 => fun _ _ _ _ _ q => q.elim
set_option maxRecDepth 100000 in
theorem zb_X1_behindLeaf : ZB pb_X1_behindLeaf := fun Z J J' C Q Q' hJ hC hZ hQ t => match t with
  | 0 => lz_lda <| lz_get <| lz_cst <| lz_icm hJ <| lz_lda <| lz_get <| lz_cst <| lz_icm hJ <| lz_go hJ
  | 1 => lz_ldi <| lz_ret hQ
  | 2 => lz_lda <| lz_get <| lz_cst <| lz_icm hJ <| lz_ldi <| lz_go hJ
  | 3 => lz_cst <| lz_go hJ
  | 4 => lz_ret hQ
  | _ + 5 => fun _ _ _ _ _ q => q.elim
set_option maxRecDepth 100000 in
theorem zb_X1_goesOnSum : ZB pb_X1_goesOnSum := fun Z J J' C Q Q' hJ hC hZ hQ t => match t with
  | 0 => lz_lda <| lz_get <| lz_cst <| lz_icm hJ <| lz_lda <| lz_get <| lz_cst <| lz_icm hJ <| lz_lda <| lz_get <| lz_cst <| lz_icm hJ <| lz_lda <| lz_get <| lz_cst <| lz_icm hJ <| lz_go hJ
  | 1 => lz_cst <| lz_go hJ
  | 2 => lz_cst <| lz_go hJ
  | 3 => lz_rtz hQ
  | _ + 4 => fun _ _ _ _ _ q => q.elim
set_option maxRecDepth 100000 in
theorem zb_X1_behindOne : ZB pb_X1_behindOne := fun Z J J' C Q Q' hJ hC hZ hQ t => match t with
  | 0 => lz_lda <| lz_get <| lz_cst <| lz_icm hJ <| lz_lda <| lz_get <| lz_cst <| lz_icm hJ <| lz_go hJ
  | 1 => lz_cst <| lz_ret hQ
  | 2 => lz_lda <| lz_get <| lz_cst <| lz_icm hJ <| lz_lda <| lz_get <| lz_ifc hJ <| lz_cst <| lz_ret hQ
  | 3 => lz_lda <| lz_get <| lz_ifc hJ <| lz_lda <| lz_get <| lz_ifc hJ <| lz_cst <| lz_go hJ
  | 4 => lz_cst <| lz_go hJ
  | 5 => lz_ret hQ
  | _ + 6 => fun _ _ _ _ _ q => q.elim
set_option maxRecDepth 100000 in
theorem zb_X1_take : ZB pb_X1_take := fun Z J J' C Q Q' hJ hC hZ hQ t => match t with
  | 0 => lz_lda <| lz_get <| lz_tsw hJ
  | 1 => lz_lda <| lz_get <| lz_lda <| lz_get <| lz_lda <| lz_get <| lz_cav hC (hZ _ (by decide)) <| lz_go hJ
  | 2 => lz_lda <| lz_dup <| lz_get <| lz_cst <| lz_ii <| lz_put <| lz_lda <| lz_dup <| lz_get <| lz_cst <| lz_ii <| lz_put <| lz_lda <| lz_cst <| lz_cav hC (hZ _ (by decide)) <| lz_go hJ
  | 3 => lz_lda <| lz_dup <| lz_get <| lz_cst <| lz_ii <| lz_put <| lz_lda <| lz_cst <| lz_cav hC (hZ _ (by decide)) <| lz_go hJ
  | 4 => lz_lda <| lz_cst <| lz_cav hC (hZ _ (by decide)) <| lz_lda <| lz_cav hC (hZ _ (by decide)) <| lz_go hJ
  | 5 => lz_lda <| lz_cav hC (hZ _ (by decide)) <| lz_go hJ
  | 6 => lz_rtv hQ
  | _ + 7 => fun _ _ _ _ _ q => q.elim
set_option maxRecDepth 100000 in
theorem zb_X1_takeOperator : ZB pb_X1_takeOperator := fun Z J J' C Q Q' hJ hC hZ hQ t => match t with
  | 0 => lz_lda <| lz_get <| lz_cst <| lz_icm hJ <| lz_lda <| lz_get <| lz_cst <| lz_icm hJ <| lz_lda <| lz_get <| lz_cst <| lz_icm hJ <| lz_lda <| lz_cst <| lz_cav hC (hZ _ (by decide)) <| lz_rtv hQ
  | 1 => lz_lda <| lz_cst <| lz_lda <| lz_get <| lz_rk <| lz_cav hC (hZ _ (by decide)) <| lz_lda <| lz_lda <| lz_get <| lz_cav hC (hZ _ (by decide)) <| lz_rtv hQ
  | _ + 2 => fun _ _ _ _ _ q => q.elim
set_option maxRecDepth 100000 in
theorem zb_X1_hold : ZB pb_X1_hold := fun Z J J' C Q Q' hJ hC hZ hQ t => match t with
  | 0 => lz_lda <| lz_get <| lz_cst <| lz_icm hJ <| lz_lda <| lz_get <| lz_lda <| lz_get <| lz_ldi <| lz_ast <| lz_lda <| lz_dup <| lz_get <| lz_cst <| lz_ii <| lz_put <| lz_go hJ
  | 1 => lz_rtv hQ
  | _ + 2 => fun _ _ _ _ _ q => q.elim
set_option maxRecDepth 100000 in
theorem zb_X1_settle : ZB pb_X1_settle := fun Z J J' C Q Q' hJ hC hZ hQ t => match t with
  | 0 => lz_lda <| lz_get <| lz_ifc hJ <| lz_cst <| lz_lda <| lz_get <| lz_lda <| lz_get <| lz_cst <| lz_ii <| lz_ald <| lz_rk <| lz_ldi <| lz_icm hJ <| lz_lda <| lz_dup <| lz_get <| lz_cst <| lz_ii <| lz_put <| lz_lda <| lz_get <| lz_lda <| lz_get <| lz_ald <| lz_cst <| lz_icm hJ <| lz_lda <| lz_dup <| lz_get <| lz_cst <| lz_ii <| lz_put <| lz_go hJ
  | 1 => lz_lda <| lz_get <| lz_lda <| lz_get <| lz_lda <| lz_get <| lz_ald <| lz_cst <| lz_cav hC (hZ _ (by decide)) <| lz_go hJ
  | 2 => lz_rtv hQ
  | _ + 3 => fun _ _ _ _ _ q => q.elim
set_option maxRecDepth 100000 in
theorem zb_X1_dropBracket : ZB pb_X1_dropBracket := fun Z J J' C Q Q' hJ hC hZ hQ t => match t with
  | 0 => lz_lda <| lz_get <| lz_ifc hJ <| lz_lda <| lz_dup <| lz_get <| lz_cst <| lz_ii <| lz_put <| lz_lda <| lz_dup <| lz_get <| lz_cst <| lz_ii <| lz_put <| lz_lda <| lz_dup <| lz_get <| lz_cst <| lz_ii <| lz_put <| lz_go hJ
  | 1 => lz_rtv hQ
  | _ + 2 => fun _ _ _ _ _ q => q.elim
set_option maxRecDepth 100000 in
theorem zb_X2_truth : ZB pb_X2_truth := fun Z J J' C Q Q' hJ hC hZ hQ t => match t with
  | 0 => lz_lda <| lz_cst <| lz_put <| lz_cst <| lz_sti <| lz_go hJ
  | 1 => lz_ldi <| lz_lda <| lz_get <| lz_icm hJ <| lz_lda <| lz_lda <| lz_get <| lz_ldi <| lz_ald <| lz_lda <| lz_get <| lz_ldi <| lz_ald <| lz_lda <| lz_ldi <| lz_cav hC (hZ _ (by decide)) <| lz_inc <| lz_go hJ
  | 2 => lz_lda <| lz_get <| lz_cst <| lz_icm hJ <| lz_lda <| lz_get <| lz_cst <| lz_ald <| lz_ifc hJ <| lz_go hJ
  | 3 => lz_cst <| lz_ret hQ
  | 4 => lz_lda <| lz_get <| lz_cst <| lz_lld <| lz_cst <| lz_cmp <| lz_ifc hJ <| lz_cst <| lz_go hJ
  | 5 => lz_cst <| lz_go hJ
  | 6 => lz_ret hQ
  | _ + 7 => fun _ _ _ _ _ q => q.elim
set_option maxRecDepth 100000 in
theorem zb_X2_carryOut : ZB pb_X2_carryOut := fun Z J J' C Q Q' hJ hC hZ hQ t => match t with
  | 0 => lz_ldi <| lz_tsw hJ
  | 1 => lz_lda <| lz_ldi <| lz_i2l <| lz_cav hC (hZ _ (by decide)) <| lz_go hJ
  | 2 => lz_lda <| lz_lda <| lz_ldi <| lz_ldi <| lz_ii <| lz_ald <| lz_i2l <| lz_cav hC (hZ _ (by decide)) <| lz_go hJ
  | 3 => lz_lda <| lz_cst <| lz_cav hC (hZ _ (by decide)) <| lz_go hJ
  | 4 => lz_lda <| lz_cst <| lz_cav hC (hZ _ (by decide)) <| lz_go hJ
  | 5 => lz_lda <| lz_ldi <| lz_cav hC (hZ _ (by decide)) <| lz_go hJ
  | 6 => lz_lda <| lz_ldi <| lz_cav hC (hZ _ (by decide)) <| lz_go hJ
  | 7 => lz_rtv hQ
  | _ + 8 => fun _ _ _ _ _ q => q.elim
set_option maxRecDepth 100000 in
theorem zb_X2_push : ZB pb_X2_push := fun Z J J' C Q Q' hJ hC hZ hQ t => match t with
  | 0 => lz_lda <| lz_get <| lz_cst <| lz_icm hJ <| lz_lda <| lz_get <| lz_lda <| lz_get <| lz_ldl <| lz_lst <| lz_lda <| lz_get <| lz_lda <| lz_get <| lz_cst <| lz_ast <| lz_lda <| lz_dup <| lz_get <| lz_cst <| lz_ii <| lz_put <| lz_go hJ
  | 1 => lz_rtv hQ
  | _ + 2 => fun _ _ _ _ _ q => q.elim
set_option maxRecDepth 100000 in
theorem zb_X2_turn : ZB pb_X2_turn := fun Z J J' C Q Q' hJ hC hZ hQ t => match t with
  | 0 => lz_lda <| lz_get <| lz_cst <| lz_icm hJ <| lz_rtv hQ
  | 1 => lz_lda <| lz_get <| lz_lda <| lz_get <| lz_cst <| lz_ii <| lz_lld <| lz_stl <| lz_lda <| lz_get <| lz_lda <| lz_get <| lz_cst <| lz_ii <| lz_ldi <| lz_cst <| lz_icm hJ <| lz_cst <| lz_ldl <| lz_ll <| lz_go hJ
  | 2 => lz_ldl <| lz_l1 <| lz_go hJ
  | 3 => lz_lst <| lz_rtv hQ
  | _ + 4 => fun _ _ _ _ _ q => q.elim
set_option maxRecDepth 100000 in
theorem zb_X2_join : ZB pb_X2_join := fun Z J J' C Q Q' hJ hC hZ hQ t => match t with
  | 0 => lz_lda <| lz_get <| lz_cst <| lz_icm hJ <| lz_rtv hQ
  | 1 => lz_lda <| lz_dup <| lz_get <| lz_cst <| lz_ii <| lz_put <| lz_ldi <| lz_cst <| lz_icm hJ <| lz_ldi <| lz_cst <| lz_icm hJ <| lz_go hJ
  | 2 => lz_lda <| lz_ldi <| lz_cst <| lz_icm hJ <| lz_cst <| lz_go hJ
  | 3 => lz_cst <| lz_go hJ
  | 4 => lz_cav hC (hZ _ (by decide)) <| lz_rtv hQ
  | 5 => lz_lda <| lz_get <| lz_lda <| lz_get <| lz_lld <| lz_stl <| lz_lda <| lz_get <| lz_lda <| lz_get <| lz_cst <| lz_ii <| lz_ald <| lz_ifc hJ <| lz_lda <| lz_get <| lz_lda <| lz_get <| lz_ald <| lz_ifc hJ <| lz_ldi <| lz_cst <| lz_icm hJ <| lz_ldl <| lz_cst <| lz_cmp <| lz_ifc hJ <| lz_go hJ
  | 6 => lz_cst <| lz_go hJ
  | 7 => lz_cst <| lz_go hJ
  | 8 => lz_sti <| lz_lda <| lz_get <| lz_lda <| lz_get <| lz_cst <| lz_ii <| lz_ldi <| lz_ifc hJ <| lz_cst <| lz_go hJ
  | 9 => lz_ldi <| lz_lda <| lz_get <| lz_lda <| lz_get <| lz_cst <| lz_ii <| lz_lld <| lz_ldl <| lz_cas hC (hZ _ (by decide)) <| lz_go hJ
  | 10 => lz_lst <| lz_lda <| lz_get <| lz_lda <| lz_get <| lz_cst <| lz_ii <| lz_ldi <| lz_ast <| lz_rtv hQ
  | _ + 11 => fun _ _ _ _ _ q => q.elim
set_option maxRecDepth 100000 in
theorem zb_X2_joinTruths : ZB pb_X2_joinTruths := fun Z J J' C Q Q' hJ hC hZ hQ t => match t with
  | 0 => lz_lda <| lz_get <| lz_cst <| lz_ii <| lz_sti <| lz_lda <| lz_get <| lz_ldi <| lz_ald <| lz_ifc hJ <| lz_lda <| lz_get <| lz_ldi <| lz_lld <| lz_ldi <| lz_i2l <| lz_cmp <| lz_ifc hJ <| lz_go hJ
  | 1 => lz_lda <| lz_get <| lz_lda <| lz_get <| lz_ald <| lz_ifc hJ <| lz_lda <| lz_get <| lz_lda <| lz_get <| lz_lld <| lz_ldi <| lz_i2l <| lz_cmp <| lz_ifc hJ <| lz_go hJ
  | 2 => lz_cst <| lz_go hJ
  | 3 => lz_cst <| lz_go hJ
  | 4 => lz_sti <| lz_lda <| lz_get <| lz_ldi <| lz_ldi <| lz_ifc hJ <| lz_lda <| lz_get <| lz_ldi <| lz_ald <| lz_ifc hJ <| lz_lda <| lz_get <| lz_lda <| lz_get <| lz_ald <| lz_ifc hJ <| lz_go hJ
  | 5 => lz_cst <| lz_go hJ
  | 6 => lz_cst <| lz_go hJ
  | 7 => lz_ast <| lz_lda <| lz_get <| lz_ldi <| lz_ldi <| lz_ifc hJ <| lz_ldi <| lz_i2l <| lz_go hJ
  | 8 => lz_cst <| lz_ldi <| lz_ii <| lz_i2l <| lz_go hJ
  | 9 => lz_lst <| lz_rtv hQ
  | _ + 10 => fun _ _ _ _ _ q => q.elim
set_option maxRecDepth 100000 in
theorem zb_X2_reckon : ZB pb_X2_reckon := fun Z J J' C Q Q' hJ hC hZ hQ t => match t with
  | 0 => lz_ldi <| lz_tsw hJ
  | 1 => lz_ldl <| lz_ldl <| lz_ll <| lz_rtl hQ
  | 2 => lz_ldl <| lz_ldl <| lz_ll <| lz_rtl hQ
  | 3 => lz_ldl <| lz_ldl <| lz_ll <| lz_rtl hQ
  | 4 => lz_ldl <| lz_cst <| lz_cmp <| lz_ifc hJ <| lz_cst <| lz_go hJ
  | 5 => lz_ldl <| lz_ldl <| lz_ld <| lz_go hJ
  | 6 => lz_rtl hQ
  | 7 => lz_ldl <| lz_ldl <| lz_cmp <| lz_ifc hJ <| lz_cst <| lz_go hJ
  | 8 => lz_cst <| lz_go hJ
  | 9 => lz_rtl hQ
  | 10 => lz_ldl <| lz_ldl <| lz_cmp <| lz_ifc hJ <| lz_cst <| lz_go hJ
  | 11 => lz_cst <| lz_go hJ
  | 12 => lz_rtl hQ
  | 13 => lz_ldl <| lz_ldl <| lz_cmp <| lz_ifc hJ <| lz_cst <| lz_go hJ
  | 14 => lz_cst <| lz_go hJ
  | 15 => lz_rtl hQ
  | _ + 16 => fun _ _ _ _ _ q => q.elim
set_option maxRecDepth 100000 in
theorem zb_X3_forget : ZB pb_X3_forget := fun Z J J' C Q Q' hJ hC hZ hQ t => match t with
  | 0 => lz_lda <| lz_get <| lz_cst <| lz_cas hC (hZ _ (by decide)) <| lz_rtv hQ
  | _ + 1 => fun _ _ _ _ _ q => q.elim
set_option maxRecDepth 100000 in
theorem zb_X3_copyFrom : ZB pb_X3_copyFrom := fun Z J J' C Q Q' hJ hC hZ hQ t => match t with
  | 0 => lz_lda <| lz_get <| lz_cst <| lz_lda <| lz_get <| lz_cst <| lz_lda <| lz_get <| lz_len <| lz_cpl <| lz_rtv hQ
  | _ + 1 => fun _ _ _ _ _ q => q.elim
set_option maxRecDepth 100000 in
theorem zb_X3_countRows : ZB pb_X3_countRows := fun Z J J' C Q Q' hJ hC hZ hQ t => match t with
  | 0 => lz_cst <| lz_sti <| lz_cst <| lz_sti <| lz_go hJ
  | 1 => lz_ldi <| lz_cst <| lz_icm hJ <| lz_lda <| lz_ldi <| lz_cav hC (hZ _ (by decide)) <| lz_ifc hJ <| lz_inc <| lz_go hJ
  | 2 => lz_inc <| lz_go hJ
  | 3 => lz_ldi <| lz_ret hQ
  | _ + 4 => fun _ _ _ _ _ q => q.elim
set_option maxRecDepth 100000 in
theorem zb_X3_isSolved : ZB pb_X3_isSolved := fun Z J J' C Q Q' hJ hC hZ hQ t => match t with
  | 0 => lz_lda <| lz_ldi <| lz_cav hC (hZ _ (by decide)) <| lz_ifc hJ <| lz_lda <| lz_ldi <| lz_cav hC (hZ _ (by decide)) <| lz_cst <| lz_icm hJ <| lz_cst <| lz_go hJ
  | 1 => lz_cst <| lz_go hJ
  | 2 => lz_rtz hQ
  | _ + 3 => fun _ _ _ _ _ q => q.elim
set_option maxRecDepth 100000 in
theorem zb_X3_solvedSet : ZB pb_X3_solvedSet := fun Z J J' C Q Q' hJ hC hZ hQ t => match t with
  | 0 => lz_cst <| lz_sti <| lz_cst <| lz_sti <| lz_go hJ
  | 1 => lz_ldi <| lz_cst <| lz_icm hJ <| lz_lda <| lz_ldi <| lz_cav hC (hZ _ (by decide)) <| lz_ifc hJ <| lz_ldi <| lz_cst <| lz_ldi <| lz_ii <| lz_ii <| lz_sti <| lz_go hJ
  | 2 => lz_inc <| lz_go hJ
  | 3 => lz_ldi <| lz_ret hQ
  | _ + 4 => fun _ _ _ _ _ q => q.elim
set_option maxRecDepth 100000 in
theorem zb_X3_learn : ZB pb_X3_learn := fun Z J J' C Q Q' hJ hC hZ hQ t => match t with
  | 0 => lz_cst <| lz_sti <| lz_go hJ
  | 1 => lz_ldi <| lz_cst <| lz_icm hJ <| lz_lda <| lz_get <| lz_cst <| lz_ldi <| lz_ii <| lz_ldi <| lz_ldi <| lz_ii <| lz_cst <| lz_ii <| lz_i2l <| lz_lst <| lz_inc <| lz_go hJ
  | 2 => lz_cst <| lz_sti <| lz_go hJ
  | 3 => lz_ldi <| lz_cst <| lz_icm hJ <| lz_lda <| lz_ldi <| lz_cav hC (hZ _ (by decide)) <| lz_ifc hJ <| lz_lda <| lz_ldi <| lz_cst <| lz_cav hC (hZ _ (by decide)) <| lz_go hJ
  | 4 => lz_inc <| lz_go hJ
  | 5 => lz_lda <| lz_cst <| lz_cst <| lz_cav hC (hZ _ (by decide)) <| lz_sti <| lz_ldi <| lz_cst <| lz_icm hJ <| lz_rtv hQ
  | 6 => lz_lda <| lz_ldi <| lz_cav hC (hZ _ (by decide)) <| lz_cst <| lz_sti <| lz_go hJ
  | 7 => lz_ldi <| lz_ldi <| lz_icm hJ <| lz_lda <| lz_ldi <| lz_cav hC (hZ _ (by decide)) <| lz_ifc hJ <| lz_lda <| lz_ldi <| lz_ldi <| lz_cav hC (hZ _ (by decide)) <| lz_go hJ
  | 8 => lz_inc <| lz_go hJ
  | 9 => lz_rtv hQ
  | _ + 10 => fun _ _ _ _ _ q => q.elim
set_option maxRecDepth 100000 in
theorem zb_X3_otherWorld : ZB pb_X3_otherWorld := fun Z J J' C Q Q' hJ hC hZ hQ t => match t with
  | 0 => lz_lda <| lz_ldi <| lz_cav hC (hZ _ (by decide)) <| lz_ifc hJ <| lz_lda <| lz_ldi <| lz_cav hC (hZ _ (by decide)) <| lz_go hJ
  | 1 => lz_ldi <| lz_go hJ
  | 2 => lz_sti <| lz_ldi <| lz_cst <| lz_icm hJ <| lz_cst <| lz_rtl hQ
  | 3 => lz_lda <| lz_ldi <| lz_cav hC (hZ _ (by decide)) <| lz_stl <| lz_ldi <| lz_ldi <| lz_icm hJ <| lz_ldl <| lz_rtl hQ
  | 4 => lz_lda <| lz_ldi <| lz_ldi <| lz_cav hC (hZ _ (by decide)) <| lz_stl <| lz_ldl <| lz_cst <| lz_cmp <| lz_ifc hJ <| lz_cst <| lz_go hJ
  | 5 => lz_lda <| lz_ldi <| lz_ldi <| lz_cav hC (hZ _ (by decide)) <| lz_l1 <| lz_ldl <| lz_ll <| lz_ldl <| lz_ld <| lz_go hJ
  | 6 => lz_rtl hQ
  | _ + 7 => fun _ _ _ _ _ q => q.elim
set_option maxRecDepth 100000 in
theorem zb_X3_leastThatMakesWhole : ZB pb_X3_leastThatMakesWhole := fun Z J J' C Q Q' hJ hC hZ hQ t => match t with
  | 0 => lz_cst <| lz_stl <| lz_cst <| lz_sti <| lz_go hJ
  | 1 => lz_ldi <| lz_cst <| lz_icm hJ <| lz_lda <| lz_ldi <| lz_ldi <| lz_cav hC (hZ _ (by decide)) <| lz_stl <| lz_ldl <| lz_lda <| lz_ldi <| lz_ldi <| lz_cav hC (hZ _ (by decide)) <| lz_cas hC (hZ _ (by decide)) <| lz_stl <| lz_ldl <| lz_cst <| lz_cmp <| lz_ifc hJ <| lz_ldl <| lz_cst <| lz_cmp <| lz_ifc hJ <| lz_ldl <| lz_ldl <| lz_ld <| lz_stl <| lz_ldl <| lz_ldl <| lz_cas hC (hZ _ (by decide)) <| lz_stl <| lz_ldl <| lz_cst <| lz_cmp <| lz_ifc hJ <| lz_ldl <| lz_go hJ
  | 2 => lz_ldl <| lz_ldl <| lz_ld <| lz_ldl <| lz_ll <| lz_go hJ
  | 3 => lz_stl <| lz_go hJ
  | 4 => lz_inc <| lz_go hJ
  | 5 => lz_ldl <| lz_rtl hQ
  | _ + 6 => fun _ _ _ _ _ q => q.elim
set_option maxRecDepth 100000 in
theorem zb_X3_at : ZB pb_X3_at := fun Z J J' C Q Q' hJ hC hZ hQ t => match t with
  | 0 => lz_lda <| lz_get <| lz_ldi <| lz_cst <| lz_ii <| lz_ldi <| lz_ii <| lz_lld <| lz_rtl hQ
  | _ + 1 => fun _ _ _ _ _ q => q.elim
set_option maxRecDepth 100000 in
theorem zb_X3_isPivot : ZB pb_X3_isPivot := fun Z J J' C Q Q' hJ hC hZ hQ t => match t with
  | 0 => lz_lda <| lz_ldi <| lz_ldi <| lz_cav hC (hZ _ (by decide)) <| lz_cst <| lz_cmp <| lz_ifc hJ <| lz_cst <| lz_go hJ
  | 1 => lz_cst <| lz_go hJ
  | 2 => lz_rtz hQ
  | _ + 3 => fun _ _ _ _ _ q => q.elim
set_option maxRecDepth 100000 in
theorem zb_X3_firstBehind : ZB pb_X3_firstBehind := fun Z J J' C Q Q' hJ hC hZ hQ t => match t with
  | 0 => lz_lda <| lz_ldi <| lz_ldi <| lz_cst <| lz_ii <| lz_cav hC (hZ _ (by decide)) <| lz_ret hQ
  | _ + 1 => fun _ _ _ _ _ q => q.elim
set_option maxRecDepth 100000 in
theorem zb_X3_firstOf : ZB pb_X3_firstOf := fun Z J J' C Q Q' hJ hC hZ hQ t => match t with
  | 0 => lz_ldi <| lz_sti <| lz_go hJ
  | 1 => lz_ldi <| lz_cst <| lz_icm hJ <| lz_lda <| lz_ldi <| lz_ldi <| lz_cav hC (hZ _ (by decide)) <| lz_cst <| lz_cmp <| lz_ifc hJ <| lz_ldi <| lz_ret hQ
  | 2 => lz_inc <| lz_go hJ
  | 3 => lz_cst <| lz_ret hQ
  | _ + 4 => fun _ _ _ _ _ q => q.elim
set_option maxRecDepth 100000 in
theorem zb_X3_clearAt : ZB pb_X3_clearAt := fun Z J J' C Q Q' hJ hC hZ hQ t => match t with
  | 0 => lz_lda <| lz_ldi <| lz_ldi <| lz_cav hC (hZ _ (by decide)) <| lz_stl <| lz_lda <| lz_ldi <| lz_ldi <| lz_cav hC (hZ _ (by decide)) <| lz_stl <| lz_ldl <| lz_cst <| lz_cmp <| lz_ifc hJ <| lz_rtv hQ
  | 1 => lz_cst <| lz_sti <| lz_go hJ
  | 2 => lz_ldi <| lz_cst <| lz_icm hJ <| lz_lda <| lz_get <| lz_ldi <| lz_cst <| lz_ii <| lz_ldi <| lz_ii <| lz_lda <| lz_ldi <| lz_ldi <| lz_cav hC (hZ _ (by decide)) <| lz_ldl <| lz_ll <| lz_lda <| lz_ldi <| lz_ldi <| lz_cav hC (hZ _ (by decide)) <| lz_ldl <| lz_ll <| lz_ll <| lz_lst <| lz_inc <| lz_go hJ
  | 3 => lz_lda <| lz_ldi <| lz_lda <| lz_ldi <| lz_cav hC (hZ _ (by decide)) <| lz_cav hC (hZ _ (by decide)) <| lz_rtv hQ
  | _ + 4 => fun _ _ _ _ _ q => q.elim
set_option maxRecDepth 100000 in
theorem zb_X3_settleNewRow : ZB pb_X3_settleNewRow := fun Z J J' C Q Q' hJ hC hZ hQ t => match t with
  | 0 => lz_lda <| lz_get <| lz_cst <| lz_lda <| lz_get <| lz_ldi <| lz_cst <| lz_ii <| lz_cst <| lz_cpl <| lz_lda <| lz_ldi <| lz_cav hC (hZ _ (by decide)) <| lz_stl <| lz_lda <| lz_ldi <| lz_lda <| lz_ldi <| lz_ldi <| lz_cav hC (hZ _ (by decide)) <| lz_cst <| lz_cmp <| lz_ifc hJ <| lz_ldl <| lz_l1 <| lz_go hJ
  | 1 => lz_ldl <| lz_go hJ
  | 2 => lz_cav hC (hZ _ (by decide)) <| lz_rtv hQ
  | _ + 3 => fun _ _ _ _ _ q => q.elim
set_option maxRecDepth 100000 in
theorem zb_X3_divide : ZB pb_X3_divide := fun Z J J' C Q Q' hJ hC hZ hQ t => match t with
  | 0 => lz_ldl <| lz_cst <| lz_cmp <| lz_ifc hJ <| lz_rtv hQ
  | 1 => lz_cst <| lz_sti <| lz_go hJ
  | 2 => lz_ldi <| lz_cst <| lz_icm hJ <| lz_lda <| lz_get <| lz_ldi <| lz_cst <| lz_ii <| lz_ldi <| lz_ii <| lz_dup2 <| lz_lld <| lz_ldl <| lz_ld <| lz_lst <| lz_inc <| lz_go hJ
  | 3 => lz_rtv hQ
  | _ + 4 => fun _ _ _ _ _ q => q.elim
set_option maxRecDepth 100000 in
theorem zb_X3_commonDivisorOf : ZB pb_X3_commonDivisorOf := fun Z J J' C Q Q' hJ hC hZ hQ t => match t with
  | 0 => lz_cst <| lz_stl <| lz_cst <| lz_sti <| lz_go hJ
  | 1 => lz_ldi <| lz_cst <| lz_icm hJ <| lz_ldl <| lz_lda <| lz_ldi <| lz_ldi <| lz_cav hC (hZ _ (by decide)) <| lz_cas hC (hZ _ (by decide)) <| lz_stl <| lz_inc <| lz_go hJ
  | 2 => lz_ldl <| lz_rtl hQ
  | _ + 3 => fun _ _ _ _ _ q => q.elim
set_option maxRecDepth 100000 in
theorem zb_X3_commonDivisor : ZB pb_X3_commonDivisor := fun Z J J' C Q Q' hJ hC hZ hQ t => match t with
  | 0 => lz_ldl <| lz_cst <| lz_cmp <| lz_ifc hJ <| lz_ldl <| lz_l1 <| lz_go hJ
  | 1 => lz_ldl <| lz_go hJ
  | 2 => lz_stl <| lz_ldl <| lz_cst <| lz_cmp <| lz_ifc hJ <| lz_ldl <| lz_l1 <| lz_go hJ
  | 3 => lz_ldl <| lz_go hJ
  | 4 => lz_stl <| lz_cst <| lz_sti <| lz_go hJ
  | 5 => lz_ldi <| lz_cst <| lz_icm hJ <| lz_ldl <| lz_cst <| lz_cmp <| lz_ifc hJ <| lz_ldl <| lz_ldl <| lz_ld <| lz_stl <| lz_ldl <| lz_stl <| lz_ldl <| lz_stl <| lz_inc <| lz_go hJ
  | 6 => lz_ldl <| lz_rtl hQ
  | _ + 7 => fun _ _ _ _ _ q => q.elim
set_option maxRecDepth 100000 in
theorem zb_X4_empty : ZB pb_X4_empty := fun Z J J' C Q Q' hJ hC hZ hQ t => match t with
  | 0 => lz_lda <| lz_cst <| lz_put <| lz_lda <| lz_cst <| lz_put <| lz_rtv hQ
  | _ + 1 => fun _ _ _ _ _ q => q.elim
set_option maxRecDepth 100000 in
theorem zb_X4_append : ZB pb_X4_append := fun Z J J' C Q Q' hJ hC hZ hQ t => match t with
  | 0 => lz_lda <| lz_get <| lz_cst <| lz_icm hJ <| lz_rtv hQ
  | 1 => lz_lda <| lz_get <| lz_lda <| lz_get <| lz_ldi <| lz_ast <| lz_lda <| lz_get <| lz_lda <| lz_get <| lz_ldi <| lz_ast <| lz_lda <| lz_dup <| lz_get <| lz_cst <| lz_ii <| lz_put <| lz_ldi <| lz_cst <| lz_icm hJ <| lz_lda <| lz_dup <| lz_get <| lz_cst <| lz_ldi <| lz_ii <| lz_ii <| lz_put <| lz_go hJ
  | 2 => lz_rtv hQ
  | _ + 3 => fun _ _ _ _ _ q => q.elim
set_option maxRecDepth 100000 in
theorem zb_X4_copyFrom : ZB pb_X4_copyFrom := fun Z J J' C Q Q' hJ hC hZ hQ t => match t with
  | 0 => lz_lda <| lz_get <| lz_cst <| lz_lda <| lz_get <| lz_cst <| lz_lda <| lz_get <| lz_cpi <| lz_lda <| lz_get <| lz_cst <| lz_lda <| lz_get <| lz_cst <| lz_lda <| lz_get <| lz_cpi <| lz_lda <| lz_lda <| lz_get <| lz_put <| lz_lda <| lz_lda <| lz_get <| lz_put <| lz_rtv hQ
  | _ + 1 => fun _ _ _ _ _ q => q.elim
set_option maxRecDepth 100000 in
theorem zb_X5_begin : ZB pb_X5_begin := fun Z J J' C Q Q' hJ hC hZ hQ t => match t with
  | 0 => lz_lda <| lz_get <| lz_cav hC (hZ _ (by decide)) <| lz_lda <| lz_get <| lz_cst <| lz_cst <| lz_cav hC (hZ _ (by decide)) <| lz_lda <| lz_cst <| lz_put <| lz_lda <| lz_cst <| lz_put <| lz_cst <| lz_sti <| lz_go hJ
  | 1 => lz_ldi <| lz_cst <| lz_icm hJ <| lz_lda <| lz_get <| lz_ldi <| lz_rld <| lz_cav hC (hZ _ (by decide)) <| lz_inc <| lz_go hJ
  | 2 => lz_rtv hQ
  | _ + 3 => fun _ _ _ _ _ q => q.elim
set_option maxRecDepth 100000 in
theorem zb_X5_hasClosed : ZB pb_X5_hasClosed := fun Z J J' C Q Q' hJ hC hZ hQ t => match t with
  | 0 => lz_lda <| lz_get <| lz_ldi <| lz_ii <| lz_ifc hJ <| lz_cst <| lz_go hJ
  | 1 => lz_cst <| lz_go hJ
  | 2 => lz_rtz hQ
  | _ + 3 => fun _ _ _ _ _ q => q.elim
set_option maxRecDepth 100000 in
theorem zb_X5_startCursor : ZB pb_X5_startCursor := fun Z J J' C Q Q' hJ hC hZ hQ t => match t with
  | 0 => lz_lda <| lz_get <| lz_lda <| lz_cav hC (hZ _ (by decide)) <| lz_lda <| lz_cst <| lz_put <| lz_lda <| lz_cst <| lz_put <| lz_rtv hQ
  | _ + 1 => fun _ _ _ _ _ q => q.elim
set_option maxRecDepth 100000 in
theorem zb_X6_object : ZB pb_X6_object := fun Z J J' C Q Q' hJ hC hZ hQ t => match t with
  | 0 => lz_lda <| lz_get <| lz_ifc hJ <| lz_cst <| lz_ret hQ
  | 1 => lz_lda <| lz_get <| lz_cst <| lz_icm hJ <| lz_cst <| lz_ret hQ
  | 2 => lz_cst <| lz_sti <| lz_go hJ
  | 3 => lz_ldi <| lz_cst <| lz_icm hJ <| lz_lda <| lz_get <| lz_lda <| lz_get <| lz_cst <| lz_ii <| lz_ldi <| lz_ii <| lz_cst <| lz_ast <| lz_inc <| lz_go hJ
  | 4 => lz_lda <| lz_dup <| lz_get <| lz_cst <| lz_ii <| lz_put <| lz_lda <| lz_get <| lz_cst <| lz_ii <| lz_ret hQ
  | _ + 5 => fun _ _ _ _ _ q => q.elim
set_option maxRecDepth 100000 in
theorem zb_X6_set : ZB pb_X6_set := fun Z J J' C Q Q' hJ hC hZ hQ t => match t with
  | 0 => lz_lda <| lz_ldi <| lz_cav hC (hZ _ (by decide)) <| lz_ifc hJ <| lz_ldi <| lz_cas hC (hZ _ (by decide)) <| lz_ifc hJ <| lz_go hJ
  | 1 => lz_cst <| lz_ret hQ
  | 2 => lz_ldi <| lz_cst <| lz_icm hJ <| lz_ldi <| lz_cst <| lz_icm hJ <| lz_go hJ
  | 3 => lz_cst <| lz_ret hQ
  | 4 => lz_lda <| lz_get <| lz_ifc hJ <| lz_cst <| lz_ret hQ
  | 5 => lz_lda <| lz_get <| lz_ldi <| lz_cst <| lz_ii <| lz_ldi <| lz_ii <| lz_ldi <| lz_ast <| lz_cst <| lz_ret hQ
  | _ + 6 => fun _ _ _ _ _ q => q.elim
set_option maxRecDepth 100000 in
theorem zb_X6_user : ZB pb_X6_user := fun Z J J' C Q Q' hJ hC hZ hQ t => match t with
  | 0 => lz_lda <| lz_get <| lz_cst <| lz_icm hJ <| lz_cst <| lz_ret hQ
  | 1 => lz_lda <| lz_get <| lz_lda <| lz_get <| lz_rld <| lz_cav hC (hZ _ (by decide)) <| lz_lda <| lz_dup <| lz_get <| lz_cst <| lz_ii <| lz_put <| lz_lda <| lz_get <| lz_cst <| lz_ii <| lz_ret hQ
  | _ + 2 => fun _ _ _ _ _ q => q.elim
set_option maxRecDepth 100000 in
theorem zb_X6_type : ZB pb_X6_type := fun Z J J' C Q Q' hJ hC hZ hQ t => match t with
  | 0 => lz_ldi <| lz_ifc hJ <| lz_ldi <| lz_cst <| lz_icm hJ <| lz_go hJ
  | 1 => lz_cst <| lz_ret hQ
  | 2 => lz_ldi <| lz_ifc hJ <| lz_lda <| lz_cst <| lz_put <| lz_cst <| lz_ret hQ
  | 3 => lz_lda <| lz_get <| lz_ldi <| lz_ii <| lz_cst <| lz_icm hJ <| lz_cst <| lz_ret hQ
  | 4 => lz_ldi <| lz_cst <| lz_ii <| lz_sti <| lz_go hJ
  | 5 => lz_ldi <| lz_ifc hJ <| lz_lda <| lz_get <| lz_lda <| lz_get <| lz_ldl <| lz_cst <| lz_ldi <| lz_ii <| lz_ls <| lz_l2i <| lz_cst <| lz_ii <| lz_ast <| lz_lda <| lz_dup <| lz_get <| lz_cst <| lz_ii <| lz_put <| lz_inc <| lz_go hJ
  | 6 => lz_lda <| lz_get <| lz_ret hQ
  | _ + 7 => fun _ _ _ _ _ q => q.elim
set_option maxRecDepth 100000 in
theorem zb_X6_rule : ZB pb_X6_rule := fun Z J J' C Q Q' hJ hC hZ hQ t => match t with
  | 0 => lz_lda <| lz_ldi <| lz_cav hC (hZ _ (by decide)) <| lz_ifc hJ <| lz_cst <| lz_ret hQ
  | 1 => lz_lda <| lz_cav hC (hZ _ (by decide)) <| lz_sti <| lz_ldi <| lz_ifc hJ <| lz_cst <| lz_ldi <| lz_ii <| lz_ret hQ
  | 2 => lz_lda <| lz_get <| lz_ldi <| lz_rld <| lz_get <| lz_lda <| lz_get <| lz_get <| lz_cav hC (hZ _ (by decide)) <| lz_lda <| lz_lda <| lz_get <| lz_ldi <| lz_rld <| lz_cst <| lz_cav hC (hZ _ (by decide)) <| lz_ret hQ
  | _ + 3 => fun _ _ _ _ _ q => q.elim
set_option maxRecDepth 100000 in
theorem zb_X6_place : ZB pb_X6_place := fun Z J J' C Q Q' hJ hC hZ hQ t => match t with
  | 0 => lz_lda <| lz_get <| lz_ret hQ
  | _ + 1 => fun _ _ _ _ _ q => q.elim
set_option maxRecDepth 100000 in
theorem zb_X6_close : ZB pb_X6_close := fun Z J J' C Q Q' hJ hC hZ hQ t => match t with
  | 0 => lz_lda <| lz_ldi <| lz_cav hC (hZ _ (by decide)) <| lz_ifc hJ <| lz_cst <| lz_ret hQ
  | 1 => lz_ldi <| lz_ifc hJ <| lz_ldi <| lz_cst <| lz_icm hJ <| lz_go hJ
  | 2 => lz_cst <| lz_ret hQ
  | 3 => lz_lda <| lz_get <| lz_ldi <| lz_rld <| lz_get <| lz_sti <| lz_lda <| lz_get <| lz_ldi <| lz_rld <| lz_ldi <| lz_put <| lz_ldi <| lz_ret hQ
  | _ + 4 => fun _ _ _ _ _ q => q.elim
set_option maxRecDepth 100000 in
theorem zb_X6_seen : ZB pb_X6_seen := fun Z J J' C Q Q' hJ hC hZ hQ t => match t with
  | 0 => lz_lda <| lz_ldi <| lz_cav hC (hZ _ (by decide)) <| lz_ifc hJ <| lz_cst <| lz_ret hQ
  | 1 => lz_ldi <| lz_tsw hJ
  | 2 => lz_lda <| lz_lda <| lz_get <| lz_ldi <| lz_rld <| lz_cst <| lz_cav hC (hZ _ (by decide)) <| lz_ret hQ
  | 3 => lz_lda <| lz_get <| lz_lda <| lz_lda <| lz_get <| lz_ldi <| lz_rld <| lz_cst <| lz_cav hC (hZ _ (by decide)) <| lz_ii <| lz_ret hQ
  | 4 => lz_lda <| lz_lda <| lz_get <| lz_ldi <| lz_rld <| lz_cst <| lz_cav hC (hZ _ (by decide)) <| lz_ret hQ
  | 5 => lz_cst <| lz_ret hQ
  | _ + 6 => fun _ _ _ _ _ q => q.elim
set_option maxRecDepth 100000 in
theorem zb_X6_ask : ZB pb_X6_ask := fun Z J J' C Q Q' hJ hC hZ hQ t => match t with
  | 0 => lz_lda <| lz_ldi <| lz_cav hC (hZ _ (by decide)) <| lz_ifc hJ <| lz_cst <| lz_ret hQ
  | 1 => lz_lda <| lz_get <| lz_cav hC (hZ _ (by decide)) <| lz_ifc hJ <| lz_cst <| lz_ret hQ
  | 2 => lz_lda <| lz_ldi <| lz_cst <| lz_cav hC (hZ _ (by decide)) <| lz_sti <| lz_ldi <| lz_ifc hJ <| lz_ldi <| lz_ret hQ
  | 3 => lz_lda <| lz_cst <| lz_put <| lz_cst <| lz_sti <| lz_go hJ
  | 4 => lz_ldi <| lz_lda <| lz_get <| lz_icm hJ <| lz_lda <| lz_lda <| lz_get <| lz_ldi <| lz_rld <| lz_lda <| lz_get <| lz_get <| lz_ldi <| lz_cav hC (hZ _ (by decide)) <| lz_ifc hJ <| lz_lda <| lz_get <| lz_lda <| lz_get <| lz_ldi <| lz_ast <| lz_lda <| lz_dup <| lz_get <| lz_cst <| lz_ii <| lz_put <| lz_go hJ
  | 5 => lz_inc <| lz_go hJ
  | 6 => lz_lda <| lz_get <| lz_ret hQ
  | _ + 7 => fun _ _ _ _ _ q => q.elim
set_option maxRecDepth 100000 in
theorem zb_X6_found : ZB pb_X6_found := fun Z J J' C Q Q' hJ hC hZ hQ t => match t with
  | 0 => lz_ldi <| lz_ifc hJ <| lz_ldi <| lz_lda <| lz_get <| lz_icm hJ <| lz_go hJ
  | 1 => lz_cst <| lz_ret hQ
  | 2 => lz_lda <| lz_get <| lz_ldi <| lz_ald <| lz_ret hQ
  | _ + 3 => fun _ _ _ _ _ q => q.elim
set_option maxRecDepth 100000 in
theorem zb_X6_cell : ZB pb_X6_cell := fun Z J J' C Q Q' hJ hC hZ hQ t => match t with
  | 0 => lz_lda <| lz_ldi <| lz_cav hC (hZ _ (by decide)) <| lz_ifc hJ <| lz_ldi <| lz_cas hC (hZ _ (by decide)) <| lz_ifc hJ <| lz_go hJ
  | 1 => lz_cst <| lz_ret hQ
  | 2 => lz_ldi <| lz_ldi <| lz_icm hJ <| lz_cst <| lz_ret hQ
  | 3 => lz_lda <| lz_get <| lz_cav hC (hZ _ (by decide)) <| lz_ifc hJ <| lz_cst <| lz_ret hQ
  | 4 => lz_lda <| lz_get <| lz_ldi <| lz_rld <| lz_cst <| lz_ldi <| lz_ii <| lz_cav hC (hZ _ (by decide)) <| lz_ifc hJ <| lz_lda <| lz_get <| lz_ldi <| lz_cst <| lz_ldi <| lz_ldi <| lz_cst <| lz_cav hC (hZ _ (by decide)) <| lz_cst <| lz_ret hQ
  | 5 => lz_lda <| lz_get <| lz_ldi <| lz_cst <| lz_ldi <| lz_ldi <| lz_cst <| lz_cav hC (hZ _ (by decide)) <| lz_lda <| lz_lda <| lz_get <| lz_ldi <| lz_rld <| lz_ldi <| lz_ldi <| lz_ldi <| lz_cav hC (hZ _ (by decide)) <| lz_ret hQ
  | _ + 6 => fun _ _ _ _ _ q => q.elim
set_option maxRecDepth 100000 in
theorem zb_X6_cursor : ZB pb_X6_cursor := fun Z J J' C Q Q' hJ hC hZ hQ t => match t with
  | 0 => lz_lda <| lz_ldi <| lz_cav hC (hZ _ (by decide)) <| lz_ifc hJ <| lz_cst <| lz_ret hQ
  | 1 => lz_lda <| lz_get <| lz_cav hC (hZ _ (by decide)) <| lz_ifc hJ <| lz_cst <| lz_ret hQ
  | 2 => lz_lda <| lz_ldi <| lz_cst <| lz_cav hC (hZ _ (by decide)) <| lz_sti <| lz_ldi <| lz_ifc hJ <| lz_ldi <| lz_ret hQ
  | 3 => lz_lda <| lz_get <| lz_ldi <| lz_rld <| lz_lda <| lz_get <| lz_get <| lz_cav hC (hZ _ (by decide)) <| lz_cst <| lz_ret hQ
  | _ + 4 => fun _ _ _ _ _ q => q.elim
set_option maxRecDepth 100000 in
theorem zb_X6_step : ZB pb_X6_step := fun Z J J' C Q Q' hJ hC hZ hQ t => match t with
  | 0 => lz_lda <| lz_ldi <| lz_cav hC (hZ _ (by decide)) <| lz_ifc hJ <| lz_cst <| lz_ret hQ
  | 1 => lz_lda <| lz_get <| lz_ldi <| lz_rld <| lz_sta <| lz_lda <| lz_get <| lz_ifc hJ <| lz_cst <| lz_ret hQ
  | 2 => lz_lda <| lz_get <| lz_cav hC (hZ _ (by decide)) <| lz_ifc hJ <| lz_cst <| lz_ret hQ
  | 3 => lz_lda <| lz_lda <| lz_get <| lz_get <| lz_cav hC (hZ _ (by decide)) <| lz_ifc hJ <| lz_lda <| lz_get <| lz_ldi <| lz_cst <| lz_cst <| lz_cst <| lz_cst <| lz_cav hC (hZ _ (by decide)) <| lz_cst <| lz_ret hQ
  | 4 => lz_lda <| lz_get <| lz_ldi <| lz_cst <| lz_cst <| lz_cst <| lz_cst <| lz_cav hC (hZ _ (by decide)) <| lz_lda <| lz_lda <| lz_cav hC (hZ _ (by decide)) <| lz_ret hQ
  | _ + 5 => fun _ _ _ _ _ q => q.elim
set_option maxRecDepth 100000 in
theorem zb_X6_solved : ZB pb_X6_solved := fun Z J J' C Q Q' hJ hC hZ hQ t => match t with
  | 0 => lz_lda <| lz_ldi <| lz_cav hC (hZ _ (by decide)) <| lz_ifc hJ <| lz_ldi <| lz_cas hC (hZ _ (by decide)) <| lz_ifc hJ <| lz_lda <| lz_ldi <| lz_cav hC (hZ _ (by decide)) <| lz_ifc hJ <| lz_go hJ
  | 1 => lz_cst <| lz_ret hQ
  | 2 => lz_lda <| lz_get <| lz_ldi <| lz_rld <| lz_get <| lz_ldi <| lz_rld <| lz_ldi <| lz_cav hC (hZ _ (by decide)) <| lz_ifc hJ <| lz_cst <| lz_go hJ
  | 3 => lz_cst <| lz_go hJ
  | 4 => lz_ret hQ
  | _ + 5 => fun _ _ _ _ _ q => q.elim
set_option maxRecDepth 100000 in
theorem zb_X6_would : ZB pb_X6_would := fun Z J J' C Q Q' hJ hC hZ hQ t => match t with
  | 0 => lz_lda <| lz_ldi <| lz_cav hC (hZ _ (by decide)) <| lz_ifc hJ <| lz_ldi <| lz_cas hC (hZ _ (by decide)) <| lz_ifc hJ <| lz_lda <| lz_ldi <| lz_cav hC (hZ _ (by decide)) <| lz_ifc hJ <| lz_go hJ
  | 1 => lz_cst <| lz_ret hQ
  | 2 => lz_lda <| lz_ldi <| lz_cav hC (hZ _ (by decide)) <| lz_ifc hJ <| lz_cst <| lz_ret hQ
  | 3 => lz_lda <| lz_lda <| lz_get <| lz_ldi <| lz_rld <| lz_ldi <| lz_ldi <| lz_cav hC (hZ _ (by decide)) <| lz_lda <| lz_get <| lz_ldi <| lz_cav hC (hZ _ (by decide)) <| lz_ifc hJ <| lz_cst <| lz_go hJ
  | 4 => lz_cst <| lz_go hJ
  | 5 => lz_ret hQ
  | _ + 6 => fun _ _ _ _ _ q => q.elim
set_option maxRecDepth 100000 in
theorem zb_X6_world : ZB pb_X6_world := fun Z J J' C Q Q' hJ hC hZ hQ t => match t with
  | 0 => lz_lda <| lz_ldi <| lz_cav hC (hZ _ (by decide)) <| lz_ifc hJ <| lz_ldi <| lz_cas hC (hZ _ (by decide)) <| lz_ifc hJ <| lz_lda <| lz_ldi <| lz_cav hC (hZ _ (by decide)) <| lz_ifc hJ <| lz_lda <| lz_ldi <| lz_cav hC (hZ _ (by decide)) <| lz_ifc hJ <| lz_go hJ
  | 1 => lz_cst <| lz_rtl hQ
  | 2 => lz_lda <| lz_get <| lz_ldi <| lz_rld <| lz_get <| lz_ldi <| lz_rld <| lz_sta <| lz_lda <| lz_ldi <| lz_cav hC (hZ _ (by decide)) <| lz_ifc hJ <| lz_cst <| lz_rtl hQ
  | 3 => lz_lda <| lz_ldi <| lz_ldi <| lz_cav hC (hZ _ (by decide)) <| lz_rtl hQ
  | _ + 4 => fun _ _ _ _ _ q => q.elim
set_option maxRecDepth 100000 in
theorem zb_X6_rows : ZB pb_X6_rows := fun Z J J' C Q Q' hJ hC hZ hQ t => match t with
  | 0 => lz_lda <| lz_ldi <| lz_cav hC (hZ _ (by decide)) <| lz_ifc hJ <| lz_ldi <| lz_cas hC (hZ _ (by decide)) <| lz_ifc hJ <| lz_go hJ
  | 1 => lz_cst <| lz_ret hQ
  | 2 => lz_lda <| lz_get <| lz_ldi <| lz_rld <| lz_get <| lz_ldi <| lz_rld <| lz_cav hC (hZ _ (by decide)) <| lz_ret hQ
  | _ + 3 => fun _ _ _ _ _ q => q.elim
set_option maxRecDepth 100000 in
theorem zb_X6_audit : ZB pb_X6_audit := fun Z J J' C Q Q' hJ hC hZ hQ t => match t with
  | 0 => lz_ldi <| lz_ifc hJ <| lz_ldi <| lz_lda <| lz_get <| lz_get <| lz_icm hJ <| lz_go hJ
  | 1 => lz_cst <| lz_ret hQ
  | 2 => lz_ldi <| lz_ifc hJ <| lz_ldi <| lz_cst <| lz_icm hJ <| lz_go hJ
  | 3 => lz_cst <| lz_ret hQ
  | 4 => lz_lda <| lz_get <| lz_get <| lz_ldi <| lz_cst <| lz_ii <| lz_ldi <| lz_ii <| lz_ald <| lz_ret hQ
  | _ + 5 => fun _ _ _ _ _ q => q.elim
set_option maxRecDepth 100000 in
theorem zb_X6_told : ZB pb_X6_told := fun Z J J' C Q Q' hJ hC hZ hQ t => match t with
  | 0 => lz_ldi <| lz_tsw hJ
  | 1 => lz_lda <| lz_get <| lz_ret hQ
  | 2 => lz_lda <| lz_get <| lz_ret hQ
  | 3 => lz_lda <| lz_get <| lz_ret hQ
  | 4 => lz_lda <| lz_get <| lz_get <| lz_ret hQ
  | 5 => lz_lda <| lz_get <| lz_ifc hJ <| lz_cst <| lz_go hJ
  | 6 => lz_cst <| lz_go hJ
  | 7 => lz_ret hQ
  | 8 => lz_cst <| lz_ret hQ
  | _ + 9 => fun _ _ _ _ _ q => q.elim
set_option maxRecDepth 100000 in
theorem zb_X6_clear : ZB pb_X6_clear := fun Z J J' C Q Q' hJ hC hZ hQ t => match t with
  | 0 => lz_lda <| lz_cst <| lz_put <| lz_lda <| lz_cst <| lz_put <| lz_lda <| lz_cst <| lz_put <| lz_lda <| lz_cst <| lz_put <| lz_lda <| lz_cst <| lz_put <| lz_lda <| lz_cst <| lz_put <| lz_lda <| lz_get <| lz_cst <| lz_put <| lz_rtv hQ
  | _ + 1 => fun _ _ _ _ _ q => q.elim
set_option maxRecDepth 100000 in
theorem zb_X6_isObject : ZB pb_X6_isObject := fun Z J J' C Q Q' hJ hC hZ hQ t => match t with
  | 0 => lz_ldi <| lz_ifc hJ <| lz_ldi <| lz_lda <| lz_get <| lz_icm hJ <| lz_cst <| lz_go hJ
  | 1 => lz_cst <| lz_go hJ
  | 2 => lz_rtz hQ
  | _ + 3 => fun _ _ _ _ _ q => q.elim
set_option maxRecDepth 100000 in
theorem zb_X6_isUser : ZB pb_X6_isUser := fun Z J J' C Q Q' hJ hC hZ hQ t => match t with
  | 0 => lz_ldi <| lz_ifc hJ <| lz_ldi <| lz_lda <| lz_get <| lz_icm hJ <| lz_cst <| lz_go hJ
  | 1 => lz_cst <| lz_go hJ
  | 2 => lz_rtz hQ
  | _ + 3 => fun _ _ _ _ _ q => q.elim
set_option maxRecDepth 100000 in
theorem zb_X6_isField : ZB pb_X6_isField := fun Z J J' C Q Q' hJ hC hZ hQ t => match t with
  | 0 => lz_ldi <| lz_ifc hJ <| lz_ldi <| lz_cst <| lz_icm hJ <| lz_cst <| lz_go hJ
  | 1 => lz_cst <| lz_go hJ
  | 2 => lz_rtz hQ
  | _ + 3 => fun _ _ _ _ _ q => q.elim
set_option maxRecDepth 100000 in
theorem zb_X6_isSet : ZB pb_X6_isSet := fun Z J J' C Q Q' hJ hC hZ hQ t => match t with
  | 0 => lz_ldi <| lz_ifc hJ <| lz_ldi <| lz_lda <| lz_get <| lz_ii <| lz_ifc hJ <| lz_cst <| lz_go hJ
  | 1 => lz_cst <| lz_go hJ
  | 2 => lz_rtz hQ
  | _ + 3 => fun _ _ _ _ _ q => q.elim
set_option maxRecDepth 100000 in
theorem zb_X6_takeTape : ZB pb_X6_takeTape := fun Z J J' C Q Q' hJ hC hZ hQ t => match t with
  | 0 => lz_lda <| lz_get <| lz_lda <| lz_get <| lz_lda <| lz_get <| lz_cav hC (hZ _ (by decide)) <| lz_lda <| lz_cst <| lz_put <| lz_lda <| lz_lda <| lz_get <| lz_get <| lz_ifc hJ <| lz_cst <| lz_go hJ
  | 1 => lz_lda <| lz_get <| lz_get <| lz_go hJ
  | 2 => lz_put <| lz_lda <| lz_get <| lz_get <| lz_ret hQ
  | _ + 3 => fun _ _ _ _ _ q => q.elim
set_option maxRecDepth 100000 in
theorem zb_X6_takeQuery : ZB pb_X6_takeQuery := fun Z J J' C Q Q' hJ hC hZ hQ t => match t with
  | 0 => lz_lda <| lz_cav hC (hZ _ (by decide)) <| lz_sti <| lz_ldi <| lz_ifc hJ <| lz_lda <| lz_get <| lz_ldi <| lz_ldi <| lz_cst <| lz_cst <| lz_cst <| lz_cav hC (hZ _ (by decide)) <| lz_cst <| lz_ldi <| lz_ii <| lz_ret hQ
  | 1 => lz_lda <| lz_get <| lz_ldi <| lz_rld <| lz_lda <| lz_get <| lz_get <| lz_get <| lz_cav hC (hZ _ (by decide)) <| lz_ifc hJ <| lz_lda <| lz_get <| lz_ldi <| lz_ldi <| lz_cst <| lz_cst <| lz_cst <| lz_cav hC (hZ _ (by decide)) <| lz_cst <| lz_ret hQ
  | 2 => lz_lda <| lz_get <| lz_ldi <| lz_ldi <| lz_cst <| lz_cst <| lz_cst <| lz_cav hC (hZ _ (by decide)) <| lz_cst <| lz_ret hQ
  | _ + 3 => fun _ _ _ _ _ q => q.elim
set_option maxRecDepth 100000 in
theorem zb_X6_isSeen : ZB pb_X6_isSeen := fun Z J J' C Q Q' hJ hC hZ hQ t => match t with
  | 0 => lz_lda <| lz_get <| lz_lda <| lz_get <| lz_lda <| lz_get <| lz_ldi <| lz_cst <| lz_ii <| lz_cav hC (hZ _ (by decide)) <| lz_cst <| lz_icm hJ <| lz_cst <| lz_go hJ
  | 1 => lz_cst <| lz_go hJ
  | 2 => lz_rtz hQ
  | _ + 3 => fun _ _ _ _ _ q => q.elim
set_option maxRecDepth 100000 in
theorem zb_X6_isMatch : ZB pb_X6_isMatch := fun Z J J' C Q Q' hJ hC hZ hQ t => match t with
  | 0 => lz_lda <| lz_lda <| lz_ldi <| lz_cav hC (hZ _ (by decide)) <| lz_ifc hJ <| lz_lda <| lz_get <| lz_lda <| lz_lda <| lz_get <| lz_ldi <| lz_cst <| lz_ii <| lz_cav hC (hZ _ (by decide)) <| lz_cst <| lz_icm hJ <| lz_cst <| lz_go hJ
  | 1 => lz_cst <| lz_go hJ
  | 2 => lz_rtz hQ
  | _ + 3 => fun _ _ _ _ _ q => q.elim
set_option maxRecDepth 100000 in
theorem zb_X6_countByRule : ZB pb_X6_countByRule := fun Z J J' C Q Q' hJ hC hZ hQ t => match t with
  | 0 => lz_cst <| lz_sti <| lz_cst <| lz_sti <| lz_go hJ
  | 1 => lz_ldi <| lz_lda <| lz_get <| lz_icm hJ <| lz_lda <| lz_get <| lz_lda <| lz_get <| lz_lda <| lz_get <| lz_ldi <| lz_cst <| lz_ii <| lz_cav hC (hZ _ (by decide)) <| lz_ldi <| lz_icm hJ <| lz_inc <| lz_go hJ
  | 2 => lz_inc <| lz_go hJ
  | 3 => lz_ldi <| lz_ret hQ
  | _ + 4 => fun _ _ _ _ _ q => q.elim
set_option maxRecDepth 100000 in
theorem zb_X6_countBetween : ZB pb_X6_countBetween := fun Z J J' C Q Q' hJ hC hZ hQ t => match t with
  | 0 => lz_cst <| lz_sti <| lz_cst <| lz_sti <| lz_go hJ
  | 1 => lz_ldi <| lz_lda <| lz_get <| lz_icm hJ <| lz_lda <| lz_get <| lz_ldi <| lz_cst <| lz_ii <| lz_ldi <| lz_ii <| lz_ald <| lz_sti <| lz_ldi <| lz_ldi <| lz_icm hJ <| lz_ldi <| lz_ldi <| lz_icm hJ <| lz_lda <| lz_lda <| lz_ldi <| lz_cav hC (hZ _ (by decide)) <| lz_ifc hJ <| lz_inc <| lz_go hJ
  | 2 => lz_inc <| lz_go hJ
  | 3 => lz_ldi <| lz_ret hQ
  | _ + 4 => fun _ _ _ _ _ q => q.elim
set_option maxRecDepth 100000 in
theorem zb_X6_moveCursor : ZB pb_X6_moveCursor := fun Z J J' C Q Q' hJ hC hZ hQ t => match t with
  | 0 => lz_lda <| lz_get <| lz_cst <| lz_ii <| lz_sti <| lz_go hJ
  | 1 => lz_ldi <| lz_lda <| lz_get <| lz_icm hJ <| lz_lda <| lz_lda <| lz_lda <| lz_get <| lz_ldi <| lz_cav hC (hZ _ (by decide)) <| lz_ifc hJ <| lz_lda <| lz_ldi <| lz_put <| lz_ldi <| lz_ret hQ
  | 2 => lz_inc <| lz_go hJ
  | 3 => lz_lda <| lz_lda <| lz_get <| lz_cst <| lz_ii <| lz_put <| lz_cst <| lz_ret hQ
  | _ + 4 => fun _ _ _ _ _ q => q.elim
set_option maxRecDepth 100000 in
theorem zb_X6_hiddenFrom : ZB pb_X6_hiddenFrom := fun Z J J' C Q Q' hJ hC hZ hQ t => match t with
  | 0 => lz_lda <| lz_cst <| lz_ldi <| lz_ii <| lz_cav hC (hZ _ (by decide)) <| lz_sti <| lz_cst <| lz_sti <| lz_cst <| lz_sti <| lz_go hJ
  | 1 => lz_ldi <| lz_lda <| lz_get <| lz_icm hJ <| lz_ldi <| lz_ifc hJ <| lz_lda <| lz_lda <| lz_ldi <| lz_cav hC (hZ _ (by decide)) <| lz_ifc hJ <| lz_go hJ
  | 2 => lz_ldi <| lz_cst <| lz_ldi <| lz_ii <| lz_ii <| lz_sti <| lz_go hJ
  | 3 => lz_inc <| lz_go hJ
  | 4 => lz_ldi <| lz_ret hQ
  | _ + 5 => fun _ _ _ _ _ q => q.elim
set_option maxRecDepth 100000 in
theorem zb_X6_total : ZB pb_X6_total := fun Z J J' C Q Q' hJ hC hZ hQ t => match t with
  | 0 => lz_cst <| lz_sti <| lz_cst <| lz_sti <| lz_go hJ
  | 1 => lz_ldi <| lz_lda <| lz_get <| lz_icm hJ <| lz_ldi <| lz_ldi <| lz_ii <| lz_cst <| lz_ii <| lz_ifc hJ <| lz_ldi <| lz_lda <| lz_get <| lz_ldi <| lz_cst <| lz_ii <| lz_ldi <| lz_ii <| lz_ald <| lz_ii <| lz_sti <| lz_go hJ
  | 2 => lz_inc <| lz_go hJ
  | 3 => lz_ldi <| lz_ret hQ
  | _ + 4 => fun _ _ _ _ _ q => q.elim
set_option maxRecDepth 100000 in
theorem zb_X6_tryOut : ZB pb_X6_tryOut := fun Z J J' C Q Q' hJ hC hZ hQ t => match t with
  | 0 => lz_lda <| lz_get <| lz_lda <| lz_get <| lz_ldi <| lz_rld <| lz_cav hC (hZ _ (by decide)) <| lz_lda <| lz_get <| lz_ldi <| lz_cav hC (hZ _ (by decide)) <| lz_rtv hQ
  | _ + 1 => fun _ _ _ _ _ q => q.elim
set_option maxRecDepth 100000 in
theorem zb_X6_tell : ZB pb_X6_tell := fun Z J J' C Q Q' hJ hC hZ hQ t => match t with
  | 0 => lz_lda <| lz_lda <| lz_ldi <| lz_ldi <| lz_cav hC (hZ _ (by decide)) <| lz_lda <| lz_get <| lz_ldi <| lz_rld <| lz_sta <| lz_lda <| lz_get <| lz_cav hC (hZ _ (by decide)) <| lz_lda <| lz_cav hC (hZ _ (by decide)) <| lz_cst <| lz_ii <| lz_ii <| lz_sti <| lz_ldi <| lz_lda <| lz_lda <| lz_ldi <| lz_cav hC (hZ _ (by decide)) <| lz_ii <| lz_ifc hJ <| lz_cst <| lz_rtz hQ
  | 1 => lz_lda <| lz_lda <| lz_get <| lz_cav hC (hZ _ (by decide)) <| lz_lda <| lz_cst <| lz_put <| lz_cst <| lz_rtz hQ
  | _ + 2 => fun _ _ _ _ _ q => q.elim
set_option maxRecDepth 100000 in
theorem zb_X7_thrown : ZB pb_X7_thrown := fun Z J J' C Q Q' hJ hC hZ hQ t => match t with
  | 0 => lz_lda <| lz_get <| lz_ret hQ
  | _ + 1 => fun _ _ _ _ _ q => q.elim
set_option maxRecDepth 100000 in
theorem zb_X7_isObject : ZB pb_X7_isObject := fun Z J J' C Q Q' hJ hC hZ hQ t => match t with
  | 0 => lz_ldi <| lz_ifc hJ <| lz_ldi <| lz_lda <| lz_get <| lz_icm hJ <| lz_cst <| lz_go hJ
  | 1 => lz_cst <| lz_go hJ
  | 2 => lz_rtz hQ
  | _ + 3 => fun _ _ _ _ _ q => q.elim
set_option maxRecDepth 100000 in
theorem zb_X7_isUser : ZB pb_X7_isUser := fun Z J J' C Q Q' hJ hC hZ hQ t => match t with
  | 0 => lz_ldi <| lz_ifc hJ <| lz_ldi <| lz_lda <| lz_get <| lz_icm hJ <| lz_cst <| lz_go hJ
  | 1 => lz_cst <| lz_go hJ
  | 2 => lz_rtz hQ
  | _ + 3 => fun _ _ _ _ _ q => q.elim
set_option maxRecDepth 100000 in
theorem zb_X7_isField : ZB pb_X7_isField := fun Z J J' C Q Q' hJ hC hZ hQ t => match t with
  | 0 => lz_ldi <| lz_ifc hJ <| lz_ldi <| lz_cst <| lz_icm hJ <| lz_cst <| lz_go hJ
  | 1 => lz_cst <| lz_go hJ
  | 2 => lz_rtz hQ
  | _ + 3 => fun _ _ _ _ _ q => q.elim
set_option maxRecDepth 100000 in
theorem zb_X7_isSet : ZB pb_X7_isSet := fun Z J J' C Q Q' hJ hC hZ hQ t => match t with
  | 0 => lz_ldi <| lz_ifc hJ <| lz_ldi <| lz_cst <| lz_lda <| lz_get <| lz_ii <| lz_icm hJ <| lz_cst <| lz_go hJ
  | 1 => lz_cst <| lz_go hJ
  | 2 => lz_rtz hQ
  | _ + 3 => fun _ _ _ _ _ q => q.elim
set_option maxRecDepth 100000 in
theorem zb_X7_object : ZB pb_X7_object := fun Z J J' C Q Q' hJ hC hZ hQ t => match t with
  | 0 => lz_lda <| lz_cst <| lz_put <| lz_lda <| lz_get <| lz_ifc hJ <| lz_cst <| lz_ret hQ
  | 1 => lz_lda <| lz_get <| lz_cst <| lz_icm hJ <| lz_cst <| lz_ret hQ
  | 2 => lz_cst <| lz_sti <| lz_go hJ
  | 3 => lz_ldi <| lz_cst <| lz_icm hJ <| lz_lda <| lz_get <| lz_cst <| lz_lda <| lz_get <| lz_ii <| lz_ldi <| lz_ii <| lz_cst <| lz_ast <| lz_inc <| lz_go hJ
  | 4 => lz_lda <| lz_dup <| lz_get <| lz_cst <| lz_ii <| lz_put <| lz_lda <| lz_get <| lz_cst <| lz_ii <| lz_ret hQ
  | _ + 5 => fun _ _ _ _ _ q => q.elim
set_option maxRecDepth 100000 in
theorem zb_X7_set : ZB pb_X7_set := fun Z J J' C Q Q' hJ hC hZ hQ t => match t with
  | 0 => lz_lda <| lz_cst <| lz_put <| lz_lda <| lz_ldi <| lz_cav hC (hZ _ (by decide)) <| lz_ifc hJ <| lz_ldi <| lz_cas hC (hZ _ (by decide)) <| lz_ifc hJ <| lz_go hJ
  | 1 => lz_cst <| lz_ret hQ
  | 2 => lz_ldi <| lz_cst <| lz_icm hJ <| lz_ldi <| lz_cst <| lz_icm hJ <| lz_go hJ
  | 3 => lz_cst <| lz_ret hQ
  | 4 => lz_lda <| lz_get <| lz_ifc hJ <| lz_cst <| lz_ret hQ
  | 5 => lz_lda <| lz_get <| lz_cst <| lz_ldi <| lz_ii <| lz_ldi <| lz_ii <| lz_ldi <| lz_ast <| lz_cst <| lz_ret hQ
  | _ + 6 => fun _ _ _ _ _ q => q.elim
set_option maxRecDepth 100000 in
theorem zb_X7_user : ZB pb_X7_user := fun Z J J' C Q Q' hJ hC hZ hQ t => match t with
  | 0 => lz_lda <| lz_cst <| lz_put <| lz_lda <| lz_get <| lz_cst <| lz_icm hJ <| lz_cst <| lz_ret hQ
  | 1 => lz_lda <| lz_get <| lz_cst <| lz_lda <| lz_get <| lz_ii <| lz_cst <| lz_ast <| lz_lda <| lz_get <| lz_cst <| lz_lda <| lz_get <| lz_ii <| lz_cst <| lz_ast <| lz_lda <| lz_get <| lz_lda <| lz_get <| lz_cst <| lz_ast <| lz_lda <| lz_get <| lz_lda <| lz_get <| lz_cst <| lz_ast <| lz_lda <| lz_get <| lz_lda <| lz_get <| lz_cst <| lz_ast <| lz_lda <| lz_dup <| lz_get <| lz_cst <| lz_ii <| lz_put <| lz_lda <| lz_get <| lz_cst <| lz_ii <| lz_ret hQ
  | _ + 2 => fun _ _ _ _ _ q => q.elim
set_option maxRecDepth 100000 in
theorem zb_X7_type : ZB pb_X7_type := fun Z J J' C Q Q' hJ hC hZ hQ t => match t with
  | 0 => lz_lda <| lz_cst <| lz_put <| lz_ldi <| lz_ifc hJ <| lz_ldi <| lz_cst <| lz_icm hJ <| lz_go hJ
  | 1 => lz_cst <| lz_ret hQ
  | 2 => lz_ldi <| lz_ifc hJ <| lz_lda <| lz_cst <| lz_put <| lz_cst <| lz_ret hQ
  | 3 => lz_lda <| lz_get <| lz_ldi <| lz_ii <| lz_cst <| lz_icm hJ <| lz_cst <| lz_ret hQ
  | 4 => lz_ldi <| lz_cst <| lz_ii <| lz_sti <| lz_go hJ
  | 5 => lz_ldi <| lz_ifc hJ <| lz_lda <| lz_get <| lz_lda <| lz_get <| lz_ldl <| lz_cst <| lz_ldi <| lz_ii <| lz_ls <| lz_l2i <| lz_i1 <| lz_ast <| lz_lda <| lz_dup <| lz_get <| lz_cst <| lz_ii <| lz_put <| lz_inc <| lz_go hJ
  | 6 => lz_lda <| lz_get <| lz_ret hQ
  | _ + 7 => fun _ _ _ _ _ q => q.elim
set_option maxRecDepth 100000 in
theorem zb_X7_isLetter : ZB pb_X7_isLetter := fun Z J J' C Q Q' hJ hC hZ hQ t => match t with
  | 0 => lz_ldi <| lz_cst <| lz_icm hJ <| lz_ldi <| lz_cst <| lz_icm hJ <| lz_cst <| lz_go hJ
  | 1 => lz_cst <| lz_go hJ
  | 2 => lz_rtz hQ
  | _ + 3 => fun _ _ _ _ _ q => q.elim
set_option maxRecDepth 100000 in
theorem zb_X7_isFigure : ZB pb_X7_isFigure := fun Z J J' C Q Q' hJ hC hZ hQ t => match t with
  | 0 => lz_ldi <| lz_cst <| lz_icm hJ <| lz_ldi <| lz_cst <| lz_icm hJ <| lz_cst <| lz_go hJ
  | 1 => lz_cst <| lz_go hJ
  | 2 => lz_rtz hQ
  | _ + 3 => fun _ _ _ _ _ q => q.elim
set_option maxRecDepth 100000 in
theorem zb_X7_wordFrom : ZB pb_X7_wordFrom := fun Z J J' C Q Q' hJ hC hZ hQ t => match t with
  | 0 => lz_cst <| lz_stl <| lz_cst <| lz_sti <| lz_go hJ
  | 1 => lz_ldi <| lz_ldi <| lz_icm hJ <| lz_ldi <| lz_cst <| lz_icm hJ <| lz_ldl <| lz_cst <| lz_ls <| lz_lda <| lz_get <| lz_ldi <| lz_ldi <| lz_ii <| lz_ald <| lz_i2l <| lz_ll <| lz_stl <| lz_inc <| lz_go hJ
  | 2 => lz_ldi <| lz_cst <| lz_icm hJ <| lz_ldl <| lz_cst <| lz_cmp <| lz_ifc hJ <| lz_ldl <| lz_cst <| lz_cmp <| lz_ifc hJ <| lz_cst <| lz_ldl <| lz_cst <| lz_ll <| lz_l2i <| lz_ii <| lz_go hJ
  | 3 => lz_cst <| lz_go hJ
  | 4 => lz_ret hQ
  | 5 => lz_ldl <| lz_cst <| lz_cmp <| lz_ifc hJ <| lz_cst <| lz_go hJ
  | 6 => lz_ldl <| lz_cst <| lz_cmp <| lz_ifc hJ <| lz_cst <| lz_go hJ
  | 7 => lz_ldl <| lz_cst <| lz_cmp <| lz_ifc hJ <| lz_cst <| lz_go hJ
  | 8 => lz_ldl <| lz_cst <| lz_cmp <| lz_ifc hJ <| lz_cst <| lz_go hJ
  | 9 => lz_ldl <| lz_cst <| lz_cmp <| lz_ifc hJ <| lz_cst <| lz_go hJ
  | 10 => lz_cst <| lz_go hJ
  | 11 => lz_ret hQ
  | _ + 12 => fun _ _ _ _ _ q => q.elim
set_option maxRecDepth 100000 in
theorem zb_X7_next : ZB pb_X7_next := fun Z J J' C Q Q' hJ hC hZ hQ t => match t with
  | 0 => lz_lda <| lz_get <| lz_lda <| lz_get <| lz_icm hJ <| lz_lda <| lz_get <| lz_lda <| lz_get <| lz_ald <| lz_cst <| lz_icm hJ <| lz_lda <| lz_dup <| lz_get <| lz_cst <| lz_ii <| lz_put <| lz_go hJ
  | 1 => lz_lda <| lz_lda <| lz_get <| lz_put <| lz_lda <| lz_get <| lz_lda <| lz_get <| lz_icm hJ <| lz_lda <| lz_cst <| lz_put <| lz_rtv hQ
  | 2 => lz_lda <| lz_get <| lz_lda <| lz_get <| lz_ald <| lz_sti <| lz_lda <| lz_get <| lz_sti <| lz_lda <| lz_dup <| lz_get <| lz_cst <| lz_ii <| lz_put <| lz_ldi <| lz_cas hC (hZ _ (by decide)) <| lz_ifc hJ <| lz_go hJ
  | 3 => lz_lda <| lz_get <| lz_lda <| lz_get <| lz_icm hJ <| lz_lda <| lz_get <| lz_lda <| lz_get <| lz_ald <| lz_cas hC (hZ _ (by decide)) <| lz_ifc hJ <| lz_lda <| lz_dup <| lz_get <| lz_cst <| lz_ii <| lz_put <| lz_go hJ
  | 4 => lz_lda <| lz_lda <| lz_ldi <| lz_lda <| lz_get <| lz_ldi <| lz_ii <| lz_cav hC (hZ _ (by decide)) <| lz_put <| lz_go hJ
  | 5 => lz_ldi <| lz_cas hC (hZ _ (by decide)) <| lz_ifc hJ <| lz_ldi <| lz_cst <| lz_ii <| lz_sti <| lz_go hJ
  | 6 => lz_lda <| lz_get <| lz_lda <| lz_get <| lz_icm hJ <| lz_lda <| lz_get <| lz_lda <| lz_get <| lz_ald <| lz_cas hC (hZ _ (by decide)) <| lz_ifc hJ <| lz_lda <| lz_get <| lz_ldi <| lz_ii <| lz_cst <| lz_icm hJ <| lz_cst <| lz_ldi <| lz_ii <| lz_lda <| lz_get <| lz_lda <| lz_get <| lz_ald <| lz_ii <| lz_cst <| lz_ii <| lz_go hJ
  | 7 => lz_ldi <| lz_go hJ
  | 8 => lz_sti <| lz_lda <| lz_dup <| lz_get <| lz_cst <| lz_ii <| lz_put <| lz_go hJ
  | 9 => lz_lda <| lz_lda <| lz_get <| lz_ldi <| lz_ii <| lz_cst <| lz_icm hJ <| lz_cst <| lz_go hJ
  | 10 => lz_ldi <| lz_go hJ
  | 11 => lz_put <| lz_go hJ
  | 12 => lz_ldi <| lz_cst <| lz_icm hJ <| lz_ldi <| lz_cst <| lz_icm hJ <| lz_ldi <| lz_cst <| lz_icm hJ <| lz_ldi <| lz_cst <| lz_icm hJ <| lz_ldi <| lz_cst <| lz_icm hJ <| lz_ldi <| lz_cst <| lz_icm hJ <| lz_ldi <| lz_cst <| lz_icm hJ <| lz_ldi <| lz_cst <| lz_icm hJ <| lz_ldi <| lz_cst <| lz_icm hJ <| lz_go hJ
  | 13 => lz_cst <| lz_go hJ
  | 14 => lz_cst <| lz_go hJ
  | 15 => lz_sti <| lz_lda <| lz_ldi <| lz_ifc hJ <| lz_cst <| lz_ldi <| lz_ii <| lz_go hJ
  | 16 => lz_cst <| lz_go hJ
  | 17 => lz_put <| lz_go hJ
  | 18 => lz_rtv hQ
  | _ + 19 => fun _ _ _ _ _ q => q.elim
set_option maxRecDepth 100000 in
theorem zb_X7_fail : ZB pb_X7_fail := fun Z J J' C Q Q' hJ hC hZ hQ t => match t with
  | 0 => lz_lda <| lz_get <| lz_ifc hJ <| lz_lda <| lz_ldi <| lz_put <| lz_lda <| lz_lda <| lz_get <| lz_put <| lz_go hJ
  | 1 => lz_rtv hQ
  | _ + 2 => fun _ _ _ _ _ q => q.elim
set_option maxRecDepth 100000 in
theorem zb_X7_odd : ZB pb_X7_odd := fun Z J J' C Q Q' hJ hC hZ hQ t => match t with
  | 0 => lz_lda <| lz_lda <| lz_get <| lz_cst <| lz_icm hJ <| lz_cst <| lz_go hJ
  | 1 => lz_cst <| lz_go hJ
  | 2 => lz_cav hC (hZ _ (by decide)) <| lz_rtv hQ
  | _ + 3 => fun _ _ _ _ _ q => q.elim
set_option maxRecDepth 100000 in
theorem zb_X7_take : ZB pb_X7_take := fun Z J J' C Q Q' hJ hC hZ hQ t => match t with
  | 0 => lz_lda <| lz_dup <| lz_get <| lz_cst <| lz_ii <| lz_put <| lz_lda <| lz_get <| lz_cst <| lz_icm hJ <| lz_lda <| lz_cst <| lz_cav hC (hZ _ (by decide)) <| lz_go hJ
  | 1 => lz_lda <| lz_get <| lz_ifc hJ <| lz_lda <| lz_cav hC (hZ _ (by decide)) <| lz_go hJ
  | 2 => lz_rtv hQ
  | _ + 3 => fun _ _ _ _ _ q => q.elim
set_option maxRecDepth 100000 in
theorem zb_X7_isSign : ZB pb_X7_isSign := fun Z J J' C Q Q' hJ hC hZ hQ t => match t with
  | 0 => lz_lda <| lz_get <| lz_ifc hJ <| lz_lda <| lz_get <| lz_cst <| lz_ldi <| lz_ii <| lz_icm hJ <| lz_cst <| lz_go hJ
  | 1 => lz_cst <| lz_go hJ
  | 2 => lz_rtz hQ
  | _ + 3 => fun _ _ _ _ _ q => q.elim
set_option maxRecDepth 100000 in
theorem zb_X7_put : ZB pb_X7_put := fun Z J J' C Q Q' hJ hC hZ hQ t => match t with
  | 0 => lz_lda <| lz_get <| lz_ifc hJ <| lz_lda <| lz_get <| lz_cst <| lz_lda <| lz_get <| lz_ii <| lz_ldi <| lz_ast <| lz_lda <| lz_dup <| lz_get <| lz_cst <| lz_ii <| lz_put <| lz_go hJ
  | 1 => lz_rtv hQ
  | _ + 2 => fun _ _ _ _ _ q => q.elim
set_option maxRecDepth 100000 in
theorem zb_X7_opens : ZB pb_X7_opens := fun Z J J' C Q Q' hJ hC hZ hQ t => match t with
  | 0 => lz_lda <| lz_get <| lz_cst <| lz_icm hJ <| lz_lda <| lz_cst <| lz_cav hC (hZ _ (by decide)) <| lz_go hJ
  | 1 => lz_lda <| lz_dup <| lz_get <| lz_cst <| lz_ii <| lz_put <| lz_rtv hQ
  | _ + 2 => fun _ _ _ _ _ q => q.elim
set_option maxRecDepth 100000 in
theorem zb_X7_any : ZB pb_X7_any := fun Z J J' C Q Q' hJ hC hZ hQ t => match t with
  | 0 => lz_lda <| lz_cav hC (hZ _ (by decide)) <| lz_go hJ
  | 1 => lz_lda <| lz_get <| lz_ifc hJ <| lz_lda <| lz_get <| lz_cst <| lz_icm hJ <| lz_lda <| lz_cav hC (hZ _ (by decide)) <| lz_lda <| lz_cav hC (hZ _ (by decide)) <| lz_lda <| lz_cst <| lz_cav hC (hZ _ (by decide)) <| lz_go hJ
  | 2 => lz_rtv hQ
  | _ + 3 => fun _ _ _ _ _ q => q.elim
set_option maxRecDepth 100000 in
theorem zb_X7_all : ZB pb_X7_all := fun Z J J' C Q Q' hJ hC hZ hQ t => match t with
  | 0 => lz_lda <| lz_cav hC (hZ _ (by decide)) <| lz_go hJ
  | 1 => lz_lda <| lz_get <| lz_ifc hJ <| lz_lda <| lz_get <| lz_cst <| lz_icm hJ <| lz_lda <| lz_cav hC (hZ _ (by decide)) <| lz_lda <| lz_cav hC (hZ _ (by decide)) <| lz_lda <| lz_cst <| lz_cav hC (hZ _ (by decide)) <| lz_go hJ
  | 2 => lz_rtv hQ
  | _ + 3 => fun _ _ _ _ _ q => q.elim
set_option maxRecDepth 100000 in
theorem zb_X7_one : ZB pb_X7_one := fun Z J J' C Q Q' hJ hC hZ hQ t => match t with
  | 0 => lz_lda <| lz_get <| lz_ifc hJ <| lz_rtv hQ
  | 1 => lz_lda <| lz_get <| lz_cst <| lz_icm hJ <| lz_lda <| lz_cav hC (hZ _ (by decide)) <| lz_lda <| lz_cav hC (hZ _ (by decide)) <| lz_lda <| lz_cav hC (hZ _ (by decide)) <| lz_lda <| lz_cst <| lz_cav hC (hZ _ (by decide)) <| lz_lda <| lz_dup <| lz_get <| lz_cst <| lz_ii <| lz_put <| lz_go hJ
  | 2 => lz_lda <| lz_get <| lz_cst <| lz_icm hJ <| lz_lda <| lz_get <| lz_cst <| lz_icm hJ <| lz_go hJ
  | 3 => lz_lda <| lz_get <| lz_sti <| lz_lda <| lz_cav hC (hZ _ (by decide)) <| lz_lda <| lz_ldi <| lz_cav hC (hZ _ (by decide)) <| lz_go hJ
  | 4 => lz_lda <| lz_cst <| lz_cav hC (hZ _ (by decide)) <| lz_ifc hJ <| lz_lda <| lz_cav hC (hZ _ (by decide)) <| lz_lda <| lz_cav hC (hZ _ (by decide)) <| lz_lda <| lz_cav hC (hZ _ (by decide)) <| lz_lda <| lz_cst <| lz_cav hC (hZ _ (by decide)) <| lz_ifc hJ <| lz_lda <| lz_cav hC (hZ _ (by decide)) <| lz_go hJ
  | 5 => lz_lda <| lz_get <| lz_ifc hJ <| lz_lda <| lz_cav hC (hZ _ (by decide)) <| lz_go hJ
  | 6 => lz_lda <| lz_dup <| lz_get <| lz_cst <| lz_ii <| lz_put <| lz_go hJ
  | 7 => lz_lda <| lz_cav hC (hZ _ (by decide)) <| lz_lda <| lz_get <| lz_sti <| lz_lda <| lz_cst <| lz_cav hC (hZ _ (by decide)) <| lz_ifc hJ <| lz_lda <| lz_cst <| lz_cav hC (hZ _ (by decide)) <| lz_ifc hJ <| lz_lda <| lz_cst <| lz_cav hC (hZ _ (by decide)) <| lz_ifc hJ <| lz_go hJ
  | 8 => lz_lda <| lz_cav hC (hZ _ (by decide)) <| lz_lda <| lz_cav hC (hZ _ (by decide)) <| lz_lda <| lz_ldi <| lz_cav hC (hZ _ (by decide)) <| lz_go hJ
  | 9 => lz_lda <| lz_get <| lz_ifc hJ <| lz_lda <| lz_cav hC (hZ _ (by decide)) <| lz_go hJ
  | 10 => lz_rtv hQ
  | _ + 11 => fun _ _ _ _ _ q => q.elim
set_option maxRecDepth 100000 in
theorem zb_X7_sum : ZB pb_X7_sum := fun Z J J' C Q Q' hJ hC hZ hQ t => match t with
  | 0 => lz_lda <| lz_cav hC (hZ _ (by decide)) <| lz_go hJ
  | 1 => lz_lda <| lz_cst <| lz_cav hC (hZ _ (by decide)) <| lz_ifc hJ <| lz_lda <| lz_cst <| lz_cav hC (hZ _ (by decide)) <| lz_ifc hJ <| lz_go hJ
  | 2 => lz_lda <| lz_get <| lz_sti <| lz_lda <| lz_cav hC (hZ _ (by decide)) <| lz_lda <| lz_cav hC (hZ _ (by decide)) <| lz_lda <| lz_ldi <| lz_cav hC (hZ _ (by decide)) <| lz_go hJ
  | 3 => lz_rtv hQ
  | _ + 4 => fun _ _ _ _ _ q => q.elim
set_option maxRecDepth 100000 in
theorem zb_X7_times : ZB pb_X7_times := fun Z J J' C Q Q' hJ hC hZ hQ t => match t with
  | 0 => lz_lda <| lz_cav hC (hZ _ (by decide)) <| lz_go hJ
  | 1 => lz_lda <| lz_cst <| lz_cav hC (hZ _ (by decide)) <| lz_ifc hJ <| lz_lda <| lz_cst <| lz_cav hC (hZ _ (by decide)) <| lz_ifc hJ <| lz_go hJ
  | 2 => lz_lda <| lz_get <| lz_sti <| lz_lda <| lz_cav hC (hZ _ (by decide)) <| lz_lda <| lz_cav hC (hZ _ (by decide)) <| lz_lda <| lz_ldi <| lz_cav hC (hZ _ (by decide)) <| lz_go hJ
  | 3 => lz_rtv hQ
  | _ + 4 => fun _ _ _ _ _ q => q.elim
set_option maxRecDepth 100000 in
theorem zb_X7_leaf : ZB pb_X7_leaf := fun Z J J' C Q Q' hJ hC hZ hQ t => match t with
  | 0 => lz_cst <| lz_sti <| lz_go hJ
  | 1 => lz_lda <| lz_cst <| lz_cav hC (hZ _ (by decide)) <| lz_ifc hJ <| lz_inc <| lz_lda <| lz_cav hC (hZ _ (by decide)) <| lz_go hJ
  | 2 => lz_lda <| lz_get <| lz_ifc hJ <| lz_rtv hQ
  | 3 => lz_lda <| lz_get <| lz_ifc hJ <| lz_lda <| lz_get <| lz_cst <| lz_icm hJ <| lz_lda <| lz_get <| lz_cst <| lz_icm hJ <| lz_go hJ
  | 4 => lz_lda <| lz_get <| lz_sti <| lz_lda <| lz_cav hC (hZ _ (by decide)) <| lz_lda <| lz_ldi <| lz_cav hC (hZ _ (by decide)) <| lz_cst <| lz_sti <| lz_go hJ
  | 5 => lz_ldi <| lz_ldi <| lz_icm hJ <| lz_lda <| lz_cst <| lz_cav hC (hZ _ (by decide)) <| lz_inc <| lz_go hJ
  | 6 => lz_go hJ
  | 7 => lz_lda <| lz_cav hC (hZ _ (by decide)) <| lz_go hJ
  | 8 => lz_rtv hQ
  | _ + 9 => fun _ _ _ _ _ q => q.elim
set_option maxRecDepth 100000 in
theorem zb_X7_reads : ZB pb_X7_reads := fun Z J J' C Q Q' hJ hC hZ hQ t => match t with
  | 0 => lz_lda <| lz_cst <| lz_put <| lz_lda <| lz_cst <| lz_put <| lz_lda <| lz_cst <| lz_put <| lz_lda <| lz_cst <| lz_put <| lz_lda <| lz_cst <| lz_put <| lz_lda <| lz_cav hC (hZ _ (by decide)) <| lz_lda <| lz_cav hC (hZ _ (by decide)) <| lz_lda <| lz_get <| lz_ifc hJ <| lz_lda <| lz_get <| lz_cst <| lz_icm hJ <| lz_lda <| lz_cav hC (hZ _ (by decide)) <| lz_go hJ
  | 1 => lz_lda <| lz_cst <| lz_put <| lz_lda <| lz_lda <| lz_get <| lz_ifc hJ <| lz_cst <| lz_go hJ
  | 2 => lz_lda <| lz_get <| lz_go hJ
  | 3 => lz_put <| lz_lda <| lz_get <| lz_cst <| lz_lda <| lz_get <| lz_ast <| lz_lda <| lz_get <| lz_ifc hJ <| lz_cst <| lz_go hJ
  | 4 => lz_cst <| lz_go hJ
  | 5 => lz_rtz hQ
  | _ + 6 => fun _ _ _ _ _ q => q.elim
set_option maxRecDepth 100000 in
theorem zb_X7_keep : ZB pb_X7_keep := fun Z J J' C Q Q' hJ hC hZ hQ t => match t with
  | 0 => lz_cst <| lz_sti <| lz_go hJ
  | 1 => lz_ldi <| lz_lda <| lz_get <| lz_cst <| lz_ald <| lz_icm hJ <| lz_lda <| lz_get <| lz_cst <| lz_ldi <| lz_ii <| lz_ldi <| lz_ii <| lz_lda <| lz_get <| lz_cst <| lz_ldi <| lz_ii <| lz_ald <| lz_ast <| lz_inc <| lz_go hJ
  | 2 => lz_lda <| lz_get <| lz_ldi <| lz_lda <| lz_get <| lz_cst <| lz_ald <| lz_ast <| lz_rtv hQ
  | _ + 3 => fun _ _ _ _ _ q => q.elim
set_option maxRecDepth 100000 in
theorem zb_X7_place : ZB pb_X7_place := fun Z J J' C Q Q' hJ hC hZ hQ t => match t with
  | 0 => lz_lda <| lz_cst <| lz_put <| lz_lda <| lz_get <| lz_ret hQ
  | _ + 1 => fun _ _ _ _ _ q => q.elim
set_option maxRecDepth 100000 in
theorem zb_X7_what : ZB pb_X7_what := fun Z J J' C Q Q' hJ hC hZ hQ t => match t with
  | 0 => lz_cst <| lz_sti <| lz_cst <| lz_sti <| lz_go hJ
  | 1 => lz_ldi <| lz_lda <| lz_get <| lz_ldi <| lz_ald <| lz_icm hJ <| lz_lda <| lz_get <| lz_cst <| lz_ldi <| lz_ii <| lz_ldi <| lz_ii <| lz_ald <| lz_sti <| lz_ldi <| lz_ifc hJ <| lz_ldi <| lz_cst <| lz_icm hJ <| lz_ldi <| lz_cst <| lz_icm hJ <| lz_go hJ
  | 2 => lz_lda <| lz_get <| lz_ldi <| lz_ldi <| lz_ifc hJ <| lz_ldi <| lz_i2l <| lz_go hJ
  | 3 => lz_lda <| lz_get <| lz_cst <| lz_ldi <| lz_ii <| lz_cst <| lz_ii <| lz_ldi <| lz_ii <| lz_ald <| lz_i2l <| lz_go hJ
  | 4 => lz_lst <| lz_lda <| lz_get <| lz_ldi <| lz_cst <| lz_ast <| lz_inc <| lz_go hJ
  | 5 => lz_ldi <| lz_cst <| lz_icm hJ <| lz_ldi <| lz_cst <| lz_icm hJ <| lz_go hJ
  | 6 => lz_lda <| lz_get <| lz_ldi <| lz_ldi <| lz_cst <| lz_icm hJ <| lz_cst <| lz_go hJ
  | 7 => lz_cst <| lz_go hJ
  | 8 => lz_lst <| lz_lda <| lz_get <| lz_ldi <| lz_cst <| lz_ast <| lz_inc <| lz_go hJ
  | 9 => lz_ldi <| lz_cst <| lz_icm hJ <| lz_lda <| lz_get <| lz_ldi <| lz_cst <| lz_ii <| lz_lda <| lz_get <| lz_ldi <| lz_cst <| lz_ii <| lz_lld <| lz_l1 <| lz_lst <| lz_go hJ
  | 10 => lz_ldi <| lz_cst <| lz_icm hJ <| lz_lda <| lz_get <| lz_ldi <| lz_cst <| lz_ii <| lz_cst <| lz_lda <| lz_get <| lz_ldi <| lz_cst <| lz_ii <| lz_lld <| lz_ll <| lz_lst <| lz_go hJ
  | 11 => lz_inc <| lz_lda <| lz_ldi <| lz_ldi <| lz_cst <| lz_ii <| lz_cav hC (hZ _ (by decide)) <| lz_go hJ
  | 12 => lz_inc <| lz_go hJ
  | 13 => lz_lda <| lz_get <| lz_cst <| lz_ald <| lz_ifc hJ <| lz_cst <| lz_go hJ
  | 14 => lz_lda <| lz_get <| lz_cst <| lz_lld <| lz_l2i <| lz_go hJ
  | 15 => lz_ret hQ
  | _ + 16 => fun _ _ _ _ _ q => q.elim
set_option maxRecDepth 100000 in
theorem zb_X7_join : ZB pb_X7_join := fun Z J J' C Q Q' hJ hC hZ hQ t => match t with
  | 0 => lz_lda <| lz_get <| lz_ldi <| lz_lld <| lz_stl <| lz_lda <| lz_get <| lz_ldi <| lz_cst <| lz_ii <| lz_lld <| lz_stl <| lz_lda <| lz_get <| lz_ldi <| lz_ald <| lz_ifc hJ <| lz_lda <| lz_get <| lz_ldi <| lz_cst <| lz_ii <| lz_ald <| lz_ifc hJ <| lz_go hJ
  | 1 => lz_cst <| lz_go hJ
  | 2 => lz_cst <| lz_go hJ
  | 3 => lz_sti <| lz_ldi <| lz_cst <| lz_icm hJ <| lz_ldi <| lz_cst <| lz_icm hJ <| lz_go hJ
  | 4 => lz_ldi <| lz_cst <| lz_icm hJ <| lz_cst <| lz_go hJ
  | 5 => lz_cst <| lz_go hJ
  | 6 => lz_stl <| lz_lda <| lz_get <| lz_ldi <| lz_ald <| lz_ifc hJ <| lz_ldl <| lz_ldl <| lz_cmp <| lz_ifc hJ <| lz_go hJ
  | 7 => lz_lda <| lz_get <| lz_ldi <| lz_cst <| lz_ii <| lz_ald <| lz_ifc hJ <| lz_ldl <| lz_ldl <| lz_cmp <| lz_ifc hJ <| lz_go hJ
  | 8 => lz_cst <| lz_go hJ
  | 9 => lz_cst <| lz_go hJ
  | 10 => lz_sti <| lz_lda <| lz_get <| lz_ldi <| lz_ldi <| lz_ifc hJ <| lz_ldl <| lz_go hJ
  | 11 => lz_cst <| lz_ldl <| lz_ll <| lz_go hJ
  | 12 => lz_lst <| lz_lda <| lz_get <| lz_ldi <| lz_ldi <| lz_ifc hJ <| lz_ldi <| lz_ifc hJ <| lz_cst <| lz_go hJ
  | 13 => lz_cst <| lz_go hJ
  | 14 => lz_ast <| lz_rtv hQ
  | 15 => lz_cst <| lz_ldi <| lz_ii <| lz_sti <| lz_lda <| lz_get <| lz_ldi <| lz_ldi <| lz_ifc hJ <| lz_ldi <| lz_cst <| lz_icm hJ <| lz_ldl <| lz_cst <| lz_cmp <| lz_ifc hJ <| lz_go hJ
  | 16 => lz_cst <| lz_go hJ
  | 17 => lz_cst <| lz_go hJ
  | 18 => lz_ast <| lz_lda <| lz_get <| lz_ldi <| lz_ald <| lz_ifc hJ <| lz_lda <| lz_get <| lz_ldi <| lz_cst <| lz_lst <| lz_go hJ
  | 19 => lz_lda <| lz_get <| lz_ldi <| lz_ldi <| lz_cst <| lz_icm hJ <| lz_ldl <| lz_ldl <| lz_ll <| lz_go hJ
  | 20 => lz_ldi <| lz_cst <| lz_icm hJ <| lz_ldl <| lz_ldl <| lz_ll <| lz_go hJ
  | 21 => lz_ldi <| lz_cst <| lz_icm hJ <| lz_ldl <| lz_ldl <| lz_ll <| lz_go hJ
  | 22 => lz_ldi <| lz_cst <| lz_icm hJ <| lz_ldl <| lz_ldl <| lz_ld <| lz_go hJ
  | 23 => lz_ldi <| lz_cst <| lz_icm hJ <| lz_ldl <| lz_ldl <| lz_cmp <| lz_ifc hJ <| lz_cst <| lz_go hJ
  | 24 => lz_cst <| lz_go hJ
  | 25 => lz_ldi <| lz_cst <| lz_icm hJ <| lz_ldl <| lz_ldl <| lz_cmp <| lz_ifc hJ <| lz_cst <| lz_go hJ
  | 26 => lz_cst <| lz_go hJ
  | 27 => lz_ldl <| lz_ldl <| lz_cmp <| lz_ifc hJ <| lz_cst <| lz_go hJ
  | 28 => lz_cst <| lz_go hJ
  | 29 => lz_lst <| lz_go hJ
  | 30 => lz_rtv hQ
  | _ + 31 => fun _ _ _ _ _ q => q.elim
set_option maxRecDepth 100000 in
theorem zb_X7_isSeen : ZB pb_X7_isSeen := fun Z J J' C Q Q' hJ hC hZ hQ t => match t with
  | 0 => lz_lda <| lz_cst <| lz_ldi <| lz_ii <| lz_ldi <| lz_cav hC (hZ _ (by decide)) <| lz_cst <| lz_icm hJ <| lz_cst <| lz_go hJ
  | 1 => lz_cst <| lz_go hJ
  | 2 => lz_rtz hQ
  | _ + 3 => fun _ _ _ _ _ q => q.elim
set_option maxRecDepth 100000 in
theorem zb_X7_isClosed : ZB pb_X7_isClosed := fun Z J J' C Q Q' hJ hC hZ hQ t => match t with
  | 0 => lz_lda <| lz_get <| lz_ldi <| lz_ald <| lz_ldi <| lz_ii <| lz_cst <| lz_ii <| lz_cst <| lz_icm hJ <| lz_cst <| lz_go hJ
  | 1 => lz_cst <| lz_go hJ
  | 2 => lz_rtz hQ
  | _ + 3 => fun _ _ _ _ _ q => q.elim
set_option maxRecDepth 100000 in
theorem zb_X7_isHidden : ZB pb_X7_isHidden := fun Z J J' C Q Q' hJ hC hZ hQ t => match t with
  | 0 => lz_lda <| lz_ldi <| lz_ldi <| lz_cav hC (hZ _ (by decide)) <| lz_ifc hJ <| lz_lda <| lz_ldi <| lz_ldi <| lz_cav hC (hZ _ (by decide)) <| lz_ifc hJ <| lz_go hJ
  | 1 => lz_cst <| lz_go hJ
  | 2 => lz_cst <| lz_go hJ
  | 3 => lz_rtz hQ
  | _ + 4 => fun _ _ _ _ _ q => q.elim
set_option maxRecDepth 100000 in
theorem zb_X7_isBarred : ZB pb_X7_isBarred := fun Z J J' C Q Q' hJ hC hZ hQ t => match t with
  | 0 => lz_cst <| lz_sti <| lz_go hJ
  | 1 => lz_ldi <| lz_lda <| lz_get <| lz_ldi <| lz_ald <| lz_icm hJ <| lz_lda <| lz_get <| lz_cst <| lz_ldi <| lz_ii <| lz_ldi <| lz_ii <| lz_ald <| lz_sti <| lz_ldi <| lz_cst <| lz_icm hJ <| lz_ldi <| lz_cst <| lz_icm hJ <| lz_lda <| lz_ldi <| lz_cst <| lz_ldi <| lz_ii <| lz_cav hC (hZ _ (by decide)) <| lz_ifc hJ <| lz_cst <| lz_rtz hQ
  | 2 => lz_inc <| lz_go hJ
  | 3 => lz_cst <| lz_rtz hQ
  | _ + 4 => fun _ _ _ _ _ q => q.elim
set_option maxRecDepth 100000 in
theorem zb_X7_matches : ZB pb_X7_matches := fun Z J J' C Q Q' hJ hC hZ hQ t => match t with
  | 0 => lz_lda <| lz_ldi <| lz_ldi <| lz_cav hC (hZ _ (by decide)) <| lz_ifc hJ <| lz_lda <| lz_ldi <| lz_ldi <| lz_cav hC (hZ _ (by decide)) <| lz_cst <| lz_icm hJ <| lz_cst <| lz_go hJ
  | 1 => lz_cst <| lz_go hJ
  | 2 => lz_rtz hQ
  | _ + 3 => fun _ _ _ _ _ q => q.elim
set_option maxRecDepth 100000 in
theorem zb_X7_count : ZB pb_X7_count := fun Z J J' C Q Q' hJ hC hZ hQ t => match t with
  | 0 => lz_cst <| lz_sti <| lz_cst <| lz_sti <| lz_go hJ
  | 1 => lz_ldi <| lz_lda <| lz_get <| lz_icm hJ <| lz_lda <| lz_cst <| lz_ldi <| lz_ii <| lz_ldi <| lz_cav hC (hZ _ (by decide)) <| lz_sti <| lz_ldi <| lz_ldi <| lz_ifc hJ <| lz_ldi <| lz_cst <| lz_icm hJ <| lz_cst <| lz_go hJ
  | 2 => lz_cst <| lz_go hJ
  | 3 => lz_ldi <| lz_cst <| lz_icm hJ <| lz_ldi <| lz_cst <| lz_icm hJ <| lz_cst <| lz_go hJ
  | 4 => lz_cst <| lz_go hJ
  | 5 => lz_ldi <| lz_cst <| lz_icm hJ <| lz_cst <| lz_go hJ
  | 6 => lz_cst <| lz_go hJ
  | 7 => lz_ii <| lz_sti <| lz_inc <| lz_go hJ
  | 8 => lz_ldi <| lz_ret hQ
  | _ + 9 => fun _ _ _ _ _ q => q.elim
set_option maxRecDepth 100000 in
theorem zb_X7_rule : ZB pb_X7_rule := fun Z J J' C Q Q' hJ hC hZ hQ t => match t with
  | 0 => lz_lda <| lz_cst <| lz_put <| lz_lda <| lz_ldi <| lz_cav hC (hZ _ (by decide)) <| lz_ifc hJ <| lz_cst <| lz_ret hQ
  | 1 => lz_lda <| lz_cav hC (hZ _ (by decide)) <| lz_ifc hJ <| lz_cst <| lz_lda <| lz_get <| lz_ii <| lz_ret hQ
  | 2 => lz_lda <| lz_cst <| lz_ldi <| lz_ii <| lz_cav hC (hZ _ (by decide)) <| lz_lda <| lz_ldi <| lz_cst <| lz_cav hC (hZ _ (by decide)) <| lz_ret hQ
  | _ + 3 => fun _ _ _ _ _ q => q.elim
set_option maxRecDepth 100000 in
theorem zb_X7_close : ZB pb_X7_close := fun Z J J' C Q Q' hJ hC hZ hQ t => match t with
  | 0 => lz_lda <| lz_cst <| lz_put <| lz_lda <| lz_ldi <| lz_cav hC (hZ _ (by decide)) <| lz_ifc hJ <| lz_cst <| lz_ret hQ
  | 1 => lz_ldi <| lz_ifc hJ <| lz_ldi <| lz_cst <| lz_icm hJ <| lz_go hJ
  | 2 => lz_cst <| lz_ret hQ
  | 3 => lz_lda <| lz_get <| lz_ldi <| lz_ald <| lz_sti <| lz_lda <| lz_get <| lz_ldi <| lz_ldi <| lz_ast <| lz_ldi <| lz_ret hQ
  | _ + 4 => fun _ _ _ _ _ q => q.elim
set_option maxRecDepth 100000 in
theorem zb_X7_seen : ZB pb_X7_seen := fun Z J J' C Q Q' hJ hC hZ hQ t => match t with
  | 0 => lz_lda <| lz_cst <| lz_put <| lz_lda <| lz_ldi <| lz_cav hC (hZ _ (by decide)) <| lz_ifc hJ <| lz_cst <| lz_ret hQ
  | 1 => lz_ldi <| lz_ifc hJ <| lz_ldi <| lz_cst <| lz_icm hJ <| lz_go hJ
  | 2 => lz_cst <| lz_go hJ
  | 3 => lz_lda <| lz_ldi <| lz_ldi <| lz_cav hC (hZ _ (by decide)) <| lz_go hJ
  | 4 => lz_ret hQ
  | _ + 5 => fun _ _ _ _ _ q => q.elim
set_option maxRecDepth 100000 in
theorem zb_X7_note : ZB pb_X7_note := fun Z J J' C Q Q' hJ hC hZ hQ t => match t with
  | 0 => lz_lda <| lz_get <| lz_cst <| lz_lda <| lz_get <| lz_ii <| lz_ldi <| lz_ast <| lz_lda <| lz_get <| lz_cst <| lz_lda <| lz_get <| lz_ii <| lz_cst <| lz_ii <| lz_ldi <| lz_ast <| lz_lda <| lz_get <| lz_cst <| lz_lda <| lz_get <| lz_ii <| lz_cst <| lz_ii <| lz_ldi <| lz_ast <| lz_lda <| lz_get <| lz_cst <| lz_lda <| lz_get <| lz_ii <| lz_cst <| lz_ii <| lz_ldi <| lz_ast <| lz_lda <| lz_get <| lz_cst <| lz_lda <| lz_get <| lz_ii <| lz_cst <| lz_ii <| lz_ldi <| lz_ast <| lz_lda <| lz_dup <| lz_get <| lz_cst <| lz_ii <| lz_put <| lz_rtv hQ
  | _ + 1 => fun _ _ _ _ _ q => q.elim
set_option maxRecDepth 100000 in
theorem zb_X7_query : ZB pb_X7_query := fun Z J J' C Q Q' hJ hC hZ hQ t => match t with
  | 0 => lz_lda <| lz_cav hC (hZ _ (by decide)) <| lz_ifc hJ <| lz_lda <| lz_ldi <| lz_ldi <| lz_cst <| lz_cst <| lz_cst <| lz_cav hC (hZ _ (by decide)) <| lz_cst <| lz_lda <| lz_get <| lz_ii <| lz_ret hQ
  | 1 => lz_lda <| lz_ldi <| lz_cst <| lz_cav hC (hZ _ (by decide)) <| lz_ifc hJ <| lz_lda <| lz_ldi <| lz_ldi <| lz_cst <| lz_cst <| lz_cst <| lz_cav hC (hZ _ (by decide)) <| lz_cst <| lz_ret hQ
  | 2 => lz_lda <| lz_ldi <| lz_ldi <| lz_cst <| lz_cst <| lz_cst <| lz_cav hC (hZ _ (by decide)) <| lz_cst <| lz_ret hQ
  | _ + 3 => fun _ _ _ _ _ q => q.elim
set_option maxRecDepth 100000 in
theorem zb_X7_ask : ZB pb_X7_ask := fun Z J J' C Q Q' hJ hC hZ hQ t => match t with
  | 0 => lz_lda <| lz_cst <| lz_put <| lz_lda <| lz_ldi <| lz_cav hC (hZ _ (by decide)) <| lz_ifc hJ <| lz_cst <| lz_ret hQ
  | 1 => lz_lda <| lz_get <| lz_cst <| lz_icm hJ <| lz_cst <| lz_ret hQ
  | 2 => lz_lda <| lz_ldi <| lz_cst <| lz_cav hC (hZ _ (by decide)) <| lz_sti <| lz_ldi <| lz_ifc hJ <| lz_ldi <| lz_ret hQ
  | 3 => lz_lda <| lz_cst <| lz_put <| lz_cst <| lz_sti <| lz_go hJ
  | 4 => lz_ldi <| lz_lda <| lz_get <| lz_icm hJ <| lz_lda <| lz_ldi <| lz_cst <| lz_ldi <| lz_cav hC (hZ _ (by decide)) <| lz_ifc hJ <| lz_lda <| lz_get <| lz_lda <| lz_get <| lz_ldi <| lz_ast <| lz_lda <| lz_dup <| lz_get <| lz_cst <| lz_ii <| lz_put <| lz_go hJ
  | 5 => lz_inc <| lz_go hJ
  | 6 => lz_lda <| lz_get <| lz_ret hQ
  | _ + 7 => fun _ _ _ _ _ q => q.elim
set_option maxRecDepth 100000 in
theorem zb_X7_found : ZB pb_X7_found := fun Z J J' C Q Q' hJ hC hZ hQ t => match t with
  | 0 => lz_lda <| lz_cst <| lz_put <| lz_ldi <| lz_ifc hJ <| lz_ldi <| lz_lda <| lz_get <| lz_icm hJ <| lz_go hJ
  | 1 => lz_cst <| lz_go hJ
  | 2 => lz_lda <| lz_get <| lz_ldi <| lz_ald <| lz_go hJ
  | 3 => lz_ret hQ
  | _ + 4 => fun _ _ _ _ _ q => q.elim
set_option maxRecDepth 100000 in
theorem zb_X7_cell : ZB pb_X7_cell := fun Z J J' C Q Q' hJ hC hZ hQ t => match t with
  | 0 => lz_lda <| lz_cst <| lz_put <| lz_lda <| lz_ldi <| lz_cav hC (hZ _ (by decide)) <| lz_ifc hJ <| lz_ldi <| lz_cas hC (hZ _ (by decide)) <| lz_ifc hJ <| lz_go hJ
  | 1 => lz_cst <| lz_ret hQ
  | 2 => lz_ldi <| lz_ldi <| lz_icm hJ <| lz_cst <| lz_ret hQ
  | 3 => lz_lda <| lz_get <| lz_cst <| lz_icm hJ <| lz_cst <| lz_ret hQ
  | 4 => lz_lda <| lz_ldi <| lz_ldi <| lz_cav hC (hZ _ (by decide)) <| lz_ifc hJ <| lz_lda <| lz_ldi <| lz_cst <| lz_ldi <| lz_ldi <| lz_cst <| lz_cav hC (hZ _ (by decide)) <| lz_cst <| lz_ret hQ
  | 5 => lz_cst <| lz_sti <| lz_cst <| lz_sti <| lz_go hJ
  | 6 => lz_ldi <| lz_lda <| lz_get <| lz_icm hJ <| lz_lda <| lz_get <| lz_cst <| lz_ldi <| lz_ii <| lz_ldi <| lz_ii <| lz_ald <| lz_sti <| lz_ldi <| lz_ldi <| lz_ldi <| lz_icm hJ <| lz_ldi <| lz_ldi <| lz_icm hJ <| lz_lda <| lz_ldi <| lz_ldi <| lz_cav hC (hZ _ (by decide)) <| lz_ifc hJ <| lz_cst <| lz_go hJ
  | 7 => lz_cst <| lz_go hJ
  | 8 => lz_ii <| lz_sti <| lz_inc <| lz_go hJ
  | 9 => lz_lda <| lz_ldi <| lz_cst <| lz_ldi <| lz_ldi <| lz_cst <| lz_cav hC (hZ _ (by decide)) <| lz_ldi <| lz_ret hQ
  | _ + 10 => fun _ _ _ _ _ q => q.elim
set_option maxRecDepth 100000 in
theorem zb_X7_cursor : ZB pb_X7_cursor := fun Z J J' C Q Q' hJ hC hZ hQ t => match t with
  | 0 => lz_lda <| lz_cst <| lz_put <| lz_lda <| lz_ldi <| lz_cav hC (hZ _ (by decide)) <| lz_ifc hJ <| lz_cst <| lz_ret hQ
  | 1 => lz_lda <| lz_get <| lz_cst <| lz_icm hJ <| lz_cst <| lz_ret hQ
  | 2 => lz_lda <| lz_ldi <| lz_cst <| lz_cav hC (hZ _ (by decide)) <| lz_sti <| lz_ldi <| lz_ifc hJ <| lz_ldi <| lz_ret hQ
  | 3 => lz_lda <| lz_cst <| lz_ldi <| lz_ii <| lz_cst <| lz_ii <| lz_cav hC (hZ _ (by decide)) <| lz_lda <| lz_get <| lz_ldi <| lz_cst <| lz_ast <| lz_lda <| lz_get <| lz_ldi <| lz_cst <| lz_ast <| lz_cst <| lz_ret hQ
  | _ + 4 => fun _ _ _ _ _ q => q.elim
set_option maxRecDepth 100000 in
theorem zb_X7_step : ZB pb_X7_step := fun Z J J' C Q Q' hJ hC hZ hQ t => match t with
  | 0 => lz_lda <| lz_cst <| lz_put <| lz_lda <| lz_ldi <| lz_cav hC (hZ _ (by decide)) <| lz_ifc hJ <| lz_cst <| lz_ret hQ
  | 1 => lz_lda <| lz_get <| lz_ldi <| lz_ald <| lz_ifc hJ <| lz_cst <| lz_ret hQ
  | 2 => lz_lda <| lz_get <| lz_cst <| lz_icm hJ <| lz_cst <| lz_ret hQ
  | 3 => lz_lda <| lz_ldi <| lz_cst <| lz_ldi <| lz_ii <| lz_cst <| lz_ii <| lz_cav hC (hZ _ (by decide)) <| lz_ifc hJ <| lz_lda <| lz_ldi <| lz_cst <| lz_cst <| lz_cst <| lz_cst <| lz_cav hC (hZ _ (by decide)) <| lz_cst <| lz_ret hQ
  | 4 => lz_lda <| lz_ldi <| lz_cst <| lz_cst <| lz_cst <| lz_cst <| lz_cav hC (hZ _ (by decide)) <| lz_lda <| lz_get <| lz_ldi <| lz_ald <| lz_sti <| lz_go hJ
  | 5 => lz_ldi <| lz_lda <| lz_get <| lz_icm hJ <| lz_lda <| lz_ldi <| lz_cst <| lz_ldi <| lz_ii <| lz_cst <| lz_ii <| lz_ldi <| lz_cav hC (hZ _ (by decide)) <| lz_ifc hJ <| lz_lda <| lz_get <| lz_ldi <| lz_ldi <| lz_cst <| lz_ii <| lz_ast <| lz_ldi <| lz_ret hQ
  | 6 => lz_inc <| lz_go hJ
  | 7 => lz_lda <| lz_get <| lz_ldi <| lz_lda <| lz_get <| lz_ast <| lz_cst <| lz_ret hQ
  | _ + 8 => fun _ _ _ _ _ q => q.elim
set_option maxRecDepth 100000 in
theorem zb_X7_divisor : ZB pb_X7_divisor := fun Z J J' C Q Q' hJ hC hZ hQ t => match t with
  | 0 => lz_ldl <| lz_cst <| lz_cmp <| lz_ifc hJ <| lz_ldl <| lz_l1 <| lz_go hJ
  | 1 => lz_ldl <| lz_go hJ
  | 2 => lz_stl <| lz_ldl <| lz_cst <| lz_cmp <| lz_ifc hJ <| lz_ldl <| lz_l1 <| lz_go hJ
  | 3 => lz_ldl <| lz_go hJ
  | 4 => lz_stl <| lz_go hJ
  | 5 => lz_ldl <| lz_cst <| lz_cmp <| lz_ifc hJ <| lz_ldl <| lz_ldl <| lz_ld <| lz_stl <| lz_ldl <| lz_stl <| lz_ldl <| lz_stl <| lz_go hJ
  | 6 => lz_ldl <| lz_rtl hQ
  | _ + 7 => fun _ _ _ _ _ q => q.elim
set_option maxRecDepth 100000 in
theorem zb_X7_mix : ZB pb_X7_mix := fun Z J J' C Q Q' hJ hC hZ hQ t => match t with
  | 0 => lz_cst <| lz_stl <| lz_cst <| lz_sti <| lz_go hJ
  | 1 => lz_ldi <| lz_lda <| lz_get <| lz_icm hJ <| lz_lda <| lz_get <| lz_cst <| lz_ldi <| lz_ii <| lz_ldi <| lz_ii <| lz_lda <| lz_get <| lz_cst <| lz_ldi <| lz_ii <| lz_ldi <| lz_ii <| lz_lld <| lz_ldl <| lz_ll <| lz_lda <| lz_get <| lz_cst <| lz_ldi <| lz_ii <| lz_ldi <| lz_ii <| lz_lld <| lz_ldl <| lz_ll <| lz_ll <| lz_lst <| lz_ldl <| lz_lda <| lz_get <| lz_cst <| lz_ldi <| lz_ii <| lz_ldi <| lz_ii <| lz_lld <| lz_cas hC (hZ _ (by decide)) <| lz_stl <| lz_inc <| lz_go hJ
  | 2 => lz_cst <| lz_sti <| lz_go hJ
  | 3 => lz_ldi <| lz_lda <| lz_get <| lz_icm hJ <| lz_ldl <| lz_cst <| lz_cmp <| lz_ifc hJ <| lz_lda <| lz_get <| lz_cst <| lz_ldi <| lz_ii <| lz_ldi <| lz_ii <| lz_dup2 <| lz_lld <| lz_ldl <| lz_ld <| lz_lst <| lz_inc <| lz_go hJ
  | 4 => lz_rtv hQ
  | _ + 5 => fun _ _ _ _ _ q => q.elim
set_option maxRecDepth 100000 in
theorem zb_X7_swap : ZB pb_X7_swap := fun Z J J' C Q Q' hJ hC hZ hQ t => match t with
  | 0 => lz_cst <| lz_sti <| lz_go hJ
  | 1 => lz_ldi <| lz_lda <| lz_get <| lz_icm hJ <| lz_lda <| lz_get <| lz_cst <| lz_ldi <| lz_ii <| lz_ldi <| lz_ii <| lz_lld <| lz_stl <| lz_lda <| lz_get <| lz_cst <| lz_ldi <| lz_ii <| lz_ldi <| lz_ii <| lz_lda <| lz_get <| lz_cst <| lz_ldi <| lz_ii <| lz_ldi <| lz_ii <| lz_lld <| lz_lst <| lz_lda <| lz_get <| lz_cst <| lz_ldi <| lz_ii <| lz_ldi <| lz_ii <| lz_ldl <| lz_lst <| lz_inc <| lz_go hJ
  | 2 => lz_rtv hQ
  | _ + 3 => fun _ _ _ _ _ q => q.elim
set_option maxRecDepth 100000 in
theorem zb_X7_reduce : ZB pb_X7_reduce := fun Z J J' C Q Q' hJ hC hZ hQ t => match t with
  | 0 => lz_cst <| lz_sti <| lz_cst <| lz_sti <| lz_go hJ
  | 1 => lz_ldi <| lz_lda <| lz_get <| lz_icm hJ <| lz_ldi <| lz_lda <| lz_get <| lz_icm hJ <| lz_ldi <| lz_go hJ
  | 2 => lz_lda <| lz_get <| lz_ldi <| lz_ald <| lz_cst <| lz_ldi <| lz_ii <| lz_ldi <| lz_ii <| lz_icm hJ <| lz_lda <| lz_get <| lz_ldi <| lz_ald <| lz_go hJ
  | 3 => lz_cst <| lz_go hJ
  | 4 => lz_sti <| lz_ldi <| lz_ifc hJ <| lz_cst <| lz_sti <| lz_go hJ
  | 5 => lz_ldi <| lz_cst <| lz_icm hJ <| lz_lda <| lz_get <| lz_cst <| lz_ldi <| lz_ii <| lz_ldi <| lz_ii <| lz_ldi <| lz_ldi <| lz_ii <| lz_cst <| lz_ii <| lz_i2l <| lz_lst <| lz_inc <| lz_go hJ
  | 6 => lz_inc <| lz_go hJ
  | 7 => lz_inc <| lz_go hJ
  | 8 => lz_lda <| lz_cst <| lz_put <| lz_cst <| lz_sti <| lz_go hJ
  | 9 => lz_ldi <| lz_lda <| lz_get <| lz_icm hJ <| lz_lda <| lz_get <| lz_sti <| lz_go hJ
  | 10 => lz_ldi <| lz_ldi <| lz_icm hJ <| lz_lda <| lz_get <| lz_cst <| lz_ldi <| lz_ii <| lz_ldi <| lz_ii <| lz_lld <| lz_cst <| lz_cmp <| lz_ifc hJ <| lz_inc <| lz_go hJ
  | 11 => lz_ldi <| lz_ldi <| lz_icm hJ <| lz_lda <| lz_lda <| lz_get <| lz_ldi <| lz_cav hC (hZ _ (by decide)) <| lz_cst <| lz_sti <| lz_go hJ
  | 12 => lz_ldi <| lz_ldi <| lz_icm hJ <| lz_ldi <| lz_lda <| lz_get <| lz_icm hJ <| lz_lda <| lz_get <| lz_cst <| lz_ldi <| lz_ii <| lz_ldi <| lz_ii <| lz_lld <| lz_cst <| lz_cmp <| lz_ifc hJ <| lz_lda <| lz_ldi <| lz_lda <| lz_get <| lz_cst <| lz_lda <| lz_get <| lz_ii <| lz_ldi <| lz_ii <| lz_lld <| lz_lda <| lz_get <| lz_lda <| lz_get <| lz_cst <| lz_ldi <| lz_ii <| lz_ldi <| lz_ii <| lz_lld <| lz_cav hC (hZ _ (by decide)) <| lz_go hJ
  | 13 => lz_inc <| lz_go hJ
  | 14 => lz_lda <| lz_get <| lz_lda <| lz_get <| lz_ldi <| lz_ast <| lz_lda <| lz_dup <| lz_get <| lz_cst <| lz_ii <| lz_put <| lz_go hJ
  | 15 => lz_inc <| lz_go hJ
  | 16 => lz_rtv hQ
  | _ + 17 => fun _ _ _ _ _ q => q.elim
set_option maxRecDepth 100000 in
theorem zb_X7_rowOf : ZB pb_X7_rowOf := fun Z J J' C Q Q' hJ hC hZ hQ t => match t with
  | 0 => lz_cst <| lz_sti <| lz_go hJ
  | 1 => lz_ldi <| lz_lda <| lz_get <| lz_icm hJ <| lz_lda <| lz_get <| lz_ldi <| lz_ald <| lz_ldi <| lz_icm hJ <| lz_ldi <| lz_ret hQ
  | 2 => lz_inc <| lz_go hJ
  | 3 => lz_cst <| lz_ret hQ
  | _ + 4 => fun _ _ _ _ _ q => q.elim
set_option maxRecDepth 100000 in
theorem zb_X7_isSolved : ZB pb_X7_isSolved := fun Z J J' C Q Q' hJ hC hZ hQ t => match t with
  | 0 => lz_lda <| lz_ldi <| lz_cav hC (hZ _ (by decide)) <| lz_sti <| lz_ldi <| lz_cst <| lz_icm hJ <| lz_cst <| lz_rtz hQ
  | 1 => lz_cst <| lz_sti <| lz_go hJ
  | 2 => lz_ldi <| lz_lda <| lz_get <| lz_icm hJ <| lz_ldi <| lz_ldi <| lz_icm hJ <| lz_lda <| lz_get <| lz_cst <| lz_ldi <| lz_ii <| lz_ldi <| lz_ii <| lz_lld <| lz_cst <| lz_cmp <| lz_ifc hJ <| lz_cst <| lz_rtz hQ
  | 3 => lz_inc <| lz_go hJ
  | 4 => lz_cst <| lz_rtz hQ
  | _ + 5 => fun _ _ _ _ _ q => q.elim
set_option maxRecDepth 100000 in
theorem zb_X7_isKeptBack : ZB pb_X7_isKeptBack := fun Z J J' C Q Q' hJ hC hZ hQ t => match t with
  | 0 => lz_cst <| lz_sti <| lz_lda <| lz_ldi <| lz_ldi <| lz_cst <| lz_cav hC (hZ _ (by decide)) <| lz_cst <| lz_sti <| lz_go hJ
  | 1 => lz_ldi <| lz_lda <| lz_get <| lz_icm hJ <| lz_ldi <| lz_lda <| lz_ldi <| lz_cav hC (hZ _ (by decide)) <| lz_ifc hJ <| lz_cst <| lz_ldi <| lz_ii <| lz_go hJ
  | 2 => lz_cst <| lz_go hJ
  | 3 => lz_ii <| lz_sti <| lz_inc <| lz_go hJ
  | 4 => lz_lda <| lz_ldi <| lz_ldi <| lz_ldi <| lz_cav hC (hZ _ (by decide)) <| lz_cst <| lz_sti <| lz_go hJ
  | 5 => lz_ldi <| lz_lda <| lz_get <| lz_icm hJ <| lz_lda <| lz_ldi <| lz_ldi <| lz_ldi <| lz_cav hC (hZ _ (by decide)) <| lz_ifc hJ <| lz_lda <| lz_ldi <| lz_cav hC (hZ _ (by decide)) <| lz_ifc hJ <| lz_ldi <| lz_ldi <| lz_ii <| lz_cst <| lz_ii <| lz_ifc hJ <| lz_cst <| lz_rtz hQ
  | 6 => lz_inc <| lz_go hJ
  | 7 => lz_cst <| lz_rtz hQ
  | _ + 8 => fun _ _ _ _ _ q => q.elim
set_option maxRecDepth 100000 in
theorem zb_X7_tell : ZB pb_X7_tell := fun Z J J' C Q Q' hJ hC hZ hQ t => match t with
  | 0 => lz_lda <| lz_get <| lz_lda <| lz_get <| lz_cst <| lz_ldi <| lz_ii <| lz_ldi <| lz_ii <| lz_ast <| lz_lda <| lz_get <| lz_lda <| lz_get <| lz_ldi <| lz_ast <| lz_lda <| lz_dup <| lz_get <| lz_cst <| lz_ii <| lz_put <| lz_rtv hQ
  | _ + 1 => fun _ _ _ _ _ q => q.elim
set_option maxRecDepth 100000 in
theorem zb_X7_value : ZB pb_X7_value := fun Z J J' C Q Q' hJ hC hZ hQ t => match t with
  | 0 => lz_lda <| lz_cst <| lz_put <| lz_lda <| lz_ldi <| lz_cav hC (hZ _ (by decide)) <| lz_ifc hJ <| lz_lda <| lz_ldi <| lz_cav hC (hZ _ (by decide)) <| lz_ifc hJ <| lz_ldi <| lz_cas hC (hZ _ (by decide)) <| lz_ifc hJ <| lz_go hJ
  | 1 => lz_lda <| lz_cst <| lz_put <| lz_cst <| lz_ret hQ
  | 2 => lz_lda <| lz_get <| lz_cst <| lz_icm hJ <| lz_lda <| lz_cst <| lz_put <| lz_cst <| lz_ret hQ
  | 3 => lz_lda <| lz_ldi <| lz_ldi <| lz_ldi <| lz_cav hC (hZ _ (by decide)) <| lz_ifc hJ <| lz_lda <| lz_ldi <| lz_ldi <| lz_cst <| lz_ldi <| lz_ii <| lz_cav hC (hZ _ (by decide)) <| lz_ifc hJ <| lz_go hJ
  | 4 => lz_lda <| lz_ldi <| lz_cst <| lz_ldi <| lz_ldi <| lz_cst <| lz_cav hC (hZ _ (by decide)) <| lz_lda <| lz_cst <| lz_put <| lz_cst <| lz_ret hQ
  | 5 => lz_lda <| lz_ldi <| lz_cst <| lz_ldi <| lz_ldi <| lz_cst <| lz_cav hC (hZ _ (by decide)) <| lz_lda <| lz_ldi <| lz_ldi <| lz_cst <| lz_ldi <| lz_ii <| lz_cav hC (hZ _ (by decide)) <| lz_lda <| lz_get <| lz_cst <| lz_ldi <| lz_ii <| lz_ldi <| lz_ii <| lz_ald <| lz_ret hQ
  | _ + 6 => fun _ _ _ _ _ q => q.elim
set_option maxRecDepth 100000 in
theorem zb_X7_sum_ : ZB pb_X7_sum_ := fun Z J J' C Q Q' hJ hC hZ hQ t => match t with
  | 0 => lz_lda <| lz_cst <| lz_put <| lz_lda <| lz_ldi <| lz_cav hC (hZ _ (by decide)) <| lz_ifc hJ <| lz_ldi <| lz_cas hC (hZ _ (by decide)) <| lz_ifc hJ <| lz_lda <| lz_ldi <| lz_cav hC (hZ _ (by decide)) <| lz_ifc hJ <| lz_go hJ
  | 1 => lz_lda <| lz_cst <| lz_put <| lz_cst <| lz_ret hQ
  | 2 => lz_lda <| lz_get <| lz_cst <| lz_icm hJ <| lz_lda <| lz_cst <| lz_put <| lz_cst <| lz_ret hQ
  | 3 => lz_lda <| lz_ldi <| lz_ldi <| lz_ldi <| lz_cav hC (hZ _ (by decide)) <| lz_ifc hJ <| lz_lda <| lz_ldi <| lz_cst <| lz_ldi <| lz_ldi <| lz_cst <| lz_cav hC (hZ _ (by decide)) <| lz_lda <| lz_cst <| lz_put <| lz_cst <| lz_ret hQ
  | 4 => lz_lda <| lz_ldi <| lz_cst <| lz_ldi <| lz_ldi <| lz_cst <| lz_cav hC (hZ _ (by decide)) <| lz_lda <| lz_ldi <| lz_ldi <| lz_ldi <| lz_cav hC (hZ _ (by decide)) <| lz_cst <| lz_sti <| lz_cst <| lz_sti <| lz_go hJ
  | 5 => lz_ldi <| lz_lda <| lz_get <| lz_icm hJ <| lz_ldi <| lz_ldi <| lz_ldi <| lz_ii <| lz_cst <| lz_ii <| lz_cst <| lz_icm hJ <| lz_lda <| lz_get <| lz_cst <| lz_ldi <| lz_ii <| lz_ldi <| lz_ii <| lz_ald <| lz_go hJ
  | 6 => lz_cst <| lz_go hJ
  | 7 => lz_ii <| lz_sti <| lz_inc <| lz_go hJ
  | 8 => lz_ldi <| lz_ret hQ
  | _ + 9 => fun _ _ _ _ _ q => q.elim
set_option maxRecDepth 100000 in
theorem zb_X7_solved : ZB pb_X7_solved := fun Z J J' C Q Q' hJ hC hZ hQ t => match t with
  | 0 => lz_lda <| lz_cst <| lz_put <| lz_lda <| lz_ldi <| lz_cav hC (hZ _ (by decide)) <| lz_ifc hJ <| lz_ldi <| lz_cas hC (hZ _ (by decide)) <| lz_ifc hJ <| lz_lda <| lz_ldi <| lz_cav hC (hZ _ (by decide)) <| lz_ifc hJ <| lz_go hJ
  | 1 => lz_cst <| lz_ret hQ
  | 2 => lz_lda <| lz_ldi <| lz_ldi <| lz_cst <| lz_cav hC (hZ _ (by decide)) <| lz_lda <| lz_ldi <| lz_cav hC (hZ _ (by decide)) <| lz_ifc hJ <| lz_cst <| lz_go hJ
  | 3 => lz_cst <| lz_go hJ
  | 4 => lz_ret hQ
  | _ + 5 => fun _ _ _ _ _ q => q.elim
set_option maxRecDepth 100000 in
theorem zb_X7_would : ZB pb_X7_would := fun Z J J' C Q Q' hJ hC hZ hQ t => match t with
  | 0 => lz_lda <| lz_cst <| lz_put <| lz_lda <| lz_ldi <| lz_cav hC (hZ _ (by decide)) <| lz_ifc hJ <| lz_ldi <| lz_cas hC (hZ _ (by decide)) <| lz_ifc hJ <| lz_lda <| lz_ldi <| lz_cav hC (hZ _ (by decide)) <| lz_ifc hJ <| lz_go hJ
  | 1 => lz_cst <| lz_ret hQ
  | 2 => lz_lda <| lz_ldi <| lz_cav hC (hZ _ (by decide)) <| lz_ifc hJ <| lz_cst <| lz_ret hQ
  | 3 => lz_lda <| lz_ldi <| lz_ldi <| lz_ldi <| lz_cav hC (hZ _ (by decide)) <| lz_lda <| lz_ldi <| lz_cav hC (hZ _ (by decide)) <| lz_ifc hJ <| lz_cst <| lz_go hJ
  | 4 => lz_cst <| lz_go hJ
  | 5 => lz_ret hQ
  | _ + 6 => fun _ _ _ _ _ q => q.elim
set_option maxRecDepth 100000 in
theorem zb_X7_world : ZB pb_X7_world := fun Z J J' C Q Q' hJ hC hZ hQ t => match t with
  | 0 => lz_lda <| lz_cst <| lz_put <| lz_lda <| lz_ldi <| lz_cav hC (hZ _ (by decide)) <| lz_ifc hJ <| lz_ldi <| lz_cas hC (hZ _ (by decide)) <| lz_ifc hJ <| lz_lda <| lz_ldi <| lz_cav hC (hZ _ (by decide)) <| lz_ifc hJ <| lz_lda <| lz_ldi <| lz_cav hC (hZ _ (by decide)) <| lz_ifc hJ <| lz_go hJ
  | 1 => lz_cst <| lz_rtl hQ
  | 2 => lz_lda <| lz_ldi <| lz_ldi <| lz_cst <| lz_cav hC (hZ _ (by decide)) <| lz_lda <| lz_ldi <| lz_cav hC (hZ _ (by decide)) <| lz_ifc hJ <| lz_cst <| lz_rtl hQ
  | 3 => lz_ldi <| lz_sti <| lz_lda <| lz_ldi <| lz_cav hC (hZ _ (by decide)) <| lz_sti <| lz_ldi <| lz_cst <| lz_icm hJ <| lz_ldi <| lz_cst <| lz_ii <| lz_sti <| lz_go hJ
  | 4 => lz_lda <| lz_get <| lz_cst <| lz_ldi <| lz_ii <| lz_ldi <| lz_ii <| lz_lld <| lz_cst <| lz_cmp <| lz_ifc hJ <| lz_inc <| lz_go hJ
  | 5 => lz_cst <| lz_stl <| lz_cst <| lz_sti <| lz_go hJ
  | 6 => lz_ldi <| lz_lda <| lz_get <| lz_icm hJ <| lz_lda <| lz_get <| lz_cst <| lz_ldi <| lz_ii <| lz_lda <| lz_get <| lz_ldi <| lz_ald <| lz_ii <| lz_lld <| lz_stl <| lz_lda <| lz_get <| lz_cst <| lz_ldi <| lz_ii <| lz_ldi <| lz_ii <| lz_lld <| lz_stl <| lz_ldl <| lz_ldl <| lz_ldl <| lz_cas hC (hZ _ (by decide)) <| lz_ld <| lz_stl <| lz_ldl <| lz_cst <| lz_cmp <| lz_ifc hJ <| lz_ldl <| lz_l1 <| lz_go hJ
  | 7 => lz_ldl <| lz_go hJ
  | 8 => lz_stl <| lz_ldl <| lz_ldl <| lz_ldl <| lz_cas hC (hZ _ (by decide)) <| lz_ld <| lz_ldl <| lz_ll <| lz_stl <| lz_inc <| lz_go hJ
  | 9 => lz_lda <| lz_ldi <| lz_cav hC (hZ _ (by decide)) <| lz_sti <| lz_ldi <| lz_cst <| lz_icm hJ <| lz_ldi <| lz_ldi <| lz_icm hJ <| lz_ldl <| lz_go hJ
  | 10 => lz_cst <| lz_go hJ
  | 11 => lz_rtl hQ
  | 12 => lz_lda <| lz_get <| lz_cst <| lz_ldi <| lz_ii <| lz_ldi <| lz_ii <| lz_lld <| lz_ldl <| lz_ll <| lz_lda <| lz_get <| lz_cst <| lz_ldi <| lz_ii <| lz_lda <| lz_get <| lz_ldi <| lz_ald <| lz_ii <| lz_lld <| lz_ld <| lz_l1 <| lz_rtl hQ
  | _ + 13 => fun _ _ _ _ _ q => q.elim
set_option maxRecDepth 100000 in
theorem zb_X7_rows : ZB pb_X7_rows := fun Z J J' C Q Q' hJ hC hZ hQ t => match t with
  | 0 => lz_lda <| lz_cst <| lz_put <| lz_lda <| lz_ldi <| lz_cav hC (hZ _ (by decide)) <| lz_ifc hJ <| lz_ldi <| lz_cas hC (hZ _ (by decide)) <| lz_ifc hJ <| lz_go hJ
  | 1 => lz_cst <| lz_ret hQ
  | 2 => lz_lda <| lz_ldi <| lz_ldi <| lz_cst <| lz_cav hC (hZ _ (by decide)) <| lz_lda <| lz_get <| lz_ret hQ
  | _ + 3 => fun _ _ _ _ _ q => q.elim
set_option maxRecDepth 100000 in
theorem zb_X7_audit : ZB pb_X7_audit := fun Z J J' C Q Q' hJ hC hZ hQ t => match t with
  | 0 => lz_lda <| lz_cst <| lz_put <| lz_ldi <| lz_ifc hJ <| lz_ldi <| lz_lda <| lz_get <| lz_icm hJ <| lz_go hJ
  | 1 => lz_cst <| lz_ret hQ
  | 2 => lz_ldi <| lz_ifc hJ <| lz_ldi <| lz_cst <| lz_icm hJ <| lz_go hJ
  | 3 => lz_cst <| lz_go hJ
  | 4 => lz_lda <| lz_get <| lz_cst <| lz_ldi <| lz_ii <| lz_ldi <| lz_ii <| lz_ald <| lz_go hJ
  | 5 => lz_ret hQ
  | _ + 6 => fun _ _ _ _ _ q => q.elim
set_option maxRecDepth 100000 in
theorem zb_X7_told : ZB pb_X7_told := fun Z J J' C Q Q' hJ hC hZ hQ t => match t with
  | 0 => lz_lda <| lz_cst <| lz_put <| lz_ldi <| lz_tsw hJ
  | 1 => lz_lda <| lz_get <| lz_ret hQ
  | 2 => lz_lda <| lz_get <| lz_ret hQ
  | 3 => lz_lda <| lz_get <| lz_ret hQ
  | 4 => lz_lda <| lz_get <| lz_ret hQ
  | 5 => lz_lda <| lz_get <| lz_ifc hJ <| lz_cst <| lz_go hJ
  | 6 => lz_cst <| lz_go hJ
  | 7 => lz_ret hQ
  | 8 => lz_cst <| lz_ret hQ
  | _ + 9 => fun _ _ _ _ _ q => q.elim
set_option maxRecDepth 100000 in
theorem zb_X7_clear : ZB pb_X7_clear := fun Z J J' C Q Q' hJ hC hZ hQ t => match t with
  | 0 => lz_lda <| lz_cst <| lz_put <| lz_lda <| lz_cst <| lz_put <| lz_lda <| lz_cst <| lz_put <| lz_lda <| lz_cst <| lz_put <| lz_lda <| lz_cst <| lz_put <| lz_lda <| lz_cst <| lz_put <| lz_lda <| lz_cst <| lz_put <| lz_lda <| lz_cst <| lz_put <| lz_rtv hQ
  | _ + 1 => fun _ _ _ _ _ q => q.elim
set_option maxRecDepth 100000 in
theorem zb_J7_fill_d0a16 : ZB pb_J7_fill_d0a16 := fun Z J J' C Q Q' hJ hC hZ hQ t => match t with
  | 0 => lz_cst <| lz_sti <| lz_lda <| lz_len <| lz_sti <| lz_go hJ
  | 1 => lz_ldi <| lz_ldi <| lz_icm hJ <| lz_lda <| lz_ldi <| lz_ldl <| lz_lst <| lz_inc <| lz_go hJ
  | 2 => lz_rtv hQ
  | _ + 3 => fun _ _ _ _ _ q => q.elim
set_option maxRecDepth 100000 in
theorem zb_J0_length_8abf5 : ZB pb_J0_length_8abf5 := fun Z J J' C Q Q' hJ hC hZ hQ t => match t with
  | 0 => lz_lda <| lz_sgv <| lz_sln <| lz_lda <| lz_css hC (hZ _ (by decide)) <| lz_ii <| lz_ret hQ
  | _ + 1 => fun _ _ _ _ _ q => q.elim
set_option maxRecDepth 100000 in
theorem zb_J0_coder_7d493 : ZB pb_J0_coder_7d493 := fun Z J J' C Q Q' hJ hC hZ hQ t => match t with
  | 0 => lz_cst <| lz_ifc hJ <| lz_lda <| lz_sgc <| lz_go hJ
  | 1 => lz_cst <| lz_go hJ
  | 2 => lz_rtn hQ
  | _ + 3 => fun _ _ _ _ _ q => q.elim
set_option maxRecDepth 100000 in
theorem zb_J0_isLatin1_aae02 : ZB pb_J0_isLatin1_aae02 := fun Z J J' C Q Q' hJ hC hZ hQ t => match t with
  | 0 => lz_cst <| lz_ifc hJ <| lz_lda <| lz_sgc <| lz_ifc hJ <| lz_cst <| lz_go hJ
  | 1 => lz_cst <| lz_go hJ
  | 2 => lz_rtz hQ
  | _ + 3 => fun _ _ _ _ _ q => q.elim
set_option maxRecDepth 100000 in
theorem zb_J0_charAt_5068e : ZB pb_J0_charAt_5068e := fun Z J J' C Q Q' hJ hC hZ hQ t => match t with
  | 0 => lz_lda <| lz_css hC (hZ _ (by decide)) <| lz_ifc hJ <| lz_lda <| lz_sgv <| lz_ldi <| lz_cas hC (hZ _ (by decide)) <| lz_rtn hQ
  | 1 => lz_bad
  | _ + 2 => fun _ _ _ _ _ q => q.elim
set_option maxRecDepth 100000 in
theorem zb_J1_charAt_3b067 : ZB pb_J1_charAt_3b067 := fun Z J J' C Q Q' hJ hC hZ hQ t => match t with
  | 0 => lz_ldi <| lz_lda <| lz_sln <| lz_cas hC (hZ _ (by decide)) <| lz_lda <| lz_ldi <| lz_sbl <| lz_cst <| lz_ii <| lz_i1 <| lz_rtn hQ
  | _ + 1 => fun _ _ _ _ _ q => q.elim
set_option maxRecDepth 100000 in
theorem zb_J0_checkIndex_df160 : ZB pb_J0_checkIndex_df160 := fun Z J J' C Q Q' hJ hC hZ hQ t => match t with
  | 0 => lz_ldi <| lz_ldi <| lz_zq <| lz_cas hC (hZ _ (by decide)) <| lz_pop <| lz_rtv hQ
  | _ + 1 => fun _ _ _ _ _ q => q.elim
set_option maxRecDepth 100000 in
theorem zb_J3_checkIndex_8e157 : ZB pb_J3_checkIndex_8e157 := fun Z J J' C Q Q' hJ hC hZ hQ t => match t with
  | 0 => lz_ldi <| lz_ifc hJ <| lz_ldi <| lz_ldi <| lz_icm hJ <| lz_go hJ
  | 1 => lz_bad
  | 2 => lz_ldi <| lz_ret hQ
  | _ + 3 => fun _ _ _ _ _ q => q.elim
theorem ZB_no : ZB px_no := fun _ _ _ _ _ _ _ _ _ _ _ _ _ _ _ _ q => q.elim
set_option maxRecDepth 100000 in
theorem zb_all : ∀ y, y ∉ mkN → ZB (px_P y).2.2 := fun y => match y with
  | 0 => fun h => absurd (by decide) h
  | 1 => fun _ => zb_X0_isFull
  | 2 => fun _ => zb_X0_enter
  | 3 => fun h => absurd (by decide) h
  | 4 => fun _ => zb_X1_read
  | 5 => fun _ => zb_X1_faultOfToken
  | 6 => fun _ => zb_X1_scan
  | 7 => fun _ => zb_X1_scanWord
  | 8 => fun _ => zb_X1_isSpelled
  | 9 => fun _ => zb_X1_scanNumber
  | 10 => fun _ => zb_X1_isLetter
  | 11 => fun _ => zb_X1_isFigure
  | 12 => fun _ => zb_X1_kindOfSign
  | 13 => fun _ => zb_X1_stateBehind
  | 14 => fun _ => zb_X1_behindLeaf
  | 15 => fun _ => zb_X1_goesOnSum
  | 16 => fun _ => zb_X1_behindOne
  | 17 => fun _ => zb_X1_take
  | 18 => fun _ => zb_X1_takeOperator
  | 19 => fun _ => zb_X1_hold
  | 20 => fun _ => zb_X1_settle
  | 21 => fun _ => zb_X1_dropBracket
  | 22 => fun h => absurd (by decide) h
  | 23 => fun _ => zb_X2_truth
  | 24 => fun _ => zb_X2_carryOut
  | 25 => fun _ => zb_X2_push
  | 26 => fun _ => zb_X2_turn
  | 27 => fun _ => zb_X2_join
  | 28 => fun _ => zb_X2_joinTruths
  | 29 => fun _ => zb_X2_reckon
  | 30 => fun h => absurd (by decide) h
  | 31 => fun _ => zb_X3_forget
  | 32 => fun _ => zb_X3_copyFrom
  | 33 => fun _ => zb_X3_countRows
  | 34 => fun _ => zb_X3_isSolved
  | 35 => fun _ => zb_X3_solvedSet
  | 36 => fun _ => zb_X3_learn
  | 37 => fun _ => zb_X3_otherWorld
  | 38 => fun _ => zb_X3_leastThatMakesWhole
  | 39 => fun _ => zb_X3_at
  | 40 => fun _ => zb_X3_isPivot
  | 41 => fun _ => zb_X3_firstBehind
  | 42 => fun _ => zb_X3_firstOf
  | 43 => fun _ => zb_X3_clearAt
  | 44 => fun _ => zb_X3_settleNewRow
  | 45 => fun _ => zb_X3_divide
  | 46 => fun _ => zb_X3_commonDivisorOf
  | 47 => fun _ => zb_X3_commonDivisor
  | 48 => fun h => absurd (by decide) h
  | 49 => fun _ => zb_X4_empty
  | 50 => fun _ => zb_X4_append
  | 51 => fun _ => zb_X4_copyFrom
  | 52 => fun h => absurd (by decide) h
  | 53 => fun _ => zb_X5_begin
  | 54 => fun _ => zb_X5_hasClosed
  | 55 => fun _ => zb_X5_startCursor
  | 56 => fun h => absurd (by decide) h
  | 57 => fun _ => zb_X6_object
  | 58 => fun _ => zb_X6_set
  | 59 => fun _ => zb_X6_user
  | 60 => fun _ => zb_X6_type
  | 61 => fun _ => zb_X6_rule
  | 62 => fun _ => zb_X6_place
  | 63 => fun _ => zb_X6_close
  | 64 => fun _ => zb_X6_seen
  | 65 => fun _ => zb_X6_ask
  | 66 => fun _ => zb_X6_found
  | 67 => fun _ => ZB_no
  | 68 => fun _ => ZB_no
  | 69 => fun _ => zb_X6_cell
  | 70 => fun _ => zb_X6_cursor
  | 71 => fun _ => zb_X6_step
  | 72 => fun _ => zb_X6_solved
  | 73 => fun _ => zb_X6_would
  | 74 => fun _ => zb_X6_world
  | 75 => fun _ => zb_X6_rows
  | 76 => fun _ => zb_X6_audit
  | 77 => fun _ => zb_X6_told
  | 78 => fun _ => zb_X6_clear
  | 79 => fun _ => zb_X6_isObject
  | 80 => fun _ => zb_X6_isUser
  | 81 => fun _ => zb_X6_isField
  | 82 => fun _ => zb_X6_isSet
  | 83 => fun _ => zb_X6_takeTape
  | 84 => fun _ => zb_X6_takeQuery
  | 85 => fun _ => zb_X6_isSeen
  | 86 => fun _ => zb_X6_isMatch
  | 87 => fun _ => zb_X6_countByRule
  | 88 => fun _ => zb_X6_countBetween
  | 89 => fun _ => zb_X6_moveCursor
  | 90 => fun _ => zb_X6_hiddenFrom
  | 91 => fun _ => zb_X6_total
  | 92 => fun _ => zb_X6_tryOut
  | 93 => fun _ => zb_X6_tell
  | 94 => fun h => absurd (by decide) h
  | 95 => fun _ => zb_X7_thrown
  | 96 => fun _ => zb_X7_isObject
  | 97 => fun _ => zb_X7_isUser
  | 98 => fun _ => zb_X7_isField
  | 99 => fun _ => zb_X7_isSet
  | 100 => fun _ => zb_X7_object
  | 101 => fun _ => zb_X7_set
  | 102 => fun _ => zb_X7_user
  | 103 => fun _ => zb_X7_type
  | 104 => fun _ => zb_X7_isLetter
  | 105 => fun _ => zb_X7_isFigure
  | 106 => fun _ => zb_X7_wordFrom
  | 107 => fun _ => zb_X7_next
  | 108 => fun _ => zb_X7_fail
  | 109 => fun _ => zb_X7_odd
  | 110 => fun _ => zb_X7_take
  | 111 => fun _ => zb_X7_isSign
  | 112 => fun _ => zb_X7_put
  | 113 => fun _ => zb_X7_opens
  | 114 => fun _ => zb_X7_any
  | 115 => fun _ => zb_X7_all
  | 116 => fun _ => zb_X7_one
  | 117 => fun _ => zb_X7_sum
  | 118 => fun _ => zb_X7_times
  | 119 => fun _ => zb_X7_leaf
  | 120 => fun _ => zb_X7_reads
  | 121 => fun _ => zb_X7_keep
  | 122 => fun _ => zb_X7_place
  | 123 => fun _ => zb_X7_what
  | 124 => fun _ => zb_X7_join
  | 125 => fun _ => zb_X7_isSeen
  | 126 => fun _ => zb_X7_isClosed
  | 127 => fun _ => zb_X7_isHidden
  | 128 => fun _ => zb_X7_isBarred
  | 129 => fun _ => zb_X7_matches
  | 130 => fun _ => zb_X7_count
  | 131 => fun _ => zb_X7_rule
  | 132 => fun _ => zb_X7_close
  | 133 => fun _ => zb_X7_seen
  | 134 => fun _ => zb_X7_note
  | 135 => fun _ => zb_X7_query
  | 136 => fun _ => zb_X7_ask
  | 137 => fun _ => zb_X7_found
  | 138 => fun _ => zb_X7_cell
  | 139 => fun _ => zb_X7_cursor
  | 140 => fun _ => zb_X7_step
  | 141 => fun _ => zb_X7_divisor
  | 142 => fun _ => zb_X7_mix
  | 143 => fun _ => zb_X7_swap
  | 144 => fun _ => zb_X7_reduce
  | 145 => fun _ => zb_X7_rowOf
  | 146 => fun _ => zb_X7_isSolved
  | 147 => fun _ => zb_X7_isKeptBack
  | 148 => fun _ => zb_X7_tell
  | 149 => fun _ => zb_X7_value
  | 150 => fun _ => zb_X7_sum_
  | 151 => fun _ => zb_X7_solved
  | 152 => fun _ => zb_X7_would
  | 153 => fun _ => zb_X7_world
  | 154 => fun _ => zb_X7_rows
  | 155 => fun _ => zb_X7_audit
  | 156 => fun _ => zb_X7_told
  | 157 => fun _ => zb_X7_clear
  | 158 => fun _ => zb_J7_fill_d0a16
  | 159 => fun _ => zb_J0_length_8abf5
  | 160 => fun _ => zb_J0_coder_7d493
  | 161 => fun _ => zb_J0_isLatin1_aae02
  | 162 => fun _ => zb_J0_charAt_5068e
  | 163 => fun _ => zb_J1_charAt_3b067
  | 164 => fun _ => zb_J0_checkIndex_df160
  | 165 => fun _ => zb_J3_checkIndex_8e157
  | 166 => fun _ => ZB_no
  | 167 => fun _ => ZB_no
  | _ + 168 => fun _ => ZB_no
theorem lf_z {Z : Nat → (FieldType × Nat) ⊕ Nat} {b : mm_J → mm_C → mm_Q → mm_J} (hb : ZB b) {C : mm_C} {Q Q' : mm_Q} (hC : MC C) (hZ : ∀ y, y ∉ mkN → ZY C y) (hQ : ∀ r μ, mm_z μ = Z → Q r μ → Q' r μ) {t : Nat} {lv : mm_L} {st : List Value} {μ : mm_M} {κ : Nat × Nat} (hz : mm_z μ = Z) (h : mm_Lf (fun J => b J C Q) t lv st μ κ) : mm_Lf (fun J => b J C Q') t lv st μ κ := by
  intro X hX
  refine h (fun t lv st μ κ => mm_z μ = Z → X t lv st μ κ) (fun t lv st μ κ ⟨Y, hY, hF⟩ hz => ?_) hz
  exact hX t lv st μ κ ⟨fun t lv st μ κ => mm_z μ = Z ∧ Y t lv st μ κ, fun _ _ _ _ _ q => hY _ _ _ _ _ q.2 q.1, hb Z Y _ C Q Q' (fun t lv st μ κ z q => ⟨z, q⟩) hC hZ hQ t lv st μ κ hz hF⟩
theorem ev_z : ∀ d y, y ∉ mkN → ZY (Ev d) y
  | 0, _, _ => fun _ _ _ h => h.elim
  | d + 1, y, hy => fun as μ Q ⟨h0, h⟩ => ⟨h0, lf_z (zb_all y hy) (ev_mono d) (ev_z d) (fun r μ' z q => ⟨q, z⟩) rfl h⟩
set_option maxRecDepth 100000 in
theorem zb_vvalue : ZB vb_value := fun Z J J' C Q Q' hJ hC hZ hQ t => match t with
  | 0 => lz_lda <| lz_ldi <| lz_cav hC (hZ _ (by decide)) <| lz_ifc hJ <| lz_lda <| lz_ldi <| lz_cav hC (hZ _ (by decide)) <| lz_ifc hJ <| lz_ldi <| lz_cas hC (hZ _ (by decide)) <| lz_ifc hJ <| lz_go hJ
  | 1 => lz_tx hQ
  | 2 => lz_lda <| lz_get <| lz_cav hC (hZ _ (by decide)) <| lz_ifc hJ <| lz_tx hQ
  | 3 => lz_cst <| lz_ldi <| lz_ii <| lz_sti <| lz_lda <| lz_lda <| lz_get <| lz_ldi <| lz_rld <| lz_ldi <| lz_cav hC (hZ _ (by decide)) <| lz_ldi <| lz_ii <| lz_ifc hJ <| lz_lda <| lz_lda <| lz_get <| lz_ldi <| lz_rld <| lz_ldi <| lz_ldi <| lz_cav hC (hZ _ (by decide)) <| lz_ifc hJ <| lz_go hJ
  | 4 => lz_lda <| lz_get <| lz_ldi <| lz_cst <| lz_ldi <| lz_ldi <| lz_cst <| lz_cav hC (hZ _ (by decide)) <| lz_tx hQ
  | 5 => lz_lda <| lz_get <| lz_ldi <| lz_cst <| lz_ldi <| lz_ldi <| lz_cst <| lz_cav hC (hZ _ (by decide)) <| lz_lda <| lz_get <| lz_ldi <| lz_cst <| lz_ii <| lz_ldi <| lz_ii <| lz_ald <| lz_ret hQ
  | _ + 6 => fun _ _ _ _ _ q => q.elim
set_option maxRecDepth 100000 in
theorem zb_vsum : ZB vb_sum := fun Z J J' C Q Q' hJ hC hZ hQ t => match t with
  | 0 => lz_lda <| lz_ldi <| lz_cav hC (hZ _ (by decide)) <| lz_ifc hJ <| lz_ldi <| lz_cas hC (hZ _ (by decide)) <| lz_ifc hJ <| lz_lda <| lz_ldi <| lz_cav hC (hZ _ (by decide)) <| lz_ifc hJ <| lz_go hJ
  | 1 => lz_tx hQ
  | 2 => lz_lda <| lz_get <| lz_cav hC (hZ _ (by decide)) <| lz_ifc hJ <| lz_tx hQ
  | 3 => lz_lda <| lz_lda <| lz_get <| lz_ldi <| lz_rld <| lz_ldi <| lz_ldi <| lz_cav hC (hZ _ (by decide)) <| lz_ifc hJ <| lz_lda <| lz_get <| lz_ldi <| lz_cst <| lz_ldi <| lz_ldi <| lz_cst <| lz_cav hC (hZ _ (by decide)) <| lz_tx hQ
  | 4 => lz_lda <| lz_get <| lz_ldi <| lz_cst <| lz_ldi <| lz_ldi <| lz_cst <| lz_cav hC (hZ _ (by decide)) <| lz_lda <| lz_ldi <| lz_ldi <| lz_cav hC (hZ _ (by decide)) <| lz_ret hQ
  | _ + 5 => fun _ _ _ _ _ q => q.elim
theorem xv_z {d nL : Nat} {b : mm_J → mm_C → mm_Q → mm_J} (hb : ZB b) {as : List Value} {μ : mm_M} {Q : mm_Q} (h : Xv d b nL as μ Q) : Xv d b nL as μ (fun r μ' => Q r μ' ∧ mm_z μ' = mm_z μ) :=
  ⟨h.1, lf_z hb (ev_mono d) (ev_z d) (fun r μ' z q => ⟨q, z⟩) rfl h.2⟩
