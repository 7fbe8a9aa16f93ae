/-! a call that ends has an end: what is told of all ends of the reference's reading is so -/
def NK (k : mm_K) : Prop := ∀ lv st μ κ, ¬ k lv st μ κ
theorem nk_ldi {i : Nat} {k : mm_K} (h : NK k) : NK (mm_ldi i k) := fun lv st μ κ q => by
  unfold mm_ldi at q; split at q
  · exact h _ _ _ _ q
  · exact q
theorem nk_ldl {i : Nat} {k : mm_K} (h : NK k) : NK (mm_ldl i k) := fun lv st μ κ q => by
  unfold mm_ldl at q; split at q
  · exact h _ _ _ _ q
  · exact q
theorem nk_lda {i : Nat} {k : mm_K} (h : NK k) : NK (mm_lda i k) := fun lv st μ κ q => by
  unfold mm_lda at q; split at q
  · exact h _ _ _ _ q
  · exact q
theorem nk_sti {i : Nat} {k : mm_K} (h : NK k) : NK (mm_sti i k) := fun lv st μ κ q => by
  unfold mm_sti at q; split at q
  · exact h _ _ _ _ q
  · exact q
theorem nk_stl {i : Nat} {k : mm_K} (h : NK k) : NK (mm_stl i k) := fun lv st μ κ q => by
  unfold mm_stl at q; split at q
  · exact h _ _ _ _ q
  · exact q
theorem nk_inc {i : Nat} {v : Value} {k : mm_K} (h : NK k) : NK (mm_inc i v k) := fun lv st μ κ q => by
  unfold mm_inc at q; split at q
  · exact h _ _ _ _ q
  · exact q
theorem nk_ii {f : Int32 → Int32 → Int32} {k : mm_K} (h : NK k) : NK (mm_ii f k) := fun lv st μ κ q => by
  unfold mm_ii at q; split at q
  · exact h _ _ _ _ q
  · exact q
theorem nk_ll {f : Int64 → Int64 → Int64} {k : mm_K} (h : NK k) : NK (mm_ll f k) := fun lv st μ κ q => by
  unfold mm_ll at q; split at q
  · exact h _ _ _ _ q
  · exact q
theorem nk_ls {f : Int64 → Int32 → Int64} {k : mm_K} (h : NK k) : NK (mm_ls f k) := fun lv st μ κ q => by
  unfold mm_ls at q; split at q
  · exact h _ _ _ _ q
  · exact q
theorem nk_i2l {k : mm_K} (h : NK k) : NK (mm_i2l k) := fun lv st μ κ q => by
  unfold mm_i2l at q; split at q
  · exact h _ _ _ _ q
  · exact q
theorem nk_l2i {k : mm_K} (h : NK k) : NK (mm_l2i k) := fun lv st μ κ q => by
  unfold mm_l2i at q; split at q
  · exact h _ _ _ _ q
  · exact q
theorem nk_cmp {k : mm_K} (h : NK k) : NK (mm_cmp k) := fun lv st μ κ q => by
  unfold mm_cmp at q; split at q
  · exact h _ _ _ _ q
  · exact q
theorem nk_dup {k : mm_K} (h : NK k) : NK (mm_dup k) := fun lv st μ κ q => by
  unfold mm_dup at q; split at q
  · exact h _ _ _ _ q.2
  · exact q
theorem nk_br {t : Nat} {y n : Int32 → Prop} {J : mm_J} {k : mm_K} (hy : ∀ x, y x ∨ n x) (hJ : NK (J t)) (h : NK k) : NK (mm_br t y n J k) := fun lv st μ κ q => by
  unfold mm_br at q; split at q
  · rename_i x _
    rcases hy x with z | z
    · exact hJ _ _ _ _ (q.1 z)
    · exact h _ _ _ _ (q.2 z)
  · exact q
theorem nk_br2 {t : Nat} {y n : Int32 → Int32 → Prop} {J : mm_J} {k : mm_K} (hy : ∀ a b, y a b ∨ n a b) (hJ : NK (J t)) (h : NK k) : NK (mm_br2 t y n J k) := fun lv st μ κ q => by
  unfold mm_br2 at q; split at q
  · rename_i b a _
    rcases hy a b with z | z
    · exact hJ _ _ _ _ (q.1 z)
    · exact h _ _ _ _ (q.2 z)
  · exact q
theorem nk_ifc {c : Jvm.ClassFile.Cond} {t : Nat} {J : mm_J} {k : mm_K} (hJ : ∀ t, NK (J t)) (h : NK k) : NK (mm_ifc c t J k) := by
  unfold mm_ifc; split <;> first | exact nk_br (fun x => Classical.em _) (hJ t) h | exact nk_br (fun x => (Classical.em _).symm) (hJ t) h
theorem nk_icm {c : Jvm.ClassFile.Cond} {t : Nat} {J : mm_J} {k : mm_K} (hJ : ∀ t, NK (J t)) (h : NK k) : NK (mm_icm c t J k) := by
  unfold mm_icm; split <;> first | exact nk_br2 (fun x y => Classical.em _) (hJ t) h | exact nk_br2 (fun x y => (Classical.em _).symm) (hJ t) h
theorem nk_get {xs : List Nat} {k : mm_K} (h : NK k) : NK (mm_get xs k) := fun lv st μ κ q => by
  unfold mm_get at q; split at q
  · obtain ⟨_, _, _, q⟩ := q; exact h _ _ _ _ q
  · exact h _ _ _ _ q.2
  · exact q
theorem nk_put {xs : List Nat} {k : mm_K} (h : NK k) : NK (mm_put xs k) := fun lv st μ κ q => by
  unfold mm_put at q; split at q
  · exact h _ _ _ _ q.2
  · exact h _ _ _ _ q.2.2
  · exact h _ _ _ _ q.2.2
  · exact q
theorem nk_ald {ty : FieldType} {k : mm_K} (h : NK k) : NK (mm_ald ty k) := fun lv st μ κ q => by
  unfold mm_ald at q; split at q
  · obtain ⟨_, _, _, q⟩ := q; exact h _ _ _ _ q
  · exact q
theorem nk_ast {ty : FieldType} {f : Int32 → Int32} {k : mm_K} (h : NK k) : NK (mm_ast ty f k) := fun lv st μ κ q => by
  unfold mm_ast at q; split at q
  · obtain ⟨_, _, _, q⟩ := q; exact h _ _ _ _ q
  · exact q
theorem nk_cst {v : Value} {k : mm_K} (h : NK k) : NK (mm_cst v k) := fun _ _ _ _ q => h _ _ _ _ q
theorem nk_go {t : Nat} {J : mm_J} (hJ : ∀ t, NK (J t)) : NK (mm_go t J) := hJ t
def NQ (Q : mm_Q) : Prop := ∀ v μ, ¬ Q v μ
theorem nk_ret {Q : mm_Q} (h : NQ Q) : NK (mm_ret Q) := fun lv st μ κ q => by
  unfold mm_ret at q; split at q
  · exact h _ _ q
  · exact q
theorem nk_rtz {Q : mm_Q} (h : NQ Q) : NK (mm_rtz Q) := fun lv st μ κ q => by
  unfold mm_rtz at q; split at q
  · exact h _ _ q.2
  · exact q
theorem nk_rtv {Q : mm_Q} (h : NQ Q) : NK (mm_rtv Q) := fun lv st μ κ q => by
  unfold mm_rtv at q; split at q
  · exact h _ _ q
  · exact q
def NC (C : mm_C) (y : Nat) : Prop := ∀ as μ Q, NQ Q → ¬ C y as μ Q
theorem pa_ex {f : List Value → List Value → Prop} : ∀ (n : Nat) (as st : List Value), mm_pa n as st f → ∃ as st, f as st
  | 0, as, st, h => ⟨as, st, h⟩
  | n + 1, as, [], h => h.elim
  | n + 1, as, v :: st, h => pa_ex n (v :: as) st h
theorem nk_cas {y na : Nat} {C : mm_C} {k : mm_K} (hC : NC C y) (h : NK k) : NK (mm_cas y na C k) := fun lv st μ κ q => by
  obtain ⟨as, st', _, q⟩ := pa_ex _ _ _ q
  exact hC _ _ _ (fun v μ => h _ _ _ _) q
theorem nk_cav {y na ci : Nat} {C : mm_C} {k : mm_K} (hC : NC C y) (h : NK k) : NK (mm_cav y na ci C k) := fun lv st μ κ q => by
  obtain ⟨as, st', _, _, q⟩ := pa_ex _ _ _ q
  exact hC _ _ _ (fun v μ => h _ _ _ _) q
theorem nk_F : NK (fun _ _ _ _ => False) := fun _ _ _ _ q => q
/-- a method's blocks: no end, no start -/
def NB (b : mm_J → mm_C → mm_Q → mm_J) (S : List Nat) : Prop := ∀ (J : mm_J) (C : mm_C) (Q : mm_Q), (∀ t, NK (J t)) → (∀ y, y ∈ S → NC C y) → NQ Q → ∀ t, NK (b J C Q t)
theorem nb_ev {d y nL : Nat} {B : Nat × Nat} {b : mm_J → mm_C → mm_Q → mm_J} {S : List Nat} (hP : px_P y = (nL, B, b)) (hb : NB b S) (hC : ∀ y, y ∈ S → NC (Ev d) y) : NC (Ev (d + 1)) y := fun as μ Q hQ q => by
  refine q.2 (fun _ _ _ _ _ => False) (fun t lv st μ κ h => ?_)
  obtain ⟨Y, hY, h⟩ := h
  rw [hP] at h
  exact hb Y _ Q (fun t lv st μ κ z => hY _ _ _ _ _ z) hC hQ t _ _ _ _ h
theorem nb_104 : NB pb_X7_isLetter [] := fun J C Q hJ hC hQ t => by
  unfold pb_X7_isLetter; split
  all_goals repeat (with_reducible first | exact nk_F | exact nk_ret hQ | exact nk_rtz hQ | exact nk_rtv hQ | exact nk_go hJ | apply nk_lda | apply nk_ldi | apply nk_cst | apply nk_get | refine nk_cav (hC _ (by decide)) ?_ | refine nk_cas (hC _ (by decide)) ?_ | refine nk_ifc hJ ?_ | refine nk_icm hJ ?_ | apply nk_put | apply nk_ii | apply nk_sti | apply nk_inc | apply nk_ald | apply nk_ast | apply nk_dup | apply nk_ldl | apply nk_stl | apply nk_ll | apply nk_ls | apply nk_i2l | apply nk_l2i | apply nk_cmp)
theorem nb_105 : NB pb_X7_isFigure [] := fun J C Q hJ hC hQ t => by
  unfold pb_X7_isFigure; split
  all_goals repeat (with_reducible first | exact nk_F | exact nk_ret hQ | exact nk_rtz hQ | exact nk_rtv hQ | exact nk_go hJ | apply nk_lda | apply nk_ldi | apply nk_cst | apply nk_get | refine nk_cav (hC _ (by decide)) ?_ | refine nk_cas (hC _ (by decide)) ?_ | refine nk_ifc hJ ?_ | refine nk_icm hJ ?_ | apply nk_put | apply nk_ii | apply nk_sti | apply nk_inc | apply nk_ald | apply nk_ast | apply nk_dup | apply nk_ldl | apply nk_stl | apply nk_ll | apply nk_ls | apply nk_i2l | apply nk_l2i | apply nk_cmp)
theorem nb_106 : NB pb_X7_wordFrom [] := fun J C Q hJ hC hQ t => by
  unfold pb_X7_wordFrom; split
  all_goals repeat (with_reducible first | exact nk_F | exact nk_ret hQ | exact nk_rtz hQ | exact nk_rtv hQ | exact nk_go hJ | apply nk_lda | apply nk_ldi | apply nk_cst | apply nk_get | refine nk_cav (hC _ (by decide)) ?_ | refine nk_cas (hC _ (by decide)) ?_ | refine nk_ifc hJ ?_ | refine nk_icm hJ ?_ | apply nk_put | apply nk_ii | apply nk_sti | apply nk_inc | apply nk_ald | apply nk_ast | apply nk_dup | apply nk_ldl | apply nk_stl | apply nk_ll | apply nk_ls | apply nk_i2l | apply nk_l2i | apply nk_cmp)
theorem nb_107 : NB pb_X7_next [104, 105, 106] := fun J C Q hJ hC hQ t => by
  unfold pb_X7_next; split
  all_goals repeat (with_reducible first | exact nk_F | exact nk_ret hQ | exact nk_rtz hQ | exact nk_rtv hQ | exact nk_go hJ | apply nk_lda | apply nk_ldi | apply nk_cst | apply nk_get | refine nk_cav (hC _ (by decide)) ?_ | refine nk_cas (hC _ (by decide)) ?_ | refine nk_ifc hJ ?_ | refine nk_icm hJ ?_ | apply nk_put | apply nk_ii | apply nk_sti | apply nk_inc | apply nk_ald | apply nk_ast | apply nk_dup | apply nk_ldl | apply nk_stl | apply nk_ll | apply nk_ls | apply nk_i2l | apply nk_l2i | apply nk_cmp)
theorem nb_108 : NB pb_X7_fail [] := fun J C Q hJ hC hQ t => by
  unfold pb_X7_fail; split
  all_goals repeat (with_reducible first | exact nk_F | exact nk_ret hQ | exact nk_rtz hQ | exact nk_rtv hQ | exact nk_go hJ | apply nk_lda | apply nk_ldi | apply nk_cst | apply nk_get | refine nk_cav (hC _ (by decide)) ?_ | refine nk_cas (hC _ (by decide)) ?_ | refine nk_ifc hJ ?_ | refine nk_icm hJ ?_ | apply nk_put | apply nk_ii | apply nk_sti | apply nk_inc | apply nk_ald | apply nk_ast | apply nk_dup | apply nk_ldl | apply nk_stl | apply nk_ll | apply nk_ls | apply nk_i2l | apply nk_l2i | apply nk_cmp)
theorem nb_109 : NB pb_X7_odd [108] := fun J C Q hJ hC hQ t => by
  unfold pb_X7_odd; split
  all_goals repeat (with_reducible first | exact nk_F | exact nk_ret hQ | exact nk_rtz hQ | exact nk_rtv hQ | exact nk_go hJ | apply nk_lda | apply nk_ldi | apply nk_cst | apply nk_get | refine nk_cav (hC _ (by decide)) ?_ | refine nk_cas (hC _ (by decide)) ?_ | refine nk_ifc hJ ?_ | refine nk_icm hJ ?_ | apply nk_put | apply nk_ii | apply nk_sti | apply nk_inc | apply nk_ald | apply nk_ast | apply nk_dup | apply nk_ldl | apply nk_stl | apply nk_ll | apply nk_ls | apply nk_i2l | apply nk_l2i | apply nk_cmp)
theorem nb_110 : NB pb_X7_take [107, 108] := fun J C Q hJ hC hQ t => by
  unfold pb_X7_take; split
  all_goals repeat (with_reducible first | exact nk_F | exact nk_ret hQ | exact nk_rtz hQ | exact nk_rtv hQ | exact nk_go hJ | apply nk_lda | apply nk_ldi | apply nk_cst | apply nk_get | refine nk_cav (hC _ (by decide)) ?_ | refine nk_cas (hC _ (by decide)) ?_ | refine nk_ifc hJ ?_ | refine nk_icm hJ ?_ | apply nk_put | apply nk_ii | apply nk_sti | apply nk_inc | apply nk_ald | apply nk_ast | apply nk_dup | apply nk_ldl | apply nk_stl | apply nk_ll | apply nk_ls | apply nk_i2l | apply nk_l2i | apply nk_cmp)
theorem nb_111 : NB pb_X7_isSign [] := fun J C Q hJ hC hQ t => by
  unfold pb_X7_isSign; split
  all_goals repeat (with_reducible first | exact nk_F | exact nk_ret hQ | exact nk_rtz hQ | exact nk_rtv hQ | exact nk_go hJ | apply nk_lda | apply nk_ldi | apply nk_cst | apply nk_get | refine nk_cav (hC _ (by decide)) ?_ | refine nk_cas (hC _ (by decide)) ?_ | refine nk_ifc hJ ?_ | refine nk_icm hJ ?_ | apply nk_put | apply nk_ii | apply nk_sti | apply nk_inc | apply nk_ald | apply nk_ast | apply nk_dup | apply nk_ldl | apply nk_stl | apply nk_ll | apply nk_ls | apply nk_i2l | apply nk_l2i | apply nk_cmp)
theorem nb_112 : NB pb_X7_put [] := fun J C Q hJ hC hQ t => by
  unfold pb_X7_put; split
  all_goals repeat (with_reducible first | exact nk_F | exact nk_ret hQ | exact nk_rtz hQ | exact nk_rtv hQ | exact nk_go hJ | apply nk_lda | apply nk_ldi | apply nk_cst | apply nk_get | refine nk_cav (hC _ (by decide)) ?_ | refine nk_cas (hC _ (by decide)) ?_ | refine nk_ifc hJ ?_ | refine nk_icm hJ ?_ | apply nk_put | apply nk_ii | apply nk_sti | apply nk_inc | apply nk_ald | apply nk_ast | apply nk_dup | apply nk_ldl | apply nk_stl | apply nk_ll | apply nk_ls | apply nk_i2l | apply nk_l2i | apply nk_cmp)
theorem nb_113 : NB pb_X7_opens [108] := fun J C Q hJ hC hQ t => by
  unfold pb_X7_opens; split
  all_goals repeat (with_reducible first | exact nk_F | exact nk_ret hQ | exact nk_rtz hQ | exact nk_rtv hQ | exact nk_go hJ | apply nk_lda | apply nk_ldi | apply nk_cst | apply nk_get | refine nk_cav (hC _ (by decide)) ?_ | refine nk_cas (hC _ (by decide)) ?_ | refine nk_ifc hJ ?_ | refine nk_icm hJ ?_ | apply nk_put | apply nk_ii | apply nk_sti | apply nk_inc | apply nk_ald | apply nk_ast | apply nk_dup | apply nk_ldl | apply nk_stl | apply nk_ll | apply nk_ls | apply nk_i2l | apply nk_l2i | apply nk_cmp)
theorem nb_114 : NB pb_X7_any [110, 112, 115] := fun J C Q hJ hC hQ t => by
  unfold pb_X7_any; split
  all_goals repeat (with_reducible first | exact nk_F | exact nk_ret hQ | exact nk_rtz hQ | exact nk_rtv hQ | exact nk_go hJ | apply nk_lda | apply nk_ldi | apply nk_cst | apply nk_get | refine nk_cav (hC _ (by decide)) ?_ | refine nk_cas (hC _ (by decide)) ?_ | refine nk_ifc hJ ?_ | refine nk_icm hJ ?_ | apply nk_put | apply nk_ii | apply nk_sti | apply nk_inc | apply nk_ald | apply nk_ast | apply nk_dup | apply nk_ldl | apply nk_stl | apply nk_ll | apply nk_ls | apply nk_i2l | apply nk_l2i | apply nk_cmp)
theorem nb_115 : NB pb_X7_all [110, 112, 116] := fun J C Q hJ hC hQ t => by
  unfold pb_X7_all; split
  all_goals repeat (with_reducible first | exact nk_F | exact nk_ret hQ | exact nk_rtz hQ | exact nk_rtv hQ | exact nk_go hJ | apply nk_lda | apply nk_ldi | apply nk_cst | apply nk_get | refine nk_cav (hC _ (by decide)) ?_ | refine nk_cas (hC _ (by decide)) ?_ | refine nk_ifc hJ ?_ | refine nk_icm hJ ?_ | apply nk_put | apply nk_ii | apply nk_sti | apply nk_inc | apply nk_ald | apply nk_ast | apply nk_dup | apply nk_ldl | apply nk_stl | apply nk_ll | apply nk_ls | apply nk_i2l | apply nk_l2i | apply nk_cmp)
theorem nb_116 : NB pb_X7_one [109, 110, 111, 112, 113, 114, 116, 117] := fun J C Q hJ hC hQ t => by
  unfold pb_X7_one; split
  all_goals repeat (with_reducible first | exact nk_F | exact nk_ret hQ | exact nk_rtz hQ | exact nk_rtv hQ | exact nk_go hJ | apply nk_lda | apply nk_ldi | apply nk_cst | apply nk_get | refine nk_cav (hC _ (by decide)) ?_ | refine nk_cas (hC _ (by decide)) ?_ | refine nk_ifc hJ ?_ | refine nk_icm hJ ?_ | apply nk_put | apply nk_ii | apply nk_sti | apply nk_inc | apply nk_ald | apply nk_ast | apply nk_dup | apply nk_ldl | apply nk_stl | apply nk_ll | apply nk_ls | apply nk_i2l | apply nk_l2i | apply nk_cmp)
theorem nb_117 : NB pb_X7_sum [110, 111, 112, 118] := fun J C Q hJ hC hQ t => by
  unfold pb_X7_sum; split
  all_goals repeat (with_reducible first | exact nk_F | exact nk_ret hQ | exact nk_rtz hQ | exact nk_rtv hQ | exact nk_go hJ | apply nk_lda | apply nk_ldi | apply nk_cst | apply nk_get | refine nk_cav (hC _ (by decide)) ?_ | refine nk_cas (hC _ (by decide)) ?_ | refine nk_ifc hJ ?_ | refine nk_icm hJ ?_ | apply nk_put | apply nk_ii | apply nk_sti | apply nk_inc | apply nk_ald | apply nk_ast | apply nk_dup | apply nk_ldl | apply nk_stl | apply nk_ll | apply nk_ls | apply nk_i2l | apply nk_l2i | apply nk_cmp)
theorem nb_118 : NB pb_X7_times [110, 111, 112, 119] := fun J C Q hJ hC hQ t => by
  unfold pb_X7_times; split
  all_goals repeat (with_reducible first | exact nk_F | exact nk_ret hQ | exact nk_rtz hQ | exact nk_rtv hQ | exact nk_go hJ | apply nk_lda | apply nk_ldi | apply nk_cst | apply nk_get | refine nk_cav (hC _ (by decide)) ?_ | refine nk_cas (hC _ (by decide)) ?_ | refine nk_ifc hJ ?_ | refine nk_icm hJ ?_ | apply nk_put | apply nk_ii | apply nk_sti | apply nk_inc | apply nk_ald | apply nk_ast | apply nk_dup | apply nk_ldl | apply nk_stl | apply nk_ll | apply nk_ls | apply nk_i2l | apply nk_l2i | apply nk_cmp)
theorem nb_119 : NB pb_X7_leaf [109, 110, 111, 112] := fun J C Q hJ hC hQ t => by
  unfold pb_X7_leaf; split
  all_goals repeat (with_reducible first | exact nk_F | exact nk_ret hQ | exact nk_rtz hQ | exact nk_rtv hQ | exact nk_go hJ | apply nk_lda | apply nk_ldi | apply nk_cst | apply nk_get | refine nk_cav (hC _ (by decide)) ?_ | refine nk_cas (hC _ (by decide)) ?_ | refine nk_ifc hJ ?_ | refine nk_icm hJ ?_ | apply nk_put | apply nk_ii | apply nk_sti | apply nk_inc | apply nk_ald | apply nk_ast | apply nk_dup | apply nk_ldl | apply nk_stl | apply nk_ll | apply nk_ls | apply nk_i2l | apply nk_l2i | apply nk_cmp)
theorem nb_120 : NB pb_X7_reads [107, 109, 114] := fun J C Q hJ hC hQ t => by
  unfold pb_X7_reads; split
  all_goals repeat (with_reducible first | exact nk_F | exact nk_ret hQ | exact nk_rtz hQ | exact nk_rtv hQ | exact nk_go hJ | apply nk_lda | apply nk_ldi | apply nk_cst | apply nk_get | refine nk_cav (hC _ (by decide)) ?_ | refine nk_cas (hC _ (by decide)) ?_ | refine nk_ifc hJ ?_ | refine nk_icm hJ ?_ | apply nk_put | apply nk_ii | apply nk_sti | apply nk_inc | apply nk_ald | apply nk_ast | apply nk_dup | apply nk_ldl | apply nk_stl | apply nk_ll | apply nk_ls | apply nk_i2l | apply nk_l2i | apply nk_cmp)
theorem nc_reads : ∀ d y, 104 ≤ y → y ≤ 120 → NC (Ev d) y
  | 0, _, _, _ => fun _ _ _ _ q => q
  | d + 1, y, h1, h2 => by
    have ih := fun y h1 h2 => nc_reads d y h1 h2
    rcases (show y = 104 ∨ y = 105 ∨ y = 106 ∨ y = 107 ∨ y = 108 ∨ y = 109 ∨ y = 110 ∨ y = 111 ∨ y = 112 ∨ y = 113 ∨ y = 114 ∨ y = 115 ∨ y = 116 ∨ y = 117 ∨ y = 118 ∨ y = 119 ∨ y = 120 by omega) with rfl | rfl | rfl | rfl | rfl | rfl | rfl | rfl | rfl | rfl | rfl | rfl | rfl | rfl | rfl | rfl | rfl
    · exact nb_ev pp_104 nb_104 (fun y hy => ih y (by simp at hy <;> omega) (by simp at hy <;> omega))
    · exact nb_ev pp_105 nb_105 (fun y hy => ih y (by simp at hy <;> omega) (by simp at hy <;> omega))
    · exact nb_ev pp_106 nb_106 (fun y hy => ih y (by simp at hy <;> omega) (by simp at hy <;> omega))
    · exact nb_ev pp_107 nb_107 (fun y hy => ih y (by simp at hy <;> omega) (by simp at hy <;> omega))
    · exact nb_ev pp_108 nb_108 (fun y hy => ih y (by simp at hy <;> omega) (by simp at hy <;> omega))
    · exact nb_ev pp_109 nb_109 (fun y hy => ih y (by simp at hy <;> omega) (by simp at hy <;> omega))
    · exact nb_ev pp_110 nb_110 (fun y hy => ih y (by simp at hy <;> omega) (by simp at hy <;> omega))
    · exact nb_ev pp_111 nb_111 (fun y hy => ih y (by simp at hy <;> omega) (by simp at hy <;> omega))
    · exact nb_ev pp_112 nb_112 (fun y hy => ih y (by simp at hy <;> omega) (by simp at hy <;> omega))
    · exact nb_ev pp_113 nb_113 (fun y hy => ih y (by simp at hy <;> omega) (by simp at hy <;> omega))
    · exact nb_ev pp_114 nb_114 (fun y hy => ih y (by simp at hy <;> omega) (by simp at hy <;> omega))
    · exact nb_ev pp_115 nb_115 (fun y hy => ih y (by simp at hy <;> omega) (by simp at hy <;> omega))
    · exact nb_ev pp_116 nb_116 (fun y hy => ih y (by simp at hy <;> omega) (by simp at hy <;> omega))
    · exact nb_ev pp_117 nb_117 (fun y hy => ih y (by simp at hy <;> omega) (by simp at hy <;> omega))
    · exact nb_ev pp_118 nb_118 (fun y hy => ih y (by simp at hy <;> omega) (by simp at hy <;> omega))
    · exact nb_ev pp_119 nb_119 (fun y hy => ih y (by simp at hy <;> omega) (by simp at hy <;> omega))
    · exact nb_ev pp_120 nb_120 (fun y hy => ih y (by simp at hy <;> omega) (by simp at hy <;> omega))
theorem rn_ok {L : Nat} {μ : mm_M} {X : TK} (hL : Ly μ) (hLL : L ≤ 300) (h5 : mm_i μ 81 5 = nI L) (hB : TB μ L) (h : rn (mm_i μ 3) L 61 0 [] [] 0 = .inr X) : okP X [] [true] := by
  refine Classical.byContradiction (fun hn => ?_)
  refine nc_reads 48 120 (by decide) (by decide) [.ref 81] μ (fun _ _ => False) (fun _ _ q => q) (ev_reads (d := 0) hL hLL h5 hB (fun μ' k p e _ _ _ _ => ?_) (fun μ' X' e _ _ _ hok => ?_))
  · rw [h] at e; exact absurd e (by simp)
  · rw [h] at e
    have := Sum.inr.inj e
    subst this
    exact hn hok
