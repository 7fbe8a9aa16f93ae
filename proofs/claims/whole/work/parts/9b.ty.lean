/-! what the calls return is an int, a long, nothing -/
def RLq (Q : mm_Q) : mm_Q := fun r μ => (∃ v, r = some (.long v)) ∧ Q r μ
def RVq (Q : mm_Q) : mm_Q := fun r μ => r = none ∧ Q r μ
theorem lk_ri {Q : mm_Q} : LK (mm_ret Q) (mm_ret (RQ Q)) := fun lv st μ κ => by
  unfold mm_ret; split
  · exact fun q => ⟨⟨_, rfl⟩, q⟩
  · exact fun q => q
theorem lk_rl {Q : mm_Q} : LK (mm_rtl Q) (mm_rtl (RLq Q)) := fun lv st μ κ => by
  unfold mm_rtl; split
  · exact fun q => ⟨⟨_, rfl⟩, q⟩
  · exact fun q => q
theorem lk_rv {Q : mm_Q} : LK (mm_rtv Q) (mm_rtv (RVq Q)) := fun lv st μ κ => by
  unfold mm_rtv; split
  · exact fun q => ⟨rfl, q⟩
  · exact fun q => q
def MR (R : mm_Q → mm_Q) (b : mm_J → mm_C → mm_Q → mm_J) : Prop := ∀ (J : mm_J) (C : mm_C) (Q : mm_Q), MC C → ∀ t, LK (b J C Q t) (b J C (R Q) t)
theorem ev_ty {R : mm_Q → mm_Q} {d y nL : Nat} {B : Nat × Nat} {b : mm_J → mm_C → mm_Q → mm_J} (hP : px_P y = (nL, B, b)) (hb : MR R b) {as : List Value} {μ : mm_M} {Q : mm_Q} (h : Ev (d + 1) y as μ Q) : Ev (d + 1) y as μ (R Q) :=
  ⟨h.1, fun X hX => h.2 X (fun t lv st μ κ ⟨Y, hY, hF⟩ => hX t lv st μ κ ⟨Y, hY, by
    rw [hP] at hF ⊢
    exact hb Y (Ev d) Q (ev_mono d) t lv st μ κ hF⟩)⟩
/-- a call of the class and one of the reference behind it, out of the law -/
theorem ev_two {R : mm_Q → mm_Q} {dc yc nL : Nat} {B : Nat × Nat} {b : mm_J → mm_C → mm_Q → mm_J} (hP : px_P yc = (nL, B, b)) (hb : MR R b) {as : List Value} {μ : mm_M} {Q Q' : mm_Q} (h : Ev (dc + 1) yc as μ Q) (hQ : ∀ r μ1, R Q r μ1 → Q' r μ1) : Ev (dc + 1) yc as μ Q' := ev_mono _ _ _ _ _ _ hQ (ev_ty hP hb h)
set_option maxRecDepth 100000 in
theorem mr_57 : MR RQ pb_X6_object := fun J C Q hC t => match t with
  | 0 => lk_lda <| lk_get <| lk_ifc <| lk_cst <| lk_ri
  | 1 => lk_lda <| lk_get <| lk_cst <| lk_icm <| lk_cst <| lk_ri
  | 2 => lk_cst <| lk_sti <| lk_rf
  | 3 => lk_ldi <| lk_cst <| lk_icm <| lk_lda <| lk_get <| lk_lda <| lk_get <| lk_cst <| lk_ii <| lk_ldi <| lk_ii <| lk_cst <| lk_ast <| lk_inc <| lk_rf
  | 4 => lk_lda <| lk_dup <| lk_get <| lk_cst <| lk_ii <| lk_put <| lk_lda <| lk_get <| lk_cst <| lk_ii <| lk_ri
  | _ + 5 => fun _ _ _ _ q => q.elim
set_option maxRecDepth 100000 in
theorem mr_58 : MR RQ pb_X6_set := fun J C Q hC t => match t with
  | 0 => lk_lda <| lk_ldi <| lk_cav hC <| lk_ifc <| lk_ldi <| lk_cas hC <| lk_ifc <| lk_rf
  | 1 => lk_cst <| lk_ri
  | 2 => lk_ldi <| lk_cst <| lk_icm <| lk_ldi <| lk_cst <| lk_icm <| lk_rf
  | 3 => lk_cst <| lk_ri
  | 4 => lk_lda <| lk_get <| lk_ifc <| lk_cst <| lk_ri
  | 5 => lk_lda <| lk_get <| lk_ldi <| lk_cst <| lk_ii <| lk_ldi <| lk_ii <| lk_ldi <| lk_ast <| lk_cst <| lk_ri
  | _ + 6 => fun _ _ _ _ q => q.elim
set_option maxRecDepth 100000 in
theorem mr_59 : MR RQ pb_X6_user := fun J C Q hC t => match t with
  | 0 => lk_lda <| lk_get <| lk_cst <| lk_icm <| lk_cst <| lk_ri
  | 1 => lk_lda <| lk_get <| lk_lda <| lk_get <| lk_rld <| lk_cav hC <| lk_lda <| lk_dup <| lk_get <| lk_cst <| lk_ii <| lk_put <| lk_lda <| lk_get <| lk_cst <| lk_ii <| lk_ri
  | _ + 2 => fun _ _ _ _ q => q.elim
set_option maxRecDepth 100000 in
theorem mr_60 : MR RQ pb_X6_type := fun J C Q hC t => match t with
  | 0 => lk_ldi <| lk_ifc <| lk_ldi <| lk_cst <| lk_icm <| lk_rf
  | 1 => lk_cst <| lk_ri
  | 2 => lk_ldi <| lk_ifc <| lk_lda <| lk_cst <| lk_put <| lk_cst <| lk_ri
  | 3 => lk_lda <| lk_get <| lk_ldi <| lk_ii <| lk_cst <| lk_icm <| lk_cst <| lk_ri
  | 4 => lk_ldi <| lk_cst <| lk_ii <| lk_sti <| lk_rf
  | 5 => lk_ldi <| lk_ifc <| lk_lda <| lk_get <| lk_lda <| lk_get <| lk_ldl <| lk_cst <| lk_ldi <| lk_ii <| lk_ls <| lk_l2i <| lk_cst <| lk_ii <| lk_ast <| lk_lda <| lk_dup <| lk_get <| lk_cst <| lk_ii <| lk_put <| lk_inc <| lk_rf
  | 6 => lk_lda <| lk_get <| lk_ri
  | _ + 7 => fun _ _ _ _ q => q.elim
set_option maxRecDepth 100000 in
theorem mr_61 : MR RQ pb_X6_rule := fun J C Q hC t => match t with
  | 0 => lk_lda <| lk_ldi <| lk_cav hC <| lk_ifc <| lk_cst <| lk_ri
  | 1 => lk_lda <| lk_cav hC <| lk_sti <| lk_ldi <| lk_ifc <| lk_cst <| lk_ldi <| lk_ii <| lk_ri
  | 2 => lk_lda <| lk_get <| lk_ldi <| lk_rld <| lk_get <| lk_lda <| lk_get <| lk_get <| lk_cav hC <| lk_lda <| lk_lda <| lk_get <| lk_ldi <| lk_rld <| lk_cst <| lk_cav hC <| lk_ri
  | _ + 3 => fun _ _ _ _ q => q.elim
set_option maxRecDepth 100000 in
theorem mr_62 : MR RQ pb_X6_place := fun J C Q hC t => match t with
  | 0 => lk_lda <| lk_get <| lk_ri
  | _ + 1 => fun _ _ _ _ q => q.elim
set_option maxRecDepth 100000 in
theorem mr_63 : MR RQ pb_X6_close := fun J C Q hC t => match t with
  | 0 => lk_lda <| lk_ldi <| lk_cav hC <| lk_ifc <| lk_cst <| lk_ri
  | 1 => lk_ldi <| lk_ifc <| lk_ldi <| lk_cst <| lk_icm <| lk_rf
  | 2 => lk_cst <| lk_ri
  | 3 => lk_lda <| lk_get <| lk_ldi <| lk_rld <| lk_get <| lk_sti <| lk_lda <| lk_get <| lk_ldi <| lk_rld <| lk_ldi <| lk_put <| lk_ldi <| lk_ri
  | _ + 4 => fun _ _ _ _ q => q.elim
set_option maxRecDepth 100000 in
theorem mr_64 : MR RQ pb_X6_seen := fun J C Q hC t => match t with
  | 0 => lk_lda <| lk_ldi <| lk_cav hC <| lk_ifc <| lk_cst <| lk_ri
  | 1 => lk_ldi <| lk_rf
  | 2 => lk_lda <| lk_lda <| lk_get <| lk_ldi <| lk_rld <| lk_cst <| lk_cav hC <| lk_ri
  | 3 => lk_lda <| lk_get <| lk_lda <| lk_lda <| lk_get <| lk_ldi <| lk_rld <| lk_cst <| lk_cav hC <| lk_ii <| lk_ri
  | 4 => lk_lda <| lk_lda <| lk_get <| lk_ldi <| lk_rld <| lk_cst <| lk_cav hC <| lk_ri
  | 5 => lk_cst <| lk_ri
  | _ + 6 => fun _ _ _ _ q => q.elim
set_option maxRecDepth 100000 in
theorem mr_65 : MR RQ pb_X6_ask := fun J C Q hC t => match t with
  | 0 => lk_lda <| lk_ldi <| lk_cav hC <| lk_ifc <| lk_cst <| lk_ri
  | 1 => lk_lda <| lk_get <| lk_cav hC <| lk_ifc <| lk_cst <| lk_ri
  | 2 => lk_lda <| lk_ldi <| lk_cst <| lk_cav hC <| lk_sti <| lk_ldi <| lk_ifc <| lk_ldi <| lk_ri
  | 3 => lk_lda <| lk_cst <| lk_put <| lk_cst <| lk_sti <| lk_rf
  | 4 => lk_ldi <| lk_lda <| lk_get <| lk_icm <| lk_lda <| lk_lda <| lk_get <| lk_ldi <| lk_rld <| lk_lda <| lk_get <| lk_get <| lk_ldi <| lk_cav hC <| lk_ifc <| lk_lda <| lk_get <| lk_lda <| lk_get <| lk_ldi <| lk_ast <| lk_lda <| lk_dup <| lk_get <| lk_cst <| lk_ii <| lk_put <| lk_rf
  | 5 => lk_inc <| lk_rf
  | 6 => lk_lda <| lk_get <| lk_ri
  | _ + 7 => fun _ _ _ _ q => q.elim
set_option maxRecDepth 100000 in
theorem mr_66 : MR RQ pb_X6_found := fun J C Q hC t => match t with
  | 0 => lk_ldi <| lk_ifc <| lk_ldi <| lk_lda <| lk_get <| lk_icm <| lk_rf
  | 1 => lk_cst <| lk_ri
  | 2 => lk_lda <| lk_get <| lk_ldi <| lk_ald <| lk_ri
  | _ + 3 => fun _ _ _ _ q => q.elim
set_option maxRecDepth 100000 in
theorem mr_69 : MR RQ pb_X6_cell := fun J C Q hC t => match t with
  | 0 => lk_lda <| lk_ldi <| lk_cav hC <| lk_ifc <| lk_ldi <| lk_cas hC <| lk_ifc <| lk_rf
  | 1 => lk_cst <| lk_ri
  | 2 => lk_ldi <| lk_ldi <| lk_icm <| lk_cst <| lk_ri
  | 3 => lk_lda <| lk_get <| lk_cav hC <| lk_ifc <| lk_cst <| lk_ri
  | 4 => lk_lda <| lk_get <| lk_ldi <| lk_rld <| lk_cst <| lk_ldi <| lk_ii <| lk_cav hC <| lk_ifc <| lk_lda <| lk_get <| lk_ldi <| lk_cst <| lk_ldi <| lk_ldi <| lk_cst <| lk_cav hC <| lk_cst <| lk_ri
  | 5 => lk_lda <| lk_get <| lk_ldi <| lk_cst <| lk_ldi <| lk_ldi <| lk_cst <| lk_cav hC <| lk_lda <| lk_lda <| lk_get <| lk_ldi <| lk_rld <| lk_ldi <| lk_ldi <| lk_ldi <| lk_cav hC <| lk_ri
  | _ + 6 => fun _ _ _ _ q => q.elim
set_option maxRecDepth 100000 in
theorem mr_70 : MR RQ pb_X6_cursor := fun J C Q hC t => match t with
  | 0 => lk_lda <| lk_ldi <| lk_cav hC <| lk_ifc <| lk_cst <| lk_ri
  | 1 => lk_lda <| lk_get <| lk_cav hC <| lk_ifc <| lk_cst <| lk_ri
  | 2 => lk_lda <| lk_ldi <| lk_cst <| lk_cav hC <| lk_sti <| lk_ldi <| lk_ifc <| lk_ldi <| lk_ri
  | 3 => lk_lda <| lk_get <| lk_ldi <| lk_rld <| lk_lda <| lk_get <| lk_get <| lk_cav hC <| lk_cst <| lk_ri
  | _ + 4 => fun _ _ _ _ q => q.elim
set_option maxRecDepth 100000 in
theorem mr_71 : MR RQ pb_X6_step := fun J C Q hC t => match t with
  | 0 => lk_lda <| lk_ldi <| lk_cav hC <| lk_ifc <| lk_cst <| lk_ri
  | 1 => lk_lda <| lk_get <| lk_ldi <| lk_rld <| lk_sta <| lk_lda <| lk_get <| lk_ifc <| lk_cst <| lk_ri
  | 2 => lk_lda <| lk_get <| lk_cav hC <| lk_ifc <| lk_cst <| lk_ri
  | 3 => lk_lda <| lk_lda <| lk_get <| lk_get <| lk_cav hC <| lk_ifc <| lk_lda <| lk_get <| lk_ldi <| lk_cst <| lk_cst <| lk_cst <| lk_cst <| lk_cav hC <| lk_cst <| lk_ri
  | 4 => lk_lda <| lk_get <| lk_ldi <| lk_cst <| lk_cst <| lk_cst <| lk_cst <| lk_cav hC <| lk_lda <| lk_lda <| lk_cav hC <| lk_ri
  | _ + 5 => fun _ _ _ _ q => q.elim
set_option maxRecDepth 100000 in
theorem mr_72 : MR RQ pb_X6_solved := fun J C Q hC t => match t with
  | 0 => lk_lda <| lk_ldi <| lk_cav hC <| lk_ifc <| lk_ldi <| lk_cas hC <| lk_ifc <| lk_lda <| lk_ldi <| lk_cav hC <| lk_ifc <| lk_rf
  | 1 => lk_cst <| lk_ri
  | 2 => lk_lda <| lk_get <| lk_ldi <| lk_rld <| lk_get <| lk_ldi <| lk_rld <| lk_ldi <| lk_cav hC <| lk_ifc <| lk_cst <| lk_rf
  | 3 => lk_cst <| lk_rf
  | 4 => lk_ri
  | _ + 5 => fun _ _ _ _ q => q.elim
set_option maxRecDepth 100000 in
theorem mr_73 : MR RQ pb_X6_would := fun J C Q hC t => match t with
  | 0 => lk_lda <| lk_ldi <| lk_cav hC <| lk_ifc <| lk_ldi <| lk_cas hC <| lk_ifc <| lk_lda <| lk_ldi <| lk_cav hC <| lk_ifc <| lk_rf
  | 1 => lk_cst <| lk_ri
  | 2 => lk_lda <| lk_ldi <| lk_cav hC <| lk_ifc <| lk_cst <| lk_ri
  | 3 => lk_lda <| lk_lda <| lk_get <| lk_ldi <| lk_rld <| lk_ldi <| lk_ldi <| lk_cav hC <| lk_lda <| lk_get <| lk_ldi <| lk_cav hC <| lk_ifc <| lk_cst <| lk_rf
  | 4 => lk_cst <| lk_rf
  | 5 => lk_ri
  | _ + 6 => fun _ _ _ _ q => q.elim
set_option maxRecDepth 100000 in
theorem mr_74 : MR RLq pb_X6_world := fun J C Q hC t => match t with
  | 0 => lk_lda <| lk_ldi <| lk_cav hC <| lk_ifc <| lk_ldi <| lk_cas hC <| lk_ifc <| lk_lda <| lk_ldi <| lk_cav hC <| lk_ifc <| lk_lda <| lk_ldi <| lk_cav hC <| lk_ifc <| lk_rf
  | 1 => lk_cst <| lk_rl
  | 2 => lk_lda <| lk_get <| lk_ldi <| lk_rld <| lk_get <| lk_ldi <| lk_rld <| lk_sta <| lk_lda <| lk_ldi <| lk_cav hC <| lk_ifc <| lk_cst <| lk_rl
  | 3 => lk_lda <| lk_ldi <| lk_ldi <| lk_cav hC <| lk_rl
  | _ + 4 => fun _ _ _ _ q => q.elim
set_option maxRecDepth 100000 in
theorem mr_75 : MR RQ pb_X6_rows := fun J C Q hC t => match t with
  | 0 => lk_lda <| lk_ldi <| lk_cav hC <| lk_ifc <| lk_ldi <| lk_cas hC <| lk_ifc <| lk_rf
  | 1 => lk_cst <| lk_ri
  | 2 => lk_lda <| lk_get <| lk_ldi <| lk_rld <| lk_get <| lk_ldi <| lk_rld <| lk_cav hC <| lk_ri
  | _ + 3 => fun _ _ _ _ q => q.elim
set_option maxRecDepth 100000 in
theorem mr_76 : MR RQ pb_X6_audit := fun J C Q hC t => match t with
  | 0 => lk_ldi <| lk_ifc <| lk_ldi <| lk_lda <| lk_get <| lk_get <| lk_icm <| lk_rf
  | 1 => lk_cst <| lk_ri
  | 2 => lk_ldi <| lk_ifc <| lk_ldi <| lk_cst <| lk_icm <| lk_rf
  | 3 => lk_cst <| lk_ri
  | 4 => lk_lda <| lk_get <| lk_get <| lk_ldi <| lk_cst <| lk_ii <| lk_ldi <| lk_ii <| lk_ald <| lk_ri
  | _ + 5 => fun _ _ _ _ q => q.elim
set_option maxRecDepth 100000 in
theorem mr_77 : MR RQ pb_X6_told := fun J C Q hC t => match t with
  | 0 => lk_ldi <| lk_rf
  | 1 => lk_lda <| lk_get <| lk_ri
  | 2 => lk_lda <| lk_get <| lk_ri
  | 3 => lk_lda <| lk_get <| lk_ri
  | 4 => lk_lda <| lk_get <| lk_get <| lk_ri
  | 5 => lk_lda <| lk_get <| lk_ifc <| lk_cst <| lk_rf
  | 6 => lk_cst <| lk_rf
  | 7 => lk_ri
  | 8 => lk_cst <| lk_ri
  | _ + 9 => fun _ _ _ _ q => q.elim
set_option maxRecDepth 100000 in
theorem mr_78 : MR RVq pb_X6_clear := fun J C Q hC t => match t with
  | 0 => lk_lda <| lk_cst <| lk_put <| lk_lda <| lk_cst <| lk_put <| lk_lda <| lk_cst <| lk_put <| lk_lda <| lk_cst <| lk_put <| lk_lda <| lk_cst <| lk_put <| lk_lda <| lk_cst <| lk_put <| lk_lda <| lk_get <| lk_cst <| lk_put <| lk_rv
  | _ + 1 => fun _ _ _ _ q => q.elim
