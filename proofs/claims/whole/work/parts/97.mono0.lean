/-! the same, of the rest -/
set_option maxRecDepth 100000 in
theorem mb_X7_set : MB pb_X7_set := fun J C Q Q' hC hQ t => match t with
  | 0 => lk_lda <| lk_cst <| lk_put <| lk_lda <| lk_ldi <| lk_cav hC <| lk_ifc <| lk_ldi <| lk_cas hC <| lk_ifc <| lk_rf
  | 1 => lk_cst <| lk_ret hQ
  | 2 => lk_ldi <| lk_cst <| lk_icm <| lk_ldi <| lk_cst <| lk_icm <| lk_rf
  | 3 => lk_cst <| lk_ret hQ
  | 4 => lk_lda <| lk_get <| lk_ifc <| lk_cst <| lk_ret hQ
  | 5 => lk_lda <| lk_get <| lk_cst <| lk_ldi <| lk_ii <| lk_ldi <| lk_ii <| lk_ldi <| lk_ast <| lk_cst <| lk_ret hQ
  | _ + 6 => fun _ _ _ _ q => q.elim
set_option maxRecDepth 100000 in
theorem mb_X7_user : MB pb_X7_user := fun J C Q Q' hC hQ t => match t with
  | 0 => lk_lda <| lk_cst <| lk_put <| lk_lda <| lk_get <| lk_cst <| lk_icm <| lk_cst <| lk_ret hQ
  | 1 => lk_lda <| lk_get <| lk_cst <| lk_lda <| lk_get <| lk_ii <| lk_cst <| lk_ast <| lk_lda <| lk_get <| lk_cst <| lk_lda <| lk_get <| lk_ii <| lk_cst <| lk_ast <| lk_lda <| lk_get <| lk_lda <| lk_get <| lk_cst <| lk_ast <| lk_lda <| lk_get <| lk_lda <| lk_get <| lk_cst <| lk_ast <| lk_lda <| lk_get <| lk_lda <| lk_get <| lk_cst <| lk_ast <| lk_lda <| lk_dup <| lk_get <| lk_cst <| lk_ii <| lk_put <| lk_lda <| lk_get <| lk_cst <| lk_ii <| lk_ret hQ
  | _ + 2 => fun _ _ _ _ q => q.elim
set_option maxRecDepth 100000 in
theorem mb_X7_type : MB pb_X7_type := fun J C Q Q' hC hQ t => match t with
  | 0 => lk_lda <| lk_cst <| lk_put <| lk_ldi <| lk_ifc <| lk_ldi <| lk_cst <| lk_icm <| lk_rf
  | 1 => lk_cst <| lk_ret hQ
  | 2 => lk_ldi <| lk_ifc <| lk_lda <| lk_cst <| lk_put <| lk_cst <| lk_ret hQ
  | 3 => lk_lda <| lk_get <| lk_ldi <| lk_ii <| lk_cst <| lk_icm <| lk_cst <| lk_ret hQ
  | 4 => lk_ldi <| lk_cst <| lk_ii <| lk_sti <| lk_rf
  | 5 => lk_ldi <| lk_ifc <| lk_lda <| lk_get <| lk_lda <| lk_get <| lk_ldl <| lk_cst <| lk_ldi <| lk_ii <| lk_ls <| lk_l2i <| lk_i1 <| lk_ast <| lk_lda <| lk_dup <| lk_get <| lk_cst <| lk_ii <| lk_put <| lk_inc <| lk_rf
  | 6 => lk_lda <| lk_get <| lk_ret hQ
  | _ + 7 => fun _ _ _ _ q => q.elim
set_option maxRecDepth 100000 in
theorem mb_X7_isLetter : MB pb_X7_isLetter := fun J C Q Q' hC hQ t => match t with
  | 0 => lk_ldi <| lk_cst <| lk_icm <| lk_ldi <| lk_cst <| lk_icm <| lk_cst <| lk_rf
  | 1 => lk_cst <| lk_rf
  | 2 => lk_rtz hQ
  | _ + 3 => fun _ _ _ _ q => q.elim
set_option maxRecDepth 100000 in
theorem mb_X7_isFigure : MB pb_X7_isFigure := fun J C Q Q' hC hQ t => match t with
  | 0 => lk_ldi <| lk_cst <| lk_icm <| lk_ldi <| lk_cst <| lk_icm <| lk_cst <| lk_rf
  | 1 => lk_cst <| lk_rf
  | 2 => lk_rtz hQ
  | _ + 3 => fun _ _ _ _ q => q.elim
set_option maxRecDepth 100000 in
theorem mb_X7_wordFrom : MB pb_X7_wordFrom := fun J C Q Q' hC hQ t => match t with
  | 0 => lk_cst <| lk_stl <| lk_cst <| lk_sti <| lk_rf
  | 1 => lk_ldi <| lk_ldi <| lk_icm <| lk_ldi <| lk_cst <| lk_icm <| lk_ldl <| lk_cst <| lk_ls <| lk_lda <| lk_get <| lk_ldi <| lk_ldi <| lk_ii <| lk_ald <| lk_i2l <| lk_ll <| lk_stl <| lk_inc <| lk_rf
  | 2 => lk_ldi <| lk_cst <| lk_icm <| lk_ldl <| lk_cst <| lk_cmp <| lk_ifc <| lk_ldl <| lk_cst <| lk_cmp <| lk_ifc <| lk_cst <| lk_ldl <| lk_cst <| lk_ll <| lk_l2i <| lk_ii <| lk_rf
  | 3 => lk_cst <| lk_rf
  | 4 => lk_ret hQ
  | 5 => lk_ldl <| lk_cst <| lk_cmp <| lk_ifc <| lk_cst <| lk_rf
  | 6 => lk_ldl <| lk_cst <| lk_cmp <| lk_ifc <| lk_cst <| lk_rf
  | 7 => lk_ldl <| lk_cst <| lk_cmp <| lk_ifc <| lk_cst <| lk_rf
  | 8 => lk_ldl <| lk_cst <| lk_cmp <| lk_ifc <| lk_cst <| lk_rf
  | 9 => lk_ldl <| lk_cst <| lk_cmp <| lk_ifc <| lk_cst <| lk_rf
  | 10 => lk_cst <| lk_rf
  | 11 => lk_ret hQ
  | _ + 12 => fun _ _ _ _ q => q.elim
set_option maxRecDepth 100000 in
theorem mb_X7_next : MB pb_X7_next := fun J C Q Q' hC hQ t => match t with
  | 0 => lk_lda <| lk_get <| lk_lda <| lk_get <| lk_icm <| lk_lda <| lk_get <| lk_lda <| lk_get <| lk_ald <| lk_cst <| lk_icm <| lk_lda <| lk_dup <| lk_get <| lk_cst <| lk_ii <| lk_put <| lk_rf
  | 1 => lk_lda <| lk_lda <| lk_get <| lk_put <| lk_lda <| lk_get <| lk_lda <| lk_get <| lk_icm <| lk_lda <| lk_cst <| lk_put <| lk_rtv hQ
  | 2 => lk_lda <| lk_get <| lk_lda <| lk_get <| lk_ald <| lk_sti <| lk_lda <| lk_get <| lk_sti <| lk_lda <| lk_dup <| lk_get <| lk_cst <| lk_ii <| lk_put <| lk_ldi <| lk_cas hC <| lk_ifc <| lk_rf
  | 3 => lk_lda <| lk_get <| lk_lda <| lk_get <| lk_icm <| lk_lda <| lk_get <| lk_lda <| lk_get <| lk_ald <| lk_cas hC <| lk_ifc <| lk_lda <| lk_dup <| lk_get <| lk_cst <| lk_ii <| lk_put <| lk_rf
  | 4 => lk_lda <| lk_lda <| lk_ldi <| lk_lda <| lk_get <| lk_ldi <| lk_ii <| lk_cav hC <| lk_put <| lk_rf
  | 5 => lk_ldi <| lk_cas hC <| lk_ifc <| lk_ldi <| lk_cst <| lk_ii <| lk_sti <| lk_rf
  | 6 => lk_lda <| lk_get <| lk_lda <| lk_get <| lk_icm <| lk_lda <| lk_get <| lk_lda <| lk_get <| lk_ald <| lk_cas hC <| lk_ifc <| lk_lda <| lk_get <| lk_ldi <| lk_ii <| lk_cst <| lk_icm <| lk_cst <| lk_ldi <| lk_ii <| lk_lda <| lk_get <| lk_lda <| lk_get <| lk_ald <| lk_ii <| lk_cst <| lk_ii <| lk_rf
  | 7 => lk_ldi <| lk_rf
  | 8 => lk_sti <| lk_lda <| lk_dup <| lk_get <| lk_cst <| lk_ii <| lk_put <| lk_rf
  | 9 => lk_lda <| lk_lda <| lk_get <| lk_ldi <| lk_ii <| lk_cst <| lk_icm <| lk_cst <| lk_rf
  | 10 => lk_ldi <| lk_rf
  | 11 => lk_put <| lk_rf
  | 12 => lk_ldi <| lk_cst <| lk_icm <| lk_ldi <| lk_cst <| lk_icm <| lk_ldi <| lk_cst <| lk_icm <| lk_ldi <| lk_cst <| lk_icm <| lk_ldi <| lk_cst <| lk_icm <| lk_ldi <| lk_cst <| lk_icm <| lk_ldi <| lk_cst <| lk_icm <| lk_ldi <| lk_cst <| lk_icm <| lk_ldi <| lk_cst <| lk_icm <| lk_rf
  | 13 => lk_cst <| lk_rf
  | 14 => lk_cst <| lk_rf
  | 15 => lk_sti <| lk_lda <| lk_ldi <| lk_ifc <| lk_cst <| lk_ldi <| lk_ii <| lk_rf
  | 16 => lk_cst <| lk_rf
  | 17 => lk_put <| lk_rf
  | 18 => lk_rtv hQ
  | _ + 19 => fun _ _ _ _ q => q.elim
set_option maxRecDepth 100000 in
theorem mb_X7_fail : MB pb_X7_fail := fun J C Q Q' hC hQ t => match t with
  | 0 => lk_lda <| lk_get <| lk_ifc <| lk_lda <| lk_ldi <| lk_put <| lk_lda <| lk_lda <| lk_get <| lk_put <| lk_rf
  | 1 => lk_rtv hQ
  | _ + 2 => fun _ _ _ _ q => q.elim
set_option maxRecDepth 100000 in
theorem mb_X7_odd : MB pb_X7_odd := fun J C Q Q' hC hQ t => match t with
  | 0 => lk_lda <| lk_lda <| lk_get <| lk_cst <| lk_icm <| lk_cst <| lk_rf
  | 1 => lk_cst <| lk_rf
  | 2 => lk_cav hC <| lk_rtv hQ
  | _ + 3 => fun _ _ _ _ q => q.elim
set_option maxRecDepth 100000 in
theorem mb_X7_take : MB pb_X7_take := fun J C Q Q' hC hQ t => match t with
  | 0 => lk_lda <| lk_dup <| lk_get <| lk_cst <| lk_ii <| lk_put <| lk_lda <| lk_get <| lk_cst <| lk_icm <| lk_lda <| lk_cst <| lk_cav hC <| lk_rf
  | 1 => lk_lda <| lk_get <| lk_ifc <| lk_lda <| lk_cav hC <| lk_rf
  | 2 => lk_rtv hQ
  | _ + 3 => fun _ _ _ _ q => q.elim
set_option maxRecDepth 100000 in
theorem mb_X7_isSign : MB pb_X7_isSign := fun J C Q Q' hC hQ t => match t with
  | 0 => lk_lda <| lk_get <| lk_ifc <| lk_lda <| lk_get <| lk_cst <| lk_ldi <| lk_ii <| lk_icm <| lk_cst <| lk_rf
  | 1 => lk_cst <| lk_rf
  | 2 => lk_rtz hQ
  | _ + 3 => fun _ _ _ _ q => q.elim
set_option maxRecDepth 100000 in
theorem mb_X7_put : MB pb_X7_put := fun J C Q Q' hC hQ t => match t with
  | 0 => lk_lda <| lk_get <| lk_ifc <| lk_lda <| lk_get <| lk_cst <| lk_lda <| lk_get <| lk_ii <| lk_ldi <| lk_ast <| lk_lda <| lk_dup <| lk_get <| lk_cst <| lk_ii <| lk_put <| lk_rf
  | 1 => lk_rtv hQ
  | _ + 2 => fun _ _ _ _ q => q.elim
set_option maxRecDepth 100000 in
theorem mb_X7_opens : MB pb_X7_opens := fun J C Q Q' hC hQ t => match t with
  | 0 => lk_lda <| lk_get <| lk_cst <| lk_icm <| lk_lda <| lk_cst <| lk_cav hC <| lk_rf
  | 1 => lk_lda <| lk_dup <| lk_get <| lk_cst <| lk_ii <| lk_put <| lk_rtv hQ
  | _ + 2 => fun _ _ _ _ q => q.elim
set_option maxRecDepth 100000 in
theorem mb_X7_any : MB pb_X7_any := fun J C Q Q' hC hQ t => match t with
  | 0 => lk_lda <| lk_cav hC <| lk_rf
  | 1 => lk_lda <| lk_get <| lk_ifc <| lk_lda <| lk_get <| lk_cst <| lk_icm <| lk_lda <| lk_cav hC <| lk_lda <| lk_cav hC <| lk_lda <| lk_cst <| lk_cav hC <| lk_rf
  | 2 => lk_rtv hQ
  | _ + 3 => fun _ _ _ _ q => q.elim
set_option maxRecDepth 100000 in
theorem mb_X7_all : MB pb_X7_all := fun J C Q Q' hC hQ t => match t with
  | 0 => lk_lda <| lk_cav hC <| lk_rf
  | 1 => lk_lda <| lk_get <| lk_ifc <| lk_lda <| lk_get <| lk_cst <| lk_icm <| lk_lda <| lk_cav hC <| lk_lda <| lk_cav hC <| lk_lda <| lk_cst <| lk_cav hC <| lk_rf
  | 2 => lk_rtv hQ
  | _ + 3 => fun _ _ _ _ q => q.elim
set_option maxRecDepth 100000 in
theorem mb_X7_one : MB pb_X7_one := fun J C Q Q' hC hQ t => match t with
  | 0 => lk_lda <| lk_get <| lk_ifc <| lk_rtv hQ
  | 1 => lk_lda <| lk_get <| lk_cst <| lk_icm <| lk_lda <| lk_cav hC <| lk_lda <| lk_cav hC <| lk_lda <| lk_cav hC <| lk_lda <| lk_cst <| lk_cav hC <| lk_lda <| lk_dup <| lk_get <| lk_cst <| lk_ii <| lk_put <| lk_rf
  | 2 => lk_lda <| lk_get <| lk_cst <| lk_icm <| lk_lda <| lk_get <| lk_cst <| lk_icm <| lk_rf
  | 3 => lk_lda <| lk_get <| lk_sti <| lk_lda <| lk_cav hC <| lk_lda <| lk_ldi <| lk_cav hC <| lk_rf
  | 4 => lk_lda <| lk_cst <| lk_cav hC <| lk_ifc <| lk_lda <| lk_cav hC <| lk_lda <| lk_cav hC <| lk_lda <| lk_cav hC <| lk_lda <| lk_cst <| lk_cav hC <| lk_ifc <| lk_lda <| lk_cav hC <| lk_rf
  | 5 => lk_lda <| lk_get <| lk_ifc <| lk_lda <| lk_cav hC <| lk_rf
  | 6 => lk_lda <| lk_dup <| lk_get <| lk_cst <| lk_ii <| lk_put <| lk_rf
  | 7 => lk_lda <| lk_cav hC <| lk_lda <| lk_get <| lk_sti <| lk_lda <| lk_cst <| lk_cav hC <| lk_ifc <| lk_lda <| lk_cst <| lk_cav hC <| lk_ifc <| lk_lda <| lk_cst <| lk_cav hC <| lk_ifc <| lk_rf
  | 8 => lk_lda <| lk_cav hC <| lk_lda <| lk_cav hC <| lk_lda <| lk_ldi <| lk_cav hC <| lk_rf
  | 9 => lk_lda <| lk_get <| lk_ifc <| lk_lda <| lk_cav hC <| lk_rf
  | 10 => lk_rtv hQ
  | _ + 11 => fun _ _ _ _ q => q.elim
set_option maxRecDepth 100000 in
theorem mb_X7_sum : MB pb_X7_sum := fun J C Q Q' hC hQ t => match t with
  | 0 => lk_lda <| lk_cav hC <| lk_rf
  | 1 => lk_lda <| lk_cst <| lk_cav hC <| lk_ifc <| lk_lda <| lk_cst <| lk_cav hC <| lk_ifc <| lk_rf
  | 2 => lk_lda <| lk_get <| lk_sti <| lk_lda <| lk_cav hC <| lk_lda <| lk_cav hC <| lk_lda <| lk_ldi <| lk_cav hC <| lk_rf
  | 3 => lk_rtv hQ
  | _ + 4 => fun _ _ _ _ q => q.elim
set_option maxRecDepth 100000 in
theorem mb_X7_times : MB pb_X7_times := fun J C Q Q' hC hQ t => match t with
  | 0 => lk_lda <| lk_cav hC <| lk_rf
  | 1 => lk_lda <| lk_cst <| lk_cav hC <| lk_ifc <| lk_lda <| lk_cst <| lk_cav hC <| lk_ifc <| lk_rf
  | 2 => lk_lda <| lk_get <| lk_sti <| lk_lda <| lk_cav hC <| lk_lda <| lk_cav hC <| lk_lda <| lk_ldi <| lk_cav hC <| lk_rf
  | 3 => lk_rtv hQ
  | _ + 4 => fun _ _ _ _ q => q.elim
set_option maxRecDepth 100000 in
theorem mb_X7_leaf : MB pb_X7_leaf := fun J C Q Q' hC hQ t => match t with
  | 0 => lk_cst <| lk_sti <| lk_rf
  | 1 => lk_lda <| lk_cst <| lk_cav hC <| lk_ifc <| lk_inc <| lk_lda <| lk_cav hC <| lk_rf
  | 2 => lk_lda <| lk_get <| lk_ifc <| lk_rtv hQ
  | 3 => lk_lda <| lk_get <| lk_ifc <| lk_lda <| lk_get <| lk_cst <| lk_icm <| lk_lda <| lk_get <| lk_cst <| lk_icm <| lk_rf
  | 4 => lk_lda <| lk_get <| lk_sti <| lk_lda <| lk_cav hC <| lk_lda <| lk_ldi <| lk_cav hC <| lk_cst <| lk_sti <| lk_rf
  | 5 => lk_ldi <| lk_ldi <| lk_icm <| lk_lda <| lk_cst <| lk_cav hC <| lk_inc <| lk_rf
  | 6 => lk_rf
  | 7 => lk_lda <| lk_cav hC <| lk_rf
  | 8 => lk_rtv hQ
  | _ + 9 => fun _ _ _ _ q => q.elim
set_option maxRecDepth 100000 in
theorem mb_X7_reads : MB pb_X7_reads := fun J C Q Q' hC hQ t => match t with
  | 0 => lk_lda <| lk_cst <| lk_put <| lk_lda <| lk_cst <| lk_put <| lk_lda <| lk_cst <| lk_put <| lk_lda <| lk_cst <| lk_put <| lk_lda <| lk_cst <| lk_put <| lk_lda <| lk_cav hC <| lk_lda <| lk_cav hC <| lk_lda <| lk_get <| lk_ifc <| lk_lda <| lk_get <| lk_cst <| lk_icm <| lk_lda <| lk_cav hC <| lk_rf
  | 1 => lk_lda <| lk_cst <| lk_put <| lk_lda <| lk_lda <| lk_get <| lk_ifc <| lk_cst <| lk_rf
  | 2 => lk_lda <| lk_get <| lk_rf
  | 3 => lk_put <| lk_lda <| lk_get <| lk_cst <| lk_lda <| lk_get <| lk_ast <| lk_lda <| lk_get <| lk_ifc <| lk_cst <| lk_rf
  | 4 => lk_cst <| lk_rf
  | 5 => lk_rtz hQ
  | _ + 6 => fun _ _ _ _ q => q.elim
set_option maxRecDepth 100000 in
theorem mb_X7_keep : MB pb_X7_keep := fun J C Q Q' hC hQ t => match t with
  | 0 => lk_cst <| lk_sti <| lk_rf
  | 1 => lk_ldi <| lk_lda <| lk_get <| lk_cst <| lk_ald <| lk_icm <| lk_lda <| lk_get <| lk_cst <| lk_ldi <| lk_ii <| lk_ldi <| lk_ii <| lk_lda <| lk_get <| lk_cst <| lk_ldi <| lk_ii <| lk_ald <| lk_ast <| lk_inc <| lk_rf
  | 2 => lk_lda <| lk_get <| lk_ldi <| lk_lda <| lk_get <| lk_cst <| lk_ald <| lk_ast <| lk_rtv hQ
  | _ + 3 => fun _ _ _ _ q => q.elim
set_option maxRecDepth 100000 in
theorem mb_X7_place : MB pb_X7_place := fun J C Q Q' hC hQ t => match t with
  | 0 => lk_lda <| lk_cst <| lk_put <| lk_lda <| lk_get <| lk_ret hQ
  | _ + 1 => fun _ _ _ _ q => q.elim
set_option maxRecDepth 100000 in
theorem mb_X7_what : MB pb_X7_what := fun J C Q Q' hC hQ t => match t with
  | 0 => lk_cst <| lk_sti <| lk_cst <| lk_sti <| lk_rf
  | 1 => lk_ldi <| lk_lda <| lk_get <| lk_ldi <| lk_ald <| lk_icm <| lk_lda <| lk_get <| lk_cst <| lk_ldi <| lk_ii <| lk_ldi <| lk_ii <| lk_ald <| lk_sti <| lk_ldi <| lk_ifc <| lk_ldi <| lk_cst <| lk_icm <| lk_ldi <| lk_cst <| lk_icm <| lk_rf
  | 2 => lk_lda <| lk_get <| lk_ldi <| lk_ldi <| lk_ifc <| lk_ldi <| lk_i2l <| lk_rf
  | 3 => lk_lda <| lk_get <| lk_cst <| lk_ldi <| lk_ii <| lk_cst <| lk_ii <| lk_ldi <| lk_ii <| lk_ald <| lk_i2l <| lk_rf
  | 4 => lk_lst <| lk_lda <| lk_get <| lk_ldi <| lk_cst <| lk_ast <| lk_inc <| lk_rf
  | 5 => lk_ldi <| lk_cst <| lk_icm <| lk_ldi <| lk_cst <| lk_icm <| lk_rf
  | 6 => lk_lda <| lk_get <| lk_ldi <| lk_ldi <| lk_cst <| lk_icm <| lk_cst <| lk_rf
  | 7 => lk_cst <| lk_rf
  | 8 => lk_lst <| lk_lda <| lk_get <| lk_ldi <| lk_cst <| lk_ast <| lk_inc <| lk_rf
  | 9 => lk_ldi <| lk_cst <| lk_icm <| lk_lda <| lk_get <| lk_ldi <| lk_cst <| lk_ii <| lk_lda <| lk_get <| lk_ldi <| lk_cst <| lk_ii <| lk_lld <| lk_l1 <| lk_lst <| lk_rf
  | 10 => lk_ldi <| lk_cst <| lk_icm <| lk_lda <| lk_get <| lk_ldi <| lk_cst <| lk_ii <| lk_cst <| lk_lda <| lk_get <| lk_ldi <| lk_cst <| lk_ii <| lk_lld <| lk_ll <| lk_lst <| lk_rf
  | 11 => lk_inc <| lk_lda <| lk_ldi <| lk_ldi <| lk_cst <| lk_ii <| lk_cav hC <| lk_rf
  | 12 => lk_inc <| lk_rf
  | 13 => lk_lda <| lk_get <| lk_cst <| lk_ald <| lk_ifc <| lk_cst <| lk_rf
  | 14 => lk_lda <| lk_get <| lk_cst <| lk_lld <| lk_l2i <| lk_rf
  | 15 => lk_ret hQ
  | _ + 16 => fun _ _ _ _ q => q.elim
set_option maxRecDepth 100000 in
theorem mb_X7_join : MB pb_X7_join := fun J C Q Q' hC hQ t => match t with
  | 0 => lk_lda <| lk_get <| lk_ldi <| lk_lld <| lk_stl <| lk_lda <| lk_get <| lk_ldi <| lk_cst <| lk_ii <| lk_lld <| lk_stl <| lk_lda <| lk_get <| lk_ldi <| lk_ald <| lk_ifc <| lk_lda <| lk_get <| lk_ldi <| lk_cst <| lk_ii <| lk_ald <| lk_ifc <| lk_rf
  | 1 => lk_cst <| lk_rf
  | 2 => lk_cst <| lk_rf
  | 3 => lk_sti <| lk_ldi <| lk_cst <| lk_icm <| lk_ldi <| lk_cst <| lk_icm <| lk_rf
  | 4 => lk_ldi <| lk_cst <| lk_icm <| lk_cst <| lk_rf
  | 5 => lk_cst <| lk_rf
  | 6 => lk_stl <| lk_lda <| lk_get <| lk_ldi <| lk_ald <| lk_ifc <| lk_ldl <| lk_ldl <| lk_cmp <| lk_ifc <| lk_rf
  | 7 => lk_lda <| lk_get <| lk_ldi <| lk_cst <| lk_ii <| lk_ald <| lk_ifc <| lk_ldl <| lk_ldl <| lk_cmp <| lk_ifc <| lk_rf
  | 8 => lk_cst <| lk_rf
  | 9 => lk_cst <| lk_rf
  | 10 => lk_sti <| lk_lda <| lk_get <| lk_ldi <| lk_ldi <| lk_ifc <| lk_ldl <| lk_rf
  | 11 => lk_cst <| lk_ldl <| lk_ll <| lk_rf
  | 12 => lk_lst <| lk_lda <| lk_get <| lk_ldi <| lk_ldi <| lk_ifc <| lk_ldi <| lk_ifc <| lk_cst <| lk_rf
  | 13 => lk_cst <| lk_rf
  | 14 => lk_ast <| lk_rtv hQ
  | 15 => lk_cst <| lk_ldi <| lk_ii <| lk_sti <| lk_lda <| lk_get <| lk_ldi <| lk_ldi <| lk_ifc <| lk_ldi <| lk_cst <| lk_icm <| lk_ldl <| lk_cst <| lk_cmp <| lk_ifc <| lk_rf
  | 16 => lk_cst <| lk_rf
  | 17 => lk_cst <| lk_rf
  | 18 => lk_ast <| lk_lda <| lk_get <| lk_ldi <| lk_ald <| lk_ifc <| lk_lda <| lk_get <| lk_ldi <| lk_cst <| lk_lst <| lk_rf
  | 19 => lk_lda <| lk_get <| lk_ldi <| lk_ldi <| lk_cst <| lk_icm <| lk_ldl <| lk_ldl <| lk_ll <| lk_rf
  | 20 => lk_ldi <| lk_cst <| lk_icm <| lk_ldl <| lk_ldl <| lk_ll <| lk_rf
  | 21 => lk_ldi <| lk_cst <| lk_icm <| lk_ldl <| lk_ldl <| lk_ll <| lk_rf
  | 22 => lk_ldi <| lk_cst <| lk_icm <| lk_ldl <| lk_ldl <| lk_ld <| lk_rf
  | 23 => lk_ldi <| lk_cst <| lk_icm <| lk_ldl <| lk_ldl <| lk_cmp <| lk_ifc <| lk_cst <| lk_rf
  | 24 => lk_cst <| lk_rf
  | 25 => lk_ldi <| lk_cst <| lk_icm <| lk_ldl <| lk_ldl <| lk_cmp <| lk_ifc <| lk_cst <| lk_rf
  | 26 => lk_cst <| lk_rf
  | 27 => lk_ldl <| lk_ldl <| lk_cmp <| lk_ifc <| lk_cst <| lk_rf
  | 28 => lk_cst <| lk_rf
  | 29 => lk_lst <| lk_rf
  | 30 => lk_rtv hQ
  | _ + 31 => fun _ _ _ _ q => q.elim
set_option maxRecDepth 100000 in
theorem mb_X7_isSeen : MB pb_X7_isSeen := fun J C Q Q' hC hQ t => match t with
  | 0 => lk_lda <| lk_cst <| lk_ldi <| lk_ii <| lk_ldi <| lk_cav hC <| lk_cst <| lk_icm <| lk_cst <| lk_rf
  | 1 => lk_cst <| lk_rf
  | 2 => lk_rtz hQ
  | _ + 3 => fun _ _ _ _ q => q.elim
set_option maxRecDepth 100000 in
theorem mb_X7_isClosed : MB pb_X7_isClosed := fun J C Q Q' hC hQ t => match t with
  | 0 => lk_lda <| lk_get <| lk_ldi <| lk_ald <| lk_ldi <| lk_ii <| lk_cst <| lk_ii <| lk_cst <| lk_icm <| lk_cst <| lk_rf
  | 1 => lk_cst <| lk_rf
  | 2 => lk_rtz hQ
  | _ + 3 => fun _ _ _ _ q => q.elim
set_option maxRecDepth 100000 in
theorem mb_X7_isHidden : MB pb_X7_isHidden := fun J C Q Q' hC hQ t => match t with
  | 0 => lk_lda <| lk_ldi <| lk_ldi <| lk_cav hC <| lk_ifc <| lk_lda <| lk_ldi <| lk_ldi <| lk_cav hC <| lk_ifc <| lk_rf
  | 1 => lk_cst <| lk_rf
  | 2 => lk_cst <| lk_rf
  | 3 => lk_rtz hQ
  | _ + 4 => fun _ _ _ _ q => q.elim
set_option maxRecDepth 100000 in
theorem mb_X7_isBarred : MB pb_X7_isBarred := fun J C Q Q' hC hQ t => match t with
  | 0 => lk_cst <| lk_sti <| lk_rf
  | 1 => lk_ldi <| lk_lda <| lk_get <| lk_ldi <| lk_ald <| lk_icm <| lk_lda <| lk_get <| lk_cst <| lk_ldi <| lk_ii <| lk_ldi <| lk_ii <| lk_ald <| lk_sti <| lk_ldi <| lk_cst <| lk_icm <| lk_ldi <| lk_cst <| lk_icm <| lk_lda <| lk_ldi <| lk_cst <| lk_ldi <| lk_ii <| lk_cav hC <| lk_ifc <| lk_cst <| lk_rtz hQ
  | 2 => lk_inc <| lk_rf
  | 3 => lk_cst <| lk_rtz hQ
  | _ + 4 => fun _ _ _ _ q => q.elim
set_option maxRecDepth 100000 in
theorem mb_X7_matches : MB pb_X7_matches := fun J C Q Q' hC hQ t => match t with
  | 0 => lk_lda <| lk_ldi <| lk_ldi <| lk_cav hC <| lk_ifc <| lk_lda <| lk_ldi <| lk_ldi <| lk_cav hC <| lk_cst <| lk_icm <| lk_cst <| lk_rf
  | 1 => lk_cst <| lk_rf
  | 2 => lk_rtz hQ
  | _ + 3 => fun _ _ _ _ q => q.elim
set_option maxRecDepth 100000 in
theorem mb_X7_count : MB pb_X7_count := fun J C Q Q' hC hQ t => match t with
  | 0 => lk_cst <| lk_sti <| lk_cst <| lk_sti <| lk_rf
  | 1 => lk_ldi <| lk_lda <| lk_get <| lk_icm <| lk_lda <| lk_cst <| lk_ldi <| lk_ii <| lk_ldi <| lk_cav hC <| lk_sti <| lk_ldi <| lk_ldi <| lk_ifc <| lk_ldi <| lk_cst <| lk_icm <| lk_cst <| lk_rf
  | 2 => lk_cst <| lk_rf
  | 3 => lk_ldi <| lk_cst <| lk_icm <| lk_ldi <| lk_cst <| lk_icm <| lk_cst <| lk_rf
  | 4 => lk_cst <| lk_rf
  | 5 => lk_ldi <| lk_cst <| lk_icm <| lk_cst <| lk_rf
  | 6 => lk_cst <| lk_rf
  | 7 => lk_ii <| lk_sti <| lk_inc <| lk_rf
  | 8 => lk_ldi <| lk_ret hQ
  | _ + 9 => fun _ _ _ _ q => q.elim
set_option maxRecDepth 100000 in
theorem mb_X7_rule : MB pb_X7_rule := fun J C Q Q' hC hQ t => match t with
  | 0 => lk_lda <| lk_cst <| lk_put <| lk_lda <| lk_ldi <| lk_cav hC <| lk_ifc <| lk_cst <| lk_ret hQ
  | 1 => lk_lda <| lk_cav hC <| lk_ifc <| lk_cst <| lk_lda <| lk_get <| lk_ii <| lk_ret hQ
  | 2 => lk_lda <| lk_cst <| lk_ldi <| lk_ii <| lk_cav hC <| lk_lda <| lk_ldi <| lk_cst <| lk_cav hC <| lk_ret hQ
  | _ + 3 => fun _ _ _ _ q => q.elim
set_option maxRecDepth 100000 in
theorem mb_X7_close : MB pb_X7_close := fun J C Q Q' hC hQ t => match t with
  | 0 => lk_lda <| lk_cst <| lk_put <| lk_lda <| lk_ldi <| lk_cav hC <| lk_ifc <| lk_cst <| lk_ret hQ
  | 1 => lk_ldi <| lk_ifc <| lk_ldi <| lk_cst <| lk_icm <| lk_rf
  | 2 => lk_cst <| lk_ret hQ
  | 3 => lk_lda <| lk_get <| lk_ldi <| lk_ald <| lk_sti <| lk_lda <| lk_get <| lk_ldi <| lk_ldi <| lk_ast <| lk_ldi <| lk_ret hQ
  | _ + 4 => fun _ _ _ _ q => q.elim
set_option maxRecDepth 100000 in
theorem mb_X7_seen : MB pb_X7_seen := fun J C Q Q' hC hQ t => match t with
  | 0 => lk_lda <| lk_cst <| lk_put <| lk_lda <| lk_ldi <| lk_cav hC <| lk_ifc <| lk_cst <| lk_ret hQ
  | 1 => lk_ldi <| lk_ifc <| lk_ldi <| lk_cst <| lk_icm <| lk_rf
  | 2 => lk_cst <| lk_rf
  | 3 => lk_lda <| lk_ldi <| lk_ldi <| lk_cav hC <| lk_rf
  | 4 => lk_ret hQ
  | _ + 5 => fun _ _ _ _ q => q.elim
set_option maxRecDepth 100000 in
theorem mb_X7_note : MB pb_X7_note := fun J C Q Q' hC hQ t => match t with
  | 0 => lk_lda <| lk_get <| lk_cst <| lk_lda <| lk_get <| lk_ii <| lk_ldi <| lk_ast <| lk_lda <| lk_get <| lk_cst <| lk_lda <| lk_get <| lk_ii <| lk_cst <| lk_ii <| lk_ldi <| lk_ast <| lk_lda <| lk_get <| lk_cst <| lk_lda <| lk_get <| lk_ii <| lk_cst <| lk_ii <| lk_ldi <| lk_ast <| lk_lda <| lk_get <| lk_cst <| lk_lda <| lk_get <| lk_ii <| lk_cst <| lk_ii <| lk_ldi <| lk_ast <| lk_lda <| lk_get <| lk_cst <| lk_lda <| lk_get <| lk_ii <| lk_cst <| lk_ii <| lk_ldi <| lk_ast <| lk_lda <| lk_dup <| lk_get <| lk_cst <| lk_ii <| lk_put <| lk_rtv hQ
  | _ + 1 => fun _ _ _ _ q => q.elim
set_option maxRecDepth 100000 in
theorem mb_X7_query : MB pb_X7_query := fun J C Q Q' hC hQ t => match t with
  | 0 => lk_lda <| lk_cav hC <| lk_ifc <| lk_lda <| lk_ldi <| lk_ldi <| lk_cst <| lk_cst <| lk_cst <| lk_cav hC <| lk_cst <| lk_lda <| lk_get <| lk_ii <| lk_ret hQ
  | 1 => lk_lda <| lk_ldi <| lk_cst <| lk_cav hC <| lk_ifc <| lk_lda <| lk_ldi <| lk_ldi <| lk_cst <| lk_cst <| lk_cst <| lk_cav hC <| lk_cst <| lk_ret hQ
  | 2 => lk_lda <| lk_ldi <| lk_ldi <| lk_cst <| lk_cst <| lk_cst <| lk_cav hC <| lk_cst <| lk_ret hQ
  | _ + 3 => fun _ _ _ _ q => q.elim
set_option maxRecDepth 100000 in
theorem mb_X7_ask : MB pb_X7_ask := fun J C Q Q' hC hQ t => match t with
  | 0 => lk_lda <| lk_cst <| lk_put <| lk_lda <| lk_ldi <| lk_cav hC <| lk_ifc <| lk_cst <| lk_ret hQ
  | 1 => lk_lda <| lk_get <| lk_cst <| lk_icm <| lk_cst <| lk_ret hQ
  | 2 => lk_lda <| lk_ldi <| lk_cst <| lk_cav hC <| lk_sti <| lk_ldi <| lk_ifc <| lk_ldi <| lk_ret hQ
  | 3 => lk_lda <| lk_cst <| lk_put <| lk_cst <| lk_sti <| lk_rf
  | 4 => lk_ldi <| lk_lda <| lk_get <| lk_icm <| lk_lda <| lk_ldi <| lk_cst <| lk_ldi <| lk_cav hC <| lk_ifc <| lk_lda <| lk_get <| lk_lda <| lk_get <| lk_ldi <| lk_ast <| lk_lda <| lk_dup <| lk_get <| lk_cst <| lk_ii <| lk_put <| lk_rf
  | 5 => lk_inc <| lk_rf
  | 6 => lk_lda <| lk_get <| lk_ret hQ
  | _ + 7 => fun _ _ _ _ q => q.elim
set_option maxRecDepth 100000 in
theorem mb_X7_found : MB pb_X7_found := fun J C Q Q' hC hQ t => match t with
  | 0 => lk_lda <| lk_cst <| lk_put <| lk_ldi <| lk_ifc <| lk_ldi <| lk_lda <| lk_get <| lk_icm <| lk_rf
  | 1 => lk_cst <| lk_rf
  | 2 => lk_lda <| lk_get <| lk_ldi <| lk_ald <| lk_rf
  | 3 => lk_ret hQ
  | _ + 4 => fun _ _ _ _ q => q.elim
set_option maxRecDepth 100000 in
theorem mb_X7_cell : MB pb_X7_cell := fun J C Q Q' hC hQ t => match t with
  | 0 => lk_lda <| lk_cst <| lk_put <| lk_lda <| lk_ldi <| lk_cav hC <| lk_ifc <| lk_ldi <| lk_cas hC <| lk_ifc <| lk_rf
  | 1 => lk_cst <| lk_ret hQ
  | 2 => lk_ldi <| lk_ldi <| lk_icm <| lk_cst <| lk_ret hQ
  | 3 => lk_lda <| lk_get <| lk_cst <| lk_icm <| lk_cst <| lk_ret hQ
  | 4 => lk_lda <| lk_ldi <| lk_ldi <| lk_cav hC <| lk_ifc <| lk_lda <| lk_ldi <| lk_cst <| lk_ldi <| lk_ldi <| lk_cst <| lk_cav hC <| lk_cst <| lk_ret hQ
  | 5 => lk_cst <| lk_sti <| lk_cst <| lk_sti <| lk_rf
  | 6 => lk_ldi <| lk_lda <| lk_get <| lk_icm <| lk_lda <| lk_get <| lk_cst <| lk_ldi <| lk_ii <| lk_ldi <| lk_ii <| lk_ald <| lk_sti <| lk_ldi <| lk_ldi <| lk_ldi <| lk_icm <| lk_ldi <| lk_ldi <| lk_icm <| lk_lda <| lk_ldi <| lk_ldi <| lk_cav hC <| lk_ifc <| lk_cst <| lk_rf
  | 7 => lk_cst <| lk_rf
  | 8 => lk_ii <| lk_sti <| lk_inc <| lk_rf
  | 9 => lk_lda <| lk_ldi <| lk_cst <| lk_ldi <| lk_ldi <| lk_cst <| lk_cav hC <| lk_ldi <| lk_ret hQ
  | _ + 10 => fun _ _ _ _ q => q.elim
set_option maxRecDepth 100000 in
theorem mb_X7_cursor : MB pb_X7_cursor := fun J C Q Q' hC hQ t => match t with
  | 0 => lk_lda <| lk_cst <| lk_put <| lk_lda <| lk_ldi <| lk_cav hC <| lk_ifc <| lk_cst <| lk_ret hQ
  | 1 => lk_lda <| lk_get <| lk_cst <| lk_icm <| lk_cst <| lk_ret hQ
  | 2 => lk_lda <| lk_ldi <| lk_cst <| lk_cav hC <| lk_sti <| lk_ldi <| lk_ifc <| lk_ldi <| lk_ret hQ
  | 3 => lk_lda <| lk_cst <| lk_ldi <| lk_ii <| lk_cst <| lk_ii <| lk_cav hC <| lk_lda <| lk_get <| lk_ldi <| lk_cst <| lk_ast <| lk_lda <| lk_get <| lk_ldi <| lk_cst <| lk_ast <| lk_cst <| lk_ret hQ
  | _ + 4 => fun _ _ _ _ q => q.elim
set_option maxRecDepth 100000 in
theorem mb_X7_step : MB pb_X7_step := fun J C Q Q' hC hQ t => match t with
  | 0 => lk_lda <| lk_cst <| lk_put <| lk_lda <| lk_ldi <| lk_cav hC <| lk_ifc <| lk_cst <| lk_ret hQ
  | 1 => lk_lda <| lk_get <| lk_ldi <| lk_ald <| lk_ifc <| lk_cst <| lk_ret hQ
  | 2 => lk_lda <| lk_get <| lk_cst <| lk_icm <| lk_cst <| lk_ret hQ
  | 3 => lk_lda <| lk_ldi <| lk_cst <| lk_ldi <| lk_ii <| lk_cst <| lk_ii <| lk_cav hC <| lk_ifc <| lk_lda <| lk_ldi <| lk_cst <| lk_cst <| lk_cst <| lk_cst <| lk_cav hC <| lk_cst <| lk_ret hQ
  | 4 => lk_lda <| lk_ldi <| lk_cst <| lk_cst <| lk_cst <| lk_cst <| lk_cav hC <| lk_lda <| lk_get <| lk_ldi <| lk_ald <| lk_sti <| lk_rf
  | 5 => lk_ldi <| lk_lda <| lk_get <| lk_icm <| lk_lda <| lk_ldi <| lk_cst <| lk_ldi <| lk_ii <| lk_cst <| lk_ii <| lk_ldi <| lk_cav hC <| lk_ifc <| lk_lda <| lk_get <| lk_ldi <| lk_ldi <| lk_cst <| lk_ii <| lk_ast <| lk_ldi <| lk_ret hQ
  | 6 => lk_inc <| lk_rf
  | 7 => lk_lda <| lk_get <| lk_ldi <| lk_lda <| lk_get <| lk_ast <| lk_cst <| lk_ret hQ
  | _ + 8 => fun _ _ _ _ q => q.elim
set_option maxRecDepth 100000 in
theorem mb_X7_divisor : MB pb_X7_divisor := fun J C Q Q' hC hQ t => match t with
  | 0 => lk_ldl <| lk_cst <| lk_cmp <| lk_ifc <| lk_ldl <| lk_l1 <| lk_rf
  | 1 => lk_ldl <| lk_rf
  | 2 => lk_stl <| lk_ldl <| lk_cst <| lk_cmp <| lk_ifc <| lk_ldl <| lk_l1 <| lk_rf
  | 3 => lk_ldl <| lk_rf
  | 4 => lk_stl <| lk_rf
  | 5 => lk_ldl <| lk_cst <| lk_cmp <| lk_ifc <| lk_ldl <| lk_ldl <| lk_ld <| lk_stl <| lk_ldl <| lk_stl <| lk_ldl <| lk_stl <| lk_rf
  | 6 => lk_ldl <| lk_rtl hQ
  | _ + 7 => fun _ _ _ _ q => q.elim
set_option maxRecDepth 100000 in
theorem mb_X7_mix : MB pb_X7_mix := fun J C Q Q' hC hQ t => match t with
  | 0 => lk_cst <| lk_stl <| lk_cst <| lk_sti <| lk_rf
  | 1 => lk_ldi <| lk_lda <| lk_get <| lk_icm <| lk_lda <| lk_get <| lk_cst <| lk_ldi <| lk_ii <| lk_ldi <| lk_ii <| lk_lda <| lk_get <| lk_cst <| lk_ldi <| lk_ii <| lk_ldi <| lk_ii <| lk_lld <| lk_ldl <| lk_ll <| lk_lda <| lk_get <| lk_cst <| lk_ldi <| lk_ii <| lk_ldi <| lk_ii <| lk_lld <| lk_ldl <| lk_ll <| lk_ll <| lk_lst <| lk_ldl <| lk_lda <| lk_get <| lk_cst <| lk_ldi <| lk_ii <| lk_ldi <| lk_ii <| lk_lld <| lk_cas hC <| lk_stl <| lk_inc <| lk_rf
  | 2 => lk_cst <| lk_sti <| lk_rf
  | 3 => lk_ldi <| lk_lda <| lk_get <| lk_icm <| lk_ldl <| lk_cst <| lk_cmp <| lk_ifc <| lk_lda <| lk_get <| lk_cst <| lk_ldi <| lk_ii <| lk_ldi <| lk_ii <| lk_dup2 <| lk_lld <| lk_ldl <| lk_ld <| lk_lst <| lk_inc <| lk_rf
  | 4 => lk_rtv hQ
  | _ + 5 => fun _ _ _ _ q => q.elim
set_option maxRecDepth 100000 in
theorem mb_X7_swap : MB pb_X7_swap := fun J C Q Q' hC hQ t => match t with
  | 0 => lk_cst <| lk_sti <| lk_rf
  | 1 => lk_ldi <| lk_lda <| lk_get <| lk_icm <| lk_lda <| lk_get <| lk_cst <| lk_ldi <| lk_ii <| lk_ldi <| lk_ii <| lk_lld <| lk_stl <| lk_lda <| lk_get <| lk_cst <| lk_ldi <| lk_ii <| lk_ldi <| lk_ii <| lk_lda <| lk_get <| lk_cst <| lk_ldi <| lk_ii <| lk_ldi <| lk_ii <| lk_lld <| lk_lst <| lk_lda <| lk_get <| lk_cst <| lk_ldi <| lk_ii <| lk_ldi <| lk_ii <| lk_ldl <| lk_lst <| lk_inc <| lk_rf
  | 2 => lk_rtv hQ
  | _ + 3 => fun _ _ _ _ q => q.elim
set_option maxRecDepth 100000 in
theorem mb_X7_reduce : MB pb_X7_reduce := fun J C Q Q' hC hQ t => match t with
  | 0 => lk_cst <| lk_sti <| lk_cst <| lk_sti <| lk_rf
  | 1 => lk_ldi <| lk_lda <| lk_get <| lk_icm <| lk_ldi <| lk_lda <| lk_get <| lk_icm <| lk_ldi <| lk_rf
  | 2 => lk_lda <| lk_get <| lk_ldi <| lk_ald <| lk_cst <| lk_ldi <| lk_ii <| lk_ldi <| lk_ii <| lk_icm <| lk_lda <| lk_get <| lk_ldi <| lk_ald <| lk_rf
  | 3 => lk_cst <| lk_rf
  | 4 => lk_sti <| lk_ldi <| lk_ifc <| lk_cst <| lk_sti <| lk_rf
  | 5 => lk_ldi <| lk_cst <| lk_icm <| lk_lda <| lk_get <| lk_cst <| lk_ldi <| lk_ii <| lk_ldi <| lk_ii <| lk_ldi <| lk_ldi <| lk_ii <| lk_cst <| lk_ii <| lk_i2l <| lk_lst <| lk_inc <| lk_rf
  | 6 => lk_inc <| lk_rf
  | 7 => lk_inc <| lk_rf
  | 8 => lk_lda <| lk_cst <| lk_put <| lk_cst <| lk_sti <| lk_rf
  | 9 => lk_ldi <| lk_lda <| lk_get <| lk_icm <| lk_lda <| lk_get <| lk_sti <| lk_rf
  | 10 => lk_ldi <| lk_ldi <| lk_icm <| lk_lda <| lk_get <| lk_cst <| lk_ldi <| lk_ii <| lk_ldi <| lk_ii <| lk_lld <| lk_cst <| lk_cmp <| lk_ifc <| lk_inc <| lk_rf
  | 11 => lk_ldi <| lk_ldi <| lk_icm <| lk_lda <| lk_lda <| lk_get <| lk_ldi <| lk_cav hC <| lk_cst <| lk_sti <| lk_rf
  | 12 => lk_ldi <| lk_ldi <| lk_icm <| lk_ldi <| lk_lda <| lk_get <| lk_icm <| lk_lda <| lk_get <| lk_cst <| lk_ldi <| lk_ii <| lk_ldi <| lk_ii <| lk_lld <| lk_cst <| lk_cmp <| lk_ifc <| lk_lda <| lk_ldi <| lk_lda <| lk_get <| lk_cst <| lk_lda <| lk_get <| lk_ii <| lk_ldi <| lk_ii <| lk_lld <| lk_lda <| lk_get <| lk_lda <| lk_get <| lk_cst <| lk_ldi <| lk_ii <| lk_ldi <| lk_ii <| lk_lld <| lk_cav hC <| lk_rf
  | 13 => lk_inc <| lk_rf
  | 14 => lk_lda <| lk_get <| lk_lda <| lk_get <| lk_ldi <| lk_ast <| lk_lda <| lk_dup <| lk_get <| lk_cst <| lk_ii <| lk_put <| lk_rf
  | 15 => lk_inc <| lk_rf
  | 16 => lk_rtv hQ
  | _ + 17 => fun _ _ _ _ q => q.elim
set_option maxRecDepth 100000 in
theorem mb_X7_rowOf : MB pb_X7_rowOf := fun J C Q Q' hC hQ t => match t with
  | 0 => lk_cst <| lk_sti <| lk_rf
  | 1 => lk_ldi <| lk_lda <| lk_get <| lk_icm <| lk_lda <| lk_get <| lk_ldi <| lk_ald <| lk_ldi <| lk_icm <| lk_ldi <| lk_ret hQ
  | 2 => lk_inc <| lk_rf
  | 3 => lk_cst <| lk_ret hQ
  | _ + 4 => fun _ _ _ _ q => q.elim
set_option maxRecDepth 100000 in
theorem mb_X7_isSolved : MB pb_X7_isSolved := fun J C Q Q' hC hQ t => match t with
  | 0 => lk_lda <| lk_ldi <| lk_cav hC <| lk_sti <| lk_ldi <| lk_cst <| lk_icm <| lk_cst <| lk_rtz hQ
  | 1 => lk_cst <| lk_sti <| lk_rf
  | 2 => lk_ldi <| lk_lda <| lk_get <| lk_icm <| lk_ldi <| lk_ldi <| lk_icm <| lk_lda <| lk_get <| lk_cst <| lk_ldi <| lk_ii <| lk_ldi <| lk_ii <| lk_lld <| lk_cst <| lk_cmp <| lk_ifc <| lk_cst <| lk_rtz hQ
  | 3 => lk_inc <| lk_rf
  | 4 => lk_cst <| lk_rtz hQ
  | _ + 5 => fun _ _ _ _ q => q.elim
set_option maxRecDepth 100000 in
theorem mb_X7_isKeptBack : MB pb_X7_isKeptBack := fun J C Q Q' hC hQ t => match t with
  | 0 => lk_cst <| lk_sti <| lk_lda <| lk_ldi <| lk_ldi <| lk_cst <| lk_cav hC <| lk_cst <| lk_sti <| lk_rf
  | 1 => lk_ldi <| lk_lda <| lk_get <| lk_icm <| lk_ldi <| lk_lda <| lk_ldi <| lk_cav hC <| lk_ifc <| lk_cst <| lk_ldi <| lk_ii <| lk_rf
  | 2 => lk_cst <| lk_rf
  | 3 => lk_ii <| lk_sti <| lk_inc <| lk_rf
  | 4 => lk_lda <| lk_ldi <| lk_ldi <| lk_ldi <| lk_cav hC <| lk_cst <| lk_sti <| lk_rf
  | 5 => lk_ldi <| lk_lda <| lk_get <| lk_icm <| lk_lda <| lk_ldi <| lk_ldi <| lk_ldi <| lk_cav hC <| lk_ifc <| lk_lda <| lk_ldi <| lk_cav hC <| lk_ifc <| lk_ldi <| lk_ldi <| lk_ii <| lk_cst <| lk_ii <| lk_ifc <| lk_cst <| lk_rtz hQ
  | 6 => lk_inc <| lk_rf
  | 7 => lk_cst <| lk_rtz hQ
  | _ + 8 => fun _ _ _ _ q => q.elim
set_option maxRecDepth 100000 in
theorem mb_X7_tell : MB pb_X7_tell := fun J C Q Q' hC hQ t => match t with
  | 0 => lk_lda <| lk_get <| lk_lda <| lk_get <| lk_cst <| lk_ldi <| lk_ii <| lk_ldi <| lk_ii <| lk_ast <| lk_lda <| lk_get <| lk_lda <| lk_get <| lk_ldi <| lk_ast <| lk_lda <| lk_dup <| lk_get <| lk_cst <| lk_ii <| lk_put <| lk_rtv hQ
  | _ + 1 => fun _ _ _ _ q => q.elim
set_option maxRecDepth 100000 in
theorem mb_X7_value : MB pb_X7_value := fun J C Q Q' hC hQ t => match t with
  | 0 => lk_lda <| lk_cst <| lk_put <| lk_lda <| lk_ldi <| lk_cav hC <| lk_ifc <| lk_lda <| lk_ldi <| lk_cav hC <| lk_ifc <| lk_ldi <| lk_cas hC <| lk_ifc <| lk_rf
  | 1 => lk_lda <| lk_cst <| lk_put <| lk_cst <| lk_ret hQ
  | 2 => lk_lda <| lk_get <| lk_cst <| lk_icm <| lk_lda <| lk_cst <| lk_put <| lk_cst <| lk_ret hQ
  | 3 => lk_lda <| lk_ldi <| lk_ldi <| lk_ldi <| lk_cav hC <| lk_ifc <| lk_lda <| lk_ldi <| lk_ldi <| lk_cst <| lk_ldi <| lk_ii <| lk_cav hC <| lk_ifc <| lk_rf
  | 4 => lk_lda <| lk_ldi <| lk_cst <| lk_ldi <| lk_ldi <| lk_cst <| lk_cav hC <| lk_lda <| lk_cst <| lk_put <| lk_cst <| lk_ret hQ
  | 5 => lk_lda <| lk_ldi <| lk_cst <| lk_ldi <| lk_ldi <| lk_cst <| lk_cav hC <| lk_lda <| lk_ldi <| lk_ldi <| lk_cst <| lk_ldi <| lk_ii <| lk_cav hC <| lk_lda <| lk_get <| lk_cst <| lk_ldi <| lk_ii <| lk_ldi <| lk_ii <| lk_ald <| lk_ret hQ
  | _ + 6 => fun _ _ _ _ q => q.elim
set_option maxRecDepth 100000 in
theorem mb_X7_sum_ : MB pb_X7_sum_ := fun J C Q Q' hC hQ t => match t with
  | 0 => lk_lda <| lk_cst <| lk_put <| lk_lda <| lk_ldi <| lk_cav hC <| lk_ifc <| lk_ldi <| lk_cas hC <| lk_ifc <| lk_lda <| lk_ldi <| lk_cav hC <| lk_ifc <| lk_rf
  | 1 => lk_lda <| lk_cst <| lk_put <| lk_cst <| lk_ret hQ
  | 2 => lk_lda <| lk_get <| lk_cst <| lk_icm <| lk_lda <| lk_cst <| lk_put <| lk_cst <| lk_ret hQ
  | 3 => lk_lda <| lk_ldi <| lk_ldi <| lk_ldi <| lk_cav hC <| lk_ifc <| lk_lda <| lk_ldi <| lk_cst <| lk_ldi <| lk_ldi <| lk_cst <| lk_cav hC <| lk_lda <| lk_cst <| lk_put <| lk_cst <| lk_ret hQ
  | 4 => lk_lda <| lk_ldi <| lk_cst <| lk_ldi <| lk_ldi <| lk_cst <| lk_cav hC <| lk_lda <| lk_ldi <| lk_ldi <| lk_ldi <| lk_cav hC <| lk_cst <| lk_sti <| lk_cst <| lk_sti <| lk_rf
  | 5 => lk_ldi <| lk_lda <| lk_get <| lk_icm <| lk_ldi <| lk_ldi <| lk_ldi <| lk_ii <| lk_cst <| lk_ii <| lk_cst <| lk_icm <| lk_lda <| lk_get <| lk_cst <| lk_ldi <| lk_ii <| lk_ldi <| lk_ii <| lk_ald <| lk_rf
  | 6 => lk_cst <| lk_rf
  | 7 => lk_ii <| lk_sti <| lk_inc <| lk_rf
  | 8 => lk_ldi <| lk_ret hQ
  | _ + 9 => fun _ _ _ _ q => q.elim
set_option maxRecDepth 100000 in
theorem mb_X7_solved : MB pb_X7_solved := fun J C Q Q' hC hQ t => match t with
  | 0 => lk_lda <| lk_cst <| lk_put <| lk_lda <| lk_ldi <| lk_cav hC <| lk_ifc <| lk_ldi <| lk_cas hC <| lk_ifc <| lk_lda <| lk_ldi <| lk_cav hC <| lk_ifc <| lk_rf
  | 1 => lk_cst <| lk_ret hQ
  | 2 => lk_lda <| lk_ldi <| lk_ldi <| lk_cst <| lk_cav hC <| lk_lda <| lk_ldi <| lk_cav hC <| lk_ifc <| lk_cst <| lk_rf
  | 3 => lk_cst <| lk_rf
  | 4 => lk_ret hQ
  | _ + 5 => fun _ _ _ _ q => q.elim
set_option maxRecDepth 100000 in
theorem mb_X7_would : MB pb_X7_would := fun J C Q Q' hC hQ t => match t with
  | 0 => lk_lda <| lk_cst <| lk_put <| lk_lda <| lk_ldi <| lk_cav hC <| lk_ifc <| lk_ldi <| lk_cas hC <| lk_ifc <| lk_lda <| lk_ldi <| lk_cav hC <| lk_ifc <| lk_rf
  | 1 => lk_cst <| lk_ret hQ
  | 2 => lk_lda <| lk_ldi <| lk_cav hC <| lk_ifc <| lk_cst <| lk_ret hQ
  | 3 => lk_lda <| lk_ldi <| lk_ldi <| lk_ldi <| lk_cav hC <| lk_lda <| lk_ldi <| lk_cav hC <| lk_ifc <| lk_cst <| lk_rf
  | 4 => lk_cst <| lk_rf
  | 5 => lk_ret hQ
  | _ + 6 => fun _ _ _ _ q => q.elim
set_option maxRecDepth 100000 in
theorem mb_X7_world : MB pb_X7_world := fun J C Q Q' hC hQ t => match t with
  | 0 => lk_lda <| lk_cst <| lk_put <| lk_lda <| lk_ldi <| lk_cav hC <| lk_ifc <| lk_ldi <| lk_cas hC <| lk_ifc <| lk_lda <| lk_ldi <| lk_cav hC <| lk_ifc <| lk_lda <| lk_ldi <| lk_cav hC <| lk_ifc <| lk_rf
  | 1 => lk_cst <| lk_rtl hQ
  | 2 => lk_lda <| lk_ldi <| lk_ldi <| lk_cst <| lk_cav hC <| lk_lda <| lk_ldi <| lk_cav hC <| lk_ifc <| lk_cst <| lk_rtl hQ
  | 3 => lk_ldi <| lk_sti <| lk_lda <| lk_ldi <| lk_cav hC <| lk_sti <| lk_ldi <| lk_cst <| lk_icm <| lk_ldi <| lk_cst <| lk_ii <| lk_sti <| lk_rf
  | 4 => lk_lda <| lk_get <| lk_cst <| lk_ldi <| lk_ii <| lk_ldi <| lk_ii <| lk_lld <| lk_cst <| lk_cmp <| lk_ifc <| lk_inc <| lk_rf
  | 5 => lk_cst <| lk_stl <| lk_cst <| lk_sti <| lk_rf
  | 6 => lk_ldi <| lk_lda <| lk_get <| lk_icm <| lk_lda <| lk_get <| lk_cst <| lk_ldi <| lk_ii <| lk_lda <| lk_get <| lk_ldi <| lk_ald <| lk_ii <| lk_lld <| lk_stl <| lk_lda <| lk_get <| lk_cst <| lk_ldi <| lk_ii <| lk_ldi <| lk_ii <| lk_lld <| lk_stl <| lk_ldl <| lk_ldl <| lk_ldl <| lk_cas hC <| lk_ld <| lk_stl <| lk_ldl <| lk_cst <| lk_cmp <| lk_ifc <| lk_ldl <| lk_l1 <| lk_rf
  | 7 => lk_ldl <| lk_rf
  | 8 => lk_stl <| lk_ldl <| lk_ldl <| lk_ldl <| lk_cas hC <| lk_ld <| lk_ldl <| lk_ll <| lk_stl <| lk_inc <| lk_rf
  | 9 => lk_lda <| lk_ldi <| lk_cav hC <| lk_sti <| lk_ldi <| lk_cst <| lk_icm <| lk_ldi <| lk_ldi <| lk_icm <| lk_ldl <| lk_rf
  | 10 => lk_cst <| lk_rf
  | 11 => lk_rtl hQ
  | 12 => lk_lda <| lk_get <| lk_cst <| lk_ldi <| lk_ii <| lk_ldi <| lk_ii <| lk_lld <| lk_ldl <| lk_ll <| lk_lda <| lk_get <| lk_cst <| lk_ldi <| lk_ii <| lk_lda <| lk_get <| lk_ldi <| lk_ald <| lk_ii <| lk_lld <| lk_ld <| lk_l1 <| lk_rtl hQ
  | _ + 13 => fun _ _ _ _ q => q.elim
set_option maxRecDepth 100000 in
theorem mb_X7_rows : MB pb_X7_rows := fun J C Q Q' hC hQ t => match t with
  | 0 => lk_lda <| lk_cst <| lk_put <| lk_lda <| lk_ldi <| lk_cav hC <| lk_ifc <| lk_ldi <| lk_cas hC <| lk_ifc <| lk_rf
  | 1 => lk_cst <| lk_ret hQ
  | 2 => lk_lda <| lk_ldi <| lk_ldi <| lk_cst <| lk_cav hC <| lk_lda <| lk_get <| lk_ret hQ
  | _ + 3 => fun _ _ _ _ q => q.elim
set_option maxRecDepth 100000 in
theorem mb_X7_audit : MB pb_X7_audit := fun J C Q Q' hC hQ t => match t with
  | 0 => lk_lda <| lk_cst <| lk_put <| lk_ldi <| lk_ifc <| lk_ldi <| lk_lda <| lk_get <| lk_icm <| lk_rf
  | 1 => lk_cst <| lk_ret hQ
  | 2 => lk_ldi <| lk_ifc <| lk_ldi <| lk_cst <| lk_icm <| lk_rf
  | 3 => lk_cst <| lk_rf
  | 4 => lk_lda <| lk_get <| lk_cst <| lk_ldi <| lk_ii <| lk_ldi <| lk_ii <| lk_ald <| lk_rf
  | 5 => lk_ret hQ
  | _ + 6 => fun _ _ _ _ q => q.elim
set_option maxRecDepth 100000 in
theorem mb_X7_told : MB pb_X7_told := fun J C Q Q' hC hQ t => match t with
  | 0 => lk_lda <| lk_cst <| lk_put <| lk_ldi <| lk_rf
  | 1 => lk_lda <| lk_get <| lk_ret hQ
  | 2 => lk_lda <| lk_get <| lk_ret hQ
  | 3 => lk_lda <| lk_get <| lk_ret hQ
  | 4 => lk_lda <| lk_get <| lk_ret hQ
  | 5 => lk_lda <| lk_get <| lk_ifc <| lk_cst <| lk_rf
  | 6 => lk_cst <| lk_rf
  | 7 => lk_ret hQ
  | 8 => lk_cst <| lk_ret hQ
  | _ + 9 => fun _ _ _ _ q => q.elim
set_option maxRecDepth 100000 in
theorem mb_X7_clear : MB pb_X7_clear := fun J C Q Q' hC hQ t => match t with
  | 0 => lk_lda <| lk_cst <| lk_put <| lk_lda <| lk_cst <| lk_put <| lk_lda <| lk_cst <| lk_put <| lk_lda <| lk_cst <| lk_put <| lk_lda <| lk_cst <| lk_put <| lk_lda <| lk_cst <| lk_put <| lk_lda <| lk_cst <| lk_put <| lk_lda <| lk_cst <| lk_put <| lk_rtv hQ
  | _ + 1 => fun _ _ _ _ q => q.elim
set_option maxRecDepth 100000 in
theorem mb_J7_fill_d0a16 : MB pb_J7_fill_d0a16 := fun J C Q Q' hC hQ t => match t with
  | 0 => lk_cst <| lk_sti <| lk_lda <| lk_len <| lk_sti <| lk_rf
  | 1 => lk_ldi <| lk_ldi <| lk_icm <| lk_lda <| lk_ldi <| lk_ldl <| lk_lst <| lk_inc <| lk_rf
  | 2 => lk_rtv hQ
  | _ + 3 => fun _ _ _ _ q => q.elim
set_option maxRecDepth 100000 in
theorem mb_J0_length_8abf5 : MB pb_J0_length_8abf5 := fun J C Q Q' hC hQ t => match t with
  | 0 => lk_lda <| lk_sgv <| lk_sln <| lk_lda <| lk_css hC <| lk_ii <| lk_ret hQ
  | _ + 1 => fun _ _ _ _ q => q.elim
set_option maxRecDepth 100000 in
theorem mb_J0_coder_7d493 : MB pb_J0_coder_7d493 := fun J C Q Q' hC hQ t => match t with
  | 0 => lk_cst <| lk_ifc <| lk_lda <| lk_sgc <| lk_rf
  | 1 => lk_cst <| lk_rf
  | 2 => lk_rtn hQ
  | _ + 3 => fun _ _ _ _ q => q.elim
set_option maxRecDepth 100000 in
theorem mb_J0_isLatin1_aae02 : MB pb_J0_isLatin1_aae02 := fun J C Q Q' hC hQ t => match t with
  | 0 => lk_cst <| lk_ifc <| lk_lda <| lk_sgc <| lk_ifc <| lk_cst <| lk_rf
  | 1 => lk_cst <| lk_rf
  | 2 => lk_rtz hQ
  | _ + 3 => fun _ _ _ _ q => q.elim
set_option maxRecDepth 100000 in
theorem mb_J0_charAt_5068e : MB pb_J0_charAt_5068e := fun J C Q Q' hC hQ t => match t with
  | 0 => lk_lda <| lk_css hC <| lk_ifc <| lk_lda <| lk_sgv <| lk_ldi <| lk_cas hC <| lk_rtn hQ
  | 1 => lk_rf
  | _ + 2 => fun _ _ _ _ q => q.elim
set_option maxRecDepth 100000 in
theorem mb_J1_charAt_3b067 : MB pb_J1_charAt_3b067 := fun J C Q Q' hC hQ t => match t with
  | 0 => lk_ldi <| lk_lda <| lk_sln <| lk_cas hC <| lk_lda <| lk_ldi <| lk_sbl <| lk_cst <| lk_ii <| lk_i1 <| lk_rtn hQ
  | _ + 1 => fun _ _ _ _ q => q.elim
set_option maxRecDepth 100000 in
theorem mb_J0_checkIndex_df160 : MB pb_J0_checkIndex_df160 := fun J C Q Q' hC hQ t => match t with
  | 0 => lk_ldi <| lk_ldi <| lk_zq <| lk_cas hC <| lk_pop <| lk_rtv hQ
  | _ + 1 => fun _ _ _ _ q => q.elim
set_option maxRecDepth 100000 in
theorem mb_J3_checkIndex_8e157 : MB pb_J3_checkIndex_8e157 := fun J C Q Q' hC hQ t => match t with
  | 0 => lk_ldi <| lk_ifc <| lk_ldi <| lk_ldi <| lk_icm <| lk_rf
  | 1 => lk_rf
  | 2 => lk_ldi <| lk_ret hQ
  | _ + 3 => fun _ _ _ _ q => q.elim
theorem MB_no : MB px_no := fun _ _ _ _ _ _ _ _ _ _ _ q => q.elim
set_option maxRecDepth 100000 in
theorem mb_all : ∀ y, MB (px_P y).2.2 := fun y => match y with
  | 0 => mb_X0_init
  | 1 => mb_X0_isFull
  | 2 => mb_X0_enter
  | 3 => mb_X1_init
  | 4 => mb_X1_read
  | 5 => mb_X1_faultOfToken
  | 6 => mb_X1_scan
  | 7 => mb_X1_scanWord
  | 8 => mb_X1_isSpelled
  | 9 => mb_X1_scanNumber
  | 10 => mb_X1_isLetter
  | 11 => mb_X1_isFigure
  | 12 => mb_X1_kindOfSign
  | 13 => mb_X1_stateBehind
  | 14 => mb_X1_behindLeaf
  | 15 => mb_X1_goesOnSum
  | 16 => mb_X1_behindOne
  | 17 => mb_X1_take
  | 18 => mb_X1_takeOperator
  | 19 => mb_X1_hold
  | 20 => mb_X1_settle
  | 21 => mb_X1_dropBracket
  | 22 => mb_X2_init
  | 23 => mb_X2_truth
  | 24 => mb_X2_carryOut
  | 25 => mb_X2_push
  | 26 => mb_X2_turn
  | 27 => mb_X2_join
  | 28 => mb_X2_joinTruths
  | 29 => mb_X2_reckon
  | 30 => mb_X3_init
  | 31 => mb_X3_forget
  | 32 => mb_X3_copyFrom
  | 33 => mb_X3_countRows
  | 34 => mb_X3_isSolved
  | 35 => mb_X3_solvedSet
  | 36 => mb_X3_learn
  | 37 => mb_X3_otherWorld
  | 38 => mb_X3_leastThatMakesWhole
  | 39 => mb_X3_at
  | 40 => mb_X3_isPivot
  | 41 => mb_X3_firstBehind
  | 42 => mb_X3_firstOf
  | 43 => mb_X3_clearAt
  | 44 => mb_X3_settleNewRow
  | 45 => mb_X3_divide
  | 46 => mb_X3_commonDivisorOf
  | 47 => mb_X3_commonDivisor
  | 48 => mb_X4_init
  | 49 => mb_X4_empty
  | 50 => mb_X4_append
  | 51 => mb_X4_copyFrom
  | 52 => mb_X5_init
  | 53 => mb_X5_begin
  | 54 => mb_X5_hasClosed
  | 55 => mb_X5_startCursor
  | 56 => mb_X6_init
  | 57 => mb_X6_object
  | 58 => mb_X6_set
  | 59 => mb_X6_user
  | 60 => mb_X6_type
  | 61 => mb_X6_rule
  | 62 => mb_X6_place
  | 63 => mb_X6_close
  | 64 => mb_X6_seen
  | 65 => mb_X6_ask
  | 66 => mb_X6_found
  | 67 => MB_no
  | 68 => MB_no
  | 69 => mb_X6_cell
  | 70 => mb_X6_cursor
  | 71 => mb_X6_step
  | 72 => mb_X6_solved
  | 73 => mb_X6_would
  | 74 => mb_X6_world
  | 75 => mb_X6_rows
  | 76 => mb_X6_audit
  | 77 => mb_X6_told
  | 78 => mb_X6_clear
  | 79 => mb_X6_isObject
  | 80 => mb_X6_isUser
  | 81 => mb_X6_isField
  | 82 => mb_X6_isSet
  | 83 => mb_X6_takeTape
  | 84 => mb_X6_takeQuery
  | 85 => mb_X6_isSeen
  | 86 => mb_X6_isMatch
  | 87 => mb_X6_countByRule
  | 88 => mb_X6_countBetween
  | 89 => mb_X6_moveCursor
  | 90 => mb_X6_hiddenFrom
  | 91 => mb_X6_total
  | 92 => mb_X6_tryOut
  | 93 => mb_X6_tell
  | 94 => mb_X7_init
  | 95 => mb_X7_thrown
  | 96 => mb_X7_isObject
  | 97 => mb_X7_isUser
  | 98 => mb_X7_isField
  | 99 => mb_X7_isSet
  | 100 => mb_X7_object
  | 101 => mb_X7_set
  | 102 => mb_X7_user
  | 103 => mb_X7_type
  | 104 => mb_X7_isLetter
  | 105 => mb_X7_isFigure
  | 106 => mb_X7_wordFrom
  | 107 => mb_X7_next
  | 108 => mb_X7_fail
  | 109 => mb_X7_odd
  | 110 => mb_X7_take
  | 111 => mb_X7_isSign
  | 112 => mb_X7_put
  | 113 => mb_X7_opens
  | 114 => mb_X7_any
  | 115 => mb_X7_all
  | 116 => mb_X7_one
  | 117 => mb_X7_sum
  | 118 => mb_X7_times
  | 119 => mb_X7_leaf
  | 120 => mb_X7_reads
  | 121 => mb_X7_keep
  | 122 => mb_X7_place
  | 123 => mb_X7_what
  | 124 => mb_X7_join
  | 125 => mb_X7_isSeen
  | 126 => mb_X7_isClosed
  | 127 => mb_X7_isHidden
  | 128 => mb_X7_isBarred
  | 129 => mb_X7_matches
  | 130 => mb_X7_count
  | 131 => mb_X7_rule
  | 132 => mb_X7_close
  | 133 => mb_X7_seen
  | 134 => mb_X7_note
  | 135 => mb_X7_query
  | 136 => mb_X7_ask
  | 137 => mb_X7_found
  | 138 => mb_X7_cell
  | 139 => mb_X7_cursor
  | 140 => mb_X7_step
  | 141 => mb_X7_divisor
  | 142 => mb_X7_mix
  | 143 => mb_X7_swap
  | 144 => mb_X7_reduce
  | 145 => mb_X7_rowOf
  | 146 => mb_X7_isSolved
  | 147 => mb_X7_isKeptBack
  | 148 => mb_X7_tell
  | 149 => mb_X7_value
  | 150 => mb_X7_sum_
  | 151 => mb_X7_solved
  | 152 => mb_X7_would
  | 153 => mb_X7_world
  | 154 => mb_X7_rows
  | 155 => mb_X7_audit
  | 156 => mb_X7_told
  | 157 => mb_X7_clear
  | 158 => mb_J7_fill_d0a16
  | 159 => mb_J0_length_8abf5
  | 160 => mb_J0_coder_7d493
  | 161 => mb_J0_isLatin1_aae02
  | 162 => mb_J0_charAt_5068e
  | 163 => mb_J1_charAt_3b067
  | 164 => mb_J0_checkIndex_df160
  | 165 => mb_J3_checkIndex_8e157
  | 166 => MB_no
  | 167 => MB_no
  | _ + 168 => MB_no
theorem ev_mono : ∀ d, MC (Ev d)
  | 0 => fun _ _ _ _ _ _ h => h.elim
  | d + 1 => fun y as μ Q Q' hQ ⟨h0, h⟩ => ⟨h0, fun X hX => h X (fun t lv st μ κ ⟨Y, hY, hF⟩ => hX t lv st μ κ ⟨Y, hY, mb_all y Y (Ev d) Q Q' (ev_mono d) hQ t lv st μ κ hF⟩)⟩
set_option maxRecDepth 100000 in
theorem mb_vvalue : MB vb_value := fun J C Q Q' hC hQ t => match t with
  | 0 => lk_lda <| lk_ldi <| lk_cav hC <| lk_ifc <| lk_lda <| lk_ldi <| lk_cav hC <| lk_ifc <| lk_ldi <| lk_cas hC <| lk_ifc <| lk_rf
  | 1 => lk_tx hQ
  | 2 => lk_lda <| lk_get <| lk_cav hC <| lk_ifc <| lk_tx hQ
  | 3 => lk_cst <| lk_ldi <| lk_ii <| lk_sti <| lk_lda <| lk_lda <| lk_get <| lk_ldi <| lk_rld <| lk_ldi <| lk_cav hC <| lk_ldi <| lk_ii <| lk_ifc <| lk_lda <| lk_lda <| lk_get <| lk_ldi <| lk_rld <| lk_ldi <| lk_ldi <| lk_cav hC <| lk_ifc <| lk_rf
  | 4 => lk_lda <| lk_get <| lk_ldi <| lk_cst <| lk_ldi <| lk_ldi <| lk_cst <| lk_cav hC <| lk_tx hQ
  | 5 => lk_lda <| lk_get <| lk_ldi <| lk_cst <| lk_ldi <| lk_ldi <| lk_cst <| lk_cav hC <| lk_lda <| lk_get <| lk_ldi <| lk_cst <| lk_ii <| lk_ldi <| lk_ii <| lk_ald <| lk_ret hQ
  | _ + 6 => fun _ _ _ _ q => q.elim
set_option maxRecDepth 100000 in
theorem mb_vsum : MB vb_sum := fun J C Q Q' hC hQ t => match t with
  | 0 => lk_lda <| lk_ldi <| lk_cav hC <| lk_ifc <| lk_ldi <| lk_cas hC <| lk_ifc <| lk_lda <| lk_ldi <| lk_cav hC <| lk_ifc <| lk_rf
  | 1 => lk_tx hQ
  | 2 => lk_lda <| lk_get <| lk_cav hC <| lk_ifc <| lk_tx hQ
  | 3 => lk_lda <| lk_lda <| lk_get <| lk_ldi <| lk_rld <| lk_ldi <| lk_ldi <| lk_cav hC <| lk_ifc <| lk_lda <| lk_get <| lk_ldi <| lk_cst <| lk_ldi <| lk_ldi <| lk_cst <| lk_cav hC <| lk_tx hQ
  | 4 => lk_lda <| lk_get <| lk_ldi <| lk_cst <| lk_ldi <| lk_ldi <| lk_cst <| lk_cav hC <| lk_lda <| lk_ldi <| lk_ldi <| lk_cav hC <| lk_ret hQ
  | _ + 5 => fun _ _ _ _ q => q.elim
theorem xv_mono {d nL : Nat} {b : mm_J → mm_C → mm_Q → mm_J} (hb : MB b) {as : List Value} {μ : mm_M} {Q Q' : mm_Q} (hQ : ∀ r μ, Q r μ → Q' r μ) (h : Xv d b nL as μ Q) : Xv d b nL as μ Q' :=
  ⟨h.1, fun X hX => h.2 X (fun t lv st μ κ ⟨Y, hY, hF⟩ => hX t lv st μ κ ⟨Y, hY, hb Y (Ev d) Q Q' (ev_mono d) hQ t lv st μ κ hF⟩)⟩
