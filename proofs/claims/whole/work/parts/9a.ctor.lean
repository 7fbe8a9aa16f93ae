/-! the class's object, the reference's, the law's row -/
theorem cl_1 : (1 : Int32).toNatClampNeg = 1 := rfl
theorem cg_1 : ¬ (1 : Int32) < 0 := by decide
theorem cl_4 : (4 : Int32).toNatClampNeg = 4 := rfl
theorem cg_4 : ¬ (4 : Int32) < 0 := by decide
theorem cl_10 : (10 : Int32).toNatClampNeg = 10 := rfl
theorem cg_10 : ¬ (10 : Int32) < 0 := by decide
theorem cl_12 : (12 : Int32).toNatClampNeg = 12 := rfl
theorem cg_12 : ¬ (12 : Int32) < 0 := by decide
theorem cl_48 : (48 : Int32).toNatClampNeg = 48 := rfl
theorem cg_48 : ¬ (48 : Int32) < 0 := by decide
theorem cl_60 : (60 : Int32).toNatClampNeg = 60 := rfl
theorem cg_60 : ¬ (60 : Int32) < 0 := by decide
theorem cl_64 : (64 : Int32).toNatClampNeg = 64 := rfl
theorem cg_64 : ¬ (64 : Int32) < 0 := by decide
theorem cl_150 : (150 : Int32).toNatClampNeg = 150 := rfl
theorem cg_150 : ¬ (150 : Int32) < 0 := by decide
theorem cl_156 : (156 : Int32).toNatClampNeg = 156 := rfl
theorem cg_156 : ¬ (156 : Int32) < 0 := by decide
theorem cl_300 : (300 : Int32).toNatClampNeg = 300 := rfl
theorem cg_300 : ¬ (300 : Int32) < 0 := by decide
theorem cl_640 : (640 : Int32).toNatClampNeg = 640 := rfl
theorem cg_640 : ¬ (640 : Int32) < 0 := by decide
theorem cl_750 : (750 : Int32).toNatClampNeg = 750 := rfl
theorem cg_750 : ¬ (750 : Int32) < 0 := by decide
theorem cl_1824 : (1824 : Int32).toNatClampNeg = 1824 := rfl
theorem cg_1824 : ¬ (1824 : Int32) < 0 := by decide
theorem Wz.si {zs : Zl} {rs : Rl} {ii : Nat → Nat → Int32} {n a k : Nat} {v : Int32} (h : Wz zs rs ii n) (ha : a < n) : Wz zs rs (fun b j => if b = a ∧ j = k then v else ii b j) n :=
  ⟨h.1, h.2.1, h.2.2.1, fun b hb j => by
    show (if b = a ∧ j = k then v else ii b j) = 0
    rw [if_neg (by omega)]
    exact h.2.2.2 b hb j⟩
def auZ (zs : Zl) : Zl := zs ++ [.inl (.int, 750)]
def auR (n a : Nat) (rs : Rl) : Rl := srp (rs ++ [[]]) a 0 n
theorem ev_iAudit {d a n : Nat} {zs : Zl} {rs : Rl} {ii : Nat → Nat → Int32} {Q : mm_Q} (w : Wz zs rs ii n) (hn : n < 700) (ha : zt zs a = .inr 0) (hQ : Wz (auZ zs) (auR n a rs) ii (n + 1) → Q none (Mz (auZ zs) (auR n a rs) ii)) : Ev (d + 1) 0 [.ref a] (Mz zs rs ii) Q := by
  have hlt := zt_lt w (by decide) ha
  have h1 := w.na (by omega) (z := .inl (.int, 750))
  have h2 := h1.2.sr (f := 0) (v := n) (show a < n + 1 by omega)
  have z1 := zt_l (z := .inl (.int, 750)) (by decide) ha
  have l1 : n < mm_ext := ext_lt (by omega)
  have q1 : n < n + 1 := by omega
  refine ev_step pp_0 (Nat.le_of_ble_eq_true rfl) ?_
  simp only [e_ldi, e_ldim, e_ldl, e_ldlm, e_lda, e_ldam, e_sti, e_stl, e_sta, e_inc, e_incm, e_ii, e_ll, e_ld, e_ls, e_i1, e_l1, e_i2l, e_l2i, e_cmp, e_dupi, e_dupr, e_dup2, e_if_eq, e_ic_eq, e_if_ne, e_ic_ne, e_if_lt, e_ic_lt, e_if_ge, e_ic_ge, e_if_gt, e_ic_gt, e_if_le, e_ic_le, e_tsw, e_sw0, e_sw1, e_get2, e_get0, e_get3, e_put0, e_put3, e_put2, e_ald, e_lld, e_rld, e_ast, e_lst, e_rst, e_len, e_rk, e_cpi, e_cpl, e_ret, e_rtz, e_rtl, e_rtv, e_cst, e_go, e_kkn, e_kks, e_cas0, e_cas1, e_cav1, e_cas2, e_cav2, e_cas3, e_cav3, e_cas4, e_cav4, e_cas5, e_cav5, e_cas6, e_cav6, e_cas7, e_cav7, mm_lg, mm_s1, mm_s2, mm_c2, mm_kl, mm_en, mm_sum, Int.reduceAdd, Int.reduceEq, not_true_eq_false, not_false_eq_true, false_implies, true_implies, implies_true, true_and, and_true, Option.some.injEq, Sum.inl.injEq, Sum.inr.injEq, Prod.mk.injEq, exists_eq_left', exists_eq_left, Value.category, Nat.reduceAdd, Nat.reduceLeDiff, reduceCtorEq, mm_i_si, mm_i_sl, mm_i_sr, mm_l_si, mm_l_sl, mm_l_sr, mm_r_si, mm_r_sl, mm_z_si, mm_z_sl, mm_z_sr, mm_n_si, mm_n_sl, mm_i_ci, mm_l_ci, mm_r_ci, mm_z_ci, mm_n_ci, mm_i_cl, mm_l_cl, mm_r_cl, mm_z_cl, mm_n_cl, ↓reduceIte, Nat.reduceEqDiff, and_false, false_and, and_self, eq_self, z0_0, z0_1, z0_2, z0_3, z0_4, z0_5, z0_6, z0_7, z0_8, z0_9, z0_10, z0_11, z0_12, z0_13, z0_14, z0_15, z0_16, z0_81, z0_82, z0_83, z0_84, z0_85, z0_86, z0_87, z0_88, z0_89, z0_90, z0_91, z0_92, z0_93, z0_94, z0_95, z0_96, z0_97, r0_0_0, r0_0_2, r0_0_4, r0_0_7, r0_0_10, r0_0_11, r0_0_12, r0_0_13, r0_5_0, r0_7_0, r0_7_9, r0_8_0, r0_8_1, r0_12_0, r0_12_1, r0_15_0, r0_81_3, r0_81_4, r0_81_7, r0_81_8, r0_81_9, r0_81_10, r0_81_11, r0_81_12, r0_81_14, r0_81_16, r0_81_17, r0_81_27, r0_81_28, r0_81_29, r0_81_30, pb_X0_init, e_obi, e_nar, mm_ks, mm_kv, mm_vk, w.n, h1.1, h1.2.n, h2.1, h2.2.n, Mz_z, ha, z1, l1, q1, hlt, cl_750, cg_750, true_or]
  exact hQ h2.2
def rkZ (zs : Zl) : Zl := zs ++ [.inl (.long, 60)] ++ [.inl (.boolean, 60)]
theorem ev_iReck {d a n : Nat} {zs : Zl} {rs : Rl} {ii : Nat → Nat → Int32} {Q : mm_Q} (w : Wz zs rs ii n) (hn : n < 700) (ha : zt zs a = .inr 2) (hQ : Wz (rkZ zs) (txR n a rs) ii (n + 2) → Q none (Mz (rkZ zs) (txR n a rs) ii)) : Ev (d + 1) 22 [.ref a] (Mz zs rs ii) Q := by
  have hlt := zt_lt w (by decide) ha
  have h1 := w.na (by omega) (z := .inl (.long, 60))
  have h2 := h1.2.sr (f := 0) (v := n) (show a < n + 1 by omega)
  have h3 := h2.2.na (by omega) (z := .inl (.boolean, 60))
  have h4 := h3.2.sr (f := 1) (v := n + 1) (show a < n + 1 + 1 by omega)
  have z1 := zt_l (z := .inl (.long, 60)) (by decide) ha
  have z2 := zt_l (z := .inl (.boolean, 60)) (by decide) z1
  have l1 : n < mm_ext := ext_lt (by omega)
  have l2 : n + 1 < mm_ext := ext_lt (by omega)
  have t1 : a < n + 1 := by omega
  have q1 : n < n + 1 := by omega
  have q2 : n + 1 < n + 1 + 1 := by omega
  refine ev_step pp_22 (Nat.le_of_ble_eq_true rfl) ?_
  simp only [e_ldi, e_ldim, e_ldl, e_ldlm, e_lda, e_ldam, e_sti, e_stl, e_sta, e_inc, e_incm, e_ii, e_ll, e_ld, e_ls, e_i1, e_l1, e_i2l, e_l2i, e_cmp, e_dupi, e_dupr, e_dup2, e_if_eq, e_ic_eq, e_if_ne, e_ic_ne, e_if_lt, e_ic_lt, e_if_ge, e_ic_ge, e_if_gt, e_ic_gt, e_if_le, e_ic_le, e_tsw, e_sw0, e_sw1, e_get2, e_get0, e_get3, e_put0, e_put3, e_put2, e_ald, e_lld, e_rld, e_ast, e_lst, e_rst, e_len, e_rk, e_cpi, e_cpl, e_ret, e_rtz, e_rtl, e_rtv, e_cst, e_go, e_kkn, e_kks, e_cas0, e_cas1, e_cav1, e_cas2, e_cav2, e_cas3, e_cav3, e_cas4, e_cav4, e_cas5, e_cav5, e_cas6, e_cav6, e_cas7, e_cav7, mm_lg, mm_s1, mm_s2, mm_c2, mm_kl, mm_en, mm_sum, Int.reduceAdd, Int.reduceEq, not_true_eq_false, not_false_eq_true, false_implies, true_implies, implies_true, true_and, and_true, Option.some.injEq, Sum.inl.injEq, Sum.inr.injEq, Prod.mk.injEq, exists_eq_left', exists_eq_left, Value.category, Nat.reduceAdd, Nat.reduceLeDiff, reduceCtorEq, mm_i_si, mm_i_sl, mm_i_sr, mm_l_si, mm_l_sl, mm_l_sr, mm_r_si, mm_r_sl, mm_z_si, mm_z_sl, mm_z_sr, mm_n_si, mm_n_sl, mm_i_ci, mm_l_ci, mm_r_ci, mm_z_ci, mm_n_ci, mm_i_cl, mm_l_cl, mm_r_cl, mm_z_cl, mm_n_cl, ↓reduceIte, Nat.reduceEqDiff, and_false, false_and, and_self, eq_self, z0_0, z0_1, z0_2, z0_3, z0_4, z0_5, z0_6, z0_7, z0_8, z0_9, z0_10, z0_11, z0_12, z0_13, z0_14, z0_15, z0_16, z0_81, z0_82, z0_83, z0_84, z0_85, z0_86, z0_87, z0_88, z0_89, z0_90, z0_91, z0_92, z0_93, z0_94, z0_95, z0_96, z0_97, r0_0_0, r0_0_2, r0_0_4, r0_0_7, r0_0_10, r0_0_11, r0_0_12, r0_0_13, r0_5_0, r0_7_0, r0_7_9, r0_8_0, r0_8_1, r0_12_0, r0_12_1, r0_15_0, r0_81_3, r0_81_4, r0_81_7, r0_81_8, r0_81_9, r0_81_10, r0_81_11, r0_81_12, r0_81_14, r0_81_16, r0_81_17, r0_81_27, r0_81_28, r0_81_29, r0_81_30, pb_X2_init, e_obi, e_nar, mm_ks, mm_kv, mm_vk, w.n, h1.1, h1.2.n, h2.1, h2.2.n, h3.1, h3.2.n, h4.1, h4.2.n, Mz_z, ha, z1, z2, l1, l2, t1, q1, q2, hlt, cl_60, cg_60, true_or]
  exact hQ h4.2
def reZ (zs : Zl) : Zl := txZ (zs ++ [.inr 4]) ++ [.inl (.int, 60)]
def reR (n a : Nat) (rs : Rl) : Rl := srp (srp (txR (n + 1) n (rs ++ [[]])) a 0 n ++ [[]]) a 9 (n + 1 + 2)
theorem ev_iReader {d a n : Nat} {zs : Zl} {rs : Rl} {ii : Nat → Nat → Int32} {Q : mm_Q} (w : Wz zs rs ii n) (hn : n < 600) (ha : zt zs a = .inr 1) (hQ : Wz (reZ zs) (reR n a rs) ii (n + 1 + 2 + 1) → Q none (Mz (reZ zs) (reR n a rs) ii)) : Ev (d + 2) 3 [.ref a] (Mz zs rs ii) Q := by
  have hlt := zt_lt w (by decide) ha
  have x0 : n < mm_ext := ext_lt (by omega)
  have h1 := w.na (by omega) (z := .inr 4)
  have z1 := zt_l (z := .inr 4) (by decide) ha
  have zn : zt (zs ++ [.inr 4]) n = .inr 4 := zt_a w.1
  have t1 : a < n + 1 := by omega
  have t2 : n < n + 1 := by omega
  refine ev_step pp_3 (Nat.le_of_ble_eq_true rfl) ?_
  simp only [e_ldi, e_ldim, e_ldl, e_ldlm, e_lda, e_ldam, e_sti, e_stl, e_sta, e_inc, e_incm, e_ii, e_ll, e_ld, e_ls, e_i1, e_l1, e_i2l, e_l2i, e_cmp, e_dupi, e_dupr, e_dup2, e_if_eq, e_ic_eq, e_if_ne, e_ic_ne, e_if_lt, e_ic_lt, e_if_ge, e_ic_ge, e_if_gt, e_ic_gt, e_if_le, e_ic_le, e_tsw, e_sw0, e_sw1, e_get2, e_get0, e_get3, e_put0, e_put3, e_put2, e_ald, e_lld, e_rld, e_ast, e_lst, e_rst, e_len, e_rk, e_cpi, e_cpl, e_ret, e_rtz, e_rtl, e_rtv, e_cst, e_go, e_kkn, e_kks, e_cas0, e_cas1, e_cav1, e_cas2, e_cav2, e_cas3, e_cav3, e_cas4, e_cav4, e_cas5, e_cav5, e_cas6, e_cav6, e_cas7, e_cav7, mm_lg, mm_s1, mm_s2, mm_c2, mm_kl, mm_en, mm_sum, Int.reduceAdd, Int.reduceEq, not_true_eq_false, not_false_eq_true, false_implies, true_implies, implies_true, true_and, and_true, Option.some.injEq, Sum.inl.injEq, Sum.inr.injEq, Prod.mk.injEq, exists_eq_left', exists_eq_left, Value.category, Nat.reduceAdd, Nat.reduceLeDiff, reduceCtorEq, mm_i_si, mm_i_sl, mm_i_sr, mm_l_si, mm_l_sl, mm_l_sr, mm_r_si, mm_r_sl, mm_z_si, mm_z_sl, mm_z_sr, mm_n_si, mm_n_sl, mm_i_ci, mm_l_ci, mm_r_ci, mm_z_ci, mm_n_ci, mm_i_cl, mm_l_cl, mm_r_cl, mm_z_cl, mm_n_cl, ↓reduceIte, Nat.reduceEqDiff, and_false, false_and, and_self, eq_self, z0_0, z0_1, z0_2, z0_3, z0_4, z0_5, z0_6, z0_7, z0_8, z0_9, z0_10, z0_11, z0_12, z0_13, z0_14, z0_15, z0_16, z0_81, z0_82, z0_83, z0_84, z0_85, z0_86, z0_87, z0_88, z0_89, z0_90, z0_91, z0_92, z0_93, z0_94, z0_95, z0_96, z0_97, r0_0_0, r0_0_2, r0_0_4, r0_0_7, r0_0_10, r0_0_11, r0_0_12, r0_0_13, r0_5_0, r0_7_0, r0_7_9, r0_8_0, r0_8_1, r0_12_0, r0_12_1, r0_15_0, r0_81_3, r0_81_4, r0_81_7, r0_81_8, r0_81_9, r0_81_10, r0_81_11, r0_81_12, r0_81_14, r0_81_16, r0_81_17, r0_81_27, r0_81_28, r0_81_29, r0_81_30, pb_X1_init, e_obi, e_new, e_can1, mm_ks, mm_kv, mm_vk, w.n, h1.1, h1.2.n, Mz_z, ha, z1, x0, hlt, t1, t2, true_or]
  refine ev_iText h1.2 (by omega) zn (fun w2 => ?_)
  have z2 : zt (txZ (zs ++ [.inr 4])) a = .inr 1 := zt_l (by decide) (zt_l (by decide) z1)
  have w3 := w2.sr (f := 0) (v := n) (show a < n + 1 + 2 by omega)
  have h4 := w3.2.na (by omega) (z := .inl (.int, 60))
  have z4 := zt_l (z := .inl (.int, 60)) (by decide) z2
  have w5 := h4.2.sr (f := 9) (v := n + 1 + 2) (show a < n + 1 + 2 + 1 by omega)
  have x1 : n + 1 + 2 < mm_ext := ext_lt (by omega)
  have q1 : n < n + 1 + 2 := by omega
  have q2 : a < n + 1 + 2 := by omega
  have q4 : n + 1 + 2 < n + 1 + 2 + 1 := by omega
  simp only [e_ldi, e_ldim, e_ldl, e_ldlm, e_lda, e_ldam, e_sti, e_stl, e_sta, e_inc, e_incm, e_ii, e_ll, e_ld, e_ls, e_i1, e_l1, e_i2l, e_l2i, e_cmp, e_dupi, e_dupr, e_dup2, e_if_eq, e_ic_eq, e_if_ne, e_ic_ne, e_if_lt, e_ic_lt, e_if_ge, e_ic_ge, e_if_gt, e_ic_gt, e_if_le, e_ic_le, e_tsw, e_sw0, e_sw1, e_get2, e_get0, e_get3, e_put0, e_put3, e_put2, e_ald, e_lld, e_rld, e_ast, e_lst, e_rst, e_len, e_rk, e_cpi, e_cpl, e_ret, e_rtz, e_rtl, e_rtv, e_cst, e_go, e_kkn, e_kks, e_cas0, e_cas1, e_cav1, e_cas2, e_cav2, e_cas3, e_cav3, e_cas4, e_cav4, e_cas5, e_cav5, e_cas6, e_cav6, e_cas7, e_cav7, mm_lg, mm_s1, mm_s2, mm_c2, mm_kl, mm_en, mm_sum, Int.reduceAdd, Int.reduceEq, not_true_eq_false, not_false_eq_true, false_implies, true_implies, implies_true, true_and, and_true, Option.some.injEq, Sum.inl.injEq, Sum.inr.injEq, Prod.mk.injEq, exists_eq_left', exists_eq_left, Value.category, Nat.reduceAdd, Nat.reduceLeDiff, reduceCtorEq, mm_i_si, mm_i_sl, mm_i_sr, mm_l_si, mm_l_sl, mm_l_sr, mm_r_si, mm_r_sl, mm_z_si, mm_z_sl, mm_z_sr, mm_n_si, mm_n_sl, mm_i_ci, mm_l_ci, mm_r_ci, mm_z_ci, mm_n_ci, mm_i_cl, mm_l_cl, mm_r_cl, mm_z_cl, mm_n_cl, ↓reduceIte, Nat.reduceEqDiff, and_false, false_and, and_self, eq_self, z0_0, z0_1, z0_2, z0_3, z0_4, z0_5, z0_6, z0_7, z0_8, z0_9, z0_10, z0_11, z0_12, z0_13, z0_14, z0_15, z0_16, z0_81, z0_82, z0_83, z0_84, z0_85, z0_86, z0_87, z0_88, z0_89, z0_90, z0_91, z0_92, z0_93, z0_94, z0_95, z0_96, z0_97, r0_0_0, r0_0_2, r0_0_4, r0_0_7, r0_0_10, r0_0_11, r0_0_12, r0_0_13, r0_5_0, r0_7_0, r0_7_9, r0_8_0, r0_8_1, r0_12_0, r0_12_1, r0_15_0, r0_81_3, r0_81_4, r0_81_7, r0_81_8, r0_81_9, r0_81_10, r0_81_11, r0_81_12, r0_81_14, r0_81_16, r0_81_17, r0_81_27, r0_81_28, r0_81_29, r0_81_30, e_nar, mm_ks, mm_kv, mm_vk, Mz_z, z2, w2.n, w3.1, w3.2.n, h4.1, h4.2.n, w5.1, w5.2.n, z4, x1, q1, q2, q4, cl_60, cg_60, true_or]
  exact hQ w5.2
theorem gr_ne {rs : Rl} {a f b g v : Nat} (h : ¬ a = b) : gr (srp rs b g v) a f = gr rs a f := by
  unfold gr srp
  rw [List.getD_eq_getElem?_getD (l := rs.set b _), List.getElem?_set_ne (fun z => h z.symm), ← List.getD_eq_getElem?_getD]
def Px (zs zs' : Zl) : Prop := zs.length ≤ zs'.length ∧ ∀ a, a < zs.length → zt zs' a = zt zs a
theorem Px.rf {zs : Zl} : Px zs zs := ⟨Nat.le_refl _, fun _ _ => rfl⟩
theorem Px.tr {a b c : Zl} (h : Px a b) (g : Px b c) : Px a c := ⟨Nat.le_trans h.1 g.1, fun x hx => (g.2 x (Nat.lt_of_lt_of_le hx h.1)).trans (h.2 x hx)⟩
theorem Px.ap {zs zs' : Zl} {z : (FieldType × Nat) ⊕ Nat} (h : Px zs zs') : Px zs (zs' ++ [z]) := h.tr ⟨by simp, fun a ha => zt_k ha⟩
theorem Px.us {zs : Zl} : Px zs (usZ zs) := by
  unfold usZ ulZ ulZ ulZ ulZ ulZ rdZ txZ
  exact Px.rf.ap.ap.ap.ap.ap.ap.ap.ap.ap.ap.ap.ap.ap.ap.ap
theorem gr_us {n a b f : Nat} {rs : Rl} (h1 : b < a) (h2 : a < n) : gr (usR n a rs) b f = gr rs b f := by
  unfold usR ulR ulR ulR ulR ulR rdR txR
  repeat (first | rw [gr_ne (by omega)] | rw [gr_na])
theorem hs_step {d n i c s : Nat} {zs : Zl} {rs : Rl} {ii : Nat → Nat → Int32} {Q : mm_Q} (w : Wz zs rs ii n) (hn : n < 300) (h2 : 2 < n) (ha : zt zs 0 = .inr 6) (hm : zt zs 2 = .inl (.object "HiddenSums$User", 4)) (hr : gr rs 0 2 = some 2) (hi : i < 4) (hc : c + 16 ≤ 80) (hs : s + 886 ≤ 5135)
    (hK : Wz (usZ (zs ++ [.inr 5])) (srp (usR (n + 1) n (rs ++ [[]])) 2 i n) ii (n + 1 + 15) → zt (usZ (zs ++ [.inr 5])) 0 = .inr 6 → zt (usZ (zs ++ [.inr 5])) 2 = .inl (.object "HiddenSums$User", 4) → gr (srp (usR (n + 1) n (rs ++ [[]])) 2 i n) 0 2 = some 2 → mm_At (d + 2) 56 Q 1 [some (.ref 0), some (.int (nI (i + 1)))] [] (Mz (usZ (zs ++ [.inr 5])) (srp (usR (n + 1) n (rs ++ [[]])) 2 i n) ii) (c + 16, s + 886)) :
    mm_At (d + 2) 56 Q 1 [some (.ref 0), some (.int (nI i))] [] (Mz zs rs ii) (c, s) := by
  have hlt := zt_lt w (by decide) ha
  have c1 : ¬ (4 : Int32) ≤ nI i := nI_ge (b := 4) hi (by decide)
  have v := vu4 hi
  have l1 : n < mm_ext := ext_lt (by omega)
  have h1 := w.na (by omega) (z := .inr 5)
  have z1 := zt_l (z := .inr 5) (by decide) ha
  have zn : zt (zs ++ [.inr 5]) n = .inr 5 := zt_a w.1
  have k1 : c + 1 ≤ 80 := by omega
  have k2 : s + 6 ≤ 5135 := by omega
  have k3 : c + 1 + 15 ≤ 80 := by omega
  have k4 : s + 6 + 880 ≤ 5135 := by omega
  have t1 : 2 < n + 1 := by omega
  have t2 : n < n + 1 := by omega
  have t3 : 0 < n + 1 := by omega
  refine at_step pp_56 ?_; simp only [e_ldi, e_ldim, e_ldl, e_ldlm, e_lda, e_ldam, e_sti, e_stl, e_sta, e_inc, e_incm, e_ii, e_ll, e_ld, e_ls, e_i1, e_l1, e_i2l, e_l2i, e_cmp, e_dupi, e_dupr, e_dup2, e_if_eq, e_ic_eq, e_if_ne, e_ic_ne, e_if_lt, e_ic_lt, e_if_ge, e_ic_ge, e_if_gt, e_ic_gt, e_if_le, e_ic_le, e_tsw, e_sw0, e_sw1, e_get2, e_get0, e_get3, e_put0, e_put3, e_put2, e_ald, e_lld, e_rld, e_ast, e_lst, e_rst, e_len, e_rk, e_cpi, e_cpl, e_ret, e_rtz, e_rtl, e_rtv, e_cst, e_go, e_kkn, e_kks, e_cas0, e_cas1, e_cav1, e_cas2, e_cav2, e_cas3, e_cav3, e_cas4, e_cav4, e_cas5, e_cav5, e_cas6, e_cav6, e_cas7, e_cav7, mm_lg, mm_s1, mm_s2, mm_c2, mm_kl, mm_en, mm_sum, Int.reduceAdd, Int.reduceEq, not_true_eq_false, not_false_eq_true, false_implies, true_implies, implies_true, true_and, and_true, Option.some.injEq, Sum.inl.injEq, Sum.inr.injEq, Prod.mk.injEq, exists_eq_left', exists_eq_left, Value.category, Nat.reduceAdd, Nat.reduceLeDiff, reduceCtorEq, mm_i_si, mm_i_sl, mm_i_sr, mm_l_si, mm_l_sl, mm_l_sr, mm_r_si, mm_r_sl, mm_z_si, mm_z_sl, mm_z_sr, mm_n_si, mm_n_sl, mm_i_ci, mm_l_ci, mm_r_ci, mm_z_ci, mm_n_ci, mm_i_cl, mm_l_cl, mm_r_cl, mm_z_cl, mm_n_cl, ↓reduceIte, Nat.reduceEqDiff, and_false, false_and, and_self, eq_self, z0_0, z0_1, z0_2, z0_3, z0_4, z0_5, z0_6, z0_7, z0_8, z0_9, z0_10, z0_11, z0_12, z0_13, z0_14, z0_15, z0_16, z0_81, z0_82, z0_83, z0_84, z0_85, z0_86, z0_87, z0_88, z0_89, z0_90, z0_91, z0_92, z0_93, z0_94, z0_95, z0_96, z0_97, r0_0_0, r0_0_2, r0_0_4, r0_0_7, r0_0_10, r0_0_11, r0_0_12, r0_0_13, r0_5_0, r0_7_0, r0_7_9, r0_8_0, r0_8_1, r0_12_0, r0_12_1, r0_15_0, r0_81_3, r0_81_4, r0_81_7, r0_81_8, r0_81_9, r0_81_10, r0_81_11, r0_81_12, r0_81_14, r0_81_16, r0_81_17, r0_81_27, r0_81_28, r0_81_29, r0_81_30, pb_X6_init, c1, e_new, e_can1, mm_ks, mm_kv, mm_vk, w.n, h1.1, h1.2.n, Mz_z, Mz_r, ha, hr, z1, l1, hlt, h2, k1, k2, k3, k4, t1, t2, t3, true_or]
  refine ev_iUser h1.2 (by omega) zn (fun w2 => ?_)
  have lz : (zs ++ [Sum.inr 5] : Zl).length = n + 1 := h1.2.1
  have px : Px (zs ++ [.inr 5]) (usZ (zs ++ [.inr 5])) := Px.us
  have hm1 : zt (usZ (zs ++ [.inr 5])) 2 = .inl (.object "HiddenSums$User", 4) := by
    rw [px.2 2 (by rw [lz]; omega), zt_k (by rw [w.1]; exact h2)]; exact hm
  have za1 : zt (usZ (zs ++ [.inr 5])) 0 = .inr 6 := by
    rw [px.2 0 (by rw [lz]; omega)]; exact z1
  have zn1 : zt (usZ (zs ++ [.inr 5])) n = .inr 5 := by
    rw [px.2 n (by rw [lz]; omega)]; exact zn
  have w3 := w2.sr (f := i) (v := n) (show 2 < n + 1 + 15 by omega)
  simp only [e_ldi, e_ldim, e_ldl, e_ldlm, e_lda, e_ldam, e_sti, e_stl, e_sta, e_inc, e_incm, e_ii, e_ll, e_ld, e_ls, e_i1, e_l1, e_i2l, e_l2i, e_cmp, e_dupi, e_dupr, e_dup2, e_if_eq, e_ic_eq, e_if_ne, e_ic_ne, e_if_lt, e_ic_lt, e_if_ge, e_ic_ge, e_if_gt, e_ic_gt, e_if_le, e_ic_le, e_tsw, e_sw0, e_sw1, e_get2, e_get0, e_get3, e_put0, e_put3, e_put2, e_ald, e_lld, e_rld, e_ast, e_lst, e_rst, e_len, e_rk, e_cpi, e_cpl, e_ret, e_rtz, e_rtl, e_rtv, e_cst, e_go, e_kkn, e_kks, e_cas0, e_cas1, e_cav1, e_cas2, e_cav2, e_cas3, e_cav3, e_cas4, e_cav4, e_cas5, e_cav5, e_cas6, e_cav6, e_cas7, e_cav7, mm_lg, mm_s1, mm_s2, mm_c2, mm_kl, mm_en, mm_sum, Int.reduceAdd, Int.reduceEq, not_true_eq_false, not_false_eq_true, false_implies, true_implies, implies_true, true_and, and_true, Option.some.injEq, Sum.inl.injEq, Sum.inr.injEq, Prod.mk.injEq, exists_eq_left', exists_eq_left, Value.category, Nat.reduceAdd, Nat.reduceLeDiff, reduceCtorEq, mm_i_si, mm_i_sl, mm_i_sr, mm_l_si, mm_l_sl, mm_l_sr, mm_r_si, mm_r_sl, mm_z_si, mm_z_sl, mm_z_sr, mm_n_si, mm_n_sl, mm_i_ci, mm_l_ci, mm_r_ci, mm_z_ci, mm_n_ci, mm_i_cl, mm_l_cl, mm_r_cl, mm_z_cl, mm_n_cl, ↓reduceIte, Nat.reduceEqDiff, and_false, false_and, and_self, eq_self, z0_0, z0_1, z0_2, z0_3, z0_4, z0_5, z0_6, z0_7, z0_8, z0_9, z0_10, z0_11, z0_12, z0_13, z0_14, z0_15, z0_16, z0_81, z0_82, z0_83, z0_84, z0_85, z0_86, z0_87, z0_88, z0_89, z0_90, z0_91, z0_92, z0_93, z0_94, z0_95, z0_96, z0_97, r0_0_0, r0_0_2, r0_0_4, r0_0_7, r0_0_10, r0_0_11, r0_0_12, r0_0_13, r0_5_0, r0_7_0, r0_7_9, r0_8_0, r0_8_1, r0_12_0, r0_12_1, r0_15_0, r0_81_3, r0_81_4, r0_81_7, r0_81_8, r0_81_9, r0_81_10, r0_81_11, r0_81_12, r0_81_14, r0_81_16, r0_81_17, r0_81_27, r0_81_28, r0_81_29, r0_81_30, Mz_z, hm1, zn1, v.1, v.2, w3.1, nI_1]
  refine hK w3.2 za1 hm1 ?_
  rw [gr_ne (by omega), gr_us (by omega) (by omega), gr_na]
  exact hr
theorem ev_iHS {d : Nat} {Q : mm_Q} (hQ : Q none (Mz (z0l.take 81) (r0l.take 81) (fun b j => if b = 0 ∧ j = 6 then -1 else 0))) : Ev (d + 3) 56 [.ref 0] (Mz [.inr 6] [[]] (fun _ _ => 0)) Q := by
  have w0 : Wz [.inr 6] [[]] (fun _ _ => 0) 1 := ⟨rfl, rfl, by omega, fun _ _ _ => rfl⟩
  have y0 : zt [.inr 6] 0 = .inr 6 := rfl
  have h1 := w0.na (by omega) (z := .inl (.int, 48))
  have z1_0 := zt_l (z := .inl (.int, 48)) (by decide) y0
  have h2 := h1.2.sr (f := 0) (v := 1) (show 0 < 2 by omega)
  have h3 := h2.2.na (by omega) (z := .inl (.object "HiddenSums$User", 4))
  have z3_0 := zt_l (z := .inl (.object "HiddenSums$User", 4)) (by decide) z1_0
  have h4 := h3.2.sr (f := 2) (v := 2) (show 0 < 3 by omega)
  have h5 := h4.2.na (by omega) (z := .inl (.int, 300))
  have z5_0 := zt_l (z := .inl (.int, 300)) (by decide) z3_0
  have h6 := h5.2.sr (f := 4) (v := 3) (show 0 < 4 by omega)
  have h7 := h6.2.si (k := 6) (v := (-1)) (show 0 < 4 by omega)
  have h8 := h7.na (by omega) (z := .inl (.int, 12))
  have z8_0 := zt_l (z := .inl (.int, 12)) (by decide) z5_0
  have h9 := h8.2.sr (f := 7) (v := 4) (show 0 < 5 by omega)
  have h10 := h9.2.na (by omega) (z := .inr 0)
  have z10_0 := zt_l (z := .inr 0) (by decide) z8_0
  refine ev_step pp_56 (Nat.le_of_ble_eq_true rfl) ?_
  simp only [e_ldi, e_ldim, e_ldl, e_ldlm, e_lda, e_ldam, e_sti, e_stl, e_sta, e_inc, e_incm, e_ii, e_ll, e_ld, e_ls, e_i1, e_l1, e_i2l, e_l2i, e_cmp, e_dupi, e_dupr, e_dup2, e_if_eq, e_ic_eq, e_if_ne, e_ic_ne, e_if_lt, e_ic_lt, e_if_ge, e_ic_ge, e_if_gt, e_ic_gt, e_if_le, e_ic_le, e_tsw, e_sw0, e_sw1, e_get2, e_get0, e_get3, e_put0, e_put3, e_put2, e_ald, e_lld, e_rld, e_ast, e_lst, e_rst, e_len, e_rk, e_cpi, e_cpl, e_ret, e_rtz, e_rtl, e_rtv, e_cst, e_go, e_kkn, e_kks, e_cas0, e_cas1, e_cav1, e_cas2, e_cav2, e_cas3, e_cav3, e_cas4, e_cav4, e_cas5, e_cav5, e_cas6, e_cav6, e_cas7, e_cav7, mm_lg, mm_s1, mm_s2, mm_c2, mm_kl, mm_en, mm_sum, Int.reduceAdd, Int.reduceEq, not_true_eq_false, not_false_eq_true, false_implies, true_implies, implies_true, true_and, and_true, Option.some.injEq, Sum.inl.injEq, Sum.inr.injEq, Prod.mk.injEq, exists_eq_left', exists_eq_left, Value.category, Nat.reduceAdd, Nat.reduceLeDiff, reduceCtorEq, mm_i_si, mm_i_sl, mm_i_sr, mm_l_si, mm_l_sl, mm_l_sr, mm_r_si, mm_r_sl, mm_z_si, mm_z_sl, mm_z_sr, mm_n_si, mm_n_sl, mm_i_ci, mm_l_ci, mm_r_ci, mm_z_ci, mm_n_ci, mm_i_cl, mm_l_cl, mm_r_cl, mm_z_cl, mm_n_cl, ↓reduceIte, Nat.reduceEqDiff, and_false, false_and, and_self, eq_self, z0_0, z0_1, z0_2, z0_3, z0_4, z0_5, z0_6, z0_7, z0_8, z0_9, z0_10, z0_11, z0_12, z0_13, z0_14, z0_15, z0_16, z0_81, z0_82, z0_83, z0_84, z0_85, z0_86, z0_87, z0_88, z0_89, z0_90, z0_91, z0_92, z0_93, z0_94, z0_95, z0_96, z0_97, r0_0_0, r0_0_2, r0_0_4, r0_0_7, r0_0_10, r0_0_11, r0_0_12, r0_0_13, r0_5_0, r0_7_0, r0_7_9, r0_8_0, r0_8_1, r0_12_0, r0_12_1, r0_15_0, r0_81_3, r0_81_4, r0_81_7, r0_81_8, r0_81_9, r0_81_10, r0_81_11, r0_81_12, r0_81_14, r0_81_16, r0_81_17, r0_81_27, r0_81_28, r0_81_29, r0_81_30, pb_X6_init, e_obi, e_new, e_nar, e_can1, mm_ks, mm_kv, mm_vk, Mz_z, ext_lt, Nat.reduceLT, true_or, or_true, cl_1, cg_1, cl_4, cg_4, cl_10, cg_10, cl_12, cg_12, cl_48, cg_48, cl_60, cg_60, cl_64, cg_64, cl_150, cg_150, cl_156, cg_156, cl_300, cg_300, cl_640, cg_640, cl_750, cg_750, cl_1824, cg_1824, w0.n, y0, h1.1, h1.2.n, z1_0, h2.1, h2.2.n, h3.1, h3.2.n, z3_0, h4.1, h4.2.n, h5.1, h5.2.n, z5_0, h6.1, h6.2.n, Mz_si, h7.n, h8.1, h8.2.n, z8_0, h9.1, h9.2.n, h10.1, h10.2.n, z10_0]
  refine ev_iAudit h10.2 (by omega) (zt_a h9.2.1) (fun wA => ?_)
  have ywA : zt (auZ _) 0 = .inr 6 := zt_l (by decide) (z10_0)
  have h11 := wA.sr (f := 10) (v := 5) (show 0 < 7 by omega)
  have h12 := h11.2.na (by omega) (z := .inr 1)
  have z12_0 := zt_l (z := .inr 1) (by decide) ywA
  simp only [e_ldi, e_ldim, e_ldl, e_ldlm, e_lda, e_ldam, e_sti, e_stl, e_sta, e_inc, e_incm, e_ii, e_ll, e_ld, e_ls, e_i1, e_l1, e_i2l, e_l2i, e_cmp, e_dupi, e_dupr, e_dup2, e_if_eq, e_ic_eq, e_if_ne, e_ic_ne, e_if_lt, e_ic_lt, e_if_ge, e_ic_ge, e_if_gt, e_ic_gt, e_if_le, e_ic_le, e_tsw, e_sw0, e_sw1, e_get2, e_get0, e_get3, e_put0, e_put3, e_put2, e_ald, e_lld, e_rld, e_ast, e_lst, e_rst, e_len, e_rk, e_cpi, e_cpl, e_ret, e_rtz, e_rtl, e_rtv, e_cst, e_go, e_kkn, e_kks, e_cas0, e_cas1, e_cav1, e_cas2, e_cav2, e_cas3, e_cav3, e_cas4, e_cav4, e_cas5, e_cav5, e_cas6, e_cav6, e_cas7, e_cav7, mm_lg, mm_s1, mm_s2, mm_c2, mm_kl, mm_en, mm_sum, Int.reduceAdd, Int.reduceEq, not_true_eq_false, not_false_eq_true, false_implies, true_implies, implies_true, true_and, and_true, Option.some.injEq, Sum.inl.injEq, Sum.inr.injEq, Prod.mk.injEq, exists_eq_left', exists_eq_left, Value.category, Nat.reduceAdd, Nat.reduceLeDiff, reduceCtorEq, mm_i_si, mm_i_sl, mm_i_sr, mm_l_si, mm_l_sl, mm_l_sr, mm_r_si, mm_r_sl, mm_z_si, mm_z_sl, mm_z_sr, mm_n_si, mm_n_sl, mm_i_ci, mm_l_ci, mm_r_ci, mm_z_ci, mm_n_ci, mm_i_cl, mm_l_cl, mm_r_cl, mm_z_cl, mm_n_cl, ↓reduceIte, Nat.reduceEqDiff, and_false, false_and, and_self, eq_self, z0_0, z0_1, z0_2, z0_3, z0_4, z0_5, z0_6, z0_7, z0_8, z0_9, z0_10, z0_11, z0_12, z0_13, z0_14, z0_15, z0_16, z0_81, z0_82, z0_83, z0_84, z0_85, z0_86, z0_87, z0_88, z0_89, z0_90, z0_91, z0_92, z0_93, z0_94, z0_95, z0_96, z0_97, r0_0_0, r0_0_2, r0_0_4, r0_0_7, r0_0_10, r0_0_11, r0_0_12, r0_0_13, r0_5_0, r0_7_0, r0_7_9, r0_8_0, r0_8_1, r0_12_0, r0_12_1, r0_15_0, r0_81_3, r0_81_4, r0_81_7, r0_81_8, r0_81_9, r0_81_10, r0_81_11, r0_81_12, r0_81_14, r0_81_16, r0_81_17, r0_81_27, r0_81_28, r0_81_29, r0_81_30, e_obi, e_new, e_nar, e_can1, mm_ks, mm_kv, mm_vk, Mz_z, ext_lt, Nat.reduceLT, true_or, or_true, cl_1, cg_1, cl_4, cg_4, cl_10, cg_10, cl_12, cg_12, cl_48, cg_48, cl_60, cg_60, cl_64, cg_64, cl_150, cg_150, cl_156, cg_156, cl_300, cg_300, cl_640, cg_640, cl_750, cg_750, cl_1824, cg_1824, wA.n, ywA, h11.1, h11.2.n, h12.1, h12.2.n, z12_0]
  refine ev_iReader h12.2 (by omega) (zt_a h11.2.1) (fun wB => ?_)
  have ywB : zt (reZ _) 0 = .inr 6 := zt_l (by decide) (zt_l (by decide) (zt_l (by decide) (zt_l (by decide) (z12_0))))
  have h13 := wB.sr (f := 11) (v := 7) (show 0 < 12 by omega)
  have h14 := h13.2.na (by omega) (z := .inr 2)
  have z14_0 := zt_l (z := .inr 2) (by decide) ywB
  simp only [e_ldi, e_ldim, e_ldl, e_ldlm, e_lda, e_ldam, e_sti, e_stl, e_sta, e_inc, e_incm, e_ii, e_ll, e_ld, e_ls, e_i1, e_l1, e_i2l, e_l2i, e_cmp, e_dupi, e_dupr, e_dup2, e_if_eq, e_ic_eq, e_if_ne, e_ic_ne, e_if_lt, e_ic_lt, e_if_ge, e_ic_ge, e_if_gt, e_ic_gt, e_if_le, e_ic_le, e_tsw, e_sw0, e_sw1, e_get2, e_get0, e_get3, e_put0, e_put3, e_put2, e_ald, e_lld, e_rld, e_ast, e_lst, e_rst, e_len, e_rk, e_cpi, e_cpl, e_ret, e_rtz, e_rtl, e_rtv, e_cst, e_go, e_kkn, e_kks, e_cas0, e_cas1, e_cav1, e_cas2, e_cav2, e_cas3, e_cav3, e_cas4, e_cav4, e_cas5, e_cav5, e_cas6, e_cav6, e_cas7, e_cav7, mm_lg, mm_s1, mm_s2, mm_c2, mm_kl, mm_en, mm_sum, Int.reduceAdd, Int.reduceEq, not_true_eq_false, not_false_eq_true, false_implies, true_implies, implies_true, true_and, and_true, Option.some.injEq, Sum.inl.injEq, Sum.inr.injEq, Prod.mk.injEq, exists_eq_left', exists_eq_left, Value.category, Nat.reduceAdd, Nat.reduceLeDiff, reduceCtorEq, mm_i_si, mm_i_sl, mm_i_sr, mm_l_si, mm_l_sl, mm_l_sr, mm_r_si, mm_r_sl, mm_z_si, mm_z_sl, mm_z_sr, mm_n_si, mm_n_sl, mm_i_ci, mm_l_ci, mm_r_ci, mm_z_ci, mm_n_ci, mm_i_cl, mm_l_cl, mm_r_cl, mm_z_cl, mm_n_cl, ↓reduceIte, Nat.reduceEqDiff, and_false, false_and, and_self, eq_self, z0_0, z0_1, z0_2, z0_3, z0_4, z0_5, z0_6, z0_7, z0_8, z0_9, z0_10, z0_11, z0_12, z0_13, z0_14, z0_15, z0_16, z0_81, z0_82, z0_83, z0_84, z0_85, z0_86, z0_87, z0_88, z0_89, z0_90, z0_91, z0_92, z0_93, z0_94, z0_95, z0_96, z0_97, r0_0_0, r0_0_2, r0_0_4, r0_0_7, r0_0_10, r0_0_11, r0_0_12, r0_0_13, r0_5_0, r0_7_0, r0_7_9, r0_8_0, r0_8_1, r0_12_0, r0_12_1, r0_15_0, r0_81_3, r0_81_4, r0_81_7, r0_81_8, r0_81_9, r0_81_10, r0_81_11, r0_81_12, r0_81_14, r0_81_16, r0_81_17, r0_81_27, r0_81_28, r0_81_29, r0_81_30, e_obi, e_new, e_nar, e_can1, mm_ks, mm_kv, mm_vk, Mz_z, ext_lt, Nat.reduceLT, true_or, or_true, cl_1, cg_1, cl_4, cg_4, cl_10, cg_10, cl_12, cg_12, cl_48, cg_48, cl_60, cg_60, cl_64, cg_64, cl_150, cg_150, cl_156, cg_156, cl_300, cg_300, cl_640, cg_640, cl_750, cg_750, cl_1824, cg_1824, wB.n, ywB, h13.1, h13.2.n, h14.1, h14.2.n, z14_0]
  refine ev_iReck h14.2 (by omega) (zt_a h13.2.1) (fun wC => ?_)
  have ywC : zt (rkZ _) 0 = .inr 6 := zt_l (by decide) (zt_l (by decide) (z14_0))
  have h15 := wC.sr (f := 12) (v := 12) (show 0 < 15 by omega)
  have h16 := h15.2.na (by omega) (z := .inr 3)
  have z16_0 := zt_l (z := .inr 3) (by decide) ywC
  simp only [e_ldi, e_ldim, e_ldl, e_ldlm, e_lda, e_ldam, e_sti, e_stl, e_sta, e_inc, e_incm, e_ii, e_ll, e_ld, e_ls, e_i1, e_l1, e_i2l, e_l2i, e_cmp, e_dupi, e_dupr, e_dup2, e_if_eq, e_ic_eq, e_if_ne, e_ic_ne, e_if_lt, e_ic_lt, e_if_ge, e_ic_ge, e_if_gt, e_ic_gt, e_if_le, e_ic_le, e_tsw, e_sw0, e_sw1, e_get2, e_get0, e_get3, e_put0, e_put3, e_put2, e_ald, e_lld, e_rld, e_ast, e_lst, e_rst, e_len, e_rk, e_cpi, e_cpl, e_ret, e_rtz, e_rtl, e_rtv, e_cst, e_go, e_kkn, e_kks, e_cas0, e_cas1, e_cav1, e_cas2, e_cav2, e_cas3, e_cav3, e_cas4, e_cav4, e_cas5, e_cav5, e_cas6, e_cav6, e_cas7, e_cav7, mm_lg, mm_s1, mm_s2, mm_c2, mm_kl, mm_en, mm_sum, Int.reduceAdd, Int.reduceEq, not_true_eq_false, not_false_eq_true, false_implies, true_implies, implies_true, true_and, and_true, Option.some.injEq, Sum.inl.injEq, Sum.inr.injEq, Prod.mk.injEq, exists_eq_left', exists_eq_left, Value.category, Nat.reduceAdd, Nat.reduceLeDiff, reduceCtorEq, mm_i_si, mm_i_sl, mm_i_sr, mm_l_si, mm_l_sl, mm_l_sr, mm_r_si, mm_r_sl, mm_z_si, mm_z_sl, mm_z_sr, mm_n_si, mm_n_sl, mm_i_ci, mm_l_ci, mm_r_ci, mm_z_ci, mm_n_ci, mm_i_cl, mm_l_cl, mm_r_cl, mm_z_cl, mm_n_cl, ↓reduceIte, Nat.reduceEqDiff, and_false, false_and, and_self, eq_self, z0_0, z0_1, z0_2, z0_3, z0_4, z0_5, z0_6, z0_7, z0_8, z0_9, z0_10, z0_11, z0_12, z0_13, z0_14, z0_15, z0_16, z0_81, z0_82, z0_83, z0_84, z0_85, z0_86, z0_87, z0_88, z0_89, z0_90, z0_91, z0_92, z0_93, z0_94, z0_95, z0_96, z0_97, r0_0_0, r0_0_2, r0_0_4, r0_0_7, r0_0_10, r0_0_11, r0_0_12, r0_0_13, r0_5_0, r0_7_0, r0_7_9, r0_8_0, r0_8_1, r0_12_0, r0_12_1, r0_15_0, r0_81_3, r0_81_4, r0_81_7, r0_81_8, r0_81_9, r0_81_10, r0_81_11, r0_81_12, r0_81_14, r0_81_16, r0_81_17, r0_81_27, r0_81_28, r0_81_29, r0_81_30, e_obi, e_new, e_nar, e_can1, mm_ks, mm_kv, mm_vk, Mz_z, ext_lt, Nat.reduceLT, true_or, or_true, cl_1, cg_1, cl_4, cg_4, cl_10, cg_10, cl_12, cg_12, cl_48, cg_48, cl_60, cg_60, cl_64, cg_64, cl_150, cg_150, cl_156, cg_156, cl_300, cg_300, cl_640, cg_640, cl_750, cg_750, cl_1824, cg_1824, wC.n, ywC, h15.1, h15.2.n, h16.1, h16.2.n, z16_0]
  refine ev_iRed h16.2 (by omega) (zt_a h15.2.1) (fun wD => ?_)
  have ywD : zt (rdZ _) 0 = .inr 6 := zt_l (by decide) (z16_0)
  have h17 := wD.sr (f := 13) (v := 15) (show 0 < 17 by omega)
  simp only [e_ldi, e_ldim, e_ldl, e_ldlm, e_lda, e_ldam, e_sti, e_stl, e_sta, e_inc, e_incm, e_ii, e_ll, e_ld, e_ls, e_i1, e_l1, e_i2l, e_l2i, e_cmp, e_dupi, e_dupr, e_dup2, e_if_eq, e_ic_eq, e_if_ne, e_ic_ne, e_if_lt, e_ic_lt, e_if_ge, e_ic_ge, e_if_gt, e_ic_gt, e_if_le, e_ic_le, e_tsw, e_sw0, e_sw1, e_get2, e_get0, e_get3, e_put0, e_put3, e_put2, e_ald, e_lld, e_rld, e_ast, e_lst, e_rst, e_len, e_rk, e_cpi, e_cpl, e_ret, e_rtz, e_rtl, e_rtv, e_cst, e_go, e_kkn, e_kks, e_cas0, e_cas1, e_cav1, e_cas2, e_cav2, e_cas3, e_cav3, e_cas4, e_cav4, e_cas5, e_cav5, e_cas6, e_cav6, e_cas7, e_cav7, mm_lg, mm_s1, mm_s2, mm_c2, mm_kl, mm_en, mm_sum, Int.reduceAdd, Int.reduceEq, not_true_eq_false, not_false_eq_true, false_implies, true_implies, implies_true, true_and, and_true, Option.some.injEq, Sum.inl.injEq, Sum.inr.injEq, Prod.mk.injEq, exists_eq_left', exists_eq_left, Value.category, Nat.reduceAdd, Nat.reduceLeDiff, reduceCtorEq, mm_i_si, mm_i_sl, mm_i_sr, mm_l_si, mm_l_sl, mm_l_sr, mm_r_si, mm_r_sl, mm_z_si, mm_z_sl, mm_z_sr, mm_n_si, mm_n_sl, mm_i_ci, mm_l_ci, mm_r_ci, mm_z_ci, mm_n_ci, mm_i_cl, mm_l_cl, mm_r_cl, mm_z_cl, mm_n_cl, ↓reduceIte, Nat.reduceEqDiff, and_false, false_and, and_self, eq_self, z0_0, z0_1, z0_2, z0_3, z0_4, z0_5, z0_6, z0_7, z0_8, z0_9, z0_10, z0_11, z0_12, z0_13, z0_14, z0_15, z0_16, z0_81, z0_82, z0_83, z0_84, z0_85, z0_86, z0_87, z0_88, z0_89, z0_90, z0_91, z0_92, z0_93, z0_94, z0_95, z0_96, z0_97, r0_0_0, r0_0_2, r0_0_4, r0_0_7, r0_0_10, r0_0_11, r0_0_12, r0_0_13, r0_5_0, r0_7_0, r0_7_9, r0_8_0, r0_8_1, r0_12_0, r0_12_1, r0_15_0, r0_81_3, r0_81_4, r0_81_7, r0_81_8, r0_81_9, r0_81_10, r0_81_11, r0_81_12, r0_81_14, r0_81_16, r0_81_17, r0_81_27, r0_81_28, r0_81_29, r0_81_30, e_obi, e_new, e_nar, e_can1, mm_ks, mm_kv, mm_vk, Mz_z, ext_lt, Nat.reduceLT, true_or, or_true, cl_1, cg_1, cl_4, cg_4, cl_10, cg_10, cl_12, cg_12, cl_48, cg_48, cl_60, cg_60, cl_64, cg_64, cl_150, cg_150, cl_156, cg_156, cl_300, cg_300, cl_640, cg_640, cl_750, cg_750, cl_1824, cg_1824, wD.n, ywD, h17.1, h17.2.n]
  rw [show (0 : Int32) = nI 0 from rfl]
  refine hs_step h17.2 (by omega) (by omega) ywD rfl rfl (by decide) (by decide) (by decide) (fun w9 za9 zm9 hr9 => ?_)
  refine hs_step w9 (by omega) (by omega) za9 zm9 hr9 (by decide) (by decide) (by decide) (fun w10 za10 zm10 hr10 => ?_)
  refine hs_step w10 (by omega) (by omega) za10 zm10 hr10 (by decide) (by decide) (by decide) (fun w11 za11 zm11 hr11 => ?_)
  refine hs_step w11 (by omega) (by omega) za11 zm11 hr11 (by decide) (by decide) (by decide) (fun w12 za12 zm12 hr12 => ?_)
  refine at_step pp_56 ?_; simp only [e_ldi, e_ldim, e_ldl, e_ldlm, e_lda, e_ldam, e_sti, e_stl, e_sta, e_inc, e_incm, e_ii, e_ll, e_ld, e_ls, e_i1, e_l1, e_i2l, e_l2i, e_cmp, e_dupi, e_dupr, e_dup2, e_if_eq, e_ic_eq, e_if_ne, e_ic_ne, e_if_lt, e_ic_lt, e_if_ge, e_ic_ge, e_if_gt, e_ic_gt, e_if_le, e_ic_le, e_tsw, e_sw0, e_sw1, e_get2, e_get0, e_get3, e_put0, e_put3, e_put2, e_ald, e_lld, e_rld, e_ast, e_lst, e_rst, e_len, e_rk, e_cpi, e_cpl, e_ret, e_rtz, e_rtl, e_rtv, e_cst, e_go, e_kkn, e_kks, e_cas0, e_cas1, e_cav1, e_cas2, e_cav2, e_cas3, e_cav3, e_cas4, e_cav4, e_cas5, e_cav5, e_cas6, e_cav6, e_cas7, e_cav7, mm_lg, mm_s1, mm_s2, mm_c2, mm_kl, mm_en, mm_sum, Int.reduceAdd, Int.reduceEq, not_true_eq_false, not_false_eq_true, false_implies, true_implies, implies_true, true_and, and_true, Option.some.injEq, Sum.inl.injEq, Sum.inr.injEq, Prod.mk.injEq, exists_eq_left', exists_eq_left, Value.category, Nat.reduceAdd, Nat.reduceLeDiff, reduceCtorEq, mm_i_si, mm_i_sl, mm_i_sr, mm_l_si, mm_l_sl, mm_l_sr, mm_r_si, mm_r_sl, mm_z_si, mm_z_sl, mm_z_sr, mm_n_si, mm_n_sl, mm_i_ci, mm_l_ci, mm_r_ci, mm_z_ci, mm_n_ci, mm_i_cl, mm_l_cl, mm_r_cl, mm_z_cl, mm_n_cl, ↓reduceIte, Nat.reduceEqDiff, and_false, false_and, and_self, eq_self, z0_0, z0_1, z0_2, z0_3, z0_4, z0_5, z0_6, z0_7, z0_8, z0_9, z0_10, z0_11, z0_12, z0_13, z0_14, z0_15, z0_16, z0_81, z0_82, z0_83, z0_84, z0_85, z0_86, z0_87, z0_88, z0_89, z0_90, z0_91, z0_92, z0_93, z0_94, z0_95, z0_96, z0_97, r0_0_0, r0_0_2, r0_0_4, r0_0_7, r0_0_10, r0_0_11, r0_0_12, r0_0_13, r0_5_0, r0_7_0, r0_7_9, r0_8_0, r0_8_1, r0_12_0, r0_12_1, r0_15_0, r0_81_3, r0_81_4, r0_81_7, r0_81_8, r0_81_9, r0_81_10, r0_81_11, r0_81_12, r0_81_14, r0_81_16, r0_81_17, r0_81_27, r0_81_28, r0_81_29, r0_81_30, pb_X6_init]
  refine ⟨fun _ => ?_, fun h => absurd (nI_le (a := 4) (b := 4) (by omega) (by omega)) h⟩
  refine at_step pp_56 ?_; simp only [e_ldi, e_ldim, e_ldl, e_ldlm, e_lda, e_ldam, e_sti, e_stl, e_sta, e_inc, e_incm, e_ii, e_ll, e_ld, e_ls, e_i1, e_l1, e_i2l, e_l2i, e_cmp, e_dupi, e_dupr, e_dup2, e_if_eq, e_ic_eq, e_if_ne, e_ic_ne, e_if_lt, e_ic_lt, e_if_ge, e_ic_ge, e_if_gt, e_ic_gt, e_if_le, e_ic_le, e_tsw, e_sw0, e_sw1, e_get2, e_get0, e_get3, e_put0, e_put3, e_put2, e_ald, e_lld, e_rld, e_ast, e_lst, e_rst, e_len, e_rk, e_cpi, e_cpl, e_ret, e_rtz, e_rtl, e_rtv, e_cst, e_go, e_kkn, e_kks, e_cas0, e_cas1, e_cav1, e_cas2, e_cav2, e_cas3, e_cav3, e_cas4, e_cav4, e_cas5, e_cav5, e_cas6, e_cav6, e_cas7, e_cav7, mm_lg, mm_s1, mm_s2, mm_c2, mm_kl, mm_en, mm_sum, Int.reduceAdd, Int.reduceEq, not_true_eq_false, not_false_eq_true, false_implies, true_implies, implies_true, true_and, and_true, Option.some.injEq, Sum.inl.injEq, Sum.inr.injEq, Prod.mk.injEq, exists_eq_left', exists_eq_left, Value.category, Nat.reduceAdd, Nat.reduceLeDiff, reduceCtorEq, mm_i_si, mm_i_sl, mm_i_sr, mm_l_si, mm_l_sl, mm_l_sr, mm_r_si, mm_r_sl, mm_z_si, mm_z_sl, mm_z_sr, mm_n_si, mm_n_sl, mm_i_ci, mm_l_ci, mm_r_ci, mm_z_ci, mm_n_ci, mm_i_cl, mm_l_cl, mm_r_cl, mm_z_cl, mm_n_cl, ↓reduceIte, Nat.reduceEqDiff, and_false, false_and, and_self, eq_self, z0_0, z0_1, z0_2, z0_3, z0_4, z0_5, z0_6, z0_7, z0_8, z0_9, z0_10, z0_11, z0_12, z0_13, z0_14, z0_15, z0_16, z0_81, z0_82, z0_83, z0_84, z0_85, z0_86, z0_87, z0_88, z0_89, z0_90, z0_91, z0_92, z0_93, z0_94, z0_95, z0_96, z0_97, r0_0_0, r0_0_2, r0_0_4, r0_0_7, r0_0_10, r0_0_11, r0_0_12, r0_0_13, r0_5_0, r0_7_0, r0_7_9, r0_8_0, r0_8_1, r0_12_0, r0_12_1, r0_15_0, r0_81_3, r0_81_4, r0_81_7, r0_81_8, r0_81_9, r0_81_10, r0_81_11, r0_81_12, r0_81_14, r0_81_16, r0_81_17, r0_81_27, r0_81_28, r0_81_29, r0_81_30, pb_X6_init]
  have hz : ∀ (zs : Zl) (rs : Rl) (ii : Nat → Nat → Int32), zs = z0l.take 81 → rs = r0l.take 81 → ii = (fun b j => if b = 0 ∧ j = 6 then -1 else 0) → Q none (Mz zs rs ii) := by
    rintro _ _ _ rfl rfl rfl
    exact hQ
  exact hz _ _ _ (by decide +kernel) (by decide +kernel) rfl
theorem ev_iMo {d : Nat} {Q : mm_Q} (hQ : Q none (Mz (z0l.take 97) (r0l.take 97) (fun b j => if b = 81 ∧ j = 6 then -1 else if b = 0 ∧ j = 6 then -1 else 0))) : Ev (d + 1) 94 [.ref 81] (Mz (z0l.take 81 ++ [.inr 7]) (r0l.take 81 ++ [[]]) (fun b j => if b = 0 ∧ j = 6 then -1 else 0)) Q := by
  have w0 : Wz (z0l.take 81 ++ [.inr 7]) (r0l.take 81 ++ [[]]) (fun b j => if b = 0 ∧ j = 6 then -1 else 0) 82 := ⟨rfl, rfl, by omega, fun b hb j => if_neg (by omega)⟩
  have y0 : zt (z0l.take 81 ++ [.inr 7]) 81 = .inr 7 := rfl
  have h1 := w0.na (by omega) (z := .inl (.int, 48))
  have z1_81 := zt_l (z := .inl (.int, 48)) (by decide) y0
  have h2 := h1.2.sr (f := 3) (v := 82) (show 81 < 83 by omega)
  have h3 := h2.2.na (by omega) (z := .inl (.byte, 300))
  have z3_81 := zt_l (z := .inl (.byte, 300)) (by decide) z1_81
  have h4 := h3.2.sr (f := 4) (v := 83) (show 81 < 84 by omega)
  have h5 := h4.2.si (k := 6) (v := (-1)) (show 81 < 84 by omega)
  have h6 := h5.na (by omega) (z := .inl (.int, 640))
  have z6_81 := zt_l (z := .inl (.int, 640)) (by decide) z3_81
  have h7 := h6.2.sr (f := 7) (v := 84) (show 81 < 85 by omega)
  have h8 := h7.2.na (by omega) (z := .inl (.int, 10))
  have z8_81 := zt_l (z := .inl (.int, 10)) (by decide) z6_81
  have h9 := h8.2.sr (f := 8) (v := 85) (show 81 < 86 by omega)
  have h10 := h9.2.na (by omega) (z := .inl (.int, 4))
  have z10_81 := zt_l (z := .inl (.int, 4)) (by decide) z8_81
  have h11 := h10.2.sr (f := 9) (v := 86) (show 81 < 87 by omega)
  have h12 := h11.2.na (by omega) (z := .inl (.boolean, 4))
  have z12_81 := zt_l (z := .inl (.boolean, 4)) (by decide) z10_81
  have h13 := h12.2.sr (f := 10) (v := 87) (show 81 < 88 by omega)
  have h14 := h13.2.na (by omega) (z := .inl (.int, 4))
  have z14_81 := zt_l (z := .inl (.int, 4)) (by decide) z12_81
  have h15 := h14.2.sr (f := 11) (v := 88) (show 81 < 89 by omega)
  have h16 := h15.2.na (by omega) (z := .inl (.int, 750))
  have z16_81 := zt_l (z := .inl (.int, 750)) (by decide) z14_81
  have h17 := h16.2.sr (f := 12) (v := 89) (show 81 < 90 by omega)
  have h18 := h17.2.na (by omega) (z := .inl (.int, 12))
  have z18_81 := zt_l (z := .inl (.int, 12)) (by decide) z16_81
  have h19 := h18.2.sr (f := 14) (v := 90) (show 81 < 91 by omega)
  have h20 := h19.2.na (by omega) (z := .inl (.int, 150))
  have z20_81 := zt_l (z := .inl (.int, 150)) (by decide) z18_81
  have h21 := h20.2.sr (f := 16) (v := 91) (show 81 < 92 by omega)
  have h22 := h21.2.na (by omega) (z := .inl (.int, 150))
  have z22_81 := zt_l (z := .inl (.int, 150)) (by decide) z20_81
  have h23 := h22.2.sr (f := 17) (v := 92) (show 81 < 93 by omega)
  have h24 := h23.2.na (by omega) (z := .inl (.long, 64))
  have z24_81 := zt_l (z := .inl (.long, 64)) (by decide) z22_81
  have h25 := h24.2.sr (f := 27) (v := 93) (show 81 < 94 by omega)
  have h26 := h25.2.na (by omega) (z := .inl (.boolean, 64))
  have z26_81 := zt_l (z := .inl (.boolean, 64)) (by decide) z24_81
  have h27 := h26.2.sr (f := 28) (v := 94) (show 81 < 95 by omega)
  have h28 := h27.2.na (by omega) (z := .inl (.long, 1824))
  have z28_81 := zt_l (z := .inl (.long, 1824)) (by decide) z26_81
  have h29 := h28.2.sr (f := 29) (v := 95) (show 81 < 96 by omega)
  have h30 := h29.2.na (by omega) (z := .inl (.int, 12))
  have z30_81 := zt_l (z := .inl (.int, 12)) (by decide) z28_81
  have h31 := h30.2.sr (f := 30) (v := 96) (show 81 < 97 by omega)
  refine ev_step pp_94 (Nat.le_of_ble_eq_true rfl) ?_
  simp only [e_ldi, e_ldim, e_ldl, e_ldlm, e_lda, e_ldam, e_sti, e_stl, e_sta, e_inc, e_incm, e_ii, e_ll, e_ld, e_ls, e_i1, e_l1, e_i2l, e_l2i, e_cmp, e_dupi, e_dupr, e_dup2, e_if_eq, e_ic_eq, e_if_ne, e_ic_ne, e_if_lt, e_ic_lt, e_if_ge, e_ic_ge, e_if_gt, e_ic_gt, e_if_le, e_ic_le, e_tsw, e_sw0, e_sw1, e_get2, e_get0, e_get3, e_put0, e_put3, e_put2, e_ald, e_lld, e_rld, e_ast, e_lst, e_rst, e_len, e_rk, e_cpi, e_cpl, e_ret, e_rtz, e_rtl, e_rtv, e_cst, e_go, e_kkn, e_kks, e_cas0, e_cas1, e_cav1, e_cas2, e_cav2, e_cas3, e_cav3, e_cas4, e_cav4, e_cas5, e_cav5, e_cas6, e_cav6, e_cas7, e_cav7, mm_lg, mm_s1, mm_s2, mm_c2, mm_kl, mm_en, mm_sum, Int.reduceAdd, Int.reduceEq, not_true_eq_false, not_false_eq_true, false_implies, true_implies, implies_true, true_and, and_true, Option.some.injEq, Sum.inl.injEq, Sum.inr.injEq, Prod.mk.injEq, exists_eq_left', exists_eq_left, Value.category, Nat.reduceAdd, Nat.reduceLeDiff, reduceCtorEq, mm_i_si, mm_i_sl, mm_i_sr, mm_l_si, mm_l_sl, mm_l_sr, mm_r_si, mm_r_sl, mm_z_si, mm_z_sl, mm_z_sr, mm_n_si, mm_n_sl, mm_i_ci, mm_l_ci, mm_r_ci, mm_z_ci, mm_n_ci, mm_i_cl, mm_l_cl, mm_r_cl, mm_z_cl, mm_n_cl, ↓reduceIte, Nat.reduceEqDiff, and_false, false_and, and_self, eq_self, z0_0, z0_1, z0_2, z0_3, z0_4, z0_5, z0_6, z0_7, z0_8, z0_9, z0_10, z0_11, z0_12, z0_13, z0_14, z0_15, z0_16, z0_81, z0_82, z0_83, z0_84, z0_85, z0_86, z0_87, z0_88, z0_89, z0_90, z0_91, z0_92, z0_93, z0_94, z0_95, z0_96, z0_97, r0_0_0, r0_0_2, r0_0_4, r0_0_7, r0_0_10, r0_0_11, r0_0_12, r0_0_13, r0_5_0, r0_7_0, r0_7_9, r0_8_0, r0_8_1, r0_12_0, r0_12_1, r0_15_0, r0_81_3, r0_81_4, r0_81_7, r0_81_8, r0_81_9, r0_81_10, r0_81_11, r0_81_12, r0_81_14, r0_81_16, r0_81_17, r0_81_27, r0_81_28, r0_81_29, r0_81_30, pb_X7_init, e_obi, e_new, e_nar, e_can1, mm_ks, mm_kv, mm_vk, Mz_z, ext_lt, Nat.reduceLT, true_or, or_true, cl_1, cg_1, cl_4, cg_4, cl_10, cg_10, cl_12, cg_12, cl_48, cg_48, cl_60, cg_60, cl_64, cg_64, cl_150, cg_150, cl_156, cg_156, cl_300, cg_300, cl_640, cg_640, cl_750, cg_750, cl_1824, cg_1824, w0.n, y0, h1.1, h1.2.n, z1_81, h2.1, h2.2.n, h3.1, h3.2.n, z3_81, h4.1, h4.2.n, Mz_si, h5.n, h6.1, h6.2.n, z6_81, h7.1, h7.2.n, h8.1, h8.2.n, z8_81, h9.1, h9.2.n, h10.1, h10.2.n, z10_81, h11.1, h11.2.n, h12.1, h12.2.n, z12_81, h13.1, h13.2.n, h14.1, h14.2.n, z14_81, h15.1, h15.2.n, h16.1, h16.2.n, z16_81, h17.1, h17.2.n, h18.1, h18.2.n, z18_81, h19.1, h19.2.n, h20.1, h20.2.n, z20_81, h21.1, h21.2.n, h22.1, h22.2.n, z22_81, h23.1, h23.2.n, h24.1, h24.2.n, z24_81, h25.1, h25.2.n, h26.1, h26.2.n, z26_81, h27.1, h27.2.n, h28.1, h28.2.n, z28_81, h29.1, h29.2.n, h30.1, h30.2.n, z30_81, h31.1, h31.2.n]
  exact hQ
