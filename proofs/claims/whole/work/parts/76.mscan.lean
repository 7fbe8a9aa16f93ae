/-! the reference's scan of a token -/
def tkc (k v : Int32) : Int32 := if k = 0 then -1 else if k = 1 then -2 else if k = 6 then -140 else if k = 7 then -141 else tcd (k, v)
/-- the two tapes: bytes with a sign, bytes without -/
def TB (μ : mm_M) (L : Nat) : Prop := ∀ j, j < L → (mm_i μ 83 j = mm_i μ 3 j ∧ 0 ≤ mm_i μ 3 j ∧ mm_i μ 3 j ≤ 127) ∨ (128 ≤ mm_i μ 3 j ∧ mm_i μ 3 j ≤ 255 ∧ mm_i μ 83 j < 0)
theorem i32_le {a b : Int32} : a ≤ b ↔ a.toInt ≤ b.toInt := Int32.le_iff_toInt_le
theorem i32_lt {a b : Int32} : a < b ↔ a.toInt < b.toInt := Int32.lt_iff_toInt_lt
theorem i32_eq {a b : Int32} : a = b ↔ a.toInt = b.toInt := Int32.toInt_inj.symm
theorem TB_eq {μ : mm_M} {L j : Nat} {c : Int32} (h : TB μ L) (hj : j < L) (hc : 0 ≤ c) (hc2 : c ≤ 127) : mm_i μ 83 j = c ↔ mm_i μ 3 j = c := by
  rcases h j hj with ⟨e, -, -⟩ | ⟨h1, h2, h3⟩
  · rw [e]
  · constructor
    · intro q; rw [q] at h3; exact absurd hc (Int32.not_le.mpr h3)
    · intro q; rw [q] at h1; exact absurd (Int32.le_trans h1 hc2) (by decide)
theorem TB_in {μ : mm_M} {L j : Nat} {a b : Int32} (h : TB μ L) (hj : j < L) (ha : 0 ≤ a) (hb : b ≤ 127) : (a ≤ mm_i μ 83 j ∧ mm_i μ 83 j ≤ b) ↔ (a ≤ mm_i μ 3 j ∧ mm_i μ 3 j ≤ b) := by
  rcases h j hj with ⟨e, -, -⟩ | ⟨h1, h2, h3⟩
  · rw [e]
  · constructor
    · intro q; exact absurd (Int32.le_trans ha q.1) (Int32.not_le.mpr h3)
    · intro q; exact absurd (Int32.le_trans h1 (Int32.le_trans q.2 hb)) (by decide)
theorem TB_same {μ : mm_M} {L j : Nat} (h : TB μ L) (hj : j < L) (hc : mm_i μ 3 j ≤ 127) : mm_i μ 83 j = mm_i μ 3 j := by
  rcases h j hj with ⟨e, -, -⟩ | ⟨h1, h2, h3⟩
  · exact e
  · exact absurd (Int32.le_trans h1 hc) (by decide)
theorem ev_mLetter {d : Nat} {μ : mm_M} {c : Int32} {Q : mm_Q} (hQ : Q (some (.int (b2 (ltr c)))) μ) : Ev (d + 1) 104 [.int c] μ Q := by
  refine ev_step pp_104 (Nat.le_of_ble_eq_true rfl) ?_
  simp only [e_ldi, e_ldim, e_ldl, e_ldlm, e_lda, e_ldam, e_sti, e_stl, e_sta, e_inc, e_incm, e_ii, e_ll, e_ld, e_ls, e_i1, e_l1, e_i2l, e_l2i, e_cmp, e_dupi, e_dupr, e_dup2, e_if_eq, e_ic_eq, e_if_ne, e_ic_ne, e_if_lt, e_ic_lt, e_if_ge, e_ic_ge, e_if_gt, e_ic_gt, e_if_le, e_ic_le, e_tsw, e_sw0, e_sw1, e_get2, e_get0, e_get3, e_put0, e_put3, e_put2, e_ald, e_lld, e_rld, e_ast, e_lst, e_rst, e_len, e_rk, e_cpi, e_cpl, e_ret, e_rtz, e_rtl, e_rtv, e_cst, e_go, e_kkn, e_kks, e_cas0, e_cas1, e_cav1, e_cas2, e_cav2, e_cas3, e_cav3, e_cas4, e_cav4, e_cas5, e_cav5, e_cas6, e_cav6, e_cas7, e_cav7, mm_lg, mm_s1, mm_s2, mm_c2, mm_kl, mm_en, mm_sum, Int.reduceAdd, Int.reduceEq, not_true_eq_false, not_false_eq_true, false_implies, true_implies, implies_true, true_and, and_true, Option.some.injEq, Sum.inl.injEq, Sum.inr.injEq, Prod.mk.injEq, exists_eq_left', exists_eq_left, Value.category, Nat.reduceAdd, Nat.reduceLeDiff, reduceCtorEq, mm_i_si, mm_i_sl, mm_i_sr, mm_l_si, mm_l_sl, mm_l_sr, mm_r_si, mm_r_sl, mm_z_si, mm_z_sl, mm_z_sr, mm_n_si, mm_n_sl, mm_i_ci, mm_l_ci, mm_r_ci, mm_z_ci, mm_n_ci, mm_i_cl, mm_l_cl, mm_r_cl, mm_z_cl, mm_n_cl, ↓reduceIte, Nat.reduceEqDiff, and_false, false_and, and_self, eq_self, z0_0, z0_1, z0_2, z0_3, z0_4, z0_5, z0_6, z0_7, z0_8, z0_9, z0_10, z0_11, z0_12, z0_13, z0_14, z0_15, z0_16, z0_81, z0_82, z0_83, z0_84, z0_85, z0_86, z0_87, z0_88, z0_89, z0_90, z0_91, z0_92, z0_93, z0_94, z0_95, z0_96, z0_97, r0_0_0, r0_0_2, r0_0_4, r0_0_7, r0_0_10, r0_0_11, r0_0_12, r0_0_13, r0_5_0, r0_7_0, r0_7_9, r0_8_0, r0_8_1, r0_12_0, r0_12_1, r0_15_0, r0_81_3, r0_81_4, r0_81_7, r0_81_8, r0_81_9, r0_81_10, r0_81_11, r0_81_12, r0_81_14, r0_81_16, r0_81_17, r0_81_27, r0_81_28, r0_81_29, r0_81_30, pb_X7_isLetter]
  refine ⟨fun h => ?_, fun h => ⟨fun h2 => ?_, fun h2 => ?_⟩⟩
  · rw [b2_f (fun q => Int32.not_le.mpr h q.1)] at hQ
    refine at_step pp_104 ?_; simp only [e_ldi, e_ldim, e_ldl, e_ldlm, e_lda, e_ldam, e_sti, e_stl, e_sta, e_inc, e_incm, e_ii, e_ll, e_ld, e_ls, e_i1, e_l1, e_i2l, e_l2i, e_cmp, e_dupi, e_dupr, e_dup2, e_if_eq, e_ic_eq, e_if_ne, e_ic_ne, e_if_lt, e_ic_lt, e_if_ge, e_ic_ge, e_if_gt, e_ic_gt, e_if_le, e_ic_le, e_tsw, e_sw0, e_sw1, e_get2, e_get0, e_get3, e_put0, e_put3, e_put2, e_ald, e_lld, e_rld, e_ast, e_lst, e_rst, e_len, e_rk, e_cpi, e_cpl, e_ret, e_rtz, e_rtl, e_rtv, e_cst, e_go, e_kkn, e_kks, e_cas0, e_cas1, e_cav1, e_cas2, e_cav2, e_cas3, e_cav3, e_cas4, e_cav4, e_cas5, e_cav5, e_cas6, e_cav6, e_cas7, e_cav7, mm_lg, mm_s1, mm_s2, mm_c2, mm_kl, mm_en, mm_sum, Int.reduceAdd, Int.reduceEq, not_true_eq_false, not_false_eq_true, false_implies, true_implies, implies_true, true_and, and_true, Option.some.injEq, Sum.inl.injEq, Sum.inr.injEq, Prod.mk.injEq, exists_eq_left', exists_eq_left, Value.category, Nat.reduceAdd, Nat.reduceLeDiff, reduceCtorEq, mm_i_si, mm_i_sl, mm_i_sr, mm_l_si, mm_l_sl, mm_l_sr, mm_r_si, mm_r_sl, mm_z_si, mm_z_sl, mm_z_sr, mm_n_si, mm_n_sl, mm_i_ci, mm_l_ci, mm_r_ci, mm_z_ci, mm_n_ci, mm_i_cl, mm_l_cl, mm_r_cl, mm_z_cl, mm_n_cl, ↓reduceIte, Nat.reduceEqDiff, and_false, false_and, and_self, eq_self, z0_0, z0_1, z0_2, z0_3, z0_4, z0_5, z0_6, z0_7, z0_8, z0_9, z0_10, z0_11, z0_12, z0_13, z0_14, z0_15, z0_16, z0_81, z0_82, z0_83, z0_84, z0_85, z0_86, z0_87, z0_88, z0_89, z0_90, z0_91, z0_92, z0_93, z0_94, z0_95, z0_96, z0_97, r0_0_0, r0_0_2, r0_0_4, r0_0_7, r0_0_10, r0_0_11, r0_0_12, r0_0_13, r0_5_0, r0_7_0, r0_7_9, r0_8_0, r0_8_1, r0_12_0, r0_12_1, r0_15_0, r0_81_3, r0_81_4, r0_81_7, r0_81_8, r0_81_9, r0_81_10, r0_81_11, r0_81_12, r0_81_14, r0_81_16, r0_81_17, r0_81_27, r0_81_28, r0_81_29, r0_81_30, pb_X7_isLetter]; refine at_step pp_104 ?_; simp only [e_ldi, e_ldim, e_ldl, e_ldlm, e_lda, e_ldam, e_sti, e_stl, e_sta, e_inc, e_incm, e_ii, e_ll, e_ld, e_ls, e_i1, e_l1, e_i2l, e_l2i, e_cmp, e_dupi, e_dupr, e_dup2, e_if_eq, e_ic_eq, e_if_ne, e_ic_ne, e_if_lt, e_ic_lt, e_if_ge, e_ic_ge, e_if_gt, e_ic_gt, e_if_le, e_ic_le, e_tsw, e_sw0, e_sw1, e_get2, e_get0, e_get3, e_put0, e_put3, e_put2, e_ald, e_lld, e_rld, e_ast, e_lst, e_rst, e_len, e_rk, e_cpi, e_cpl, e_ret, e_rtz, e_rtl, e_rtv, e_cst, e_go, e_kkn, e_kks, e_cas0, e_cas1, e_cav1, e_cas2, e_cav2, e_cas3, e_cav3, e_cas4, e_cav4, e_cas5, e_cav5, e_cas6, e_cav6, e_cas7, e_cav7, mm_lg, mm_s1, mm_s2, mm_c2, mm_kl, mm_en, mm_sum, Int.reduceAdd, Int.reduceEq, not_true_eq_false, not_false_eq_true, false_implies, true_implies, implies_true, true_and, and_true, Option.some.injEq, Sum.inl.injEq, Sum.inr.injEq, Prod.mk.injEq, exists_eq_left', exists_eq_left, Value.category, Nat.reduceAdd, Nat.reduceLeDiff, reduceCtorEq, mm_i_si, mm_i_sl, mm_i_sr, mm_l_si, mm_l_sl, mm_l_sr, mm_r_si, mm_r_sl, mm_z_si, mm_z_sl, mm_z_sr, mm_n_si, mm_n_sl, mm_i_ci, mm_l_ci, mm_r_ci, mm_z_ci, mm_n_ci, mm_i_cl, mm_l_cl, mm_r_cl, mm_z_cl, mm_n_cl, ↓reduceIte, Nat.reduceEqDiff, and_false, false_and, and_self, eq_self, z0_0, z0_1, z0_2, z0_3, z0_4, z0_5, z0_6, z0_7, z0_8, z0_9, z0_10, z0_11, z0_12, z0_13, z0_14, z0_15, z0_16, z0_81, z0_82, z0_83, z0_84, z0_85, z0_86, z0_87, z0_88, z0_89, z0_90, z0_91, z0_92, z0_93, z0_94, z0_95, z0_96, z0_97, r0_0_0, r0_0_2, r0_0_4, r0_0_7, r0_0_10, r0_0_11, r0_0_12, r0_0_13, r0_5_0, r0_7_0, r0_7_9, r0_8_0, r0_8_1, r0_12_0, r0_12_1, r0_15_0, r0_81_3, r0_81_4, r0_81_7, r0_81_8, r0_81_9, r0_81_10, r0_81_11, r0_81_12, r0_81_14, r0_81_16, r0_81_17, r0_81_27, r0_81_28, r0_81_29, r0_81_30, pb_X7_isLetter]; exact ⟨Or.inl trivial, hQ⟩
  · rw [b2_f (fun q => Int32.not_le.mpr h2 q.2)] at hQ
    refine at_step pp_104 ?_; simp only [e_ldi, e_ldim, e_ldl, e_ldlm, e_lda, e_ldam, e_sti, e_stl, e_sta, e_inc, e_incm, e_ii, e_ll, e_ld, e_ls, e_i1, e_l1, e_i2l, e_l2i, e_cmp, e_dupi, e_dupr, e_dup2, e_if_eq, e_ic_eq, e_if_ne, e_ic_ne, e_if_lt, e_ic_lt, e_if_ge, e_ic_ge, e_if_gt, e_ic_gt, e_if_le, e_ic_le, e_tsw, e_sw0, e_sw1, e_get2, e_get0, e_get3, e_put0, e_put3, e_put2, e_ald, e_lld, e_rld, e_ast, e_lst, e_rst, e_len, e_rk, e_cpi, e_cpl, e_ret, e_rtz, e_rtl, e_rtv, e_cst, e_go, e_kkn, e_kks, e_cas0, e_cas1, e_cav1, e_cas2, e_cav2, e_cas3, e_cav3, e_cas4, e_cav4, e_cas5, e_cav5, e_cas6, e_cav6, e_cas7, e_cav7, mm_lg, mm_s1, mm_s2, mm_c2, mm_kl, mm_en, mm_sum, Int.reduceAdd, Int.reduceEq, not_true_eq_false, not_false_eq_true, false_implies, true_implies, implies_true, true_and, and_true, Option.some.injEq, Sum.inl.injEq, Sum.inr.injEq, Prod.mk.injEq, exists_eq_left', exists_eq_left, Value.category, Nat.reduceAdd, Nat.reduceLeDiff, reduceCtorEq, mm_i_si, mm_i_sl, mm_i_sr, mm_l_si, mm_l_sl, mm_l_sr, mm_r_si, mm_r_sl, mm_z_si, mm_z_sl, mm_z_sr, mm_n_si, mm_n_sl, mm_i_ci, mm_l_ci, mm_r_ci, mm_z_ci, mm_n_ci, mm_i_cl, mm_l_cl, mm_r_cl, mm_z_cl, mm_n_cl, ↓reduceIte, Nat.reduceEqDiff, and_false, false_and, and_self, eq_self, z0_0, z0_1, z0_2, z0_3, z0_4, z0_5, z0_6, z0_7, z0_8, z0_9, z0_10, z0_11, z0_12, z0_13, z0_14, z0_15, z0_16, z0_81, z0_82, z0_83, z0_84, z0_85, z0_86, z0_87, z0_88, z0_89, z0_90, z0_91, z0_92, z0_93, z0_94, z0_95, z0_96, z0_97, r0_0_0, r0_0_2, r0_0_4, r0_0_7, r0_0_10, r0_0_11, r0_0_12, r0_0_13, r0_5_0, r0_7_0, r0_7_9, r0_8_0, r0_8_1, r0_12_0, r0_12_1, r0_15_0, r0_81_3, r0_81_4, r0_81_7, r0_81_8, r0_81_9, r0_81_10, r0_81_11, r0_81_12, r0_81_14, r0_81_16, r0_81_17, r0_81_27, r0_81_28, r0_81_29, r0_81_30, pb_X7_isLetter]; refine at_step pp_104 ?_; simp only [e_ldi, e_ldim, e_ldl, e_ldlm, e_lda, e_ldam, e_sti, e_stl, e_sta, e_inc, e_incm, e_ii, e_ll, e_ld, e_ls, e_i1, e_l1, e_i2l, e_l2i, e_cmp, e_dupi, e_dupr, e_dup2, e_if_eq, e_ic_eq, e_if_ne, e_ic_ne, e_if_lt, e_ic_lt, e_if_ge, e_ic_ge, e_if_gt, e_ic_gt, e_if_le, e_ic_le, e_tsw, e_sw0, e_sw1, e_get2, e_get0, e_get3, e_put0, e_put3, e_put2, e_ald, e_lld, e_rld, e_ast, e_lst, e_rst, e_len, e_rk, e_cpi, e_cpl, e_ret, e_rtz, e_rtl, e_rtv, e_cst, e_go, e_kkn, e_kks, e_cas0, e_cas1, e_cav1, e_cas2, e_cav2, e_cas3, e_cav3, e_cas4, e_cav4, e_cas5, e_cav5, e_cas6, e_cav6, e_cas7, e_cav7, mm_lg, mm_s1, mm_s2, mm_c2, mm_kl, mm_en, mm_sum, Int.reduceAdd, Int.reduceEq, not_true_eq_false, not_false_eq_true, false_implies, true_implies, implies_true, true_and, and_true, Option.some.injEq, Sum.inl.injEq, Sum.inr.injEq, Prod.mk.injEq, exists_eq_left', exists_eq_left, Value.category, Nat.reduceAdd, Nat.reduceLeDiff, reduceCtorEq, mm_i_si, mm_i_sl, mm_i_sr, mm_l_si, mm_l_sl, mm_l_sr, mm_r_si, mm_r_sl, mm_z_si, mm_z_sl, mm_z_sr, mm_n_si, mm_n_sl, mm_i_ci, mm_l_ci, mm_r_ci, mm_z_ci, mm_n_ci, mm_i_cl, mm_l_cl, mm_r_cl, mm_z_cl, mm_n_cl, ↓reduceIte, Nat.reduceEqDiff, and_false, false_and, and_self, eq_self, z0_0, z0_1, z0_2, z0_3, z0_4, z0_5, z0_6, z0_7, z0_8, z0_9, z0_10, z0_11, z0_12, z0_13, z0_14, z0_15, z0_16, z0_81, z0_82, z0_83, z0_84, z0_85, z0_86, z0_87, z0_88, z0_89, z0_90, z0_91, z0_92, z0_93, z0_94, z0_95, z0_96, z0_97, r0_0_0, r0_0_2, r0_0_4, r0_0_7, r0_0_10, r0_0_11, r0_0_12, r0_0_13, r0_5_0, r0_7_0, r0_7_9, r0_8_0, r0_8_1, r0_12_0, r0_12_1, r0_15_0, r0_81_3, r0_81_4, r0_81_7, r0_81_8, r0_81_9, r0_81_10, r0_81_11, r0_81_12, r0_81_14, r0_81_16, r0_81_17, r0_81_27, r0_81_28, r0_81_29, r0_81_30, pb_X7_isLetter]; exact ⟨Or.inl trivial, hQ⟩
  · rw [b2_t ⟨Int32.not_lt.mp h, Int32.not_lt.mp h2⟩] at hQ
    refine at_step pp_104 ?_; simp only [e_ldi, e_ldim, e_ldl, e_ldlm, e_lda, e_ldam, e_sti, e_stl, e_sta, e_inc, e_incm, e_ii, e_ll, e_ld, e_ls, e_i1, e_l1, e_i2l, e_l2i, e_cmp, e_dupi, e_dupr, e_dup2, e_if_eq, e_ic_eq, e_if_ne, e_ic_ne, e_if_lt, e_ic_lt, e_if_ge, e_ic_ge, e_if_gt, e_ic_gt, e_if_le, e_ic_le, e_tsw, e_sw0, e_sw1, e_get2, e_get0, e_get3, e_put0, e_put3, e_put2, e_ald, e_lld, e_rld, e_ast, e_lst, e_rst, e_len, e_rk, e_cpi, e_cpl, e_ret, e_rtz, e_rtl, e_rtv, e_cst, e_go, e_kkn, e_kks, e_cas0, e_cas1, e_cav1, e_cas2, e_cav2, e_cas3, e_cav3, e_cas4, e_cav4, e_cas5, e_cav5, e_cas6, e_cav6, e_cas7, e_cav7, mm_lg, mm_s1, mm_s2, mm_c2, mm_kl, mm_en, mm_sum, Int.reduceAdd, Int.reduceEq, not_true_eq_false, not_false_eq_true, false_implies, true_implies, implies_true, true_and, and_true, Option.some.injEq, Sum.inl.injEq, Sum.inr.injEq, Prod.mk.injEq, exists_eq_left', exists_eq_left, Value.category, Nat.reduceAdd, Nat.reduceLeDiff, reduceCtorEq, mm_i_si, mm_i_sl, mm_i_sr, mm_l_si, mm_l_sl, mm_l_sr, mm_r_si, mm_r_sl, mm_z_si, mm_z_sl, mm_z_sr, mm_n_si, mm_n_sl, mm_i_ci, mm_l_ci, mm_r_ci, mm_z_ci, mm_n_ci, mm_i_cl, mm_l_cl, mm_r_cl, mm_z_cl, mm_n_cl, ↓reduceIte, Nat.reduceEqDiff, and_false, false_and, and_self, eq_self, z0_0, z0_1, z0_2, z0_3, z0_4, z0_5, z0_6, z0_7, z0_8, z0_9, z0_10, z0_11, z0_12, z0_13, z0_14, z0_15, z0_16, z0_81, z0_82, z0_83, z0_84, z0_85, z0_86, z0_87, z0_88, z0_89, z0_90, z0_91, z0_92, z0_93, z0_94, z0_95, z0_96, z0_97, r0_0_0, r0_0_2, r0_0_4, r0_0_7, r0_0_10, r0_0_11, r0_0_12, r0_0_13, r0_5_0, r0_7_0, r0_7_9, r0_8_0, r0_8_1, r0_12_0, r0_12_1, r0_15_0, r0_81_3, r0_81_4, r0_81_7, r0_81_8, r0_81_9, r0_81_10, r0_81_11, r0_81_12, r0_81_14, r0_81_16, r0_81_17, r0_81_27, r0_81_28, r0_81_29, r0_81_30, pb_X7_isLetter]; exact ⟨Or.inr trivial, hQ⟩
theorem ev_mFigure {d : Nat} {μ : mm_M} {c : Int32} {Q : mm_Q} (hQ : Q (some (.int (b2 (fgr c)))) μ) : Ev (d + 1) 105 [.int c] μ Q := by
  refine ev_step pp_105 (Nat.le_of_ble_eq_true rfl) ?_
  simp only [e_ldi, e_ldim, e_ldl, e_ldlm, e_lda, e_ldam, e_sti, e_stl, e_sta, e_inc, e_incm, e_ii, e_ll, e_ld, e_ls, e_i1, e_l1, e_i2l, e_l2i, e_cmp, e_dupi, e_dupr, e_dup2, e_if_eq, e_ic_eq, e_if_ne, e_ic_ne, e_if_lt, e_ic_lt, e_if_ge, e_ic_ge, e_if_gt, e_ic_gt, e_if_le, e_ic_le, e_tsw, e_sw0, e_sw1, e_get2, e_get0, e_get3, e_put0, e_put3, e_put2, e_ald, e_lld, e_rld, e_ast, e_lst, e_rst, e_len, e_rk, e_cpi, e_cpl, e_ret, e_rtz, e_rtl, e_rtv, e_cst, e_go, e_kkn, e_kks, e_cas0, e_cas1, e_cav1, e_cas2, e_cav2, e_cas3, e_cav3, e_cas4, e_cav4, e_cas5, e_cav5, e_cas6, e_cav6, e_cas7, e_cav7, mm_lg, mm_s1, mm_s2, mm_c2, mm_kl, mm_en, mm_sum, Int.reduceAdd, Int.reduceEq, not_true_eq_false, not_false_eq_true, false_implies, true_implies, implies_true, true_and, and_true, Option.some.injEq, Sum.inl.injEq, Sum.inr.injEq, Prod.mk.injEq, exists_eq_left', exists_eq_left, Value.category, Nat.reduceAdd, Nat.reduceLeDiff, reduceCtorEq, mm_i_si, mm_i_sl, mm_i_sr, mm_l_si, mm_l_sl, mm_l_sr, mm_r_si, mm_r_sl, mm_z_si, mm_z_sl, mm_z_sr, mm_n_si, mm_n_sl, mm_i_ci, mm_l_ci, mm_r_ci, mm_z_ci, mm_n_ci, mm_i_cl, mm_l_cl, mm_r_cl, mm_z_cl, mm_n_cl, ↓reduceIte, Nat.reduceEqDiff, and_false, false_and, and_self, eq_self, z0_0, z0_1, z0_2, z0_3, z0_4, z0_5, z0_6, z0_7, z0_8, z0_9, z0_10, z0_11, z0_12, z0_13, z0_14, z0_15, z0_16, z0_81, z0_82, z0_83, z0_84, z0_85, z0_86, z0_87, z0_88, z0_89, z0_90, z0_91, z0_92, z0_93, z0_94, z0_95, z0_96, z0_97, r0_0_0, r0_0_2, r0_0_4, r0_0_7, r0_0_10, r0_0_11, r0_0_12, r0_0_13, r0_5_0, r0_7_0, r0_7_9, r0_8_0, r0_8_1, r0_12_0, r0_12_1, r0_15_0, r0_81_3, r0_81_4, r0_81_7, r0_81_8, r0_81_9, r0_81_10, r0_81_11, r0_81_12, r0_81_14, r0_81_16, r0_81_17, r0_81_27, r0_81_28, r0_81_29, r0_81_30, pb_X7_isFigure]
  refine ⟨fun h => ?_, fun h => ⟨fun h2 => ?_, fun h2 => ?_⟩⟩
  · rw [b2_f (fun q => Int32.not_le.mpr h q.1)] at hQ
    refine at_step pp_105 ?_; simp only [e_ldi, e_ldim, e_ldl, e_ldlm, e_lda, e_ldam, e_sti, e_stl, e_sta, e_inc, e_incm, e_ii, e_ll, e_ld, e_ls, e_i1, e_l1, e_i2l, e_l2i, e_cmp, e_dupi, e_dupr, e_dup2, e_if_eq, e_ic_eq, e_if_ne, e_ic_ne, e_if_lt, e_ic_lt, e_if_ge, e_ic_ge, e_if_gt, e_ic_gt, e_if_le, e_ic_le, e_tsw, e_sw0, e_sw1, e_get2, e_get0, e_get3, e_put0, e_put3, e_put2, e_ald, e_lld, e_rld, e_ast, e_lst, e_rst, e_len, e_rk, e_cpi, e_cpl, e_ret, e_rtz, e_rtl, e_rtv, e_cst, e_go, e_kkn, e_kks, e_cas0, e_cas1, e_cav1, e_cas2, e_cav2, e_cas3, e_cav3, e_cas4, e_cav4, e_cas5, e_cav5, e_cas6, e_cav6, e_cas7, e_cav7, mm_lg, mm_s1, mm_s2, mm_c2, mm_kl, mm_en, mm_sum, Int.reduceAdd, Int.reduceEq, not_true_eq_false, not_false_eq_true, false_implies, true_implies, implies_true, true_and, and_true, Option.some.injEq, Sum.inl.injEq, Sum.inr.injEq, Prod.mk.injEq, exists_eq_left', exists_eq_left, Value.category, Nat.reduceAdd, Nat.reduceLeDiff, reduceCtorEq, mm_i_si, mm_i_sl, mm_i_sr, mm_l_si, mm_l_sl, mm_l_sr, mm_r_si, mm_r_sl, mm_z_si, mm_z_sl, mm_z_sr, mm_n_si, mm_n_sl, mm_i_ci, mm_l_ci, mm_r_ci, mm_z_ci, mm_n_ci, mm_i_cl, mm_l_cl, mm_r_cl, mm_z_cl, mm_n_cl, ↓reduceIte, Nat.reduceEqDiff, and_false, false_and, and_self, eq_self, z0_0, z0_1, z0_2, z0_3, z0_4, z0_5, z0_6, z0_7, z0_8, z0_9, z0_10, z0_11, z0_12, z0_13, z0_14, z0_15, z0_16, z0_81, z0_82, z0_83, z0_84, z0_85, z0_86, z0_87, z0_88, z0_89, z0_90, z0_91, z0_92, z0_93, z0_94, z0_95, z0_96, z0_97, r0_0_0, r0_0_2, r0_0_4, r0_0_7, r0_0_10, r0_0_11, r0_0_12, r0_0_13, r0_5_0, r0_7_0, r0_7_9, r0_8_0, r0_8_1, r0_12_0, r0_12_1, r0_15_0, r0_81_3, r0_81_4, r0_81_7, r0_81_8, r0_81_9, r0_81_10, r0_81_11, r0_81_12, r0_81_14, r0_81_16, r0_81_17, r0_81_27, r0_81_28, r0_81_29, r0_81_30, pb_X7_isFigure]; refine at_step pp_105 ?_; simp only [e_ldi, e_ldim, e_ldl, e_ldlm, e_lda, e_ldam, e_sti, e_stl, e_sta, e_inc, e_incm, e_ii, e_ll, e_ld, e_ls, e_i1, e_l1, e_i2l, e_l2i, e_cmp, e_dupi, e_dupr, e_dup2, e_if_eq, e_ic_eq, e_if_ne, e_ic_ne, e_if_lt, e_ic_lt, e_if_ge, e_ic_ge, e_if_gt, e_ic_gt, e_if_le, e_ic_le, e_tsw, e_sw0, e_sw1, e_get2, e_get0, e_get3, e_put0, e_put3, e_put2, e_ald, e_lld, e_rld, e_ast, e_lst, e_rst, e_len, e_rk, e_cpi, e_cpl, e_ret, e_rtz, e_rtl, e_rtv, e_cst, e_go, e_kkn, e_kks, e_cas0, e_cas1, e_cav1, e_cas2, e_cav2, e_cas3, e_cav3, e_cas4, e_cav4, e_cas5, e_cav5, e_cas6, e_cav6, e_cas7, e_cav7, mm_lg, mm_s1, mm_s2, mm_c2, mm_kl, mm_en, mm_sum, Int.reduceAdd, Int.reduceEq, not_true_eq_false, not_false_eq_true, false_implies, true_implies, implies_true, true_and, and_true, Option.some.injEq, Sum.inl.injEq, Sum.inr.injEq, Prod.mk.injEq, exists_eq_left', exists_eq_left, Value.category, Nat.reduceAdd, Nat.reduceLeDiff, reduceCtorEq, mm_i_si, mm_i_sl, mm_i_sr, mm_l_si, mm_l_sl, mm_l_sr, mm_r_si, mm_r_sl, mm_z_si, mm_z_sl, mm_z_sr, mm_n_si, mm_n_sl, mm_i_ci, mm_l_ci, mm_r_ci, mm_z_ci, mm_n_ci, mm_i_cl, mm_l_cl, mm_r_cl, mm_z_cl, mm_n_cl, ↓reduceIte, Nat.reduceEqDiff, and_false, false_and, and_self, eq_self, z0_0, z0_1, z0_2, z0_3, z0_4, z0_5, z0_6, z0_7, z0_8, z0_9, z0_10, z0_11, z0_12, z0_13, z0_14, z0_15, z0_16, z0_81, z0_82, z0_83, z0_84, z0_85, z0_86, z0_87, z0_88, z0_89, z0_90, z0_91, z0_92, z0_93, z0_94, z0_95, z0_96, z0_97, r0_0_0, r0_0_2, r0_0_4, r0_0_7, r0_0_10, r0_0_11, r0_0_12, r0_0_13, r0_5_0, r0_7_0, r0_7_9, r0_8_0, r0_8_1, r0_12_0, r0_12_1, r0_15_0, r0_81_3, r0_81_4, r0_81_7, r0_81_8, r0_81_9, r0_81_10, r0_81_11, r0_81_12, r0_81_14, r0_81_16, r0_81_17, r0_81_27, r0_81_28, r0_81_29, r0_81_30, pb_X7_isFigure]; exact ⟨Or.inl trivial, hQ⟩
  · rw [b2_f (fun q => Int32.not_le.mpr h2 q.2)] at hQ
    refine at_step pp_105 ?_; simp only [e_ldi, e_ldim, e_ldl, e_ldlm, e_lda, e_ldam, e_sti, e_stl, e_sta, e_inc, e_incm, e_ii, e_ll, e_ld, e_ls, e_i1, e_l1, e_i2l, e_l2i, e_cmp, e_dupi, e_dupr, e_dup2, e_if_eq, e_ic_eq, e_if_ne, e_ic_ne, e_if_lt, e_ic_lt, e_if_ge, e_ic_ge, e_if_gt, e_ic_gt, e_if_le, e_ic_le, e_tsw, e_sw0, e_sw1, e_get2, e_get0, e_get3, e_put0, e_put3, e_put2, e_ald, e_lld, e_rld, e_ast, e_lst, e_rst, e_len, e_rk, e_cpi, e_cpl, e_ret, e_rtz, e_rtl, e_rtv, e_cst, e_go, e_kkn, e_kks, e_cas0, e_cas1, e_cav1, e_cas2, e_cav2, e_cas3, e_cav3, e_cas4, e_cav4, e_cas5, e_cav5, e_cas6, e_cav6, e_cas7, e_cav7, mm_lg, mm_s1, mm_s2, mm_c2, mm_kl, mm_en, mm_sum, Int.reduceAdd, Int.reduceEq, not_true_eq_false, not_false_eq_true, false_implies, true_implies, implies_true, true_and, and_true, Option.some.injEq, Sum.inl.injEq, Sum.inr.injEq, Prod.mk.injEq, exists_eq_left', exists_eq_left, Value.category, Nat.reduceAdd, Nat.reduceLeDiff, reduceCtorEq, mm_i_si, mm_i_sl, mm_i_sr, mm_l_si, mm_l_sl, mm_l_sr, mm_r_si, mm_r_sl, mm_z_si, mm_z_sl, mm_z_sr, mm_n_si, mm_n_sl, mm_i_ci, mm_l_ci, mm_r_ci, mm_z_ci, mm_n_ci, mm_i_cl, mm_l_cl, mm_r_cl, mm_z_cl, mm_n_cl, ↓reduceIte, Nat.reduceEqDiff, and_false, false_and, and_self, eq_self, z0_0, z0_1, z0_2, z0_3, z0_4, z0_5, z0_6, z0_7, z0_8, z0_9, z0_10, z0_11, z0_12, z0_13, z0_14, z0_15, z0_16, z0_81, z0_82, z0_83, z0_84, z0_85, z0_86, z0_87, z0_88, z0_89, z0_90, z0_91, z0_92, z0_93, z0_94, z0_95, z0_96, z0_97, r0_0_0, r0_0_2, r0_0_4, r0_0_7, r0_0_10, r0_0_11, r0_0_12, r0_0_13, r0_5_0, r0_7_0, r0_7_9, r0_8_0, r0_8_1, r0_12_0, r0_12_1, r0_15_0, r0_81_3, r0_81_4, r0_81_7, r0_81_8, r0_81_9, r0_81_10, r0_81_11, r0_81_12, r0_81_14, r0_81_16, r0_81_17, r0_81_27, r0_81_28, r0_81_29, r0_81_30, pb_X7_isFigure]; refine at_step pp_105 ?_; simp only [e_ldi, e_ldim, e_ldl, e_ldlm, e_lda, e_ldam, e_sti, e_stl, e_sta, e_inc, e_incm, e_ii, e_ll, e_ld, e_ls, e_i1, e_l1, e_i2l, e_l2i, e_cmp, e_dupi, e_dupr, e_dup2, e_if_eq, e_ic_eq, e_if_ne, e_ic_ne, e_if_lt, e_ic_lt, e_if_ge, e_ic_ge, e_if_gt, e_ic_gt, e_if_le, e_ic_le, e_tsw, e_sw0, e_sw1, e_get2, e_get0, e_get3, e_put0, e_put3, e_put2, e_ald, e_lld, e_rld, e_ast, e_lst, e_rst, e_len, e_rk, e_cpi, e_cpl, e_ret, e_rtz, e_rtl, e_rtv, e_cst, e_go, e_kkn, e_kks, e_cas0, e_cas1, e_cav1, e_cas2, e_cav2, e_cas3, e_cav3, e_cas4, e_cav4, e_cas5, e_cav5, e_cas6, e_cav6, e_cas7, e_cav7, mm_lg, mm_s1, mm_s2, mm_c2, mm_kl, mm_en, mm_sum, Int.reduceAdd, Int.reduceEq, not_true_eq_false, not_false_eq_true, false_implies, true_implies, implies_true, true_and, and_true, Option.some.injEq, Sum.inl.injEq, Sum.inr.injEq, Prod.mk.injEq, exists_eq_left', exists_eq_left, Value.category, Nat.reduceAdd, Nat.reduceLeDiff, reduceCtorEq, mm_i_si, mm_i_sl, mm_i_sr, mm_l_si, mm_l_sl, mm_l_sr, mm_r_si, mm_r_sl, mm_z_si, mm_z_sl, mm_z_sr, mm_n_si, mm_n_sl, mm_i_ci, mm_l_ci, mm_r_ci, mm_z_ci, mm_n_ci, mm_i_cl, mm_l_cl, mm_r_cl, mm_z_cl, mm_n_cl, ↓reduceIte, Nat.reduceEqDiff, and_false, false_and, and_self, eq_self, z0_0, z0_1, z0_2, z0_3, z0_4, z0_5, z0_6, z0_7, z0_8, z0_9, z0_10, z0_11, z0_12, z0_13, z0_14, z0_15, z0_16, z0_81, z0_82, z0_83, z0_84, z0_85, z0_86, z0_87, z0_88, z0_89, z0_90, z0_91, z0_92, z0_93, z0_94, z0_95, z0_96, z0_97, r0_0_0, r0_0_2, r0_0_4, r0_0_7, r0_0_10, r0_0_11, r0_0_12, r0_0_13, r0_5_0, r0_7_0, r0_7_9, r0_8_0, r0_8_1, r0_12_0, r0_12_1, r0_15_0, r0_81_3, r0_81_4, r0_81_7, r0_81_8, r0_81_9, r0_81_10, r0_81_11, r0_81_12, r0_81_14, r0_81_16, r0_81_17, r0_81_27, r0_81_28, r0_81_29, r0_81_30, pb_X7_isFigure]; exact ⟨Or.inl trivial, hQ⟩
  · rw [b2_t ⟨Int32.not_lt.mp h, Int32.not_lt.mp h2⟩] at hQ
    refine at_step pp_105 ?_; simp only [e_ldi, e_ldim, e_ldl, e_ldlm, e_lda, e_ldam, e_sti, e_stl, e_sta, e_inc, e_incm, e_ii, e_ll, e_ld, e_ls, e_i1, e_l1, e_i2l, e_l2i, e_cmp, e_dupi, e_dupr, e_dup2, e_if_eq, e_ic_eq, e_if_ne, e_ic_ne, e_if_lt, e_ic_lt, e_if_ge, e_ic_ge, e_if_gt, e_ic_gt, e_if_le, e_ic_le, e_tsw, e_sw0, e_sw1, e_get2, e_get0, e_get3, e_put0, e_put3, e_put2, e_ald, e_lld, e_rld, e_ast, e_lst, e_rst, e_len, e_rk, e_cpi, e_cpl, e_ret, e_rtz, e_rtl, e_rtv, e_cst, e_go, e_kkn, e_kks, e_cas0, e_cas1, e_cav1, e_cas2, e_cav2, e_cas3, e_cav3, e_cas4, e_cav4, e_cas5, e_cav5, e_cas6, e_cav6, e_cas7, e_cav7, mm_lg, mm_s1, mm_s2, mm_c2, mm_kl, mm_en, mm_sum, Int.reduceAdd, Int.reduceEq, not_true_eq_false, not_false_eq_true, false_implies, true_implies, implies_true, true_and, and_true, Option.some.injEq, Sum.inl.injEq, Sum.inr.injEq, Prod.mk.injEq, exists_eq_left', exists_eq_left, Value.category, Nat.reduceAdd, Nat.reduceLeDiff, reduceCtorEq, mm_i_si, mm_i_sl, mm_i_sr, mm_l_si, mm_l_sl, mm_l_sr, mm_r_si, mm_r_sl, mm_z_si, mm_z_sl, mm_z_sr, mm_n_si, mm_n_sl, mm_i_ci, mm_l_ci, mm_r_ci, mm_z_ci, mm_n_ci, mm_i_cl, mm_l_cl, mm_r_cl, mm_z_cl, mm_n_cl, ↓reduceIte, Nat.reduceEqDiff, and_false, false_and, and_self, eq_self, z0_0, z0_1, z0_2, z0_3, z0_4, z0_5, z0_6, z0_7, z0_8, z0_9, z0_10, z0_11, z0_12, z0_13, z0_14, z0_15, z0_16, z0_81, z0_82, z0_83, z0_84, z0_85, z0_86, z0_87, z0_88, z0_89, z0_90, z0_91, z0_92, z0_93, z0_94, z0_95, z0_96, z0_97, r0_0_0, r0_0_2, r0_0_4, r0_0_7, r0_0_10, r0_0_11, r0_0_12, r0_0_13, r0_5_0, r0_7_0, r0_7_9, r0_8_0, r0_8_1, r0_12_0, r0_12_1, r0_15_0, r0_81_3, r0_81_4, r0_81_7, r0_81_8, r0_81_9, r0_81_10, r0_81_11, r0_81_12, r0_81_14, r0_81_16, r0_81_17, r0_81_27, r0_81_28, r0_81_29, r0_81_30, pb_X7_isFigure]; exact ⟨Or.inr trivial, hQ⟩
/-- a word's bytes as one number -/
def pkn (t : Nat → Int32) (a : Nat) : Nat → Int
  | 0 => 0
  | k + 1 => pkn t a k * 256 + (t (a + k)).toInt
theorem shl_or {w : Int64} {c : Int32} (h0 : 0 ≤ w.toInt) (h1 : w.toInt < 4294967296) (c0 : 0 ≤ c.toInt) (c1 : c.toInt < 256) : (w <<< ((8 : Int32).toInt64 &&& 63) ||| c.toInt64).toInt = w.toInt * 256 + c.toInt := by
  have e8 : ((8 : Int32).toInt64 &&& 63).toBitVec.smod 64 = 8#64 := by decide
  have hc : c.toInt64.toInt = c.toInt := Int32.toInt_toInt64 c
  have nn : ∀ x : Int64, 0 ≤ x.toInt → (x.toBitVec.toNat : Int) = x.toInt := fun x hx => by
    have := BitVec.toInt_eq_toNat_cond x.toBitVec
    have hb := x.toBitVec.isLt
    have h2 : x.toInt = x.toBitVec.toInt := rfl
    split at this <;> omega
  have n1 := nn w h0
  have n2 := nn c.toInt64 (by omega)
  have e1 : (w <<< ((8 : Int32).toInt64 &&& 63) ||| c.toInt64).toBitVec.toNat = w.toBitVec.toNat * 256 + c.toInt64.toBitVec.toNat := by
    rw [Int64.toBitVec_or, Int64.toBitVec_shiftLeft, e8, BitVec.toNat_or]
    have e2 : (w.toBitVec <<< 8#64).toNat = w.toBitVec.toNat <<< 8 := by
      show (w.toBitVec <<< (8#64).toNat).toNat = _
      rw [BitVec.toNat_shiftLeft]
      show w.toBitVec.toNat <<< 8 % 2 ^ 64 = _
      rw [Nat.shiftLeft_eq]
      apply Nat.mod_eq_of_lt
      omega
    rw [e2, ← Nat.shiftLeft_add_eq_or_of_lt (by omega : c.toInt64.toBitVec.toNat < 2 ^ 8), Nat.shiftLeft_eq]
  have h3 := BitVec.toInt_eq_toNat_cond (w <<< ((8 : Int32).toInt64 &&& 63) ||| c.toInt64).toBitVec
  rw [e1] at h3
  have h4 : (w <<< ((8 : Int32).toInt64 &&& 63) ||| c.toInt64).toInt = (w <<< ((8 : Int32).toInt64 &&& 63) ||| c.toInt64).toBitVec.toInt := rfl
  rw [h4, h3, if_pos (by omega)]
  omega
theorem pkn_b {t : Nat → Int32} {a : Nat} : ∀ {k : Nat}, (∀ j, j < k → ltr (t (a + j))) → 0 ≤ pkn t a k ∧ pkn t a k < 256 ^ k
  | 0, _ => ⟨Int.le_refl _, by simp [pkn]⟩
  | k + 1, h => by
    have h1 := pkn_b (t := t) (a := a) (k := k) (fun j hj => h j (by omega))
    have h2 := h k (by omega)
    have h3 : (97 : Int) ≤ (t (a + k)).toInt := i32_le.mp h2.1
    have h4 : (t (a + k)).toInt ≤ 122 := i32_le.mp h2.2
    unfold pkn
    have e : (256 : Int) ^ (k + 1) = 256 ^ k * 256 := by rw [Int.pow_succ]
    rw [e]
    omega
def tkw (W : Int) : Int32 := if W = 6385252 then -3 else if W = 28530 then -4 else if W = 7237492 then -5 else if W = 1953658213 then -6 else if W = 439721161573 then -7 else -2
theorem c_eq {c : Int32} {n : Nat} (hn : n < 2 ^ 31) : c = nI n ↔ c.toInt = n := by
  rw [i32_eq]
  have : (nI n).toInt = n := by
    show (Int32.ofNat n).toInt = n
    rw [Int32.toInt_ofNat_of_lt hn]
  rw [this]
theorem wk_num {t : Nat → Int32} {a n : Nat} (h : ∀ j, j < n → ltr (t (a + j))) (hn : n ≤ 5) (h1 : n ≠ 1) : tkc (wk (sl t a n)).1 (wk (sl t a n)).2 = tkw (pkn t a n) := by
  have bd : ∀ j, j < n → (97 : Int) ≤ (t (a + j)).toInt ∧ (t (a + j)).toInt ≤ 122 := fun j hj => ⟨i32_le.mp (h j hj).1, i32_le.mp (h j hj).2⟩
  have bd0 : 0 < n → (97 : Int) ≤ (t a).toInt ∧ (t a).toInt ≤ 122 := fun hj => bd 0 hj
  have k97 : ∀ c : Int32, c = 97 ↔ c.toInt = 97 := fun c => c_eq (n := 97) (by decide)
  have k100 : ∀ c : Int32, c = 100 ↔ c.toInt = 100 := fun c => c_eq (n := 100) (by decide)
  have k101 : ∀ c : Int32, c = 101 ↔ c.toInt = 101 := fun c => c_eq (n := 101) (by decide)
  have k102 : ∀ c : Int32, c = 102 ↔ c.toInt = 102 := fun c => c_eq (n := 102) (by decide)
  have k108 : ∀ c : Int32, c = 108 ↔ c.toInt = 108 := fun c => c_eq (n := 108) (by decide)
  have k110 : ∀ c : Int32, c = 110 ↔ c.toInt = 110 := fun c => c_eq (n := 110) (by decide)
  have k111 : ∀ c : Int32, c = 111 ↔ c.toInt = 111 := fun c => c_eq (n := 111) (by decide)
  have k114 : ∀ c : Int32, c = 114 ↔ c.toInt = 114 := fun c => c_eq (n := 114) (by decide)
  have k115 : ∀ c : Int32, c = 115 ↔ c.toInt = 115 := fun c => c_eq (n := 115) (by decide)
  have k116 : ∀ c : Int32, c = 116 ↔ c.toInt = 116 := fun c => c_eq (n := 116) (by decide)
  have k117 : ∀ c : Int32, c = 117 ↔ c.toInt = 117 := fun c => c_eq (n := 117) (by decide)
  have hlen : ¬ ((sl t a n).length = 1 ∧ (sl t a n).getD 0 0 < 101) := fun z => h1 (by rw [sl_len] at z; exact z.1)
  have e1 : (sl t a n = [97, 110, 100]) ↔ pkn t a n = 6385252 := by
    rcases (show n = 0 ∨ n = 2 ∨ n = 3 ∨ n = 4 ∨ n = 5 by omega) with rfl | rfl | rfl | rfl | rfl
    all_goals simp only [sl, pkn, List.cons.injEq, reduceCtorEq, and_true, and_false, false_iff, k97, k110, k100, Nat.add_assoc, Nat.reduceAdd, Nat.add_zero]
    · decide
    · have := bd0 (by omega); have := bd 1 (by omega); omega
    · have := bd0 (by omega); have := bd 1 (by omega); have := bd 2 (by omega); omega
    · have := bd0 (by omega); have := bd 1 (by omega); have := bd 2 (by omega); have := bd 3 (by omega); omega
    · have := bd0 (by omega); have := bd 1 (by omega); have := bd 2 (by omega); have := bd 3 (by omega); have := bd 4 (by omega); omega
  have e2 : (sl t a n = [111, 114]) ↔ pkn t a n = 28530 := by
    rcases (show n = 0 ∨ n = 2 ∨ n = 3 ∨ n = 4 ∨ n = 5 by omega) with rfl | rfl | rfl | rfl | rfl
    all_goals simp only [sl, pkn, List.cons.injEq, reduceCtorEq, and_true, and_false, false_iff, k111, k114, Nat.add_assoc, Nat.reduceAdd, Nat.add_zero]
    · decide
    · have := bd0 (by omega); have := bd 1 (by omega); omega
    · have := bd0 (by omega); have := bd 1 (by omega); have := bd 2 (by omega); omega
    · have := bd0 (by omega); have := bd 1 (by omega); have := bd 2 (by omega); have := bd 3 (by omega); omega
    · have := bd0 (by omega); have := bd 1 (by omega); have := bd 2 (by omega); have := bd 3 (by omega); have := bd 4 (by omega); omega
  have e3 : (sl t a n = [110, 111, 116]) ↔ pkn t a n = 7237492 := by
    rcases (show n = 0 ∨ n = 2 ∨ n = 3 ∨ n = 4 ∨ n = 5 by omega) with rfl | rfl | rfl | rfl | rfl
    all_goals simp only [sl, pkn, List.cons.injEq, reduceCtorEq, and_true, and_false, false_iff, k110, k111, k116, Nat.add_assoc, Nat.reduceAdd, Nat.add_zero]
    · decide
    · have := bd0 (by omega); have := bd 1 (by omega); omega
    · have := bd0 (by omega); have := bd 1 (by omega); have := bd 2 (by omega); omega
    · have := bd0 (by omega); have := bd 1 (by omega); have := bd 2 (by omega); have := bd 3 (by omega); omega
    · have := bd0 (by omega); have := bd 1 (by omega); have := bd 2 (by omega); have := bd 3 (by omega); have := bd 4 (by omega); omega
  have e4 : (sl t a n = [116, 114, 117, 101]) ↔ pkn t a n = 1953658213 := by
    rcases (show n = 0 ∨ n = 2 ∨ n = 3 ∨ n = 4 ∨ n = 5 by omega) with rfl | rfl | rfl | rfl | rfl
    all_goals simp only [sl, pkn, List.cons.injEq, reduceCtorEq, and_true, and_false, false_iff, k116, k114, k117, k101, Nat.add_assoc, Nat.reduceAdd, Nat.add_zero]
    · decide
    · have := bd0 (by omega); have := bd 1 (by omega); omega
    · have := bd0 (by omega); have := bd 1 (by omega); have := bd 2 (by omega); omega
    · have := bd0 (by omega); have := bd 1 (by omega); have := bd 2 (by omega); have := bd 3 (by omega); omega
    · have := bd0 (by omega); have := bd 1 (by omega); have := bd 2 (by omega); have := bd 3 (by omega); have := bd 4 (by omega); omega
  have e5 : (sl t a n = [102, 97, 108, 115, 101]) ↔ pkn t a n = 439721161573 := by
    rcases (show n = 0 ∨ n = 2 ∨ n = 3 ∨ n = 4 ∨ n = 5 by omega) with rfl | rfl | rfl | rfl | rfl
    all_goals simp only [sl, pkn, List.cons.injEq, reduceCtorEq, and_true, and_false, false_iff, k102, k97, k108, k115, k101, Nat.add_assoc, Nat.reduceAdd, Nat.add_zero]
    · decide
    · have := bd0 (by omega); have := bd 1 (by omega); omega
    · have := bd0 (by omega); have := bd 1 (by omega); have := bd 2 (by omega); omega
    · have := bd0 (by omega); have := bd 1 (by omega); have := bd 2 (by omega); have := bd 3 (by omega); omega
    · have := bd0 (by omega); have := bd 1 (by omega); have := bd 2 (by omega); have := bd 3 (by omega); have := bd 4 (by omega); omega
  unfold wk tkw
  rw [if_neg hlen]
  by_cases q1 : sl t a n = [97, 110, 100]
  · rw [if_pos q1, if_pos (e1.mp q1)]; rfl
  · rw [if_neg q1, if_neg (fun z => q1 (e1.mpr z))]
    by_cases q2 : sl t a n = [111, 114]
    · rw [if_pos q2, if_pos (e2.mp q2)]; rfl
    · rw [if_neg q2, if_neg (fun z => q2 (e2.mpr z))]
      by_cases q3 : sl t a n = [110, 111, 116]
      · rw [if_pos q3, if_pos (e3.mp q3)]; rfl
      · rw [if_neg q3, if_neg (fun z => q3 (e3.mpr z))]
        by_cases q4 : sl t a n = [116, 114, 117, 101]
        · rw [if_pos q4, if_pos (e4.mp q4)]; rfl
        · rw [if_neg q4, if_neg (fun z => q4 (e4.mpr z))]
          by_cases q5 : sl t a n = [102, 97, 108, 115, 101]
          · rw [if_pos q5, if_pos (e5.mp q5)]; rfl
          · rw [if_neg q5, if_neg (fun z => q5 (e5.mpr z))]; rfl
theorem wk_long {t : Nat → Int32} {a n : Nat} (hn : 5 < n) : wk (sl t a n) = (1, 0) := by
  have hl := sl_len (t := t) (n := n) (a := a)
  unfold wk
  rw [if_neg (fun z => by omega), if_neg (fun z => by rw [z] at hl; simp at hl; omega), if_neg (fun z => by rw [z] at hl; simp at hl; omega), if_neg (fun z => by rw [z] at hl; simp at hl; omega), if_neg (fun z => by rw [z] at hl; simp at hl; omega), if_neg (fun z => by rw [z] at hl; simp at hl; omega)]
