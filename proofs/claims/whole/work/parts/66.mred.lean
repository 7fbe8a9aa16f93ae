/-! the reference's reduction -/
theorem nI_m12 {k j : Nat} (hk : k < 152) (hj : j < 12) : vp_in (12 * nI k + nI j) 1824 ∧ (12 * nI k + nI j).toNatClampNeg = 12 * k + j := by
  have e : 12 * nI k + nI j = nI (12 * k + j) := by
    rw [show (12 : Int32) = nI 12 from rfl, pk_mul, nI_add]
  rw [e]
  exact ⟨vp_in_nI (by omega) (by omega), nI_clamp (by omega)⟩
theorem mx_loop1 {d r s N : Nat} {μ0 : mm_M} {Q : mm_Q} {a b : Int64} (hL0 : Ly μ0) (hr : r < 152) (hs : s < 152) (hrs : s ≠ r) (hN : N ≤ 12) (hN0 : mm_i μ0 81 1 = nI N)
    (hb : ∀ j, j < N → (mm_l μ0 95 (12 * r + j) * a - mm_l μ0 95 (12 * s + j) * b).toInt.natAbs < 9223372036854775808)
    (hQ : ∀ μ' (g : Int64), Fr [95] μ0 μ' → mm_l μ' 95 = up (mm_l μ0 95) (fun k => mm_l μ0 95 k * a - mm_l μ0 95 (12 * s + (k - 12 * r)) * b) r N → 0 ≤ g.toInt → (∀ j, j < N → g.toInt ∣ (mm_l μ0 95 (12 * r + j) * a - mm_l μ0 95 (12 * s + j) * b).toInt) → (∀ e : Int, (∀ j, j < N → e ∣ (mm_l μ0 95 (12 * r + j) * a - mm_l μ0 95 (12 * s + j) * b).toInt) → e ∣ g.toInt) → mm_At (d + 1) 142 Q 2 [some (.ref 81), some (.int (nI r)), some (.long a), none, some (.int (nI s)), some (.long b), none, some (.long g), none, some (.int (nI N))] [] μ' (0, 0)) :
    ∀ n i (μ : mm_M) (g : Int64), i + n = N → Fr [95] μ0 μ → mm_l μ 95 = up (mm_l μ0 95) (fun k => mm_l μ0 95 k * a - mm_l μ0 95 (12 * s + (k - 12 * r)) * b) r i → 0 ≤ g.toInt → (∀ j, j < i → g.toInt ∣ (mm_l μ0 95 (12 * r + j) * a - mm_l μ0 95 (12 * s + j) * b).toInt) → (∀ e : Int, (∀ j, j < i → e ∣ (mm_l μ0 95 (12 * r + j) * a - mm_l μ0 95 (12 * s + j) * b).toInt) → e ∣ g.toInt) → mm_At (d + 1) 142 Q 1 [some (.ref 81), some (.int (nI r)), some (.long a), none, some (.int (nI s)), some (.long b), none, some (.long g), none, some (.int (nI i))] [] μ (0, 0)
  | 0, i, μ, g, hn, hF, hμ, hg, g1, g2 => by
    have : i = N := by omega
    subst this
    have hL := hF.ly hL0
    have hN1 : mm_i μ 81 1 = nI i := by rw [hF.i (by decide)]; exact hN0
    refine at_step pp_142 ?_; simp only [e_ldi, e_ldim, e_ldl, e_ldlm, e_lda, e_ldam, e_sti, e_stl, e_sta, e_inc, e_incm, e_ii, e_ll, e_ld, e_ls, e_i1, e_l1, e_i2l, e_l2i, e_cmp, e_dupi, e_dupr, e_dup2, e_if_eq, e_ic_eq, e_if_ne, e_ic_ne, e_if_lt, e_ic_lt, e_if_ge, e_ic_ge, e_if_gt, e_ic_gt, e_if_le, e_ic_le, e_tsw, e_sw0, e_sw1, e_get2, e_get0, e_get3, e_put0, e_put3, e_put2, e_ald, e_lld, e_rld, e_ast, e_lst, e_rst, e_len, e_rk, e_cpi, e_cpl, e_ret, e_rtz, e_rtl, e_rtv, e_cst, e_go, e_kkn, e_kks, e_cas0, e_cas1, e_cav1, e_cas2, e_cav2, e_cas3, e_cav3, e_cas4, e_cav4, e_cas5, e_cav5, e_cas6, e_cav6, e_cas7, e_cav7, mm_lg, mm_s1, mm_s2, mm_c2, mm_kl, mm_en, mm_sum, Int.reduceAdd, Int.reduceEq, not_true_eq_false, not_false_eq_true, false_implies, true_implies, implies_true, true_and, and_true, Option.some.injEq, Sum.inl.injEq, Sum.inr.injEq, Prod.mk.injEq, exists_eq_left', exists_eq_left, Value.category, Nat.reduceAdd, Nat.reduceLeDiff, reduceCtorEq, mm_i_si, mm_i_sl, mm_i_sr, mm_l_si, mm_l_sl, mm_l_sr, mm_r_si, mm_r_sl, mm_z_si, mm_z_sl, mm_z_sr, mm_n_si, mm_n_sl, mm_i_ci, mm_l_ci, mm_r_ci, mm_z_ci, mm_n_ci, mm_i_cl, mm_l_cl, mm_r_cl, mm_z_cl, mm_n_cl, ↓reduceIte, Nat.reduceEqDiff, and_false, false_and, and_self, eq_self, z0_0, z0_1, z0_2, z0_3, z0_4, z0_5, z0_6, z0_7, z0_8, z0_9, z0_10, z0_11, z0_12, z0_13, z0_14, z0_15, z0_16, z0_81, z0_82, z0_83, z0_84, z0_85, z0_86, z0_87, z0_88, z0_89, z0_90, z0_91, z0_92, z0_93, z0_94, z0_95, z0_96, z0_97, r0_0_0, r0_0_2, r0_0_4, r0_0_7, r0_0_10, r0_0_11, r0_0_12, r0_0_13, r0_5_0, r0_7_0, r0_7_9, r0_8_0, r0_8_1, r0_12_0, r0_12_1, r0_15_0, r0_81_3, r0_81_4, r0_81_7, r0_81_8, r0_81_9, r0_81_10, r0_81_11, r0_81_12, r0_81_14, r0_81_16, r0_81_17, r0_81_27, r0_81_28, r0_81_29, r0_81_30, pb_X7_mix, hL.1, hL.2.1, hN1]
    refine ⟨fun _ => ?_, fun h => absurd (nI_le (Nat.le_refl i) (by omega)) h⟩
    exact hQ μ g hF hμ hg g1 g2
  | n + 1, i, μ, g, hn, hF, hμ, hg, g1, g2 => by
    have hL := hF.ly hL0
    have hN1 : mm_i μ 81 1 = nI N := by rw [hF.i (by decide)]; exact hN0
    have h12 : ¬ nI N ≤ nI i := nI_ge (by omega) (by omega)
    have v1 := nI_m12 hr (show i < 12 by omega)
    have v2 := nI_m12 hs (show i < 12 by omega)
    have w1 : mm_l μ 95 (12 * r + i) = mm_l μ0 95 (12 * r + i) := by rw [hμ, up_at]
    have w2 : mm_l μ 95 (12 * s + i) = mm_l μ0 95 (12 * s + i) := by rw [hμ, up_ot (by omega) (by omega) hrs]
    refine at_step pp_142 ?_; simp only [e_ldi, e_ldim, e_ldl, e_ldlm, e_lda, e_ldam, e_sti, e_stl, e_sta, e_inc, e_incm, e_ii, e_ll, e_ld, e_ls, e_i1, e_l1, e_i2l, e_l2i, e_cmp, e_dupi, e_dupr, e_dup2, e_if_eq, e_ic_eq, e_if_ne, e_ic_ne, e_if_lt, e_ic_lt, e_if_ge, e_ic_ge, e_if_gt, e_ic_gt, e_if_le, e_ic_le, e_tsw, e_sw0, e_sw1, e_get2, e_get0, e_get3, e_put0, e_put3, e_put2, e_ald, e_lld, e_rld, e_ast, e_lst, e_rst, e_len, e_rk, e_cpi, e_cpl, e_ret, e_rtz, e_rtl, e_rtv, e_cst, e_go, e_kkn, e_kks, e_cas0, e_cas1, e_cav1, e_cas2, e_cav2, e_cas3, e_cav3, e_cas4, e_cav4, e_cas5, e_cav5, e_cas6, e_cav6, e_cas7, e_cav7, mm_lg, mm_s1, mm_s2, mm_c2, mm_kl, mm_en, mm_sum, Int.reduceAdd, Int.reduceEq, not_true_eq_false, not_false_eq_true, false_implies, true_implies, implies_true, true_and, and_true, Option.some.injEq, Sum.inl.injEq, Sum.inr.injEq, Prod.mk.injEq, exists_eq_left', exists_eq_left, Value.category, Nat.reduceAdd, Nat.reduceLeDiff, reduceCtorEq, mm_i_si, mm_i_sl, mm_i_sr, mm_l_si, mm_l_sl, mm_l_sr, mm_r_si, mm_r_sl, mm_z_si, mm_z_sl, mm_z_sr, mm_n_si, mm_n_sl, mm_i_ci, mm_l_ci, mm_r_ci, mm_z_ci, mm_n_ci, mm_i_cl, mm_l_cl, mm_r_cl, mm_z_cl, mm_n_cl, ↓reduceIte, Nat.reduceEqDiff, and_false, false_and, and_self, eq_self, z0_0, z0_1, z0_2, z0_3, z0_4, z0_5, z0_6, z0_7, z0_8, z0_9, z0_10, z0_11, z0_12, z0_13, z0_14, z0_15, z0_16, z0_81, z0_82, z0_83, z0_84, z0_85, z0_86, z0_87, z0_88, z0_89, z0_90, z0_91, z0_92, z0_93, z0_94, z0_95, z0_96, z0_97, r0_0_0, r0_0_2, r0_0_4, r0_0_7, r0_0_10, r0_0_11, r0_0_12, r0_0_13, r0_5_0, r0_7_0, r0_7_9, r0_8_0, r0_8_1, r0_12_0, r0_12_1, r0_15_0, r0_81_3, r0_81_4, r0_81_7, r0_81_8, r0_81_9, r0_81_10, r0_81_11, r0_81_12, r0_81_14, r0_81_16, r0_81_17, r0_81_27, r0_81_28, r0_81_29, r0_81_30, pb_X7_mix, hL.1, hL.2.1, hN1, h12, v1.1, v1.2, v2.1, v2.2, w1, w2]
    refine ev_mcd (by have := tI_lt g; omega) (hb i (by omega)) (fun g' e => ?_)
    simp only [e_ldi, e_ldim, e_ldl, e_ldlm, e_lda, e_ldam, e_sti, e_stl, e_sta, e_inc, e_incm, e_ii, e_ll, e_ld, e_ls, e_i1, e_l1, e_i2l, e_l2i, e_cmp, e_dupi, e_dupr, e_dup2, e_if_eq, e_ic_eq, e_if_ne, e_ic_ne, e_if_lt, e_ic_lt, e_if_ge, e_ic_ge, e_if_gt, e_ic_gt, e_if_le, e_ic_le, e_tsw, e_sw0, e_sw1, e_get2, e_get0, e_get3, e_put0, e_put3, e_put2, e_ald, e_lld, e_rld, e_ast, e_lst, e_rst, e_len, e_rk, e_cpi, e_cpl, e_ret, e_rtz, e_rtl, e_rtv, e_cst, e_go, e_kkn, e_kks, e_cas0, e_cas1, e_cav1, e_cas2, e_cav2, e_cas3, e_cav3, e_cas4, e_cav4, e_cas5, e_cav5, e_cas6, e_cav6, e_cas7, e_cav7, mm_lg, mm_s1, mm_s2, mm_c2, mm_kl, mm_en, mm_sum, Int.reduceAdd, Int.reduceEq, not_true_eq_false, not_false_eq_true, false_implies, true_implies, implies_true, true_and, and_true, Option.some.injEq, Sum.inl.injEq, Sum.inr.injEq, Prod.mk.injEq, exists_eq_left', exists_eq_left, Value.category, Nat.reduceAdd, Nat.reduceLeDiff, reduceCtorEq, mm_i_si, mm_i_sl, mm_i_sr, mm_l_si, mm_l_sl, mm_l_sr, mm_r_si, mm_r_sl, mm_z_si, mm_z_sl, mm_z_sr, mm_n_si, mm_n_sl, mm_i_ci, mm_l_ci, mm_r_ci, mm_z_ci, mm_n_ci, mm_i_cl, mm_l_cl, mm_r_cl, mm_z_cl, mm_n_cl, ↓reduceIte, Nat.reduceEqDiff, and_false, false_and, and_self, eq_self, z0_0, z0_1, z0_2, z0_3, z0_4, z0_5, z0_6, z0_7, z0_8, z0_9, z0_10, z0_11, z0_12, z0_13, z0_14, z0_15, z0_16, z0_81, z0_82, z0_83, z0_84, z0_85, z0_86, z0_87, z0_88, z0_89, z0_90, z0_91, z0_92, z0_93, z0_94, z0_95, z0_96, z0_97, r0_0_0, r0_0_2, r0_0_4, r0_0_7, r0_0_10, r0_0_11, r0_0_12, r0_0_13, r0_5_0, r0_7_0, r0_7_9, r0_8_0, r0_8_1, r0_12_0, r0_12_1, r0_15_0, r0_81_3, r0_81_4, r0_81_7, r0_81_8, r0_81_9, r0_81_10, r0_81_11, r0_81_12, r0_81_14, r0_81_16, r0_81_17, r0_81_27, r0_81_28, r0_81_29, r0_81_30, nI_1]
    refine mx_loop1 hL0 hr hs hrs hN hN0 hb hQ n (i + 1) _ g' (by omega) (hF.tr (Fr.sl (by simp))) (up_set hμ ?_) (by omega) (fun j hj => ?_) (fun e' he => ?_)
    · rw [show 12 * r + i - 12 * r = i by omega]
    · rw [e]
      by_cases hji : j = i
      · rw [hji]; exact Int.gcd_dvd_right _ _
      · exact Int.dvd_trans (Int.gcd_dvd_left _ _) (g1 j (by omega))
    · rw [e]
      exact Int.dvd_coe_gcd (g2 e' (fun j hj => he j (by omega))) (he i (by omega))
theorem mx_loop2 {d r N : Nat} {μ0 : mm_M} {Q : mm_Q} {a b g : Int64} {s : Int32} (hL0 : Ly μ0) (hr : r < 152) (hN : N ≤ 12) (hN0 : mm_i μ0 81 1 = nI N) (hg : ¬ g = 0) (hg1 : ¬ g ≤ 1)
    (hQ : ∀ μ', Fr [95] μ0 μ' → mm_l μ' 95 = up (mm_l μ0 95) (fun k => mm_l μ0 95 k / g) r N → Q none μ') :
    ∀ n i (μ : mm_M), i + n = N → Fr [95] μ0 μ → mm_l μ 95 = up (mm_l μ0 95) (fun k => mm_l μ0 95 k / g) r i → mm_At d 142 Q 3 [some (.ref 81), some (.int (nI r)), some (.long a), none, some (.int s), some (.long b), none, some (.long g), none, some (.int (nI i))] [] μ (0, 0)
  | 0, i, μ, hn, hF, hμ => by
    have : i = N := by omega
    subst this
    have hL := hF.ly hL0
    have hN1 : mm_i μ 81 1 = nI i := by rw [hF.i (by decide)]; exact hN0
    refine at_step pp_142 ?_; simp only [e_ldi, e_ldim, e_ldl, e_ldlm, e_lda, e_ldam, e_sti, e_stl, e_sta, e_inc, e_incm, e_ii, e_ll, e_ld, e_ls, e_i1, e_l1, e_i2l, e_l2i, e_cmp, e_dupi, e_dupr, e_dup2, e_if_eq, e_ic_eq, e_if_ne, e_ic_ne, e_if_lt, e_ic_lt, e_if_ge, e_ic_ge, e_if_gt, e_ic_gt, e_if_le, e_ic_le, e_tsw, e_sw0, e_sw1, e_get2, e_get0, e_get3, e_put0, e_put3, e_put2, e_ald, e_lld, e_rld, e_ast, e_lst, e_rst, e_len, e_rk, e_cpi, e_cpl, e_ret, e_rtz, e_rtl, e_rtv, e_cst, e_go, e_kkn, e_kks, e_cas0, e_cas1, e_cav1, e_cas2, e_cav2, e_cas3, e_cav3, e_cas4, e_cav4, e_cas5, e_cav5, e_cas6, e_cav6, e_cas7, e_cav7, mm_lg, mm_s1, mm_s2, mm_c2, mm_kl, mm_en, mm_sum, Int.reduceAdd, Int.reduceEq, not_true_eq_false, not_false_eq_true, false_implies, true_implies, implies_true, true_and, and_true, Option.some.injEq, Sum.inl.injEq, Sum.inr.injEq, Prod.mk.injEq, exists_eq_left', exists_eq_left, Value.category, Nat.reduceAdd, Nat.reduceLeDiff, reduceCtorEq, mm_i_si, mm_i_sl, mm_i_sr, mm_l_si, mm_l_sl, mm_l_sr, mm_r_si, mm_r_sl, mm_z_si, mm_z_sl, mm_z_sr, mm_n_si, mm_n_sl, mm_i_ci, mm_l_ci, mm_r_ci, mm_z_ci, mm_n_ci, mm_i_cl, mm_l_cl, mm_r_cl, mm_z_cl, mm_n_cl, ↓reduceIte, Nat.reduceEqDiff, and_false, false_and, and_self, eq_self, z0_0, z0_1, z0_2, z0_3, z0_4, z0_5, z0_6, z0_7, z0_8, z0_9, z0_10, z0_11, z0_12, z0_13, z0_14, z0_15, z0_16, z0_81, z0_82, z0_83, z0_84, z0_85, z0_86, z0_87, z0_88, z0_89, z0_90, z0_91, z0_92, z0_93, z0_94, z0_95, z0_96, z0_97, r0_0_0, r0_0_2, r0_0_4, r0_0_7, r0_0_10, r0_0_11, r0_0_12, r0_0_13, r0_5_0, r0_7_0, r0_7_9, r0_8_0, r0_8_1, r0_12_0, r0_12_1, r0_15_0, r0_81_3, r0_81_4, r0_81_7, r0_81_8, r0_81_9, r0_81_10, r0_81_11, r0_81_12, r0_81_14, r0_81_16, r0_81_17, r0_81_27, r0_81_28, r0_81_29, r0_81_30, pb_X7_mix, hL.1, hL.2.1, hN1]
    refine ⟨fun _ => ?_, fun h => absurd (nI_le (Nat.le_refl i) (by omega)) h⟩
    refine at_step pp_142 ?_; simp only [e_ldi, e_ldim, e_ldl, e_ldlm, e_lda, e_ldam, e_sti, e_stl, e_sta, e_inc, e_incm, e_ii, e_ll, e_ld, e_ls, e_i1, e_l1, e_i2l, e_l2i, e_cmp, e_dupi, e_dupr, e_dup2, e_if_eq, e_ic_eq, e_if_ne, e_ic_ne, e_if_lt, e_ic_lt, e_if_ge, e_ic_ge, e_if_gt, e_ic_gt, e_if_le, e_ic_le, e_tsw, e_sw0, e_sw1, e_get2, e_get0, e_get3, e_put0, e_put3, e_put2, e_ald, e_lld, e_rld, e_ast, e_lst, e_rst, e_len, e_rk, e_cpi, e_cpl, e_ret, e_rtz, e_rtl, e_rtv, e_cst, e_go, e_kkn, e_kks, e_cas0, e_cas1, e_cav1, e_cas2, e_cav2, e_cas3, e_cav3, e_cas4, e_cav4, e_cas5, e_cav5, e_cas6, e_cav6, e_cas7, e_cav7, mm_lg, mm_s1, mm_s2, mm_c2, mm_kl, mm_en, mm_sum, Int.reduceAdd, Int.reduceEq, not_true_eq_false, not_false_eq_true, false_implies, true_implies, implies_true, true_and, and_true, Option.some.injEq, Sum.inl.injEq, Sum.inr.injEq, Prod.mk.injEq, exists_eq_left', exists_eq_left, Value.category, Nat.reduceAdd, Nat.reduceLeDiff, reduceCtorEq, mm_i_si, mm_i_sl, mm_i_sr, mm_l_si, mm_l_sl, mm_l_sr, mm_r_si, mm_r_sl, mm_z_si, mm_z_sl, mm_z_sr, mm_n_si, mm_n_sl, mm_i_ci, mm_l_ci, mm_r_ci, mm_z_ci, mm_n_ci, mm_i_cl, mm_l_cl, mm_r_cl, mm_z_cl, mm_n_cl, ↓reduceIte, Nat.reduceEqDiff, and_false, false_and, and_self, eq_self, z0_0, z0_1, z0_2, z0_3, z0_4, z0_5, z0_6, z0_7, z0_8, z0_9, z0_10, z0_11, z0_12, z0_13, z0_14, z0_15, z0_16, z0_81, z0_82, z0_83, z0_84, z0_85, z0_86, z0_87, z0_88, z0_89, z0_90, z0_91, z0_92, z0_93, z0_94, z0_95, z0_96, z0_97, r0_0_0, r0_0_2, r0_0_4, r0_0_7, r0_0_10, r0_0_11, r0_0_12, r0_0_13, r0_5_0, r0_7_0, r0_7_9, r0_8_0, r0_8_1, r0_12_0, r0_12_1, r0_15_0, r0_81_3, r0_81_4, r0_81_7, r0_81_8, r0_81_9, r0_81_10, r0_81_11, r0_81_12, r0_81_14, r0_81_16, r0_81_17, r0_81_27, r0_81_28, r0_81_29, r0_81_30, pb_X7_mix]
    exact hQ μ hF hμ
  | n + 1, i, μ, hn, hF, hμ => by
    have hL := hF.ly hL0
    have hN1 : mm_i μ 81 1 = nI N := by rw [hF.i (by decide)]; exact hN0
    have h12 : ¬ nI N ≤ nI i := nI_ge (by omega) (by omega)
    have v1 := nI_m12 hr (show i < 12 by omega)
    refine at_step pp_142 ?_; simp only [e_ldi, e_ldim, e_ldl, e_ldlm, e_lda, e_ldam, e_sti, e_stl, e_sta, e_inc, e_incm, e_ii, e_ll, e_ld, e_ls, e_i1, e_l1, e_i2l, e_l2i, e_cmp, e_dupi, e_dupr, e_dup2, e_if_eq, e_ic_eq, e_if_ne, e_ic_ne, e_if_lt, e_ic_lt, e_if_ge, e_ic_ge, e_if_gt, e_ic_gt, e_if_le, e_ic_le, e_tsw, e_sw0, e_sw1, e_get2, e_get0, e_get3, e_put0, e_put3, e_put2, e_ald, e_lld, e_rld, e_ast, e_lst, e_rst, e_len, e_rk, e_cpi, e_cpl, e_ret, e_rtz, e_rtl, e_rtv, e_cst, e_go, e_kkn, e_kks, e_cas0, e_cas1, e_cav1, e_cas2, e_cav2, e_cas3, e_cav3, e_cas4, e_cav4, e_cas5, e_cav5, e_cas6, e_cav6, e_cas7, e_cav7, mm_lg, mm_s1, mm_s2, mm_c2, mm_kl, mm_en, mm_sum, Int.reduceAdd, Int.reduceEq, not_true_eq_false, not_false_eq_true, false_implies, true_implies, implies_true, true_and, and_true, Option.some.injEq, Sum.inl.injEq, Sum.inr.injEq, Prod.mk.injEq, exists_eq_left', exists_eq_left, Value.category, Nat.reduceAdd, Nat.reduceLeDiff, reduceCtorEq, mm_i_si, mm_i_sl, mm_i_sr, mm_l_si, mm_l_sl, mm_l_sr, mm_r_si, mm_r_sl, mm_z_si, mm_z_sl, mm_z_sr, mm_n_si, mm_n_sl, mm_i_ci, mm_l_ci, mm_r_ci, mm_z_ci, mm_n_ci, mm_i_cl, mm_l_cl, mm_r_cl, mm_z_cl, mm_n_cl, ↓reduceIte, Nat.reduceEqDiff, and_false, false_and, and_self, eq_self, z0_0, z0_1, z0_2, z0_3, z0_4, z0_5, z0_6, z0_7, z0_8, z0_9, z0_10, z0_11, z0_12, z0_13, z0_14, z0_15, z0_16, z0_81, z0_82, z0_83, z0_84, z0_85, z0_86, z0_87, z0_88, z0_89, z0_90, z0_91, z0_92, z0_93, z0_94, z0_95, z0_96, z0_97, r0_0_0, r0_0_2, r0_0_4, r0_0_7, r0_0_10, r0_0_11, r0_0_12, r0_0_13, r0_5_0, r0_7_0, r0_7_9, r0_8_0, r0_8_1, r0_12_0, r0_12_1, r0_15_0, r0_81_3, r0_81_4, r0_81_7, r0_81_8, r0_81_9, r0_81_10, r0_81_11, r0_81_12, r0_81_14, r0_81_16, r0_81_17, r0_81_27, r0_81_28, r0_81_29, r0_81_30, pb_X7_mix, hL.1, hL.2.1, hN1, h12, v1.1, v1.2, lc_le, hg1, nI_1]
    refine ⟨hg, ?_⟩
    exact mx_loop2 hL0 hr hN hN0 hg hg1 hQ n (i + 1) _ (by omega) (hF.tr (Fr.sl (by simp))) (up_set hμ (by rw [hμ, up_at]))
theorem up_in2 {f h : Nat → Int64} {r j i : Nat} (hj : j < i) : up f h r i (12 * r + j) = h (12 * r + j) := by
  unfold up; rw [if_pos (by omega)]
theorem up_out {f h : Nat → Int64} {r j i : Nat} (hj : ¬ j < i) : up f h r i (12 * r + j) = f (12 * r + j) := by
  unfold up; rw [if_neg (by omega)]
theorem ev_mix {d r s p N : Nat} {μ : mm_M} {Q : mm_Q} (hL : Ly μ) (hr : r < 152) (hs : s < 152) (hrs : s ≠ r) (hN : N ≤ 12) (hN0 : mm_i μ 81 1 = nI N) (hp : p < 12)
    (hzr : ∀ j, N ≤ j → rwv μ 95 r j = 0) (hzs : ∀ j, N ≤ j → rwv μ 95 s j = 0)
    (hb : ∀ j, (rwv μ 95 r j * rwv μ 95 s p).natAbs + (rwv μ 95 s j * rwv μ 95 r p).natAbs < 9223372036854775808)
    (hQ : ∀ μ', Fr [95] μ μ' → (∀ k, k ≠ r → rwv μ' 95 k = rwv μ 95 k) → Cm (rwv μ 95 r) (rwv μ 95 s) p (rwv μ' 95 r) → (∀ j, N ≤ j → rwv μ' 95 r j = 0) → Q none μ') : Ev (d + 2) 142 [.ref 81, .int (nI r), .long (mm_l μ 95 (12 * s + p)), .int (nI s), .long (mm_l μ 95 (12 * r + p))] μ Q := by
  have e0 : ∀ j, j < 12 → (mm_l μ 95 (12 * r + j) * mm_l μ 95 (12 * s + p) - mm_l μ 95 (12 * s + j) * mm_l μ 95 (12 * r + p)).toInt = rwv μ 95 r j * rwv μ 95 s p - rwv μ 95 s j * rwv μ 95 r p := fun j hj => by
    have hbj := hb j
    rw [rwv_lt hj, rwv_lt hj, rwv_lt hp, rwv_lt hp] at hbj ⊢
    have m1 := tI_mul (x := mm_l μ 95 (12 * r + j)) (y := mm_l μ 95 (12 * s + p)) (by omega)
    have m2 := tI_mul (x := mm_l μ 95 (12 * s + j)) (y := mm_l μ 95 (12 * r + p)) (by omega)
    rw [tI_sub (by rw [m1, m2]; omega), m1, m2]
  refine ev_step pp_142 (Nat.le_of_ble_eq_true rfl) ?_
  simp only [e_ldi, e_ldim, e_ldl, e_ldlm, e_lda, e_ldam, e_sti, e_stl, e_sta, e_inc, e_incm, e_ii, e_ll, e_ld, e_ls, e_i1, e_l1, e_i2l, e_l2i, e_cmp, e_dupi, e_dupr, e_dup2, e_if_eq, e_ic_eq, e_if_ne, e_ic_ne, e_if_lt, e_ic_lt, e_if_ge, e_ic_ge, e_if_gt, e_ic_gt, e_if_le, e_ic_le, e_tsw, e_sw0, e_sw1, e_get2, e_get0, e_get3, e_put0, e_put3, e_put2, e_ald, e_lld, e_rld, e_ast, e_lst, e_rst, e_len, e_rk, e_cpi, e_cpl, e_ret, e_rtz, e_rtl, e_rtv, e_cst, e_go, e_kkn, e_kks, e_cas0, e_cas1, e_cav1, e_cas2, e_cav2, e_cas3, e_cav3, e_cas4, e_cav4, e_cas5, e_cav5, e_cas6, e_cav6, e_cas7, e_cav7, mm_lg, mm_s1, mm_s2, mm_c2, mm_kl, mm_en, mm_sum, Int.reduceAdd, Int.reduceEq, not_true_eq_false, not_false_eq_true, false_implies, true_implies, implies_true, true_and, and_true, Option.some.injEq, Sum.inl.injEq, Sum.inr.injEq, Prod.mk.injEq, exists_eq_left', exists_eq_left, Value.category, Nat.reduceAdd, Nat.reduceLeDiff, reduceCtorEq, mm_i_si, mm_i_sl, mm_i_sr, mm_l_si, mm_l_sl, mm_l_sr, mm_r_si, mm_r_sl, mm_z_si, mm_z_sl, mm_z_sr, mm_n_si, mm_n_sl, mm_i_ci, mm_l_ci, mm_r_ci, mm_z_ci, mm_n_ci, mm_i_cl, mm_l_cl, mm_r_cl, mm_z_cl, mm_n_cl, ↓reduceIte, Nat.reduceEqDiff, and_false, false_and, and_self, eq_self, z0_0, z0_1, z0_2, z0_3, z0_4, z0_5, z0_6, z0_7, z0_8, z0_9, z0_10, z0_11, z0_12, z0_13, z0_14, z0_15, z0_16, z0_81, z0_82, z0_83, z0_84, z0_85, z0_86, z0_87, z0_88, z0_89, z0_90, z0_91, z0_92, z0_93, z0_94, z0_95, z0_96, z0_97, r0_0_0, r0_0_2, r0_0_4, r0_0_7, r0_0_10, r0_0_11, r0_0_12, r0_0_13, r0_5_0, r0_7_0, r0_7_9, r0_8_0, r0_8_1, r0_12_0, r0_12_1, r0_15_0, r0_81_3, r0_81_4, r0_81_7, r0_81_8, r0_81_9, r0_81_10, r0_81_11, r0_81_12, r0_81_14, r0_81_16, r0_81_17, r0_81_27, r0_81_28, r0_81_29, r0_81_30, pb_X7_mix]
  refine mx_loop1 (s := s) hL hr hs hrs hN hN0 (fun j hj => ?_) (fun μ1 g hF1 h1 hg g1 g2 => ?_) N 0 μ 0 (by omega) Fr.rf (up_0 _ _ _).symm (Int.le_refl _) (fun j hj => absurd hj (Nat.not_lt_zero _)) (fun e _ => Int.dvd_zero e)
  · rw [e0 j (by omega)]
    have := hb j
    omega
  have hL1 := hF1.ly hL
  have hN1 : mm_i μ1 81 1 = nI N := by rw [hF1.i (by decide)]; exact hN0
  have ot : ∀ k, k ≠ r → rwv μ1 95 k = rwv μ 95 k := fun k hk => rwv_eq (fun j hj => by rw [h1, up_ot hN hj hk])
  have e1 : ∀ j, rwv μ1 95 r j = rwv μ 95 r j * rwv μ 95 s p - rwv μ 95 s j * rwv μ 95 r p := fun j => by
    by_cases hj : j < 12
    · by_cases hjN : j < N
      · rw [← e0 j hj, rwv_lt hj, h1, up_in2 hjN, show 12 * r + j - 12 * r = j by omega]
      · rw [hzr j (by omega), hzs j (by omega), rwv_lt hj, h1, up_out hjN, ← rwv_lt hj, hzr j (by omega)]; simp
    · rw [rwv_ge hj, rwv_ge hj, rwv_ge hj]; simp
  have e1N : ∀ j, N ≤ j → rwv μ1 95 r j = 0 := fun j hj => by
    rw [e1 j, hzr j hj, hzs j hj]; simp
  have gd : ∀ j, g.toInt ∣ rwv μ1 95 r j := fun j => by
    by_cases hjN : j < N
    · have := g1 j hjN
      rw [e0 j (by omega)] at this
      rw [e1 j]; exact this
    · rw [e1N j (by omega)]; exact Int.dvd_zero _
  have gg : ∀ e : Int, (∀ j, e ∣ rwv μ1 95 r j) → e ∣ g.toInt := fun e he => g2 e (fun j hj => by
    have := he j
    rw [e1 j, ← e0 j (by omega)] at this
    exact this)
  refine at_step pp_142 ?_; simp only [e_ldi, e_ldim, e_ldl, e_ldlm, e_lda, e_ldam, e_sti, e_stl, e_sta, e_inc, e_incm, e_ii, e_ll, e_ld, e_ls, e_i1, e_l1, e_i2l, e_l2i, e_cmp, e_dupi, e_dupr, e_dup2, e_if_eq, e_ic_eq, e_if_ne, e_ic_ne, e_if_lt, e_ic_lt, e_if_ge, e_ic_ge, e_if_gt, e_ic_gt, e_if_le, e_ic_le, e_tsw, e_sw0, e_sw1, e_get2, e_get0, e_get3, e_put0, e_put3, e_put2, e_ald, e_lld, e_rld, e_ast, e_lst, e_rst, e_len, e_rk, e_cpi, e_cpl, e_ret, e_rtz, e_rtl, e_rtv, e_cst, e_go, e_kkn, e_kks, e_cas0, e_cas1, e_cav1, e_cas2, e_cav2, e_cas3, e_cav3, e_cas4, e_cav4, e_cas5, e_cav5, e_cas6, e_cav6, e_cas7, e_cav7, mm_lg, mm_s1, mm_s2, mm_c2, mm_kl, mm_en, mm_sum, Int.reduceAdd, Int.reduceEq, not_true_eq_false, not_false_eq_true, false_implies, true_implies, implies_true, true_and, and_true, Option.some.injEq, Sum.inl.injEq, Sum.inr.injEq, Prod.mk.injEq, exists_eq_left', exists_eq_left, Value.category, Nat.reduceAdd, Nat.reduceLeDiff, reduceCtorEq, mm_i_si, mm_i_sl, mm_i_sr, mm_l_si, mm_l_sl, mm_l_sr, mm_r_si, mm_r_sl, mm_z_si, mm_z_sl, mm_z_sr, mm_n_si, mm_n_sl, mm_i_ci, mm_l_ci, mm_r_ci, mm_z_ci, mm_n_ci, mm_i_cl, mm_l_cl, mm_r_cl, mm_z_cl, mm_n_cl, ↓reduceIte, Nat.reduceEqDiff, and_false, false_and, and_self, eq_self, z0_0, z0_1, z0_2, z0_3, z0_4, z0_5, z0_6, z0_7, z0_8, z0_9, z0_10, z0_11, z0_12, z0_13, z0_14, z0_15, z0_16, z0_81, z0_82, z0_83, z0_84, z0_85, z0_86, z0_87, z0_88, z0_89, z0_90, z0_91, z0_92, z0_93, z0_94, z0_95, z0_96, z0_97, r0_0_0, r0_0_2, r0_0_4, r0_0_7, r0_0_10, r0_0_11, r0_0_12, r0_0_13, r0_5_0, r0_7_0, r0_7_9, r0_8_0, r0_8_1, r0_12_0, r0_12_1, r0_15_0, r0_81_3, r0_81_4, r0_81_7, r0_81_8, r0_81_9, r0_81_10, r0_81_11, r0_81_12, r0_81_14, r0_81_16, r0_81_17, r0_81_27, r0_81_28, r0_81_29, r0_81_30, pb_X7_mix]
  by_cases hg1 : g ≤ 1
  · have exit : mm_At (d + 1) 142 Q 4 [some (.ref 81), some (.int (nI r)), some (.long (mm_l μ 95 (12 * s + p))), none, some (.int (nI s)), some (.long (mm_l μ 95 (12 * r + p))), none, some (.long g), none, some (.int 0)] [] μ1 (0, 0) := by
      refine at_step pp_142 ?_; simp only [e_ldi, e_ldim, e_ldl, e_ldlm, e_lda, e_ldam, e_sti, e_stl, e_sta, e_inc, e_incm, e_ii, e_ll, e_ld, e_ls, e_i1, e_l1, e_i2l, e_l2i, e_cmp, e_dupi, e_dupr, e_dup2, e_if_eq, e_ic_eq, e_if_ne, e_ic_ne, e_if_lt, e_ic_lt, e_if_ge, e_ic_ge, e_if_gt, e_ic_gt, e_if_le, e_ic_le, e_tsw, e_sw0, e_sw1, e_get2, e_get0, e_get3, e_put0, e_put3, e_put2, e_ald, e_lld, e_rld, e_ast, e_lst, e_rst, e_len, e_rk, e_cpi, e_cpl, e_ret, e_rtz, e_rtl, e_rtv, e_cst, e_go, e_kkn, e_kks, e_cas0, e_cas1, e_cav1, e_cas2, e_cav2, e_cas3, e_cav3, e_cas4, e_cav4, e_cas5, e_cav5, e_cas6, e_cav6, e_cas7, e_cav7, mm_lg, mm_s1, mm_s2, mm_c2, mm_kl, mm_en, mm_sum, Int.reduceAdd, Int.reduceEq, not_true_eq_false, not_false_eq_true, false_implies, true_implies, implies_true, true_and, and_true, Option.some.injEq, Sum.inl.injEq, Sum.inr.injEq, Prod.mk.injEq, exists_eq_left', exists_eq_left, Value.category, Nat.reduceAdd, Nat.reduceLeDiff, reduceCtorEq, mm_i_si, mm_i_sl, mm_i_sr, mm_l_si, mm_l_sl, mm_l_sr, mm_r_si, mm_r_sl, mm_z_si, mm_z_sl, mm_z_sr, mm_n_si, mm_n_sl, mm_i_ci, mm_l_ci, mm_r_ci, mm_z_ci, mm_n_ci, mm_i_cl, mm_l_cl, mm_r_cl, mm_z_cl, mm_n_cl, ↓reduceIte, Nat.reduceEqDiff, and_false, false_and, and_self, eq_self, z0_0, z0_1, z0_2, z0_3, z0_4, z0_5, z0_6, z0_7, z0_8, z0_9, z0_10, z0_11, z0_12, z0_13, z0_14, z0_15, z0_16, z0_81, z0_82, z0_83, z0_84, z0_85, z0_86, z0_87, z0_88, z0_89, z0_90, z0_91, z0_92, z0_93, z0_94, z0_95, z0_96, z0_97, r0_0_0, r0_0_2, r0_0_4, r0_0_7, r0_0_10, r0_0_11, r0_0_12, r0_0_13, r0_5_0, r0_7_0, r0_7_9, r0_8_0, r0_8_1, r0_12_0, r0_12_1, r0_15_0, r0_81_3, r0_81_4, r0_81_7, r0_81_8, r0_81_9, r0_81_10, r0_81_11, r0_81_12, r0_81_14, r0_81_16, r0_81_17, r0_81_27, r0_81_28, r0_81_29, r0_81_30, pb_X7_mix]
      refine hQ μ1 hF1 ot ⟨1, by decide, fun j => by rw [e1 j]; simp, ?_⟩ e1N
      have h2 := Int64.le_iff_toInt_le.mp hg1
      have h3 : (1 : Int64).toInt = 1 := rfl
      by_cases hg0 : g.toInt = 0
      · right
        intro j
        have := gd j
        rw [hg0] at this
        exact Int.zero_dvd.mp this
      · left
        intro e he
        have h4 := gg e he
        rw [show g.toInt = 1 by omega] at h4
        exact h4
    refine at_step pp_142 ?_; simp only [e_ldi, e_ldim, e_ldl, e_ldlm, e_lda, e_ldam, e_sti, e_stl, e_sta, e_inc, e_incm, e_ii, e_ll, e_ld, e_ls, e_i1, e_l1, e_i2l, e_l2i, e_cmp, e_dupi, e_dupr, e_dup2, e_if_eq, e_ic_eq, e_if_ne, e_ic_ne, e_if_lt, e_ic_lt, e_if_ge, e_ic_ge, e_if_gt, e_ic_gt, e_if_le, e_ic_le, e_tsw, e_sw0, e_sw1, e_get2, e_get0, e_get3, e_put0, e_put3, e_put2, e_ald, e_lld, e_rld, e_ast, e_lst, e_rst, e_len, e_rk, e_cpi, e_cpl, e_ret, e_rtz, e_rtl, e_rtv, e_cst, e_go, e_kkn, e_kks, e_cas0, e_cas1, e_cav1, e_cas2, e_cav2, e_cas3, e_cav3, e_cas4, e_cav4, e_cas5, e_cav5, e_cas6, e_cav6, e_cas7, e_cav7, mm_lg, mm_s1, mm_s2, mm_c2, mm_kl, mm_en, mm_sum, Int.reduceAdd, Int.reduceEq, not_true_eq_false, not_false_eq_true, false_implies, true_implies, implies_true, true_and, and_true, Option.some.injEq, Sum.inl.injEq, Sum.inr.injEq, Prod.mk.injEq, exists_eq_left', exists_eq_left, Value.category, Nat.reduceAdd, Nat.reduceLeDiff, reduceCtorEq, mm_i_si, mm_i_sl, mm_i_sr, mm_l_si, mm_l_sl, mm_l_sr, mm_r_si, mm_r_sl, mm_z_si, mm_z_sl, mm_z_sr, mm_n_si, mm_n_sl, mm_i_ci, mm_l_ci, mm_r_ci, mm_z_ci, mm_n_ci, mm_i_cl, mm_l_cl, mm_r_cl, mm_z_cl, mm_n_cl, ↓reduceIte, Nat.reduceEqDiff, and_false, false_and, and_self, eq_self, z0_0, z0_1, z0_2, z0_3, z0_4, z0_5, z0_6, z0_7, z0_8, z0_9, z0_10, z0_11, z0_12, z0_13, z0_14, z0_15, z0_16, z0_81, z0_82, z0_83, z0_84, z0_85, z0_86, z0_87, z0_88, z0_89, z0_90, z0_91, z0_92, z0_93, z0_94, z0_95, z0_96, z0_97, r0_0_0, r0_0_2, r0_0_4, r0_0_7, r0_0_10, r0_0_11, r0_0_12, r0_0_13, r0_5_0, r0_7_0, r0_7_9, r0_8_0, r0_8_1, r0_12_0, r0_12_1, r0_15_0, r0_81_3, r0_81_4, r0_81_7, r0_81_8, r0_81_9, r0_81_10, r0_81_11, r0_81_12, r0_81_14, r0_81_16, r0_81_17, r0_81_27, r0_81_28, r0_81_29, r0_81_30, pb_X7_mix, hL1.1, hL1.2.1, hN1, lc_le]
    exact ⟨fun _ => exit, fun _ => ⟨fun _ => exit, fun h => absurd hg1 h⟩⟩
  · have h2 := Int64.lt_iff_toInt_lt.mp (Int64.not_le.mp hg1)
    have h3 : (1 : Int64).toInt = 1 := rfl
    refine mx_loop2 (r := r) hL1 hr hN hN1 (fun q => by have := tI_0.mp q; omega) hg1 (fun μ' hF' h5 => ?_) N 0 μ1 (by omega) Fr.rf (up_0 _ _ _).symm
    have e2 : ∀ j, g.toInt * rwv μ' 95 r j = rwv μ1 95 r j := fun j => by
      by_cases hj : j < 12
      · by_cases hjN : j < N
        · obtain ⟨z, hz⟩ := gd j
          rw [rwv_lt hj] at hz ⊢
          rw [rwv_lt hj, h5, up_in2 hjN]
          have hlt := tI_lt (mm_l μ1 95 (12 * r + j))
          have hge := tI_ge (mm_l μ1 95 (12 * r + j))
          have hzl : z.natAbs * 2 ≤ (mm_l μ1 95 (12 * r + j)).toInt.natAbs := by
            rw [hz, Int.natAbs_mul, Nat.mul_comm]; exact Nat.mul_le_mul_right _ (by omega)
          rw [tI_dv (z := z) (by omega) (by omega) hz, hz]
        · rw [e1N j (by omega), rwv_lt hj, h5, up_out hjN, ← rwv_lt hj, e1N j (by omega)]; simp
      · rw [rwv_ge hj, rwv_ge hj]; simp
    refine hQ μ' (hF1.tr hF') (fun k hk => ?_) ⟨g.toInt, by omega, fun j => ?_, Or.inl (fun e he => ?_)⟩ (fun j hj => ?_)
    · rw [← ot k hk]
      exact rwv_eq (fun j hj => by rw [h5, up_ot hN hj hk])
    · rw [e2 j, e1 j]
    · have h6 := gg (g.toInt * e) (fun j => by rw [← e2 j]; exact Int.mul_dvd_mul_left _ (he j))
      obtain ⟨t, ht⟩ := h6
      refine ⟨t, ?_⟩
      have h7 : g.toInt * 1 = g.toInt * (e * t) := by rw [Int.mul_one, ← Int.mul_assoc]; exact ht
      exact Int.eq_of_mul_eq_mul_left (by omega) h7
    · have h6 := e2 j
      rw [e1N j hj] at h6
      exact (Int.mul_eq_zero.mp h6).resolve_left (by omega)
/-- two rows exchanged as far as i -/
def sw (f : Nat → Int64) (r s i : Nat) : Nat → Int64 := fun k => if 12 * r ≤ k ∧ k < 12 * r + i then f (12 * s + (k - 12 * r)) else if 12 * s ≤ k ∧ k < 12 * s + i then f (12 * r + (k - 12 * s)) else f k
theorem sw_0 (f : Nat → Int64) (r s : Nat) : sw f r s 0 = f := by
  funext k
  unfold sw
  rw [if_neg (by omega), if_neg (by omega)]
theorem sw_s {f : Nat → Int64} {r s i k : Nat} (hi : i < 12) : sw f r s (i + 1) k = if k = 12 * s + i then f (12 * r + i) else if k = 12 * r + i then f (12 * s + i) else sw f r s i k := by
  unfold sw
  repeat' split
  all_goals first | rfl | (exfalso; omega) | (congr 1; omega)
theorem sw_r {f : Nat → Int64} {r s i : Nat} (hi : i < 12) : sw f r s i (12 * r + i) = f (12 * r + i) := by
  unfold sw
  repeat' split
  all_goals first | rfl | (exfalso; omega) | (congr 1; omega)
theorem sw_q {f : Nat → Int64} {r s i : Nat} (hi : i < 12) : sw f r s i (12 * s + i) = f (12 * s + i) := by
  unfold sw
  repeat' split
  all_goals first | rfl | (exfalso; omega) | (congr 1; omega)
theorem sw_loop {d r s N : Nat} {μ0 : mm_M} {Q : mm_Q} (hL0 : Ly μ0) (hr : r < 152) (hs : s < 152) (hN : N ≤ 12) (hN0 : mm_i μ0 81 1 = nI N)
    (hQ : ∀ μ', Fr [95] μ0 μ' → mm_l μ' 95 = sw (mm_l μ0 95) r s N → Q none μ') :
    ∀ n i (μ : mm_M) (w : Option Value), i + n = N → Fr [95] μ0 μ → mm_l μ 95 = sw (mm_l μ0 95) r s i → mm_At d 143 Q 1 [some (.ref 81), some (.int (nI r)), some (.int (nI s)), some (.int (nI i)), w, none] [] μ (0, 0)
  | 0, i, μ, w, hn, hF, hμ => by
    have : i = N := by omega
    subst this
    have hL := hF.ly hL0
    have hN1 : mm_i μ 81 1 = nI i := by rw [hF.i (by decide)]; exact hN0
    refine at_step pp_143 ?_; simp only [e_ldi, e_ldim, e_ldl, e_ldlm, e_lda, e_ldam, e_sti, e_stl, e_sta, e_inc, e_incm, e_ii, e_ll, e_ld, e_ls, e_i1, e_l1, e_i2l, e_l2i, e_cmp, e_dupi, e_dupr, e_dup2, e_if_eq, e_ic_eq, e_if_ne, e_ic_ne, e_if_lt, e_ic_lt, e_if_ge, e_ic_ge, e_if_gt, e_ic_gt, e_if_le, e_ic_le, e_tsw, e_sw0, e_sw1, e_get2, e_get0, e_get3, e_put0, e_put3, e_put2, e_ald, e_lld, e_rld, e_ast, e_lst, e_rst, e_len, e_rk, e_cpi, e_cpl, e_ret, e_rtz, e_rtl, e_rtv, e_cst, e_go, e_kkn, e_kks, e_cas0, e_cas1, e_cav1, e_cas2, e_cav2, e_cas3, e_cav3, e_cas4, e_cav4, e_cas5, e_cav5, e_cas6, e_cav6, e_cas7, e_cav7, mm_lg, mm_s1, mm_s2, mm_c2, mm_kl, mm_en, mm_sum, Int.reduceAdd, Int.reduceEq, not_true_eq_false, not_false_eq_true, false_implies, true_implies, implies_true, true_and, and_true, Option.some.injEq, Sum.inl.injEq, Sum.inr.injEq, Prod.mk.injEq, exists_eq_left', exists_eq_left, Value.category, Nat.reduceAdd, Nat.reduceLeDiff, reduceCtorEq, mm_i_si, mm_i_sl, mm_i_sr, mm_l_si, mm_l_sl, mm_l_sr, mm_r_si, mm_r_sl, mm_z_si, mm_z_sl, mm_z_sr, mm_n_si, mm_n_sl, mm_i_ci, mm_l_ci, mm_r_ci, mm_z_ci, mm_n_ci, mm_i_cl, mm_l_cl, mm_r_cl, mm_z_cl, mm_n_cl, ↓reduceIte, Nat.reduceEqDiff, and_false, false_and, and_self, eq_self, z0_0, z0_1, z0_2, z0_3, z0_4, z0_5, z0_6, z0_7, z0_8, z0_9, z0_10, z0_11, z0_12, z0_13, z0_14, z0_15, z0_16, z0_81, z0_82, z0_83, z0_84, z0_85, z0_86, z0_87, z0_88, z0_89, z0_90, z0_91, z0_92, z0_93, z0_94, z0_95, z0_96, z0_97, r0_0_0, r0_0_2, r0_0_4, r0_0_7, r0_0_10, r0_0_11, r0_0_12, r0_0_13, r0_5_0, r0_7_0, r0_7_9, r0_8_0, r0_8_1, r0_12_0, r0_12_1, r0_15_0, r0_81_3, r0_81_4, r0_81_7, r0_81_8, r0_81_9, r0_81_10, r0_81_11, r0_81_12, r0_81_14, r0_81_16, r0_81_17, r0_81_27, r0_81_28, r0_81_29, r0_81_30, pb_X7_swap, hL.1, hL.2.1, hN1]
    refine ⟨fun _ => ?_, fun h => absurd (nI_le (Nat.le_refl i) (by omega)) h⟩
    refine at_step pp_143 ?_; simp only [e_ldi, e_ldim, e_ldl, e_ldlm, e_lda, e_ldam, e_sti, e_stl, e_sta, e_inc, e_incm, e_ii, e_ll, e_ld, e_ls, e_i1, e_l1, e_i2l, e_l2i, e_cmp, e_dupi, e_dupr, e_dup2, e_if_eq, e_ic_eq, e_if_ne, e_ic_ne, e_if_lt, e_ic_lt, e_if_ge, e_ic_ge, e_if_gt, e_ic_gt, e_if_le, e_ic_le, e_tsw, e_sw0, e_sw1, e_get2, e_get0, e_get3, e_put0, e_put3, e_put2, e_ald, e_lld, e_rld, e_ast, e_lst, e_rst, e_len, e_rk, e_cpi, e_cpl, e_ret, e_rtz, e_rtl, e_rtv, e_cst, e_go, e_kkn, e_kks, e_cas0, e_cas1, e_cav1, e_cas2, e_cav2, e_cas3, e_cav3, e_cas4, e_cav4, e_cas5, e_cav5, e_cas6, e_cav6, e_cas7, e_cav7, mm_lg, mm_s1, mm_s2, mm_c2, mm_kl, mm_en, mm_sum, Int.reduceAdd, Int.reduceEq, not_true_eq_false, not_false_eq_true, false_implies, true_implies, implies_true, true_and, and_true, Option.some.injEq, Sum.inl.injEq, Sum.inr.injEq, Prod.mk.injEq, exists_eq_left', exists_eq_left, Value.category, Nat.reduceAdd, Nat.reduceLeDiff, reduceCtorEq, mm_i_si, mm_i_sl, mm_i_sr, mm_l_si, mm_l_sl, mm_l_sr, mm_r_si, mm_r_sl, mm_z_si, mm_z_sl, mm_z_sr, mm_n_si, mm_n_sl, mm_i_ci, mm_l_ci, mm_r_ci, mm_z_ci, mm_n_ci, mm_i_cl, mm_l_cl, mm_r_cl, mm_z_cl, mm_n_cl, ↓reduceIte, Nat.reduceEqDiff, and_false, false_and, and_self, eq_self, z0_0, z0_1, z0_2, z0_3, z0_4, z0_5, z0_6, z0_7, z0_8, z0_9, z0_10, z0_11, z0_12, z0_13, z0_14, z0_15, z0_16, z0_81, z0_82, z0_83, z0_84, z0_85, z0_86, z0_87, z0_88, z0_89, z0_90, z0_91, z0_92, z0_93, z0_94, z0_95, z0_96, z0_97, r0_0_0, r0_0_2, r0_0_4, r0_0_7, r0_0_10, r0_0_11, r0_0_12, r0_0_13, r0_5_0, r0_7_0, r0_7_9, r0_8_0, r0_8_1, r0_12_0, r0_12_1, r0_15_0, r0_81_3, r0_81_4, r0_81_7, r0_81_8, r0_81_9, r0_81_10, r0_81_11, r0_81_12, r0_81_14, r0_81_16, r0_81_17, r0_81_27, r0_81_28, r0_81_29, r0_81_30, pb_X7_swap]
    exact hQ μ hF hμ
  | n + 1, i, μ, w, hn, hF, hμ => by
    have hL := hF.ly hL0
    have hN1 : mm_i μ 81 1 = nI N := by rw [hF.i (by decide)]; exact hN0
    have h12 : ¬ nI N ≤ nI i := nI_ge (by omega) (by omega)
    have v1 := nI_m12 hr (show i < 12 by omega)
    have v2 := nI_m12 hs (show i < 12 by omega)
    refine at_step pp_143 ?_; simp only [e_ldi, e_ldim, e_ldl, e_ldlm, e_lda, e_ldam, e_sti, e_stl, e_sta, e_inc, e_incm, e_ii, e_ll, e_ld, e_ls, e_i1, e_l1, e_i2l, e_l2i, e_cmp, e_dupi, e_dupr, e_dup2, e_if_eq, e_ic_eq, e_if_ne, e_ic_ne, e_if_lt, e_ic_lt, e_if_ge, e_ic_ge, e_if_gt, e_ic_gt, e_if_le, e_ic_le, e_tsw, e_sw0, e_sw1, e_get2, e_get0, e_get3, e_put0, e_put3, e_put2, e_ald, e_lld, e_rld, e_ast, e_lst, e_rst, e_len, e_rk, e_cpi, e_cpl, e_ret, e_rtz, e_rtl, e_rtv, e_cst, e_go, e_kkn, e_kks, e_cas0, e_cas1, e_cav1, e_cas2, e_cav2, e_cas3, e_cav3, e_cas4, e_cav4, e_cas5, e_cav5, e_cas6, e_cav6, e_cas7, e_cav7, mm_lg, mm_s1, mm_s2, mm_c2, mm_kl, mm_en, mm_sum, Int.reduceAdd, Int.reduceEq, not_true_eq_false, not_false_eq_true, false_implies, true_implies, implies_true, true_and, and_true, Option.some.injEq, Sum.inl.injEq, Sum.inr.injEq, Prod.mk.injEq, exists_eq_left', exists_eq_left, Value.category, Nat.reduceAdd, Nat.reduceLeDiff, reduceCtorEq, mm_i_si, mm_i_sl, mm_i_sr, mm_l_si, mm_l_sl, mm_l_sr, mm_r_si, mm_r_sl, mm_z_si, mm_z_sl, mm_z_sr, mm_n_si, mm_n_sl, mm_i_ci, mm_l_ci, mm_r_ci, mm_z_ci, mm_n_ci, mm_i_cl, mm_l_cl, mm_r_cl, mm_z_cl, mm_n_cl, ↓reduceIte, Nat.reduceEqDiff, and_false, false_and, and_self, eq_self, z0_0, z0_1, z0_2, z0_3, z0_4, z0_5, z0_6, z0_7, z0_8, z0_9, z0_10, z0_11, z0_12, z0_13, z0_14, z0_15, z0_16, z0_81, z0_82, z0_83, z0_84, z0_85, z0_86, z0_87, z0_88, z0_89, z0_90, z0_91, z0_92, z0_93, z0_94, z0_95, z0_96, z0_97, r0_0_0, r0_0_2, r0_0_4, r0_0_7, r0_0_10, r0_0_11, r0_0_12, r0_0_13, r0_5_0, r0_7_0, r0_7_9, r0_8_0, r0_8_1, r0_12_0, r0_12_1, r0_15_0, r0_81_3, r0_81_4, r0_81_7, r0_81_8, r0_81_9, r0_81_10, r0_81_11, r0_81_12, r0_81_14, r0_81_16, r0_81_17, r0_81_27, r0_81_28, r0_81_29, r0_81_30, pb_X7_swap, hL.1, hL.2.1, hN1, h12, v1.1, v1.2, v2.1, v2.2, nI_1]
    refine sw_loop hL0 hr hs hN hN0 hQ n (i + 1) _ _ (by omega) ((hF.tr (Fr.sl (by simp))).tr (Fr.sl (by simp))) ?_
    funext k
    rw [mm_l_sl, mm_l_sl, hμ, sw_s (by omega)]
    have a1 : sw (mm_l μ0 95) r s i (12 * r + i) = mm_l μ0 95 (12 * r + i) := sw_r (by omega)
    have a2 : sw (mm_l μ0 95) r s i (12 * s + i) = mm_l μ0 95 (12 * s + i) := sw_q (by omega)
    rw [a1, a2]
    simp only [true_and]
theorem ev_swap {d r s N : Nat} {μ : mm_M} {Q : mm_Q} (hL : Ly μ) (hr : r < 152) (hs : s < 152) (hN : N ≤ 12) (hN0 : mm_i μ 81 1 = nI N) (hzr : ∀ j, N ≤ j → rwv μ 95 r j = 0) (hzs : ∀ j, N ≤ j → rwv μ 95 s j = 0)
    (hQ : ∀ μ', Fr [95] μ μ' → rwv μ' 95 r = rwv μ 95 s → rwv μ' 95 s = rwv μ 95 r → (∀ k, k ≠ r → k ≠ s → rwv μ' 95 k = rwv μ 95 k) → Q none μ') : Ev (d + 1) 143 [.ref 81, .int (nI r), .int (nI s)] μ Q := by
  refine ev_step pp_143 (Nat.le_of_ble_eq_true rfl) ?_
  simp only [e_ldi, e_ldim, e_ldl, e_ldlm, e_lda, e_ldam, e_sti, e_stl, e_sta, e_inc, e_incm, e_ii, e_ll, e_ld, e_ls, e_i1, e_l1, e_i2l, e_l2i, e_cmp, e_dupi, e_dupr, e_dup2, e_if_eq, e_ic_eq, e_if_ne, e_ic_ne, e_if_lt, e_ic_lt, e_if_ge, e_ic_ge, e_if_gt, e_ic_gt, e_if_le, e_ic_le, e_tsw, e_sw0, e_sw1, e_get2, e_get0, e_get3, e_put0, e_put3, e_put2, e_ald, e_lld, e_rld, e_ast, e_lst, e_rst, e_len, e_rk, e_cpi, e_cpl, e_ret, e_rtz, e_rtl, e_rtv, e_cst, e_go, e_kkn, e_kks, e_cas0, e_cas1, e_cav1, e_cas2, e_cav2, e_cas3, e_cav3, e_cas4, e_cav4, e_cas5, e_cav5, e_cas6, e_cav6, e_cas7, e_cav7, mm_lg, mm_s1, mm_s2, mm_c2, mm_kl, mm_en, mm_sum, Int.reduceAdd, Int.reduceEq, not_true_eq_false, not_false_eq_true, false_implies, true_implies, implies_true, true_and, and_true, Option.some.injEq, Sum.inl.injEq, Sum.inr.injEq, Prod.mk.injEq, exists_eq_left', exists_eq_left, Value.category, Nat.reduceAdd, Nat.reduceLeDiff, reduceCtorEq, mm_i_si, mm_i_sl, mm_i_sr, mm_l_si, mm_l_sl, mm_l_sr, mm_r_si, mm_r_sl, mm_z_si, mm_z_sl, mm_z_sr, mm_n_si, mm_n_sl, mm_i_ci, mm_l_ci, mm_r_ci, mm_z_ci, mm_n_ci, mm_i_cl, mm_l_cl, mm_r_cl, mm_z_cl, mm_n_cl, ↓reduceIte, Nat.reduceEqDiff, and_false, false_and, and_self, eq_self, z0_0, z0_1, z0_2, z0_3, z0_4, z0_5, z0_6, z0_7, z0_8, z0_9, z0_10, z0_11, z0_12, z0_13, z0_14, z0_15, z0_16, z0_81, z0_82, z0_83, z0_84, z0_85, z0_86, z0_87, z0_88, z0_89, z0_90, z0_91, z0_92, z0_93, z0_94, z0_95, z0_96, z0_97, r0_0_0, r0_0_2, r0_0_4, r0_0_7, r0_0_10, r0_0_11, r0_0_12, r0_0_13, r0_5_0, r0_7_0, r0_7_9, r0_8_0, r0_8_1, r0_12_0, r0_12_1, r0_15_0, r0_81_3, r0_81_4, r0_81_7, r0_81_8, r0_81_9, r0_81_10, r0_81_11, r0_81_12, r0_81_14, r0_81_16, r0_81_17, r0_81_27, r0_81_28, r0_81_29, r0_81_30, pb_X7_swap]
  refine sw_loop hL hr hs hN hN0 (fun μ' hF h1 => ?_) N 0 μ none (by omega) Fr.rf (sw_0 _ _ _).symm
  refine hQ μ' hF ?_ ?_ (fun k h2 h3 => ?_)
  · funext j
    by_cases hj : j < 12
    · by_cases hjN : j < N
      · rw [rwv_lt hj, rwv_lt hj, h1, sw, if_pos (by omega), show 12 * r + j - 12 * r = j by omega]
      · rw [hzs j (by omega), rwv_lt hj, h1, sw, if_neg (by omega), if_neg (by omega), ← rwv_lt hj, hzr j (by omega)]
    · rw [rwv_ge hj, rwv_ge hj]
  · funext j
    by_cases hj : j < 12
    · by_cases hjN : j < N
      · by_cases hsr : s = r
        · subst hsr
          rw [rwv_lt hj, rwv_lt hj, h1, sw, if_pos (by omega), show 12 * s + j - 12 * s = j by omega]
        · rw [rwv_lt hj, rwv_lt hj, h1, sw, if_neg (by omega), if_pos (by omega), show 12 * s + j - 12 * s = j by omega]
      · rw [hzr j (by omega), rwv_lt hj, h1, sw, if_neg (by omega), if_neg (by omega), ← rwv_lt hj, hzs j (by omega)]
    · rw [rwv_ge hj, rwv_ge hj]
  · exact rwv_eq (fun j hj => by rw [h1, sw, if_neg (by omega), if_neg (by omega)])
