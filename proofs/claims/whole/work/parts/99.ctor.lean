/-! the two objects are made -/
abbrev Zl : Type := List ((FieldType × Nat) ⊕ Nat)
abbrev Rl : Type := List (List (Option Nat))
def Mz (zs : Zl) (rs : Rl) (ii : Nat → Nat → Int32) : mm_M := (ii, fun _ _ => 0, fun a f => (rs.getD a []).getD f none, fun a => zs.getD a (.inr 99), zs.length)
def sp : List (Option Nat) → Nat → Option Nat → List (Option Nat)
  | [], 0, v => [v]
  | [], n + 1, v => none :: sp [] n v
  | _ :: l, 0, v => v :: l
  | x :: l, n + 1, v => x :: sp l n v
theorem sp_at {v : Option Nat} : ∀ (l : List (Option Nat)) (f g : Nat), (sp l f v).getD g none = if g = f then v else l.getD g none
  | [], 0, 0 => rfl
  | [], 0, g + 1 => rfl
  | [], f + 1, 0 => rfl
  | [], f + 1, g + 1 => by
    have := sp_at (v := v) [] f g
    rw [show (sp [] (f + 1) v).getD (g + 1) none = (sp [] f v).getD g none from rfl, this]
    by_cases e : g = f
    · rw [if_pos e, if_pos (by omega)]
    · rw [if_neg e, if_neg (by omega)]; rfl
  | x :: l, 0, 0 => rfl
  | x :: l, 0, g + 1 => rfl
  | x :: l, f + 1, 0 => rfl
  | x :: l, f + 1, g + 1 => by
    have := sp_at (v := v) l f g
    rw [show (sp (x :: l) (f + 1) v).getD (g + 1) none = (sp l f v).getD g none from rfl, this]
    by_cases e : g = f
    · rw [if_pos e, if_pos (by omega)]
    · rw [if_neg e, if_neg (by omega)]; rfl
def srp (rs : Rl) (a f v : Nat) : Rl := rs.set a (sp (rs.getD a []) f (some v))
theorem srp_len {rs : Rl} {a f v : Nat} : (srp rs a f v).length = rs.length := List.length_set
theorem gd_app {α : Type} {l : List α} {x d : α} {b : Nat} : (l ++ [x]).getD b d = if b = l.length then x else l.getD b d := by
  rw [List.getD_eq_getElem?_getD, List.getD_eq_getElem?_getD]
  by_cases e : b = l.length
  · rw [if_pos e, List.getElem?_append_right (by omega), show b - l.length = 0 by omega]; rfl
  · rw [if_neg e]
    by_cases e2 : b < l.length
    · rw [List.getElem?_append_left e2]
    · rw [List.getElem?_append_right (by omega), List.getElem?_eq_none (l := l) (by omega), List.getElem?_eq_none (by simp; omega)]
theorem Mz_na {zs : Zl} {rs : Rl} {ii : Nat → Nat → Int32} {z : (FieldType × Nat) ⊕ Nat} (hl : rs.length = zs.length) (hi : ∀ j, ii zs.length j = 0) : mm_na (Mz zs rs ii) z = Mz (zs ++ [z]) (rs ++ [[]]) ii := by
  refine Prod.ext ?_ (Prod.ext ?_ (Prod.ext ?_ (Prod.ext ?_ ?_)))
  · funext b j
    show (if b = zs.length then (0 : Int32) else ii b j) = ii b j
    split
    · rename_i e; rw [e, hi]
    · rfl
  · funext b j
    show (if b = zs.length then (0 : Int64) else 0) = 0
    split <;> rfl
  · funext b f
    show (if b = zs.length then none else (rs.getD b []).getD f none) = ((rs ++ [[]]).getD b []).getD f none
    rw [gd_app (l := rs), hl]
    split <;> rfl
  · funext b
    show (if b = zs.length then z else zs.getD b (.inr 99)) = (zs ++ [z]).getD b (.inr 99)
    rw [gd_app]
  · show zs.length + 1 = (zs ++ [z]).length
    simp
theorem Mz_sr {zs : Zl} {rs : Rl} {ii : Nat → Nat → Int32} {a f v : Nat} (ha : a < rs.length) : mm_sr (Mz zs rs ii) a f (some v) = Mz zs (srp rs a f v) ii := by
  refine Prod.ext rfl (Prod.ext rfl (Prod.ext ?_ rfl))
  funext b g
  show (if b = a ∧ g = f then some v else (rs.getD b []).getD g none) = ((srp rs a f v).getD b []).getD g none
  unfold srp
  by_cases e : b = a
  · subst e
    rw [show (rs.set b (sp (rs.getD b []) f (some v))).getD b [] = sp (rs.getD b []) f (some v) from by rw [List.getD_eq_getElem?_getD (l := rs.set b _), List.getElem?_set_self ha]; rfl, sp_at]
    by_cases e2 : g = f
    · rw [if_pos ⟨rfl, e2⟩, if_pos e2]
    · rw [if_neg (fun z => e2 z.2), if_neg e2]
  · rw [if_neg (fun z => e z.1), show (rs.set a (sp (rs.getD a []) f (some v))).getD b [] = rs.getD b [] from by rw [List.getD_eq_getElem?_getD (l := rs.set a _), List.getElem?_set_ne (fun z => e z.symm), ← List.getD_eq_getElem?_getD]]
theorem Mz_si {zs : Zl} {rs : Rl} {ii : Nat → Nat → Int32} {a k : Nat} {v : Int32} : mm_si (Mz zs rs ii) a k v = Mz zs rs (fun b j => if b = a ∧ j = k then v else ii b j) := rfl
/-- a memory in the making: n cells, nothing in those to come -/
def Wz (zs : Zl) (rs : Rl) (ii : Nat → Nat → Int32) (n : Nat) : Prop := zs.length = n ∧ rs.length = n ∧ n < 900 ∧ ∀ b, n ≤ b → ∀ j, ii b j = 0
theorem Wz.na {zs : Zl} {rs : Rl} {ii : Nat → Nat → Int32} {n : Nat} (h : Wz zs rs ii n) (hn : n < 800) {z : (FieldType × Nat) ⊕ Nat} : mm_na (Mz zs rs ii) z = Mz (zs ++ [z]) (rs ++ [[]]) ii ∧ Wz (zs ++ [z]) (rs ++ [[]]) ii (n + 1) :=
  ⟨Mz_na (h.2.1.trans h.1.symm) (fun j => h.2.2.2 _ (by rw [h.1]; exact Nat.le_refl _) j), by simp [h.1], by simp [h.2.1], by omega, fun b hb j => h.2.2.2 b (by omega) j⟩
theorem Wz.sr {zs : Zl} {rs : Rl} {ii : Nat → Nat → Int32} {n a f v : Nat} (h : Wz zs rs ii n) (ha : a < n) : mm_sr (Mz zs rs ii) a f (some v) = Mz zs (srp rs a f v) ii ∧ Wz zs (srp rs a f v) ii n :=
  ⟨Mz_sr (by rw [h.2.1]; exact ha), h.1, by rw [srp_len]; exact h.2.1, h.2.2.1, h.2.2.2⟩
theorem Wz.n {zs : Zl} {rs : Rl} {ii : Nat → Nat → Int32} {n : Nat} (h : Wz zs rs ii n) : mm_n (Mz zs rs ii) = n := h.1
def zt (zs : Zl) (a : Nat) : (FieldType × Nat) ⊕ Nat := zs.getD a (.inr 99)
theorem Mz_z {zs : Zl} {rs : Rl} {ii : Nat → Nat → Int32} {a : Nat} : mm_z (Mz zs rs ii) a = zt zs a := rfl
theorem zt_l {zs : Zl} {z : (FieldType × Nat) ⊕ Nat} {a ci : Nat} (hc : ci < 99) (h : zt zs a = .inr ci) : zt (zs ++ [z]) a = .inr ci := by
  unfold zt at *
  by_cases e : a < zs.length
  · rw [List.getD_eq_getElem?_getD, List.getElem?_append_left e, ← List.getD_eq_getElem?_getD]; exact h
  · rw [List.getD_eq_getElem?_getD, List.getElem?_eq_none (by omega)] at h
    cases h
    omega
theorem zt_a {zs : Zl} {z : (FieldType × Nat) ⊕ Nat} {n : Nat} (h : zs.length = n) : zt (zs ++ [z]) n = z := by
  unfold zt
  rw [List.getD_eq_getElem?_getD, List.getElem?_append_right (by omega), show n - zs.length = 0 by omega]; rfl
theorem zt_lt {zs : Zl} {rs : Rl} {ii : Nat → Nat → Int32} {n a ci : Nat} (w : Wz zs rs ii n) (hc : ci < 99) (h : zt zs a = .inr ci) : a < n := by
  unfold zt at h
  rw [List.getD_eq_getElem?_getD] at h
  by_cases e : a < zs.length
  · rw [← w.1]; exact e
  · rw [List.getElem?_eq_none (by omega)] at h
    cases h
    omega
theorem e_obi {a : Nat} {k : mm_K} {lv : mm_L} {st : List Value} {μ : mm_M} {κ : Nat × Nat} : mm_obi k lv (.ref a :: st) μ κ = (mm_sum st ≤ 8 ∧ k lv st μ κ) := rfl
theorem e_new {ci N : Nat} {B : Nat × Nat} {k : mm_K} {lv : mm_L} {st : List Value} {μ : mm_M} {κ : Nat × Nat} : mm_new ci N B k lv st μ κ = (mm_n μ < mm_ext ∧ mm_ks (mm_n μ) st ∧ mm_kv (mm_n μ) lv ∧ κ.1 + 1 ≤ B.1 ∧ κ.2 + N ≤ B.2 ∧ k lv (.ref (mm_n μ) :: st) (mm_na μ (.inr ci)) (κ.1 + 1, κ.2 + N)) := rfl
theorem e_nar {ty : FieldType} {B : Nat × Nat} {v : Int32} {k : mm_K} {lv : mm_L} {st : List Value} {μ : mm_M} {κ : Nat × Nat} : mm_nar ty B k lv (.int v :: st) μ κ = (mm_n μ < mm_ext ∧ mm_ks (mm_n μ) st ∧ mm_kv (mm_n μ) lv ∧ ¬ v < 0 ∧ v.toNatClampNeg ≤ 4000 ∧ κ.1 + 1 ≤ B.1 ∧ κ.2 + v.toNatClampNeg ≤ B.2 ∧ k lv (.ref (mm_n μ) :: st) (mm_na μ (.inl (ty, v.toNatClampNeg))) (κ.1 + 1, κ.2 + v.toNatClampNeg)) := rfl
theorem e_can1 {y mc ms a : Nat} {B : Nat × Nat} {C : mm_C} {k : mm_K} {lv : mm_L} {st : List Value} {μ : mm_M} {κ : Nat × Nat} : mm_can y 1 mc ms B C k lv (.ref a :: st) μ κ = (True ∧ mm_sum st ≤ 8 ∧ mm_ks (mm_n μ) st ∧ mm_kv (mm_n μ) lv ∧ κ.1 + mc ≤ B.1 ∧ κ.2 + ms ≤ B.2 ∧ C y [.ref a] μ (mm_kk k lv st (κ.1 + mc, κ.2 + ms))) := rfl
theorem ext_lt {n : Nat} (h : n < 900) : n < mm_ext := by unfold mm_ext; omega
/-- a text -/
def txZ (zs : Zl) : Zl := zs ++ [.inl (.int, 60)] ++ [.inl (.int, 60)]
def txR (n a : Nat) (rs : Rl) : Rl := srp (srp (rs ++ [[]]) a 0 n ++ [[]]) a 1 (n + 1)
theorem ev_iText {d a n : Nat} {zs : Zl} {rs : Rl} {ii : Nat → Nat → Int32} {Q : mm_Q} (w : Wz zs rs ii n) (hn : n < 700) (ha : zt zs a = .inr 4) (hQ : Wz (txZ zs) (txR n a rs) ii (n + 2) → Q none (Mz (txZ zs) (txR n a rs) ii)) : Ev (d + 1) 48 [.ref a] (Mz zs rs ii) Q := by
  have hlt := zt_lt w (by decide) ha
  have h1 := w.na (by omega) (z := .inl (.int, 60))
  have h2 := h1.2.sr (f := 0) (v := n) (show a < n + 1 by omega)
  have h3 := h2.2.na (by omega) (z := .inl (.int, 60))
  have h4 := h3.2.sr (f := 1) (v := n + 1) (show a < n + 1 + 1 by omega)
  have z1 := zt_l (z := .inl (.int, 60)) (by decide) ha
  have z2 := zt_l (z := .inl (.int, 60)) (by decide) z1
  have l1 : n < mm_ext := ext_lt (by omega)
  have l2 : n + 1 < mm_ext := ext_lt (by omega)
  have t1 : a < n + 1 := by omega
  have q1 : n < n + 1 := by omega
  have q2 : n + 1 < n + 1 + 1 := by omega
  have cl : (60 : Int32).toNatClampNeg = 60 := rfl
  have ng : ¬ (60 : Int32) < 0 := by decide
  refine ev_step pp_48 (Nat.le_of_ble_eq_true rfl) ?_
  simp only [e_ldi, e_ldim, e_ldl, e_ldlm, e_lda, e_ldam, e_sti, e_stl, e_sta, e_inc, e_incm, e_ii, e_ll, e_ld, e_ls, e_i1, e_l1, e_i2l, e_l2i, e_cmp, e_dupi, e_dupr, e_dup2, e_if_eq, e_ic_eq, e_if_ne, e_ic_ne, e_if_lt, e_ic_lt, e_if_ge, e_ic_ge, e_if_gt, e_ic_gt, e_if_le, e_ic_le, e_tsw, e_sw0, e_sw1, e_get2, e_get0, e_get3, e_put0, e_put3, e_put2, e_ald, e_lld, e_rld, e_ast, e_lst, e_rst, e_len, e_rk, e_cpi, e_cpl, e_ret, e_rtz, e_rtl, e_rtv, e_cst, e_go, e_kkn, e_kks, e_cas0, e_cas1, e_cav1, e_cas2, e_cav2, e_cas3, e_cav3, e_cas4, e_cav4, e_cas5, e_cav5, e_cas6, e_cav6, e_cas7, e_cav7, mm_lg, mm_s1, mm_s2, mm_c2, mm_kl, mm_en, mm_sum, Int.reduceAdd, Int.reduceEq, not_true_eq_false, not_false_eq_true, false_implies, true_implies, implies_true, true_and, and_true, Option.some.injEq, Sum.inl.injEq, Sum.inr.injEq, Prod.mk.injEq, exists_eq_left', exists_eq_left, Value.category, Nat.reduceAdd, Nat.reduceLeDiff, reduceCtorEq, mm_i_si, mm_i_sl, mm_i_sr, mm_l_si, mm_l_sl, mm_l_sr, mm_r_si, mm_r_sl, mm_z_si, mm_z_sl, mm_z_sr, mm_n_si, mm_n_sl, mm_i_ci, mm_l_ci, mm_r_ci, mm_z_ci, mm_n_ci, mm_i_cl, mm_l_cl, mm_r_cl, mm_z_cl, mm_n_cl, ↓reduceIte, Nat.reduceEqDiff, and_false, false_and, and_self, eq_self, z0_0, z0_1, z0_2, z0_3, z0_4, z0_5, z0_6, z0_7, z0_8, z0_9, z0_10, z0_11, z0_12, z0_13, z0_14, z0_15, z0_16, z0_81, z0_82, z0_83, z0_84, z0_85, z0_86, z0_87, z0_88, z0_89, z0_90, z0_91, z0_92, z0_93, z0_94, z0_95, z0_96, z0_97, r0_0_0, r0_0_2, r0_0_4, r0_0_7, r0_0_10, r0_0_11, r0_0_12, r0_0_13, r0_5_0, r0_7_0, r0_7_9, r0_8_0, r0_8_1, r0_12_0, r0_12_1, r0_15_0, r0_81_3, r0_81_4, r0_81_7, r0_81_8, r0_81_9, r0_81_10, r0_81_11, r0_81_12, r0_81_14, r0_81_16, r0_81_17, r0_81_27, r0_81_28, r0_81_29, r0_81_30, pb_X4_init, e_obi, e_nar, mm_ks, mm_kv, mm_vk, w.n, h1.1, h1.2.n, h2.1, h2.2.n, h3.1, h3.2.n, h4.1, h4.2.n, Mz_z, ha, z1, z2, l1, l2, t1, q1, q2, hlt, cl, ng, true_or]
  exact hQ h4.2
/-- rows of a field -/
def rdZ (zs : Zl) : Zl := zs ++ [.inl (.long, 156)]
def rdR (n a : Nat) (rs : Rl) : Rl := srp (rs ++ [[]]) a 0 n
theorem ev_iRed {d a n : Nat} {zs : Zl} {rs : Rl} {ii : Nat → Nat → Int32} {Q : mm_Q} (w : Wz zs rs ii n) (hn : n < 700) (ha : zt zs a = .inr 3) (hQ : Wz (rdZ zs) (rdR n a rs) ii (n + 1) → Q none (Mz (rdZ zs) (rdR n a rs) ii)) : Ev (d + 1) 30 [.ref a] (Mz zs rs ii) Q := by
  have hlt := zt_lt w (by decide) ha
  have h1 := w.na (by omega) (z := .inl (.long, 156))
  have h2 := h1.2.sr (f := 0) (v := n) (show a < n + 1 by omega)
  have z1 := zt_l (z := .inl (.long, 156)) (by decide) ha
  have l1 : n < mm_ext := ext_lt (by omega)
  have q1 : n < n + 1 := by omega
  have cl : (156 : Int32).toNatClampNeg = 156 := rfl
  have ng : ¬ (156 : Int32) < 0 := by decide
  refine ev_step pp_30 (Nat.le_of_ble_eq_true rfl) ?_
  simp only [e_ldi, e_ldim, e_ldl, e_ldlm, e_lda, e_ldam, e_sti, e_stl, e_sta, e_inc, e_incm, e_ii, e_ll, e_ld, e_ls, e_i1, e_l1, e_i2l, e_l2i, e_cmp, e_dupi, e_dupr, e_dup2, e_if_eq, e_ic_eq, e_if_ne, e_ic_ne, e_if_lt, e_ic_lt, e_if_ge, e_ic_ge, e_if_gt, e_ic_gt, e_if_le, e_ic_le, e_tsw, e_sw0, e_sw1, e_get2, e_get0, e_get3, e_put0, e_put3, e_put2, e_ald, e_lld, e_rld, e_ast, e_lst, e_rst, e_len, e_rk, e_cpi, e_cpl, e_ret, e_rtz, e_rtl, e_rtv, e_cst, e_go, e_kkn, e_kks, e_cas0, e_cas1, e_cav1, e_cas2, e_cav2, e_cas3, e_cav3, e_cas4, e_cav4, e_cas5, e_cav5, e_cas6, e_cav6, e_cas7, e_cav7, mm_lg, mm_s1, mm_s2, mm_c2, mm_kl, mm_en, mm_sum, Int.reduceAdd, Int.reduceEq, not_true_eq_false, not_false_eq_true, false_implies, true_implies, implies_true, true_and, and_true, Option.some.injEq, Sum.inl.injEq, Sum.inr.injEq, Prod.mk.injEq, exists_eq_left', exists_eq_left, Value.category, Nat.reduceAdd, Nat.reduceLeDiff, reduceCtorEq, mm_i_si, mm_i_sl, mm_i_sr, mm_l_si, mm_l_sl, mm_l_sr, mm_r_si, mm_r_sl, mm_z_si, mm_z_sl, mm_z_sr, mm_n_si, mm_n_sl, mm_i_ci, mm_l_ci, mm_r_ci, mm_z_ci, mm_n_ci, mm_i_cl, mm_l_cl, mm_r_cl, mm_z_cl, mm_n_cl, ↓reduceIte, Nat.reduceEqDiff, and_false, false_and, and_self, eq_self, z0_0, z0_1, z0_2, z0_3, z0_4, z0_5, z0_6, z0_7, z0_8, z0_9, z0_10, z0_11, z0_12, z0_13, z0_14, z0_15, z0_16, z0_81, z0_82, z0_83, z0_84, z0_85, z0_86, z0_87, z0_88, z0_89, z0_90, z0_91, z0_92, z0_93, z0_94, z0_95, z0_96, z0_97, r0_0_0, r0_0_2, r0_0_4, r0_0_7, r0_0_10, r0_0_11, r0_0_12, r0_0_13, r0_5_0, r0_7_0, r0_7_9, r0_8_0, r0_8_1, r0_12_0, r0_12_1, r0_15_0, r0_81_3, r0_81_4, r0_81_7, r0_81_8, r0_81_9, r0_81_10, r0_81_11, r0_81_12, r0_81_14, r0_81_16, r0_81_17, r0_81_27, r0_81_28, r0_81_29, r0_81_30, pb_X3_init, e_obi, e_nar, mm_ks, mm_kv, mm_vk, w.n, h1.1, h1.2.n, h2.1, h2.2.n, Mz_z, ha, z1, l1, q1, hlt, cl, ng, true_or]
  exact hQ h2.2
/-- references in the making -/
def gr (rs : Rl) (a f : Nat) : Option Nat := (rs.getD a []).getD f none
theorem Mz_r {zs : Zl} {rs : Rl} {ii : Nat → Nat → Int32} {a f : Nat} : mm_r (Mz zs rs ii) a f = gr rs a f := rfl
theorem gr_na {rs : Rl} {a f : Nat} : gr (rs ++ [[]]) a f = gr rs a f := by
  unfold gr
  rw [gd_app (l := rs)]
  split
  · rename_i e
    rw [show rs.getD a [] = [] from by rw [List.getD_eq_getElem?_getD, List.getElem?_eq_none (by omega)]; rfl]
  · rfl
theorem gr_sr {rs : Rl} {a f b g v : Nat} (hb : b < rs.length) : gr (srp rs b g v) a f = if a = b ∧ f = g then some v else gr rs a f := by
  have := congrArg (fun μ : mm_M => mm_r μ a f) (Mz_sr (zs := []) (ii := fun _ _ => 0) (f := g) (v := v) hb)
  exact this.symm
theorem zt_k {zs : Zl} {z : (FieldType × Nat) ⊕ Nat} {a : Nat} (h : a < zs.length) : zt (zs ++ [z]) a = zt zs a := by
  unfold zt
  rw [gd_app, if_neg (by omega)]
theorem us_step {d a n m i c s : Nat} {zs : Zl} {rs : Rl} {ii : Nat → Nat → Int32} {Q : mm_Q} (w : Wz zs rs ii n) (hn : n < 600) (ha : zt zs a = .inr 5) (hm : zt zs m = .inl (.object "HiddenSums$Reduced", 4)) (hml : m < n) (hma : ¬ a = m) (hr : gr rs a 2 = some m) (hi : i < 4) (hc : c + 2 ≤ 15) (hs : s + 157 ≤ 880)
    (hK : Wz (rdZ (zs ++ [.inr 3])) (srp (rdR (n + 1) n (rs ++ [[]])) m i n) ii (n + 2) → zt (rdZ (zs ++ [.inr 3])) a = .inr 5 → zt (rdZ (zs ++ [.inr 3])) m = .inl (.object "HiddenSums$Reduced", 4) → gr (srp (rdR (n + 1) n (rs ++ [[]])) m i n) a 2 = some m → mm_At (d + 1) 52 Q 1 [some (.ref a), some (.int (nI (i + 1)))] [] (Mz (rdZ (zs ++ [.inr 3])) (srp (rdR (n + 1) n (rs ++ [[]])) m i n) ii) (c + 2, s + 157)) :
    mm_At (d + 1) 52 Q 1 [some (.ref a), some (.int (nI i))] [] (Mz zs rs ii) (c, s) := by
  have hlt := zt_lt w (by decide) ha
  have c1 : ¬ (4 : Int32) ≤ nI i := nI_ge (b := 4) hi (by decide)
  have v := vu4 hi
  have l1 : n < mm_ext := ext_lt (by omega)
  have h1 := w.na (by omega) (z := .inr 3)
  have z1 := zt_l (z := .inr 3) (by decide) ha
  have zn : zt (zs ++ [.inr 3]) n = .inr 3 := zt_a w.1
  have k1 : c + 1 ≤ 15 := by omega
  have k2 : s + 1 ≤ 880 := by omega
  have k3 : c + 1 + 1 ≤ 15 := by omega
  have k4 : s + 1 + 156 ≤ 880 := by omega
  have t1 : m < n + 1 := by omega
  have t2 : n < n + 1 := by omega
  have t3 : a < n + 1 := by omega
  refine at_step pp_52 ?_; simp only [e_ldi, e_ldim, e_ldl, e_ldlm, e_lda, e_ldam, e_sti, e_stl, e_sta, e_inc, e_incm, e_ii, e_ll, e_ld, e_ls, e_i1, e_l1, e_i2l, e_l2i, e_cmp, e_dupi, e_dupr, e_dup2, e_if_eq, e_ic_eq, e_if_ne, e_ic_ne, e_if_lt, e_ic_lt, e_if_ge, e_ic_ge, e_if_gt, e_ic_gt, e_if_le, e_ic_le, e_tsw, e_sw0, e_sw1, e_get2, e_get0, e_get3, e_put0, e_put3, e_put2, e_ald, e_lld, e_rld, e_ast, e_lst, e_rst, e_len, e_rk, e_cpi, e_cpl, e_ret, e_rtz, e_rtl, e_rtv, e_cst, e_go, e_kkn, e_kks, e_cas0, e_cas1, e_cav1, e_cas2, e_cav2, e_cas3, e_cav3, e_cas4, e_cav4, e_cas5, e_cav5, e_cas6, e_cav6, e_cas7, e_cav7, mm_lg, mm_s1, mm_s2, mm_c2, mm_kl, mm_en, mm_sum, Int.reduceAdd, Int.reduceEq, not_true_eq_false, not_false_eq_true, false_implies, true_implies, implies_true, true_and, and_true, Option.some.injEq, Sum.inl.injEq, Sum.inr.injEq, Prod.mk.injEq, exists_eq_left', exists_eq_left, Value.category, Nat.reduceAdd, Nat.reduceLeDiff, reduceCtorEq, mm_i_si, mm_i_sl, mm_i_sr, mm_l_si, mm_l_sl, mm_l_sr, mm_r_si, mm_r_sl, mm_z_si, mm_z_sl, mm_z_sr, mm_n_si, mm_n_sl, mm_i_ci, mm_l_ci, mm_r_ci, mm_z_ci, mm_n_ci, mm_i_cl, mm_l_cl, mm_r_cl, mm_z_cl, mm_n_cl, ↓reduceIte, Nat.reduceEqDiff, and_false, false_and, and_self, eq_self, z0_0, z0_1, z0_2, z0_3, z0_4, z0_5, z0_6, z0_7, z0_8, z0_9, z0_10, z0_11, z0_12, z0_13, z0_14, z0_15, z0_16, z0_81, z0_82, z0_83, z0_84, z0_85, z0_86, z0_87, z0_88, z0_89, z0_90, z0_91, z0_92, z0_93, z0_94, z0_95, z0_96, z0_97, r0_0_0, r0_0_2, r0_0_4, r0_0_7, r0_0_10, r0_0_11, r0_0_12, r0_0_13, r0_5_0, r0_7_0, r0_7_9, r0_8_0, r0_8_1, r0_12_0, r0_12_1, r0_15_0, r0_81_3, r0_81_4, r0_81_7, r0_81_8, r0_81_9, r0_81_10, r0_81_11, r0_81_12, r0_81_14, r0_81_16, r0_81_17, r0_81_27, r0_81_28, r0_81_29, r0_81_30, pb_X5_init, c1, e_new, e_can1, mm_ks, mm_kv, mm_vk, w.n, h1.1, h1.2.n, Mz_z, Mz_r, ha, hr, z1, l1, hlt, hml, k1, k2, k3, k4, t1, t2, t3, true_or]
  refine ev_iRed h1.2 (by omega) zn (fun w2 => ?_)
  have hm1 : zt (rdZ (zs ++ [.inr 3])) m = .inl (.object "HiddenSums$Reduced", 4) := by
    unfold rdZ
    rw [zt_k (by simp [w.1]; omega), zt_k (by rw [w.1]; exact hml)]; exact hm
  have za1 : zt (rdZ (zs ++ [.inr 3])) a = .inr 5 := zt_l (by decide) z1
  have zn1 : zt (rdZ (zs ++ [.inr 3])) n = .inr 3 := zt_l (by decide) zn
  have w3 := w2.sr (f := i) (v := n) (show m < n + 1 + 1 by omega)
  simp only [e_ldi, e_ldim, e_ldl, e_ldlm, e_lda, e_ldam, e_sti, e_stl, e_sta, e_inc, e_incm, e_ii, e_ll, e_ld, e_ls, e_i1, e_l1, e_i2l, e_l2i, e_cmp, e_dupi, e_dupr, e_dup2, e_if_eq, e_ic_eq, e_if_ne, e_ic_ne, e_if_lt, e_ic_lt, e_if_ge, e_ic_ge, e_if_gt, e_ic_gt, e_if_le, e_ic_le, e_tsw, e_sw0, e_sw1, e_get2, e_get0, e_get3, e_put0, e_put3, e_put2, e_ald, e_lld, e_rld, e_ast, e_lst, e_rst, e_len, e_rk, e_cpi, e_cpl, e_ret, e_rtz, e_rtl, e_rtv, e_cst, e_go, e_kkn, e_kks, e_cas0, e_cas1, e_cav1, e_cas2, e_cav2, e_cas3, e_cav3, e_cas4, e_cav4, e_cas5, e_cav5, e_cas6, e_cav6, e_cas7, e_cav7, mm_lg, mm_s1, mm_s2, mm_c2, mm_kl, mm_en, mm_sum, Int.reduceAdd, Int.reduceEq, not_true_eq_false, not_false_eq_true, false_implies, true_implies, implies_true, true_and, and_true, Option.some.injEq, Sum.inl.injEq, Sum.inr.injEq, Prod.mk.injEq, exists_eq_left', exists_eq_left, Value.category, Nat.reduceAdd, Nat.reduceLeDiff, reduceCtorEq, mm_i_si, mm_i_sl, mm_i_sr, mm_l_si, mm_l_sl, mm_l_sr, mm_r_si, mm_r_sl, mm_z_si, mm_z_sl, mm_z_sr, mm_n_si, mm_n_sl, mm_i_ci, mm_l_ci, mm_r_ci, mm_z_ci, mm_n_ci, mm_i_cl, mm_l_cl, mm_r_cl, mm_z_cl, mm_n_cl, ↓reduceIte, Nat.reduceEqDiff, and_false, false_and, and_self, eq_self, z0_0, z0_1, z0_2, z0_3, z0_4, z0_5, z0_6, z0_7, z0_8, z0_9, z0_10, z0_11, z0_12, z0_13, z0_14, z0_15, z0_16, z0_81, z0_82, z0_83, z0_84, z0_85, z0_86, z0_87, z0_88, z0_89, z0_90, z0_91, z0_92, z0_93, z0_94, z0_95, z0_96, z0_97, r0_0_0, r0_0_2, r0_0_4, r0_0_7, r0_0_10, r0_0_11, r0_0_12, r0_0_13, r0_5_0, r0_7_0, r0_7_9, r0_8_0, r0_8_1, r0_12_0, r0_12_1, r0_15_0, r0_81_3, r0_81_4, r0_81_7, r0_81_8, r0_81_9, r0_81_10, r0_81_11, r0_81_12, r0_81_14, r0_81_16, r0_81_17, r0_81_27, r0_81_28, r0_81_29, r0_81_30, Mz_z, hm1, zn1, v.1, v.2, w3.1, nI_1]
  refine hK w3.2 za1 hm1 ?_
  rw [gr_sr (by rw [w2.2.1]; omega), if_neg (fun z => hma z.1)]
  unfold rdR
  rw [gr_sr (by rw [List.length_append, List.length_append, w.2.1]; show n < n + 1 + 1; omega), if_neg (by omega), gr_na, gr_na]
  exact hr
def ulZ (zs : Zl) : Nat → Zl
  | 0 => zs
  | i + 1 => rdZ (ulZ zs i ++ [.inr 3])
def ulR (m : Nat) (rs : Rl) : Nat → Rl
  | 0 => rs
  | i + 1 => srp (rdR (m + 1 + 2 * i + 1) (m + 1 + 2 * i) (ulR m rs i ++ [[]])) m i (m + 1 + 2 * i)
def usZ (zs : Zl) : Zl := ulZ (txZ (txZ (zs ++ [.inr 4]) ++ [.inr 4]) ++ [.inl (.object "HiddenSums$Reduced", 4)]) 4
def usR (n a : Nat) (rs : Rl) : Rl := ulR (n + 6) (srp (srp (txR (n + 4) (n + 3) (srp (txR (n + 1) n (rs ++ [[]])) a 0 n ++ [[]])) a 1 (n + 3) ++ [[]]) a 2 (n + 6)) 4
theorem ev_iUser {d a n : Nat} {zs : Zl} {rs : Rl} {ii : Nat → Nat → Int32} {Q : mm_Q} (w : Wz zs rs ii n) (hn : n < 500) (ha : zt zs a = .inr 5) (hQ : Wz (usZ zs) (usR n a rs) ii (n + 15) → Q none (Mz (usZ zs) (usR n a rs) ii)) : Ev (d + 2) 52 [.ref a] (Mz zs rs ii) Q := by
  have hlt := zt_lt w (by decide) ha
  have x0 : n < mm_ext := ext_lt (by omega)
  have h1 := w.na (by omega) (z := .inr 4)
  have z1 := zt_l (z := .inr 4) (by decide) ha
  have zn : zt (zs ++ [.inr 4]) n = .inr 4 := zt_a w.1
  have t1 : a < n + 1 := by omega
  have t2 : n < n + 1 := by omega
  refine ev_step pp_52 (Nat.le_of_ble_eq_true rfl) ?_
  simp only [e_ldi, e_ldim, e_ldl, e_ldlm, e_lda, e_ldam, e_sti, e_stl, e_sta, e_inc, e_incm, e_ii, e_ll, e_ld, e_ls, e_i1, e_l1, e_i2l, e_l2i, e_cmp, e_dupi, e_dupr, e_dup2, e_if_eq, e_ic_eq, e_if_ne, e_ic_ne, e_if_lt, e_ic_lt, e_if_ge, e_ic_ge, e_if_gt, e_ic_gt, e_if_le, e_ic_le, e_tsw, e_sw0, e_sw1, e_get2, e_get0, e_get3, e_put0, e_put3, e_put2, e_ald, e_lld, e_rld, e_ast, e_lst, e_rst, e_len, e_rk, e_cpi, e_cpl, e_ret, e_rtz, e_rtl, e_rtv, e_cst, e_go, e_kkn, e_kks, e_cas0, e_cas1, e_cav1, e_cas2, e_cav2, e_cas3, e_cav3, e_cas4, e_cav4, e_cas5, e_cav5, e_cas6, e_cav6, e_cas7, e_cav7, mm_lg, mm_s1, mm_s2, mm_c2, mm_kl, mm_en, mm_sum, Int.reduceAdd, Int.reduceEq, not_true_eq_false, not_false_eq_true, false_implies, true_implies, implies_true, true_and, and_true, Option.some.injEq, Sum.inl.injEq, Sum.inr.injEq, Prod.mk.injEq, exists_eq_left', exists_eq_left, Value.category, Nat.reduceAdd, Nat.reduceLeDiff, reduceCtorEq, mm_i_si, mm_i_sl, mm_i_sr, mm_l_si, mm_l_sl, mm_l_sr, mm_r_si, mm_r_sl, mm_z_si, mm_z_sl, mm_z_sr, mm_n_si, mm_n_sl, mm_i_ci, mm_l_ci, mm_r_ci, mm_z_ci, mm_n_ci, mm_i_cl, mm_l_cl, mm_r_cl, mm_z_cl, mm_n_cl, ↓reduceIte, Nat.reduceEqDiff, and_false, false_and, and_self, eq_self, z0_0, z0_1, z0_2, z0_3, z0_4, z0_5, z0_6, z0_7, z0_8, z0_9, z0_10, z0_11, z0_12, z0_13, z0_14, z0_15, z0_16, z0_81, z0_82, z0_83, z0_84, z0_85, z0_86, z0_87, z0_88, z0_89, z0_90, z0_91, z0_92, z0_93, z0_94, z0_95, z0_96, z0_97, r0_0_0, r0_0_2, r0_0_4, r0_0_7, r0_0_10, r0_0_11, r0_0_12, r0_0_13, r0_5_0, r0_7_0, r0_7_9, r0_8_0, r0_8_1, r0_12_0, r0_12_1, r0_15_0, r0_81_3, r0_81_4, r0_81_7, r0_81_8, r0_81_9, r0_81_10, r0_81_11, r0_81_12, r0_81_14, r0_81_16, r0_81_17, r0_81_27, r0_81_28, r0_81_29, r0_81_30, pb_X5_init, e_obi, e_new, e_can1, mm_ks, mm_kv, mm_vk, w.n, h1.1, h1.2.n, Mz_z, ha, z1, x0, hlt, t1, t2, true_or]
  refine ev_iText h1.2 (by omega) zn (fun w2 => ?_)
  have z2 : zt (txZ (zs ++ [.inr 4])) a = .inr 5 := zt_l (by decide) (zt_l (by decide) z1)
  have w3 := w2.sr (f := 0) (v := n) (show a < n + 1 + 2 by omega)
  have h4 := w3.2.na (by omega) (z := .inr 4)
  have z4 := zt_l (z := .inr 4) (by decide) z2
  have zn4 : zt (txZ (zs ++ [.inr 4]) ++ [.inr 4]) (n + 1 + 2) = .inr 4 := zt_a w2.1
  have x1 : n + 1 + 2 < mm_ext := ext_lt (by omega)
  have q1 : n < n + 1 + 2 := by omega
  have q2 : a < n + 1 + 2 := by omega
  have q3 : a < n + 1 + 2 + 1 := by omega
  have q4 : n + 1 + 2 < n + 1 + 2 + 1 := by omega
  simp only [e_ldi, e_ldim, e_ldl, e_ldlm, e_lda, e_ldam, e_sti, e_stl, e_sta, e_inc, e_incm, e_ii, e_ll, e_ld, e_ls, e_i1, e_l1, e_i2l, e_l2i, e_cmp, e_dupi, e_dupr, e_dup2, e_if_eq, e_ic_eq, e_if_ne, e_ic_ne, e_if_lt, e_ic_lt, e_if_ge, e_ic_ge, e_if_gt, e_ic_gt, e_if_le, e_ic_le, e_tsw, e_sw0, e_sw1, e_get2, e_get0, e_get3, e_put0, e_put3, e_put2, e_ald, e_lld, e_rld, e_ast, e_lst, e_rst, e_len, e_rk, e_cpi, e_cpl, e_ret, e_rtz, e_rtl, e_rtv, e_cst, e_go, e_kkn, e_kks, e_cas0, e_cas1, e_cav1, e_cas2, e_cav2, e_cas3, e_cav3, e_cas4, e_cav4, e_cas5, e_cav5, e_cas6, e_cav6, e_cas7, e_cav7, mm_lg, mm_s1, mm_s2, mm_c2, mm_kl, mm_en, mm_sum, Int.reduceAdd, Int.reduceEq, not_true_eq_false, not_false_eq_true, false_implies, true_implies, implies_true, true_and, and_true, Option.some.injEq, Sum.inl.injEq, Sum.inr.injEq, Prod.mk.injEq, exists_eq_left', exists_eq_left, Value.category, Nat.reduceAdd, Nat.reduceLeDiff, reduceCtorEq, mm_i_si, mm_i_sl, mm_i_sr, mm_l_si, mm_l_sl, mm_l_sr, mm_r_si, mm_r_sl, mm_z_si, mm_z_sl, mm_z_sr, mm_n_si, mm_n_sl, mm_i_ci, mm_l_ci, mm_r_ci, mm_z_ci, mm_n_ci, mm_i_cl, mm_l_cl, mm_r_cl, mm_z_cl, mm_n_cl, ↓reduceIte, Nat.reduceEqDiff, and_false, false_and, and_self, eq_self, z0_0, z0_1, z0_2, z0_3, z0_4, z0_5, z0_6, z0_7, z0_8, z0_9, z0_10, z0_11, z0_12, z0_13, z0_14, z0_15, z0_16, z0_81, z0_82, z0_83, z0_84, z0_85, z0_86, z0_87, z0_88, z0_89, z0_90, z0_91, z0_92, z0_93, z0_94, z0_95, z0_96, z0_97, r0_0_0, r0_0_2, r0_0_4, r0_0_7, r0_0_10, r0_0_11, r0_0_12, r0_0_13, r0_5_0, r0_7_0, r0_7_9, r0_8_0, r0_8_1, r0_12_0, r0_12_1, r0_15_0, r0_81_3, r0_81_4, r0_81_7, r0_81_8, r0_81_9, r0_81_10, r0_81_11, r0_81_12, r0_81_14, r0_81_16, r0_81_17, r0_81_27, r0_81_28, r0_81_29, r0_81_30, e_new, e_can1, mm_ks, mm_kv, mm_vk, Mz_z, z2, w2.n, w3.1, w3.2.n, h4.1, h4.2.n, z4, x1, q1, q2, q3, q4, true_or]
  refine ev_iText h4.2 (by omega) zn4 (fun w5 => ?_)
  have z5 : zt (txZ (txZ (zs ++ [.inr 4]) ++ [.inr 4])) a = .inr 5 := zt_l (by decide) (zt_l (by decide) z4)
  have w6 := w5.sr (f := 1) (v := n + 1 + 2) (show a < n + 1 + 2 + 1 + 2 by omega)
  have h7 := w6.2.na (by omega) (z := .inl (.object "HiddenSums$Reduced", 4))
  have z7 := zt_l (z := .inl (.object "HiddenSums$Reduced", 4)) (by decide) z5
  have h8 := h7.2.sr (f := 2) (v := n + 1 + 2 + 1 + 2) (show a < n + 1 + 2 + 1 + 2 + 1 by omega)
  have x2 : n + 1 + 2 + 1 + 2 < mm_ext := ext_lt (by omega)
  have p1 : n + 1 + 2 < n + 1 + 2 + 1 + 2 := by omega
  have p2 : a < n + 1 + 2 + 1 + 2 := by omega
  have p3 : n + 1 + 2 + 1 + 2 < n + 1 + 2 + 1 + 2 + 1 := by omega
  have cl : (4 : Int32).toNatClampNeg = 4 := rfl
  have ng : ¬ (4 : Int32) < 0 := by decide
  simp only [e_ldi, e_ldim, e_ldl, e_ldlm, e_lda, e_ldam, e_sti, e_stl, e_sta, e_inc, e_incm, e_ii, e_ll, e_ld, e_ls, e_i1, e_l1, e_i2l, e_l2i, e_cmp, e_dupi, e_dupr, e_dup2, e_if_eq, e_ic_eq, e_if_ne, e_ic_ne, e_if_lt, e_ic_lt, e_if_ge, e_ic_ge, e_if_gt, e_ic_gt, e_if_le, e_ic_le, e_tsw, e_sw0, e_sw1, e_get2, e_get0, e_get3, e_put0, e_put3, e_put2, e_ald, e_lld, e_rld, e_ast, e_lst, e_rst, e_len, e_rk, e_cpi, e_cpl, e_ret, e_rtz, e_rtl, e_rtv, e_cst, e_go, e_kkn, e_kks, e_cas0, e_cas1, e_cav1, e_cas2, e_cav2, e_cas3, e_cav3, e_cas4, e_cav4, e_cas5, e_cav5, e_cas6, e_cav6, e_cas7, e_cav7, mm_lg, mm_s1, mm_s2, mm_c2, mm_kl, mm_en, mm_sum, Int.reduceAdd, Int.reduceEq, not_true_eq_false, not_false_eq_true, false_implies, true_implies, implies_true, true_and, and_true, Option.some.injEq, Sum.inl.injEq, Sum.inr.injEq, Prod.mk.injEq, exists_eq_left', exists_eq_left, Value.category, Nat.reduceAdd, Nat.reduceLeDiff, reduceCtorEq, mm_i_si, mm_i_sl, mm_i_sr, mm_l_si, mm_l_sl, mm_l_sr, mm_r_si, mm_r_sl, mm_z_si, mm_z_sl, mm_z_sr, mm_n_si, mm_n_sl, mm_i_ci, mm_l_ci, mm_r_ci, mm_z_ci, mm_n_ci, mm_i_cl, mm_l_cl, mm_r_cl, mm_z_cl, mm_n_cl, ↓reduceIte, Nat.reduceEqDiff, and_false, false_and, and_self, eq_self, z0_0, z0_1, z0_2, z0_3, z0_4, z0_5, z0_6, z0_7, z0_8, z0_9, z0_10, z0_11, z0_12, z0_13, z0_14, z0_15, z0_16, z0_81, z0_82, z0_83, z0_84, z0_85, z0_86, z0_87, z0_88, z0_89, z0_90, z0_91, z0_92, z0_93, z0_94, z0_95, z0_96, z0_97, r0_0_0, r0_0_2, r0_0_4, r0_0_7, r0_0_10, r0_0_11, r0_0_12, r0_0_13, r0_5_0, r0_7_0, r0_7_9, r0_8_0, r0_8_1, r0_12_0, r0_12_1, r0_15_0, r0_81_3, r0_81_4, r0_81_7, r0_81_8, r0_81_9, r0_81_10, r0_81_11, r0_81_12, r0_81_14, r0_81_16, r0_81_17, r0_81_27, r0_81_28, r0_81_29, r0_81_30, e_nar, mm_ks, mm_kv, mm_vk, Mz_z, z5, w5.n, w6.1, w6.2.n, h7.1, h7.2.n, h8.1, h8.2.n, z7, x2, p1, p2, p3, cl, ng, true_or]
  have zm : zt (txZ (txZ (zs ++ [.inr 4]) ++ [.inr 4]) ++ [.inl (.object "HiddenSums$Reduced", 4)]) (n + 1 + 2 + 1 + 2) = .inl (.object "HiddenSums$Reduced", 4) := zt_a w5.1
  have hr : gr (srp (srp (txR (n + 1 + 2 + 1) (n + 1 + 2) (srp (txR (n + 1) n (rs ++ [[]])) a 0 n ++ [[]])) a 1 (n + 1 + 2) ++ [[]]) a 2 (n + 1 + 2 + 1 + 2)) a 2 = some (n + 1 + 2 + 1 + 2) := by
    rw [gr_sr (by rw [h7.2.2.1]; omega), if_pos ⟨rfl, rfl⟩]
  have e0 : (0 : Int32) = nI 0 := rfl
  rw [e0]
  refine us_step h8.2 (by omega) z7 zm (by omega) (by omega) hr (by decide) (by decide) (by decide) (fun w9 za9 zm9 hr9 => ?_)
  refine us_step w9 (by omega) za9 zm9 (by omega) (by omega) hr9 (by decide) (by decide) (by decide) (fun w10 za10 zm10 hr10 => ?_)
  refine us_step w10 (by omega) za10 zm10 (by omega) (by omega) hr10 (by decide) (by decide) (by decide) (fun w11 za11 zm11 hr11 => ?_)
  refine us_step w11 (by omega) za11 zm11 (by omega) (by omega) hr11 (by decide) (by decide) (by decide) (fun w12 za12 zm12 hr12 => ?_)
  refine at_step pp_52 ?_; simp only [e_ldi, e_ldim, e_ldl, e_ldlm, e_lda, e_ldam, e_sti, e_stl, e_sta, e_inc, e_incm, e_ii, e_ll, e_ld, e_ls, e_i1, e_l1, e_i2l, e_l2i, e_cmp, e_dupi, e_dupr, e_dup2, e_if_eq, e_ic_eq, e_if_ne, e_ic_ne, e_if_lt, e_ic_lt, e_if_ge, e_ic_ge, e_if_gt, e_ic_gt, e_if_le, e_ic_le, e_tsw, e_sw0, e_sw1, e_get2, e_get0, e_get3, e_put0, e_put3, e_put2, e_ald, e_lld, e_rld, e_ast, e_lst, e_rst, e_len, e_rk, e_cpi, e_cpl, e_ret, e_rtz, e_rtl, e_rtv, e_cst, e_go, e_kkn, e_kks, e_cas0, e_cas1, e_cav1, e_cas2, e_cav2, e_cas3, e_cav3, e_cas4, e_cav4, e_cas5, e_cav5, e_cas6, e_cav6, e_cas7, e_cav7, mm_lg, mm_s1, mm_s2, mm_c2, mm_kl, mm_en, mm_sum, Int.reduceAdd, Int.reduceEq, not_true_eq_false, not_false_eq_true, false_implies, true_implies, implies_true, true_and, and_true, Option.some.injEq, Sum.inl.injEq, Sum.inr.injEq, Prod.mk.injEq, exists_eq_left', exists_eq_left, Value.category, Nat.reduceAdd, Nat.reduceLeDiff, reduceCtorEq, mm_i_si, mm_i_sl, mm_i_sr, mm_l_si, mm_l_sl, mm_l_sr, mm_r_si, mm_r_sl, mm_z_si, mm_z_sl, mm_z_sr, mm_n_si, mm_n_sl, mm_i_ci, mm_l_ci, mm_r_ci, mm_z_ci, mm_n_ci, mm_i_cl, mm_l_cl, mm_r_cl, mm_z_cl, mm_n_cl, ↓reduceIte, Nat.reduceEqDiff, and_false, false_and, and_self, eq_self, z0_0, z0_1, z0_2, z0_3, z0_4, z0_5, z0_6, z0_7, z0_8, z0_9, z0_10, z0_11, z0_12, z0_13, z0_14, z0_15, z0_16, z0_81, z0_82, z0_83, z0_84, z0_85, z0_86, z0_87, z0_88, z0_89, z0_90, z0_91, z0_92, z0_93, z0_94, z0_95, z0_96, z0_97, r0_0_0, r0_0_2, r0_0_4, r0_0_7, r0_0_10, r0_0_11, r0_0_12, r0_0_13, r0_5_0, r0_7_0, r0_7_9, r0_8_0, r0_8_1, r0_12_0, r0_12_1, r0_15_0, r0_81_3, r0_81_4, r0_81_7, r0_81_8, r0_81_9, r0_81_10, r0_81_11, r0_81_12, r0_81_14, r0_81_16, r0_81_17, r0_81_27, r0_81_28, r0_81_29, r0_81_30, pb_X5_init]
  refine ⟨fun _ => ?_, fun h => absurd (nI_le (a := 4) (b := 4) (by omega) (by omega)) h⟩
  refine at_step pp_52 ?_; simp only [e_ldi, e_ldim, e_ldl, e_ldlm, e_lda, e_ldam, e_sti, e_stl, e_sta, e_inc, e_incm, e_ii, e_ll, e_ld, e_ls, e_i1, e_l1, e_i2l, e_l2i, e_cmp, e_dupi, e_dupr, e_dup2, e_if_eq, e_ic_eq, e_if_ne, e_ic_ne, e_if_lt, e_ic_lt, e_if_ge, e_ic_ge, e_if_gt, e_ic_gt, e_if_le, e_ic_le, e_tsw, e_sw0, e_sw1, e_get2, e_get0, e_get3, e_put0, e_put3, e_put2, e_ald, e_lld, e_rld, e_ast, e_lst, e_rst, e_len, e_rk, e_cpi, e_cpl, e_ret, e_rtz, e_rtl, e_rtv, e_cst, e_go, e_kkn, e_kks, e_cas0, e_cas1, e_cav1, e_cas2, e_cav2, e_cas3, e_cav3, e_cas4, e_cav4, e_cas5, e_cav5, e_cas6, e_cav6, e_cas7, e_cav7, mm_lg, mm_s1, mm_s2, mm_c2, mm_kl, mm_en, mm_sum, Int.reduceAdd, Int.reduceEq, not_true_eq_false, not_false_eq_true, false_implies, true_implies, implies_true, true_and, and_true, Option.some.injEq, Sum.inl.injEq, Sum.inr.injEq, Prod.mk.injEq, exists_eq_left', exists_eq_left, Value.category, Nat.reduceAdd, Nat.reduceLeDiff, reduceCtorEq, mm_i_si, mm_i_sl, mm_i_sr, mm_l_si, mm_l_sl, mm_l_sr, mm_r_si, mm_r_sl, mm_z_si, mm_z_sl, mm_z_sr, mm_n_si, mm_n_sl, mm_i_ci, mm_l_ci, mm_r_ci, mm_z_ci, mm_n_ci, mm_i_cl, mm_l_cl, mm_r_cl, mm_z_cl, mm_n_cl, ↓reduceIte, Nat.reduceEqDiff, and_false, false_and, and_self, eq_self, z0_0, z0_1, z0_2, z0_3, z0_4, z0_5, z0_6, z0_7, z0_8, z0_9, z0_10, z0_11, z0_12, z0_13, z0_14, z0_15, z0_16, z0_81, z0_82, z0_83, z0_84, z0_85, z0_86, z0_87, z0_88, z0_89, z0_90, z0_91, z0_92, z0_93, z0_94, z0_95, z0_96, z0_97, r0_0_0, r0_0_2, r0_0_4, r0_0_7, r0_0_10, r0_0_11, r0_0_12, r0_0_13, r0_5_0, r0_7_0, r0_7_9, r0_8_0, r0_8_1, r0_12_0, r0_12_1, r0_15_0, r0_81_3, r0_81_4, r0_81_7, r0_81_8, r0_81_9, r0_81_10, r0_81_11, r0_81_12, r0_81_14, r0_81_16, r0_81_17, r0_81_27, r0_81_28, r0_81_29, r0_81_30, pb_X5_init]
  exact hQ w12
