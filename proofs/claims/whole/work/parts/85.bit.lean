/-! bits -/
def bt (x : Int32) (j : Nat) : Bool := x.toBitVec.getLsbD j
theorem bt_and (a b : Int32) (j : Nat) : bt (a &&& b) j = (bt a j && bt b j) := by
  unfold bt; rw [Int32.toBitVec_and, BitVec.getLsbD_and]
theorem bt_or (a b : Int32) (j : Nat) : bt (a ||| b) j = (bt a j || bt b j) := by
  unfold bt; rw [Int32.toBitVec_or, BitVec.getLsbD_or]
theorem bt_xor (a b : Int32) (j : Nat) : bt (a ^^^ b) j = (bt a j ^^ bt b j) := by
  unfold bt; rw [Int32.toBitVec_xor, BitVec.getLsbD_xor]
theorem bt_0 (j : Nat) : bt 0 j = false := by
  unfold bt; exact BitVec.getLsbD_zero
theorem bt_m1 (j : Nat) (h : j < 32) : bt (-1) j = true := by
  unfold bt
  have : (-1 : Int32).toBitVec = BitVec.allOnes 32 := by decide
  rw [this, BitVec.getLsbD_allOnes]; simp [h]
theorem bt_ext {x y : Int32} (h : ∀ j, j < 32 → bt x j = bt y j) : x = y := by
  have : x.toBitVec = y.toBitVec := BitVec.eq_of_getLsbD_eq (fun j hj => h j hj)
  exact Int32.toBitVec_inj.mp this
theorem bt_eq0 {x : Int32} : x = 0 ↔ ∀ j, j < 32 → bt x j = false := by
  constructor
  · rintro rfl j _; exact bt_0 j
  · intro h; exact bt_ext (fun j hj => by rw [h j hj, bt_0])
theorem sh_smod {f : Nat} (hf : f < 32) : (nI f &&& 31).toBitVec.smod 32 = BitVec.ofNat 32 f := by
  rcases Nat.lt_or_ge f 32 with h | h
  · have key : ∀ f : Fin 32, (nI f.1 &&& 31).toBitVec.smod 32 = BitVec.ofNat 32 f.1 := by decide
    exact key ⟨f, h⟩
  · omega
theorem bt_shl1 {f : Nat} (hf : f < 32) (j : Nat) : bt ((1 : Int32) <<< (nI f &&& 31)) j = decide (j = f) := by
  unfold bt
  rw [Int32.toBitVec_shiftLeft, sh_smod hf]
  show ((1#32) <<< (BitVec.ofNat 32 f).toNat).getLsbD j = _
  rw [BitVec.toNat_ofNat, Nat.mod_eq_of_lt (by omega), BitVec.getLsbD_shiftLeft]
  by_cases e : j = f
  · subst e; simp [hf]
  · simp only [e, decide_false]
    by_cases h1 : j < f
    · simp [h1]
    · have : j - f ≠ 0 := by omega
      simp [this]
theorem bt_shr {x : Int32} {f : Nat} (hf : f < 32) (j : Nat) (hj : f + j < 32) : bt (x >>> (nI f &&& 31)) j = bt x (f + j) := by
  unfold bt
  rw [Int32.toBitVec_shiftRight, sh_smod hf, BitVec.sshiftRight_eq', BitVec.toNat_ofNat, Nat.mod_eq_of_lt (by omega), BitVec.getLsbD_sshiftRight]
  have : ¬ 32 ≤ j := by omega
  simp [this, hj]
theorem bt_1 (j : Nat) : bt 1 j = decide (j = 0) := by
  have := bt_shl1 (f := 0) (by omega) j
  exact this
theorem sh1_bt {x : Int32} {f : Nat} (hf : f < 32) : (x >>> (nI f &&& 31)) &&& 1 = if bt x f then 1 else 0 := by
  refine bt_ext (fun j hj => ?_)
  rw [bt_and, bt_1]
  by_cases e : j = 0
  · subst e
    rw [bt_shr hf 0 (by omega)]
    cases bt x (f + 0) <;> simp_all [bt_1, bt_0]
  · cases bt x f <;> simp [e, bt_1, bt_0]
theorem and_shl {x : Int32} {f : Nat} (hf : f < 32) : (x &&& ((1 : Int32) <<< (nI f &&& 31)) = 0) ↔ bt x f = false := by
  rw [bt_eq0]
  constructor
  · intro h
    have := h f hf
    rw [bt_and, bt_shl1 hf] at this
    simpa using this
  · intro h j hj
    rw [bt_and, bt_shl1 hf]
    by_cases e : j = f
    · subst e; simp [h]
    · simp [e]
theorem sh1_1 {x : Int32} {f : Nat} (hf : f < 32) : ((x >>> (nI f &&& 31)) &&& 1 = 1) ↔ bt x f = true := by
  rw [sh1_bt hf]; cases bt x f <;> simp
theorem sh1_0 {x : Int32} {f : Nat} (hf : f < 32) : ((x >>> (nI f &&& 31)) &&& 1 = 0) ↔ bt x f = false := by
  rw [sh1_bt hf]; cases bt x f <;> simp
theorem tn_bt (x : Int32) (N : Nat) : (x.toBitVec.toNat < 2 ^ N) ↔ ∀ j, N ≤ j → j < 32 → bt x j = false := by
  constructor
  · intro h j h1 h2
    unfold bt
    rw [← BitVec.testBit_toNat]
    exact Nat.testBit_lt_two_pow (Nat.lt_of_lt_of_le h (Nat.pow_le_pow_right (by decide) h1))
  · intro h
    refine Nat.lt_pow_two_of_testBit _ (fun j hj => ?_)
    rw [BitVec.testBit_toNat]
    by_cases h2 : j < 32
    · exact h j hj h2
    · exact BitVec.getLsbD_of_ge _ _ (by omega)
/-- the class's test of a set, and the reference's -/
theorem set_c {x : Int32} {N : Nat} (hN : N ≤ 12) : ((x.toUInt32 >>> ((nI N).toUInt32 &&& Int32.toUInt32 31)).toInt32 = 0) ↔ x.toBitVec.toNat < 2 ^ N := by
  have hm : ((nI N).toUInt32 &&& Int32.toUInt32 31).toBitVec % 32 = BitVec.ofNat 32 N := by
    have key : ∀ N : Fin 13, ((nI N.1).toUInt32 &&& Int32.toUInt32 31).toBitVec % 32 = BitVec.ofNat 32 N.1 := by decide
    exact key ⟨N, by omega⟩
  have h : ((x.toUInt32 >>> ((nI N).toUInt32 &&& Int32.toUInt32 31)).toInt32).toBitVec.toNat = x.toBitVec.toNat / 2 ^ N := by
    show (x.toUInt32 >>> ((nI N).toUInt32 &&& Int32.toUInt32 31)).toBitVec.toNat = _
    rw [UInt32.toBitVec_shiftRight, hm]
    show (x.toBitVec >>> (BitVec.ofNat 32 N).toNat).toNat = _
    rw [BitVec.toNat_ofNat, Nat.mod_eq_of_lt (by omega), BitVec.toNat_ushiftRight, Nat.shiftRight_eq_div_pow]
  constructor
  · intro q
    rw [q] at h
    have h' : (0 : Nat) = x.toBitVec.toNat / 2 ^ N := h
    exact (Nat.div_eq_zero_iff_lt (Nat.two_pow_pos N)).mp h'.symm
  · intro q
    apply Int32.toBitVec_inj.mp
    apply BitVec.eq_of_toNat_eq
    rw [h, Nat.div_eq_of_lt q]; rfl
theorem set_m {x : Int32} {N : Nat} (hN : N ≤ 12) : (0 < x ∧ x < (1 : Int32) <<< (nI N &&& 31)) ↔ ¬ x = 0 ∧ x.toBitVec.toNat < 2 ^ N := by
  have hp : ((1 : Int32) <<< (nI N &&& 31)).toInt = 2 ^ N := by
    have key : ∀ N : Fin 13, ((1 : Int32) <<< (nI N.1 &&& 31)).toInt = 2 ^ N.1 := by decide
    exact key ⟨N, by omega⟩
  have h4 : (2 : Nat) ^ N ≤ 2 ^ 12 := Nat.pow_le_pow_right (by decide) hN
  have hc : ((2 ^ N : Nat) : Int) = (2 : Int) ^ N := by norm_cast
  rw [Int32.lt_iff_toInt_lt, Int32.lt_iff_toInt_lt, hp, ← hc]
  have e0 : (0 : Int32).toInt = 0 := rfl
  rw [e0]
  have ht : x.toInt = if 2 * x.toBitVec.toNat < 2 ^ 32 then (x.toBitVec.toNat : Int) else (x.toBitVec.toNat : Int) - 2 ^ 32 := BitVec.toInt_eq_toNat_cond x.toBitVec
  have hlt := x.toBitVec.isLt
  have z : x = 0 ↔ x.toBitVec.toNat = 0 := by
    constructor
    · rintro rfl; rfl
    · intro q
      apply Int32.toBitVec_inj.mp
      apply BitVec.eq_of_toNat_eq
      rw [q]; rfl
  rw [z, ht]
  split <;> omega
theorem bv_bt {x : Int32} {j : Nat} (hj : j < 12) : bv x j = if bt x j then 1 else 0 := by
  unfold bv
  rw [if_pos hj, sh1_bt (by omega)]
  cases bt x j <;> rfl
theorem bv_0 {x : Int32} {N : Nat} (h : x.toBitVec.toNat < 2 ^ N) : ∀ j, N ≤ j → bv x j = 0 := fun j hj => by
  by_cases h12 : j < 12
  · rw [bv_bt h12, (tn_bt x N).mp h j hj (by omega)]; rfl
  · unfold bv; rw [if_neg h12]
theorem shl_tn {o N : Nat} (ho : o < N) (hN : N ≤ 12) : ((1 : Int32) <<< (nI o &&& 31)).toBitVec.toNat < 2 ^ N :=
  (tn_bt _ _).mpr (fun j h1 h2 => by rw [bt_shl1 (by omega)]; simp; omega)
theorem shl_ne {o : Nat} (ho : o < 12) : ¬ ((1 : Int32) <<< (nI o &&& 31)) = 0 := fun h => by
  have := bt_eq0.mp h o (by omega)
  rw [bt_shl1 (by omega)] at this
  simp at this
/-! which texts name a closed field -/
def brd (c : Int32) (ps : TK) : Bool := ps.any (fun q => decide (q.1 = 3) && bt c q.2.toNatClampNeg)
theorem okP_mem : ∀ {ps : TK} {s t : List Bool} {q : Int32 × Int32}, okP ps s t → q ∈ ps → ∃ s t, ok1 q s t
  | p :: ps, s, t, q, h, hm => by
    obtain ⟨r, h1, h2⟩ := h
    rcases List.mem_cons.mp hm with rfl | hm
    · exact ⟨s, r, h1⟩
    · exact okP_mem h2 hm
theorem ok1_3 {q : Int32 × Int32} {s t : List Bool} (h : ok1 q s t) (h3 : q.1 = 3) : ∃ n : Nat, n < 4 ∧ q.2 = nI n := by
  rcases h with ⟨e, _⟩ | ⟨_, h, _⟩ | ⟨e, _⟩ | ⟨e, _⟩ | ⟨e, _⟩ | ⟨e, _⟩ | ⟨e, _⟩ | ⟨e, _⟩
  · rw [h3] at e; exact absurd e (by decide)
  · exact h
  all_goals (rw [h3] at e; exact absurd e (by decide))
theorem ok1_k {q : Int32 × Int32} {s t : List Bool} (h : ok1 q s t) : (q.1 = 2 ∧ 0 ≤ q.2) ∨ q.1 = 3 ∨ (q.1 = 4 ∨ q.1 = 5 ∨ q.1 = 8 ∨ q.1 = 9 ∨ q.1 = 10 ∨ q.1 = 18 ∨ isN2 q.1) := by
  rcases h with ⟨e, h, _⟩ | ⟨e, _⟩ | ⟨e | e, _⟩ | ⟨e, _⟩ | ⟨e, _⟩ | ⟨e | e, _⟩ | ⟨e | e | e, _⟩ | ⟨e | e | e | e, _⟩ <;> simp [e, isN2]
  exact h
theorem tfs_bt {c : Int32} : ∀ (ps : TK) (m : Int32), (∀ q, q ∈ ps → q.1 = 3 → ∃ n : Nat, n < 4 ∧ q.2 = nI n) → (c &&& List.foldl tfs m ps = 0 ↔ c &&& m = 0 ∧ brd c ps = false)
  | [], m, _ => by simp [brd]
  | q :: ps, m, h => by
    rw [List.foldl_cons, tfs_bt ps _ (fun q hq => h q (List.mem_cons_of_mem _ hq))]
    have e : brd c (q :: ps) = ((decide (q.1 = 3) && bt c q.2.toNatClampNeg) || brd c ps) := by simp [brd]
    rw [e]
    unfold tfs
    by_cases h3 : q.1 = 3
    · obtain ⟨n, hn, e2⟩ := h q (List.mem_cons_self) h3
      rw [if_pos h3, e2, nI_clamp (by omega)]
      have : (c &&& (m ||| (1 : Int32) <<< (nI n &&& 31)) = 0) ↔ (c &&& m = 0 ∧ bt c n = false) := by
        rw [← and_shl (x := c) (f := n) (by omega), bt_eq0, bt_eq0, bt_eq0]
        constructor
        · intro q
          refine ⟨fun j hj => ?_, fun j hj => ?_⟩
          · have := q j hj
            rw [bt_and, bt_or] at this
            rw [bt_and]
            revert this
            cases bt c j <;> cases bt m j <;> simp
          · have := q j hj
            rw [bt_and, bt_or] at this
            rw [bt_and]
            revert this
            cases bt c j <;> cases bt m j <;> simp
        · intro ⟨q1, q2⟩ j hj
          have a := q1 j hj
          have b := q2 j hj
          rw [bt_and] at a b
          rw [bt_and, bt_or]
          revert a b
          cases bt c j <;> cases bt m j <;> simp
      rw [this]
      simp [h3, and_assoc]
    · rw [if_neg h3]
      simp [h3]
theorem tfm_brd {c : Int32} {ps : TK} (hok : okP ps [] [true]) : (c &&& tfm ps = 0) ↔ brd c ps = false := by
  have := tfs_bt (c := c) ps 0 (fun q hq h3 => by obtain ⟨s, t, h⟩ := okP_mem hok hq; exact ok1_3 h h3)
  have e0 : c &&& 0 = 0 := bt_eq0.mpr (fun j _ => by rw [bt_and, bt_0]; simp)
  unfold tfm
  rw [this, e0]
  simp
theorem ev_hasClosed {d u : Nat} {μ : mm_M} {m : Int32} {Q : mm_Q} (hL : Ly μ) (hu : u < 4) (hQ : Q (some (.int (b2 (¬ mm_i μ (17 + 16 * u) 3 &&& m = 0)))) μ) : Ev (d + 1) 54 [.ref (17 + 16 * u), .int m] μ Q := by
  refine ev_step pp_54 (Nat.le_of_ble_eq_true rfl) ?_
  simp only [e_ldi, e_ldim, e_ldl, e_ldlm, e_lda, e_ldam, e_sti, e_stl, e_sta, e_inc, e_incm, e_ii, e_ll, e_ld, e_ls, e_i1, e_l1, e_i2l, e_l2i, e_cmp, e_dupi, e_dupr, e_dup2, e_if_eq, e_ic_eq, e_if_ne, e_ic_ne, e_if_lt, e_ic_lt, e_if_ge, e_ic_ge, e_if_gt, e_ic_gt, e_if_le, e_ic_le, e_tsw, e_sw0, e_sw1, e_get2, e_get0, e_get3, e_put0, e_put3, e_put2, e_ald, e_lld, e_rld, e_ast, e_lst, e_rst, e_len, e_rk, e_cpi, e_cpl, e_ret, e_rtz, e_rtl, e_rtv, e_cst, e_go, e_kkn, e_kks, e_cas0, e_cas1, e_cav1, e_cas2, e_cav2, e_cas3, e_cav3, e_cas4, e_cav4, e_cas5, e_cav5, e_cas6, e_cav6, e_cas7, e_cav7, mm_lg, mm_s1, mm_s2, mm_c2, mm_kl, mm_en, mm_sum, Int.reduceAdd, Int.reduceEq, not_true_eq_false, not_false_eq_true, false_implies, true_implies, implies_true, true_and, and_true, Option.some.injEq, Sum.inl.injEq, Sum.inr.injEq, Prod.mk.injEq, exists_eq_left', exists_eq_left, Value.category, Nat.reduceAdd, Nat.reduceLeDiff, reduceCtorEq, mm_i_si, mm_i_sl, mm_i_sr, mm_l_si, mm_l_sl, mm_l_sr, mm_r_si, mm_r_sl, mm_z_si, mm_z_sl, mm_z_sr, mm_n_si, mm_n_sl, mm_i_ci, mm_l_ci, mm_r_ci, mm_z_ci, mm_n_ci, mm_i_cl, mm_l_cl, mm_r_cl, mm_z_cl, mm_n_cl, ↓reduceIte, Nat.reduceEqDiff, and_false, false_and, and_self, eq_self, z0_0, z0_1, z0_2, z0_3, z0_4, z0_5, z0_6, z0_7, z0_8, z0_9, z0_10, z0_11, z0_12, z0_13, z0_14, z0_15, z0_16, z0_81, z0_82, z0_83, z0_84, z0_85, z0_86, z0_87, z0_88, z0_89, z0_90, z0_91, z0_92, z0_93, z0_94, z0_95, z0_96, z0_97, r0_0_0, r0_0_2, r0_0_4, r0_0_7, r0_0_10, r0_0_11, r0_0_12, r0_0_13, r0_5_0, r0_7_0, r0_7_9, r0_8_0, r0_8_1, r0_12_0, r0_12_1, r0_15_0, r0_81_3, r0_81_4, r0_81_7, r0_81_8, r0_81_9, r0_81_10, r0_81_11, r0_81_12, r0_81_14, r0_81_16, r0_81_17, r0_81_27, r0_81_28, r0_81_29, r0_81_30, pb_X5_hasClosed, hL.1, hL.2.1, u0_z hu]
  refine ⟨fun h => ?_, fun h => ?_⟩
  · rw [b2_f (fun q => q h)] at hQ
    refine at_step pp_54 ?_; simp only [e_ldi, e_ldim, e_ldl, e_ldlm, e_lda, e_ldam, e_sti, e_stl, e_sta, e_inc, e_incm, e_ii, e_ll, e_ld, e_ls, e_i1, e_l1, e_i2l, e_l2i, e_cmp, e_dupi, e_dupr, e_dup2, e_if_eq, e_ic_eq, e_if_ne, e_ic_ne, e_if_lt, e_ic_lt, e_if_ge, e_ic_ge, e_if_gt, e_ic_gt, e_if_le, e_ic_le, e_tsw, e_sw0, e_sw1, e_get2, e_get0, e_get3, e_put0, e_put3, e_put2, e_ald, e_lld, e_rld, e_ast, e_lst, e_rst, e_len, e_rk, e_cpi, e_cpl, e_ret, e_rtz, e_rtl, e_rtv, e_cst, e_go, e_kkn, e_kks, e_cas0, e_cas1, e_cav1, e_cas2, e_cav2, e_cas3, e_cav3, e_cas4, e_cav4, e_cas5, e_cav5, e_cas6, e_cav6, e_cas7, e_cav7, mm_lg, mm_s1, mm_s2, mm_c2, mm_kl, mm_en, mm_sum, Int.reduceAdd, Int.reduceEq, not_true_eq_false, not_false_eq_true, false_implies, true_implies, implies_true, true_and, and_true, Option.some.injEq, Sum.inl.injEq, Sum.inr.injEq, Prod.mk.injEq, exists_eq_left', exists_eq_left, Value.category, Nat.reduceAdd, Nat.reduceLeDiff, reduceCtorEq, mm_i_si, mm_i_sl, mm_i_sr, mm_l_si, mm_l_sl, mm_l_sr, mm_r_si, mm_r_sl, mm_z_si, mm_z_sl, mm_z_sr, mm_n_si, mm_n_sl, mm_i_ci, mm_l_ci, mm_r_ci, mm_z_ci, mm_n_ci, mm_i_cl, mm_l_cl, mm_r_cl, mm_z_cl, mm_n_cl, ↓reduceIte, Nat.reduceEqDiff, and_false, false_and, and_self, eq_self, z0_0, z0_1, z0_2, z0_3, z0_4, z0_5, z0_6, z0_7, z0_8, z0_9, z0_10, z0_11, z0_12, z0_13, z0_14, z0_15, z0_16, z0_81, z0_82, z0_83, z0_84, z0_85, z0_86, z0_87, z0_88, z0_89, z0_90, z0_91, z0_92, z0_93, z0_94, z0_95, z0_96, z0_97, r0_0_0, r0_0_2, r0_0_4, r0_0_7, r0_0_10, r0_0_11, r0_0_12, r0_0_13, r0_5_0, r0_7_0, r0_7_9, r0_8_0, r0_8_1, r0_12_0, r0_12_1, r0_15_0, r0_81_3, r0_81_4, r0_81_7, r0_81_8, r0_81_9, r0_81_10, r0_81_11, r0_81_12, r0_81_14, r0_81_16, r0_81_17, r0_81_27, r0_81_28, r0_81_29, r0_81_30, pb_X5_hasClosed]
    refine at_step pp_54 ?_; simp only [e_ldi, e_ldim, e_ldl, e_ldlm, e_lda, e_ldam, e_sti, e_stl, e_sta, e_inc, e_incm, e_ii, e_ll, e_ld, e_ls, e_i1, e_l1, e_i2l, e_l2i, e_cmp, e_dupi, e_dupr, e_dup2, e_if_eq, e_ic_eq, e_if_ne, e_ic_ne, e_if_lt, e_ic_lt, e_if_ge, e_ic_ge, e_if_gt, e_ic_gt, e_if_le, e_ic_le, e_tsw, e_sw0, e_sw1, e_get2, e_get0, e_get3, e_put0, e_put3, e_put2, e_ald, e_lld, e_rld, e_ast, e_lst, e_rst, e_len, e_rk, e_cpi, e_cpl, e_ret, e_rtz, e_rtl, e_rtv, e_cst, e_go, e_kkn, e_kks, e_cas0, e_cas1, e_cav1, e_cas2, e_cav2, e_cas3, e_cav3, e_cas4, e_cav4, e_cas5, e_cav5, e_cas6, e_cav6, e_cas7, e_cav7, mm_lg, mm_s1, mm_s2, mm_c2, mm_kl, mm_en, mm_sum, Int.reduceAdd, Int.reduceEq, not_true_eq_false, not_false_eq_true, false_implies, true_implies, implies_true, true_and, and_true, Option.some.injEq, Sum.inl.injEq, Sum.inr.injEq, Prod.mk.injEq, exists_eq_left', exists_eq_left, Value.category, Nat.reduceAdd, Nat.reduceLeDiff, reduceCtorEq, mm_i_si, mm_i_sl, mm_i_sr, mm_l_si, mm_l_sl, mm_l_sr, mm_r_si, mm_r_sl, mm_z_si, mm_z_sl, mm_z_sr, mm_n_si, mm_n_sl, mm_i_ci, mm_l_ci, mm_r_ci, mm_z_ci, mm_n_ci, mm_i_cl, mm_l_cl, mm_r_cl, mm_z_cl, mm_n_cl, ↓reduceIte, Nat.reduceEqDiff, and_false, false_and, and_self, eq_self, z0_0, z0_1, z0_2, z0_3, z0_4, z0_5, z0_6, z0_7, z0_8, z0_9, z0_10, z0_11, z0_12, z0_13, z0_14, z0_15, z0_16, z0_81, z0_82, z0_83, z0_84, z0_85, z0_86, z0_87, z0_88, z0_89, z0_90, z0_91, z0_92, z0_93, z0_94, z0_95, z0_96, z0_97, r0_0_0, r0_0_2, r0_0_4, r0_0_7, r0_0_10, r0_0_11, r0_0_12, r0_0_13, r0_5_0, r0_7_0, r0_7_9, r0_8_0, r0_8_1, r0_12_0, r0_12_1, r0_15_0, r0_81_3, r0_81_4, r0_81_7, r0_81_8, r0_81_9, r0_81_10, r0_81_11, r0_81_12, r0_81_14, r0_81_16, r0_81_17, r0_81_27, r0_81_28, r0_81_29, r0_81_30, pb_X5_hasClosed]
    exact ⟨Or.inl trivial, hQ⟩
  · rw [b2_t h] at hQ
    refine at_step pp_54 ?_; simp only [e_ldi, e_ldim, e_ldl, e_ldlm, e_lda, e_ldam, e_sti, e_stl, e_sta, e_inc, e_incm, e_ii, e_ll, e_ld, e_ls, e_i1, e_l1, e_i2l, e_l2i, e_cmp, e_dupi, e_dupr, e_dup2, e_if_eq, e_ic_eq, e_if_ne, e_ic_ne, e_if_lt, e_ic_lt, e_if_ge, e_ic_ge, e_if_gt, e_ic_gt, e_if_le, e_ic_le, e_tsw, e_sw0, e_sw1, e_get2, e_get0, e_get3, e_put0, e_put3, e_put2, e_ald, e_lld, e_rld, e_ast, e_lst, e_rst, e_len, e_rk, e_cpi, e_cpl, e_ret, e_rtz, e_rtl, e_rtv, e_cst, e_go, e_kkn, e_kks, e_cas0, e_cas1, e_cav1, e_cas2, e_cav2, e_cas3, e_cav3, e_cas4, e_cav4, e_cas5, e_cav5, e_cas6, e_cav6, e_cas7, e_cav7, mm_lg, mm_s1, mm_s2, mm_c2, mm_kl, mm_en, mm_sum, Int.reduceAdd, Int.reduceEq, not_true_eq_false, not_false_eq_true, false_implies, true_implies, implies_true, true_and, and_true, Option.some.injEq, Sum.inl.injEq, Sum.inr.injEq, Prod.mk.injEq, exists_eq_left', exists_eq_left, Value.category, Nat.reduceAdd, Nat.reduceLeDiff, reduceCtorEq, mm_i_si, mm_i_sl, mm_i_sr, mm_l_si, mm_l_sl, mm_l_sr, mm_r_si, mm_r_sl, mm_z_si, mm_z_sl, mm_z_sr, mm_n_si, mm_n_sl, mm_i_ci, mm_l_ci, mm_r_ci, mm_z_ci, mm_n_ci, mm_i_cl, mm_l_cl, mm_r_cl, mm_z_cl, mm_n_cl, ↓reduceIte, Nat.reduceEqDiff, and_false, false_and, and_self, eq_self, z0_0, z0_1, z0_2, z0_3, z0_4, z0_5, z0_6, z0_7, z0_8, z0_9, z0_10, z0_11, z0_12, z0_13, z0_14, z0_15, z0_16, z0_81, z0_82, z0_83, z0_84, z0_85, z0_86, z0_87, z0_88, z0_89, z0_90, z0_91, z0_92, z0_93, z0_94, z0_95, z0_96, z0_97, r0_0_0, r0_0_2, r0_0_4, r0_0_7, r0_0_10, r0_0_11, r0_0_12, r0_0_13, r0_5_0, r0_7_0, r0_7_9, r0_8_0, r0_8_1, r0_12_0, r0_12_1, r0_15_0, r0_81_3, r0_81_4, r0_81_7, r0_81_8, r0_81_9, r0_81_10, r0_81_11, r0_81_12, r0_81_14, r0_81_16, r0_81_17, r0_81_27, r0_81_28, r0_81_29, r0_81_30, pb_X5_hasClosed]
    exact ⟨Or.inr trivial, hQ⟩
theorem ev_isClosed {d u f : Nat} {μ : mm_M} {Q : mm_Q} (hL : Ly μ) (hu : u < 4) (hf : f < 4) (hQ : Q (some (.int (bi (bt (mm_i μ 86 u) f)))) μ) : Ev (d + 1) 126 [.ref 81, .int (nI u), .int (nI f)] μ Q := by
  have v := vu4 hu
  refine ev_step pp_126 (Nat.le_of_ble_eq_true rfl) ?_
  simp only [e_ldi, e_ldim, e_ldl, e_ldlm, e_lda, e_ldam, e_sti, e_stl, e_sta, e_inc, e_incm, e_ii, e_ll, e_ld, e_ls, e_i1, e_l1, e_i2l, e_l2i, e_cmp, e_dupi, e_dupr, e_dup2, e_if_eq, e_ic_eq, e_if_ne, e_ic_ne, e_if_lt, e_ic_lt, e_if_ge, e_ic_ge, e_if_gt, e_ic_gt, e_if_le, e_ic_le, e_tsw, e_sw0, e_sw1, e_get2, e_get0, e_get3, e_put0, e_put3, e_put2, e_ald, e_lld, e_rld, e_ast, e_lst, e_rst, e_len, e_rk, e_cpi, e_cpl, e_ret, e_rtz, e_rtl, e_rtv, e_cst, e_go, e_kkn, e_kks, e_cas0, e_cas1, e_cav1, e_cas2, e_cav2, e_cas3, e_cav3, e_cas4, e_cav4, e_cas5, e_cav5, e_cas6, e_cav6, e_cas7, e_cav7, mm_lg, mm_s1, mm_s2, mm_c2, mm_kl, mm_en, mm_sum, Int.reduceAdd, Int.reduceEq, not_true_eq_false, not_false_eq_true, false_implies, true_implies, implies_true, true_and, and_true, Option.some.injEq, Sum.inl.injEq, Sum.inr.injEq, Prod.mk.injEq, exists_eq_left', exists_eq_left, Value.category, Nat.reduceAdd, Nat.reduceLeDiff, reduceCtorEq, mm_i_si, mm_i_sl, mm_i_sr, mm_l_si, mm_l_sl, mm_l_sr, mm_r_si, mm_r_sl, mm_z_si, mm_z_sl, mm_z_sr, mm_n_si, mm_n_sl, mm_i_ci, mm_l_ci, mm_r_ci, mm_z_ci, mm_n_ci, mm_i_cl, mm_l_cl, mm_r_cl, mm_z_cl, mm_n_cl, ↓reduceIte, Nat.reduceEqDiff, and_false, false_and, and_self, eq_self, z0_0, z0_1, z0_2, z0_3, z0_4, z0_5, z0_6, z0_7, z0_8, z0_9, z0_10, z0_11, z0_12, z0_13, z0_14, z0_15, z0_16, z0_81, z0_82, z0_83, z0_84, z0_85, z0_86, z0_87, z0_88, z0_89, z0_90, z0_91, z0_92, z0_93, z0_94, z0_95, z0_96, z0_97, r0_0_0, r0_0_2, r0_0_4, r0_0_7, r0_0_10, r0_0_11, r0_0_12, r0_0_13, r0_5_0, r0_7_0, r0_7_9, r0_8_0, r0_8_1, r0_12_0, r0_12_1, r0_15_0, r0_81_3, r0_81_4, r0_81_7, r0_81_8, r0_81_9, r0_81_10, r0_81_11, r0_81_12, r0_81_14, r0_81_16, r0_81_17, r0_81_27, r0_81_28, r0_81_29, r0_81_30, pb_X7_isClosed, hL.1, hL.2.1, v.1, v.2, sh1_1 (show f < 32 by omega)]
  refine ⟨fun h => ?_, fun h => ?_⟩
  · have : bt (mm_i μ 86 u) f = false := by simpa using h
    rw [this] at hQ
    refine at_step pp_126 ?_; simp only [e_ldi, e_ldim, e_ldl, e_ldlm, e_lda, e_ldam, e_sti, e_stl, e_sta, e_inc, e_incm, e_ii, e_ll, e_ld, e_ls, e_i1, e_l1, e_i2l, e_l2i, e_cmp, e_dupi, e_dupr, e_dup2, e_if_eq, e_ic_eq, e_if_ne, e_ic_ne, e_if_lt, e_ic_lt, e_if_ge, e_ic_ge, e_if_gt, e_ic_gt, e_if_le, e_ic_le, e_tsw, e_sw0, e_sw1, e_get2, e_get0, e_get3, e_put0, e_put3, e_put2, e_ald, e_lld, e_rld, e_ast, e_lst, e_rst, e_len, e_rk, e_cpi, e_cpl, e_ret, e_rtz, e_rtl, e_rtv, e_cst, e_go, e_kkn, e_kks, e_cas0, e_cas1, e_cav1, e_cas2, e_cav2, e_cas3, e_cav3, e_cas4, e_cav4, e_cas5, e_cav5, e_cas6, e_cav6, e_cas7, e_cav7, mm_lg, mm_s1, mm_s2, mm_c2, mm_kl, mm_en, mm_sum, Int.reduceAdd, Int.reduceEq, not_true_eq_false, not_false_eq_true, false_implies, true_implies, implies_true, true_and, and_true, Option.some.injEq, Sum.inl.injEq, Sum.inr.injEq, Prod.mk.injEq, exists_eq_left', exists_eq_left, Value.category, Nat.reduceAdd, Nat.reduceLeDiff, reduceCtorEq, mm_i_si, mm_i_sl, mm_i_sr, mm_l_si, mm_l_sl, mm_l_sr, mm_r_si, mm_r_sl, mm_z_si, mm_z_sl, mm_z_sr, mm_n_si, mm_n_sl, mm_i_ci, mm_l_ci, mm_r_ci, mm_z_ci, mm_n_ci, mm_i_cl, mm_l_cl, mm_r_cl, mm_z_cl, mm_n_cl, ↓reduceIte, Nat.reduceEqDiff, and_false, false_and, and_self, eq_self, z0_0, z0_1, z0_2, z0_3, z0_4, z0_5, z0_6, z0_7, z0_8, z0_9, z0_10, z0_11, z0_12, z0_13, z0_14, z0_15, z0_16, z0_81, z0_82, z0_83, z0_84, z0_85, z0_86, z0_87, z0_88, z0_89, z0_90, z0_91, z0_92, z0_93, z0_94, z0_95, z0_96, z0_97, r0_0_0, r0_0_2, r0_0_4, r0_0_7, r0_0_10, r0_0_11, r0_0_12, r0_0_13, r0_5_0, r0_7_0, r0_7_9, r0_8_0, r0_8_1, r0_12_0, r0_12_1, r0_15_0, r0_81_3, r0_81_4, r0_81_7, r0_81_8, r0_81_9, r0_81_10, r0_81_11, r0_81_12, r0_81_14, r0_81_16, r0_81_17, r0_81_27, r0_81_28, r0_81_29, r0_81_30, pb_X7_isClosed]
    refine at_step pp_126 ?_; simp only [e_ldi, e_ldim, e_ldl, e_ldlm, e_lda, e_ldam, e_sti, e_stl, e_sta, e_inc, e_incm, e_ii, e_ll, e_ld, e_ls, e_i1, e_l1, e_i2l, e_l2i, e_cmp, e_dupi, e_dupr, e_dup2, e_if_eq, e_ic_eq, e_if_ne, e_ic_ne, e_if_lt, e_ic_lt, e_if_ge, e_ic_ge, e_if_gt, e_ic_gt, e_if_le, e_ic_le, e_tsw, e_sw0, e_sw1, e_get2, e_get0, e_get3, e_put0, e_put3, e_put2, e_ald, e_lld, e_rld, e_ast, e_lst, e_rst, e_len, e_rk, e_cpi, e_cpl, e_ret, e_rtz, e_rtl, e_rtv, e_cst, e_go, e_kkn, e_kks, e_cas0, e_cas1, e_cav1, e_cas2, e_cav2, e_cas3, e_cav3, e_cas4, e_cav4, e_cas5, e_cav5, e_cas6, e_cav6, e_cas7, e_cav7, mm_lg, mm_s1, mm_s2, mm_c2, mm_kl, mm_en, mm_sum, Int.reduceAdd, Int.reduceEq, not_true_eq_false, not_false_eq_true, false_implies, true_implies, implies_true, true_and, and_true, Option.some.injEq, Sum.inl.injEq, Sum.inr.injEq, Prod.mk.injEq, exists_eq_left', exists_eq_left, Value.category, Nat.reduceAdd, Nat.reduceLeDiff, reduceCtorEq, mm_i_si, mm_i_sl, mm_i_sr, mm_l_si, mm_l_sl, mm_l_sr, mm_r_si, mm_r_sl, mm_z_si, mm_z_sl, mm_z_sr, mm_n_si, mm_n_sl, mm_i_ci, mm_l_ci, mm_r_ci, mm_z_ci, mm_n_ci, mm_i_cl, mm_l_cl, mm_r_cl, mm_z_cl, mm_n_cl, ↓reduceIte, Nat.reduceEqDiff, and_false, false_and, and_self, eq_self, z0_0, z0_1, z0_2, z0_3, z0_4, z0_5, z0_6, z0_7, z0_8, z0_9, z0_10, z0_11, z0_12, z0_13, z0_14, z0_15, z0_16, z0_81, z0_82, z0_83, z0_84, z0_85, z0_86, z0_87, z0_88, z0_89, z0_90, z0_91, z0_92, z0_93, z0_94, z0_95, z0_96, z0_97, r0_0_0, r0_0_2, r0_0_4, r0_0_7, r0_0_10, r0_0_11, r0_0_12, r0_0_13, r0_5_0, r0_7_0, r0_7_9, r0_8_0, r0_8_1, r0_12_0, r0_12_1, r0_15_0, r0_81_3, r0_81_4, r0_81_7, r0_81_8, r0_81_9, r0_81_10, r0_81_11, r0_81_12, r0_81_14, r0_81_16, r0_81_17, r0_81_27, r0_81_28, r0_81_29, r0_81_30, pb_X7_isClosed]
    exact ⟨Or.inl trivial, hQ⟩
  · rw [h] at hQ
    refine at_step pp_126 ?_; simp only [e_ldi, e_ldim, e_ldl, e_ldlm, e_lda, e_ldam, e_sti, e_stl, e_sta, e_inc, e_incm, e_ii, e_ll, e_ld, e_ls, e_i1, e_l1, e_i2l, e_l2i, e_cmp, e_dupi, e_dupr, e_dup2, e_if_eq, e_ic_eq, e_if_ne, e_ic_ne, e_if_lt, e_ic_lt, e_if_ge, e_ic_ge, e_if_gt, e_ic_gt, e_if_le, e_ic_le, e_tsw, e_sw0, e_sw1, e_get2, e_get0, e_get3, e_put0, e_put3, e_put2, e_ald, e_lld, e_rld, e_ast, e_lst, e_rst, e_len, e_rk, e_cpi, e_cpl, e_ret, e_rtz, e_rtl, e_rtv, e_cst, e_go, e_kkn, e_kks, e_cas0, e_cas1, e_cav1, e_cas2, e_cav2, e_cas3, e_cav3, e_cas4, e_cav4, e_cas5, e_cav5, e_cas6, e_cav6, e_cas7, e_cav7, mm_lg, mm_s1, mm_s2, mm_c2, mm_kl, mm_en, mm_sum, Int.reduceAdd, Int.reduceEq, not_true_eq_false, not_false_eq_true, false_implies, true_implies, implies_true, true_and, and_true, Option.some.injEq, Sum.inl.injEq, Sum.inr.injEq, Prod.mk.injEq, exists_eq_left', exists_eq_left, Value.category, Nat.reduceAdd, Nat.reduceLeDiff, reduceCtorEq, mm_i_si, mm_i_sl, mm_i_sr, mm_l_si, mm_l_sl, mm_l_sr, mm_r_si, mm_r_sl, mm_z_si, mm_z_sl, mm_z_sr, mm_n_si, mm_n_sl, mm_i_ci, mm_l_ci, mm_r_ci, mm_z_ci, mm_n_ci, mm_i_cl, mm_l_cl, mm_r_cl, mm_z_cl, mm_n_cl, ↓reduceIte, Nat.reduceEqDiff, and_false, false_and, and_self, eq_self, z0_0, z0_1, z0_2, z0_3, z0_4, z0_5, z0_6, z0_7, z0_8, z0_9, z0_10, z0_11, z0_12, z0_13, z0_14, z0_15, z0_16, z0_81, z0_82, z0_83, z0_84, z0_85, z0_86, z0_87, z0_88, z0_89, z0_90, z0_91, z0_92, z0_93, z0_94, z0_95, z0_96, z0_97, r0_0_0, r0_0_2, r0_0_4, r0_0_7, r0_0_10, r0_0_11, r0_0_12, r0_0_13, r0_5_0, r0_7_0, r0_7_9, r0_8_0, r0_8_1, r0_12_0, r0_12_1, r0_15_0, r0_81_3, r0_81_4, r0_81_7, r0_81_8, r0_81_9, r0_81_10, r0_81_11, r0_81_12, r0_81_14, r0_81_16, r0_81_17, r0_81_27, r0_81_28, r0_81_29, r0_81_30, pb_X7_isClosed]
    exact ⟨Or.inr trivial, hQ⟩
theorem m20 (x : Int32) : -20 - (-20 - x) = x := by
  apply Int32.toBitVec_inj.mp
  rw [Int32.toBitVec_sub, Int32.toBitVec_sub]
  generalize x.toBitVec = y
  generalize (-20 : Int32).toBitVec = z
  bv_omega
theorem brd_t {c : Int32} {ps : TK} {i f : Nat} (h : ps[i]? = some (3, nI f)) (hf : f < 4) (hb : bt c f = true) : brd c ps = true := by
  unfold brd
  rw [List.any_eq_true]
  refine ⟨_, List.mem_of_getElem? h, ?_⟩
  simp [nI_clamp (show f < 2 ^ 31 by omega), hb]
theorem bar_loop {d p u : Nat} {μ : mm_M} {ps : TK} {Q : mm_Q} (hL : Ly μ) (hp : p < 10) (hu : u < 4) (hT : TP μ p ps) (hok : okP ps [] [true]) (hQ : Q (some (.int (bi (brd (mm_i μ 86 u) ps)))) μ) :
    ∀ n i (w : Option Value), i + n = ps.length → (∀ j q, j < i → ps[j]? = some q → ¬ (q.1 = 3 ∧ bt (mm_i μ 86 u) q.2.toNatClampNeg = true)) → mm_At (d + 1) 128 Q 1 [some (.ref 81), some (.int (nI u)), some (.int (nI p)), some (.int (nI i)), w] [] μ (0, 0)
  | 0, i, w, hn, hb => by
    have hi : i = ps.length := by omega
    subst hi
    have v1 : vp_in (nI p) 10 := vp_in_nI hp (by decide)
    have v2 : (nI p).toNatClampNeg = p := nI_clamp (by omega)
    refine at_step pp_128 ?_; simp only [e_ldi, e_ldim, e_ldl, e_ldlm, e_lda, e_ldam, e_sti, e_stl, e_sta, e_inc, e_incm, e_ii, e_ll, e_ld, e_ls, e_i1, e_l1, e_i2l, e_l2i, e_cmp, e_dupi, e_dupr, e_dup2, e_if_eq, e_ic_eq, e_if_ne, e_ic_ne, e_if_lt, e_ic_lt, e_if_ge, e_ic_ge, e_if_gt, e_ic_gt, e_if_le, e_ic_le, e_tsw, e_sw0, e_sw1, e_get2, e_get0, e_get3, e_put0, e_put3, e_put2, e_ald, e_lld, e_rld, e_ast, e_lst, e_rst, e_len, e_rk, e_cpi, e_cpl, e_ret, e_rtz, e_rtl, e_rtv, e_cst, e_go, e_kkn, e_kks, e_cas0, e_cas1, e_cav1, e_cas2, e_cav2, e_cas3, e_cav3, e_cas4, e_cav4, e_cas5, e_cav5, e_cas6, e_cav6, e_cas7, e_cav7, mm_lg, mm_s1, mm_s2, mm_c2, mm_kl, mm_en, mm_sum, Int.reduceAdd, Int.reduceEq, not_true_eq_false, not_false_eq_true, false_implies, true_implies, implies_true, true_and, and_true, Option.some.injEq, Sum.inl.injEq, Sum.inr.injEq, Prod.mk.injEq, exists_eq_left', exists_eq_left, Value.category, Nat.reduceAdd, Nat.reduceLeDiff, reduceCtorEq, mm_i_si, mm_i_sl, mm_i_sr, mm_l_si, mm_l_sl, mm_l_sr, mm_r_si, mm_r_sl, mm_z_si, mm_z_sl, mm_z_sr, mm_n_si, mm_n_sl, mm_i_ci, mm_l_ci, mm_r_ci, mm_z_ci, mm_n_ci, mm_i_cl, mm_l_cl, mm_r_cl, mm_z_cl, mm_n_cl, ↓reduceIte, Nat.reduceEqDiff, and_false, false_and, and_self, eq_self, z0_0, z0_1, z0_2, z0_3, z0_4, z0_5, z0_6, z0_7, z0_8, z0_9, z0_10, z0_11, z0_12, z0_13, z0_14, z0_15, z0_16, z0_81, z0_82, z0_83, z0_84, z0_85, z0_86, z0_87, z0_88, z0_89, z0_90, z0_91, z0_92, z0_93, z0_94, z0_95, z0_96, z0_97, r0_0_0, r0_0_2, r0_0_4, r0_0_7, r0_0_10, r0_0_11, r0_0_12, r0_0_13, r0_5_0, r0_7_0, r0_7_9, r0_8_0, r0_8_1, r0_12_0, r0_12_1, r0_15_0, r0_81_3, r0_81_4, r0_81_7, r0_81_8, r0_81_9, r0_81_10, r0_81_11, r0_81_12, r0_81_14, r0_81_16, r0_81_17, r0_81_27, r0_81_28, r0_81_29, r0_81_30, pb_X7_isBarred, hL.1, hL.2.1, v1, v2, hT.1]
    have hl := hT.2.1
    refine ⟨fun _ => ?_, fun h => absurd (nI_le (Nat.le_refl _) (by omega)) h⟩
    have : brd (mm_i μ 86 u) ps = false := by
      rw [Bool.eq_false_iff]
      intro hc
      unfold brd at hc
      rw [List.any_eq_true] at hc
      obtain ⟨q, hq, h2⟩ := hc
      obtain ⟨j, hj⟩ := List.getElem?_of_mem hq
      exact hb j q ((List.getElem?_eq_some_iff.mp hj).1) hj (by simpa using h2)
    rw [this] at hQ
    refine at_step pp_128 ?_; simp only [e_ldi, e_ldim, e_ldl, e_ldlm, e_lda, e_ldam, e_sti, e_stl, e_sta, e_inc, e_incm, e_ii, e_ll, e_ld, e_ls, e_i1, e_l1, e_i2l, e_l2i, e_cmp, e_dupi, e_dupr, e_dup2, e_if_eq, e_ic_eq, e_if_ne, e_ic_ne, e_if_lt, e_ic_lt, e_if_ge, e_ic_ge, e_if_gt, e_ic_gt, e_if_le, e_ic_le, e_tsw, e_sw0, e_sw1, e_get2, e_get0, e_get3, e_put0, e_put3, e_put2, e_ald, e_lld, e_rld, e_ast, e_lst, e_rst, e_len, e_rk, e_cpi, e_cpl, e_ret, e_rtz, e_rtl, e_rtv, e_cst, e_go, e_kkn, e_kks, e_cas0, e_cas1, e_cav1, e_cas2, e_cav2, e_cas3, e_cav3, e_cas4, e_cav4, e_cas5, e_cav5, e_cas6, e_cav6, e_cas7, e_cav7, mm_lg, mm_s1, mm_s2, mm_c2, mm_kl, mm_en, mm_sum, Int.reduceAdd, Int.reduceEq, not_true_eq_false, not_false_eq_true, false_implies, true_implies, implies_true, true_and, and_true, Option.some.injEq, Sum.inl.injEq, Sum.inr.injEq, Prod.mk.injEq, exists_eq_left', exists_eq_left, Value.category, Nat.reduceAdd, Nat.reduceLeDiff, reduceCtorEq, mm_i_si, mm_i_sl, mm_i_sr, mm_l_si, mm_l_sl, mm_l_sr, mm_r_si, mm_r_sl, mm_z_si, mm_z_sl, mm_z_sr, mm_n_si, mm_n_sl, mm_i_ci, mm_l_ci, mm_r_ci, mm_z_ci, mm_n_ci, mm_i_cl, mm_l_cl, mm_r_cl, mm_z_cl, mm_n_cl, ↓reduceIte, Nat.reduceEqDiff, and_false, false_and, and_self, eq_self, z0_0, z0_1, z0_2, z0_3, z0_4, z0_5, z0_6, z0_7, z0_8, z0_9, z0_10, z0_11, z0_12, z0_13, z0_14, z0_15, z0_16, z0_81, z0_82, z0_83, z0_84, z0_85, z0_86, z0_87, z0_88, z0_89, z0_90, z0_91, z0_92, z0_93, z0_94, z0_95, z0_96, z0_97, r0_0_0, r0_0_2, r0_0_4, r0_0_7, r0_0_10, r0_0_11, r0_0_12, r0_0_13, r0_5_0, r0_7_0, r0_7_9, r0_8_0, r0_8_1, r0_12_0, r0_12_1, r0_15_0, r0_81_3, r0_81_4, r0_81_7, r0_81_8, r0_81_9, r0_81_10, r0_81_11, r0_81_12, r0_81_14, r0_81_16, r0_81_17, r0_81_27, r0_81_28, r0_81_29, r0_81_30, pb_X7_isBarred]
    exact ⟨Or.inl trivial, hQ⟩
  | n + 1, i, w, hn, hb => by
    have hl := hT.2.1
    have hil : i < ps.length := by omega
    have v1 : vp_in (nI p) 10 := vp_in_nI hp (by decide)
    have v2 : (nI p).toNatClampNeg = p := nI_clamp (by omega)
    have c1 : ¬ nI ps.length ≤ nI i := nI_ge hil (by omega)
    have v3 := nI_64 hp (show i < 64 by omega)
    have hq : ps[i]? = some ps[i] := List.getElem?_eq_getElem hil
    have hcode := hT.2.2 i _ hq
    obtain ⟨s, t, h1⟩ := okP_mem hok (List.mem_of_getElem? hq)
    generalize ps[i] = q at hq hcode h1
    -- not this one
    have nx : ¬ (q.1 = 3 ∧ bt (mm_i μ 86 u) q.2.toNatClampNeg = true) → ∀ x : Int32, mm_At (d + 1) 128 Q 2 [some (.ref 81), some (.int (nI u)), some (.int (nI p)), some (.int (nI i)), some (.int x)] [] μ (0, 0) := fun hnq x => by
      refine at_step pp_128 ?_; simp only [e_ldi, e_ldim, e_ldl, e_ldlm, e_lda, e_ldam, e_sti, e_stl, e_sta, e_inc, e_incm, e_ii, e_ll, e_ld, e_ls, e_i1, e_l1, e_i2l, e_l2i, e_cmp, e_dupi, e_dupr, e_dup2, e_if_eq, e_ic_eq, e_if_ne, e_ic_ne, e_if_lt, e_ic_lt, e_if_ge, e_ic_ge, e_if_gt, e_ic_gt, e_if_le, e_ic_le, e_tsw, e_sw0, e_sw1, e_get2, e_get0, e_get3, e_put0, e_put3, e_put2, e_ald, e_lld, e_rld, e_ast, e_lst, e_rst, e_len, e_rk, e_cpi, e_cpl, e_ret, e_rtz, e_rtl, e_rtv, e_cst, e_go, e_kkn, e_kks, e_cas0, e_cas1, e_cav1, e_cas2, e_cav2, e_cas3, e_cav3, e_cas4, e_cav4, e_cas5, e_cav5, e_cas6, e_cav6, e_cas7, e_cav7, mm_lg, mm_s1, mm_s2, mm_c2, mm_kl, mm_en, mm_sum, Int.reduceAdd, Int.reduceEq, not_true_eq_false, not_false_eq_true, false_implies, true_implies, implies_true, true_and, and_true, Option.some.injEq, Sum.inl.injEq, Sum.inr.injEq, Prod.mk.injEq, exists_eq_left', exists_eq_left, Value.category, Nat.reduceAdd, Nat.reduceLeDiff, reduceCtorEq, mm_i_si, mm_i_sl, mm_i_sr, mm_l_si, mm_l_sl, mm_l_sr, mm_r_si, mm_r_sl, mm_z_si, mm_z_sl, mm_z_sr, mm_n_si, mm_n_sl, mm_i_ci, mm_l_ci, mm_r_ci, mm_z_ci, mm_n_ci, mm_i_cl, mm_l_cl, mm_r_cl, mm_z_cl, mm_n_cl, ↓reduceIte, Nat.reduceEqDiff, and_false, false_and, and_self, eq_self, z0_0, z0_1, z0_2, z0_3, z0_4, z0_5, z0_6, z0_7, z0_8, z0_9, z0_10, z0_11, z0_12, z0_13, z0_14, z0_15, z0_16, z0_81, z0_82, z0_83, z0_84, z0_85, z0_86, z0_87, z0_88, z0_89, z0_90, z0_91, z0_92, z0_93, z0_94, z0_95, z0_96, z0_97, r0_0_0, r0_0_2, r0_0_4, r0_0_7, r0_0_10, r0_0_11, r0_0_12, r0_0_13, r0_5_0, r0_7_0, r0_7_9, r0_8_0, r0_8_1, r0_12_0, r0_12_1, r0_15_0, r0_81_3, r0_81_4, r0_81_7, r0_81_8, r0_81_9, r0_81_10, r0_81_11, r0_81_12, r0_81_14, r0_81_16, r0_81_17, r0_81_27, r0_81_28, r0_81_29, r0_81_30, pb_X7_isBarred, nI_1]
      refine bar_loop hL hp hu hT hok hQ n (i + 1) _ (by omega) (fun j q' hj hq' => ?_)
      by_cases e : j = i
      · subst e; rw [hq] at hq'; cases hq'; exact hnq
      · exact hb j q' (by omega) hq'
    refine at_step pp_128 ?_; simp only [e_ldi, e_ldim, e_ldl, e_ldlm, e_lda, e_ldam, e_sti, e_stl, e_sta, e_inc, e_incm, e_ii, e_ll, e_ld, e_ls, e_i1, e_l1, e_i2l, e_l2i, e_cmp, e_dupi, e_dupr, e_dup2, e_if_eq, e_ic_eq, e_if_ne, e_ic_ne, e_if_lt, e_ic_lt, e_if_ge, e_ic_ge, e_if_gt, e_ic_gt, e_if_le, e_ic_le, e_tsw, e_sw0, e_sw1, e_get2, e_get0, e_get3, e_put0, e_put3, e_put2, e_ald, e_lld, e_rld, e_ast, e_lst, e_rst, e_len, e_rk, e_cpi, e_cpl, e_ret, e_rtz, e_rtl, e_rtv, e_cst, e_go, e_kkn, e_kks, e_cas0, e_cas1, e_cav1, e_cas2, e_cav2, e_cas3, e_cav3, e_cas4, e_cav4, e_cas5, e_cav5, e_cas6, e_cav6, e_cas7, e_cav7, mm_lg, mm_s1, mm_s2, mm_c2, mm_kl, mm_en, mm_sum, Int.reduceAdd, Int.reduceEq, not_true_eq_false, not_false_eq_true, false_implies, true_implies, implies_true, true_and, and_true, Option.some.injEq, Sum.inl.injEq, Sum.inr.injEq, Prod.mk.injEq, exists_eq_left', exists_eq_left, Value.category, Nat.reduceAdd, Nat.reduceLeDiff, reduceCtorEq, mm_i_si, mm_i_sl, mm_i_sr, mm_l_si, mm_l_sl, mm_l_sr, mm_r_si, mm_r_sl, mm_z_si, mm_z_sl, mm_z_sr, mm_n_si, mm_n_sl, mm_i_ci, mm_l_ci, mm_r_ci, mm_z_ci, mm_n_ci, mm_i_cl, mm_l_cl, mm_r_cl, mm_z_cl, mm_n_cl, ↓reduceIte, Nat.reduceEqDiff, and_false, false_and, and_self, eq_self, z0_0, z0_1, z0_2, z0_3, z0_4, z0_5, z0_6, z0_7, z0_8, z0_9, z0_10, z0_11, z0_12, z0_13, z0_14, z0_15, z0_16, z0_81, z0_82, z0_83, z0_84, z0_85, z0_86, z0_87, z0_88, z0_89, z0_90, z0_91, z0_92, z0_93, z0_94, z0_95, z0_96, z0_97, r0_0_0, r0_0_2, r0_0_4, r0_0_7, r0_0_10, r0_0_11, r0_0_12, r0_0_13, r0_5_0, r0_7_0, r0_7_9, r0_8_0, r0_8_1, r0_12_0, r0_12_1, r0_15_0, r0_81_3, r0_81_4, r0_81_7, r0_81_8, r0_81_9, r0_81_10, r0_81_11, r0_81_12, r0_81_14, r0_81_16, r0_81_17, r0_81_27, r0_81_28, r0_81_29, r0_81_30, pb_X7_isBarred, hL.1, hL.2.1, v1, v2, hT.1, c1, v3.1, v3.2, hcode]
    by_cases h3 : q.1 = 3
    · obtain ⟨f, hf, e2⟩ := ok1_3 h1 h3
      obtain ⟨k, x⟩ := q
      simp only at h3 e2
      subst h3 e2
      have tf := tcd_f hf
      refine ⟨fun z => absurd z tf.2.2.1, fun _ => ⟨fun z => absurd z tf.2.2.2, fun _ => ?_⟩⟩
      rw [tf.1, m20]
      refine ev_isClosed hL hu hf ?_
      simp only [e_ldi, e_ldim, e_ldl, e_ldlm, e_lda, e_ldam, e_sti, e_stl, e_sta, e_inc, e_incm, e_ii, e_ll, e_ld, e_ls, e_i1, e_l1, e_i2l, e_l2i, e_cmp, e_dupi, e_dupr, e_dup2, e_if_eq, e_ic_eq, e_if_ne, e_ic_ne, e_if_lt, e_ic_lt, e_if_ge, e_ic_ge, e_if_gt, e_ic_gt, e_if_le, e_ic_le, e_tsw, e_sw0, e_sw1, e_get2, e_get0, e_get3, e_put0, e_put3, e_put2, e_ald, e_lld, e_rld, e_ast, e_lst, e_rst, e_len, e_rk, e_cpi, e_cpl, e_ret, e_rtz, e_rtl, e_rtv, e_cst, e_go, e_kkn, e_kks, e_cas0, e_cas1, e_cav1, e_cas2, e_cav2, e_cas3, e_cav3, e_cas4, e_cav4, e_cas5, e_cav5, e_cas6, e_cav6, e_cas7, e_cav7, mm_lg, mm_s1, mm_s2, mm_c2, mm_kl, mm_en, mm_sum, Int.reduceAdd, Int.reduceEq, not_true_eq_false, not_false_eq_true, false_implies, true_implies, implies_true, true_and, and_true, Option.some.injEq, Sum.inl.injEq, Sum.inr.injEq, Prod.mk.injEq, exists_eq_left', exists_eq_left, Value.category, Nat.reduceAdd, Nat.reduceLeDiff, reduceCtorEq, mm_i_si, mm_i_sl, mm_i_sr, mm_l_si, mm_l_sl, mm_l_sr, mm_r_si, mm_r_sl, mm_z_si, mm_z_sl, mm_z_sr, mm_n_si, mm_n_sl, mm_i_ci, mm_l_ci, mm_r_ci, mm_z_ci, mm_n_ci, mm_i_cl, mm_l_cl, mm_r_cl, mm_z_cl, mm_n_cl, ↓reduceIte, Nat.reduceEqDiff, and_false, false_and, and_self, eq_self, z0_0, z0_1, z0_2, z0_3, z0_4, z0_5, z0_6, z0_7, z0_8, z0_9, z0_10, z0_11, z0_12, z0_13, z0_14, z0_15, z0_16, z0_81, z0_82, z0_83, z0_84, z0_85, z0_86, z0_87, z0_88, z0_89, z0_90, z0_91, z0_92, z0_93, z0_94, z0_95, z0_96, z0_97, r0_0_0, r0_0_2, r0_0_4, r0_0_7, r0_0_10, r0_0_11, r0_0_12, r0_0_13, r0_5_0, r0_7_0, r0_7_9, r0_8_0, r0_8_1, r0_12_0, r0_12_1, r0_15_0, r0_81_3, r0_81_4, r0_81_7, r0_81_8, r0_81_9, r0_81_10, r0_81_11, r0_81_12, r0_81_14, r0_81_16, r0_81_17, r0_81_27, r0_81_28, r0_81_29, r0_81_30, bi_0]
      refine ⟨fun z => nx (fun y => ?_) _, fun z => ?_⟩
      · rw [nI_clamp (by omega), z] at y; exact absurd y.2 (by simp)
      · have zt : bt (mm_i μ 86 u) f = true := by simpa using z
        rw [brd_t hq hf zt] at hQ
        exact ⟨Or.inr trivial, hQ⟩
    · have hne := nx (fun y => h3 y.1)
      refine ⟨fun _ => hne _, fun z => ⟨fun _ => hne _, fun z2 => ?_⟩⟩
      exfalso
      obtain ⟨k, x⟩ := q
      rcases ok1_k h1 with ⟨e, h0⟩ | e | e
      · simp only at e h0
        subst e
        have et : tcd (2, x) = x := by simp [tcd]
        rw [et] at z
        have a1 := i32_le.mp (Int32.not_lt.mp z)
        have a2 := i32_le.mp h0
        have e20 : (-20 : Int32).toInt = -20 := rfl
        have e00 : (0 : Int32).toInt = 0 := rfl
        omega
      · exact h3 e
      · rcases (tcd_lt (n := x) e).2.1 with y | y
        · exact z y
        · exact z2 y
theorem ev_isBarred {d p u : Nat} {μ : mm_M} {ps : TK} {Q : mm_Q} (hL : Ly μ) (hp : p < 10) (hu : u < 4) (hT : TP μ p ps) (hok : okP ps [] [true]) (hQ : Q (some (.int (bi (brd (mm_i μ 86 u) ps)))) μ) : Ev (d + 2) 128 [.ref 81, .int (nI u), .int (nI p)] μ Q := by
  refine ev_step pp_128 (Nat.le_of_ble_eq_true rfl) ?_
  simp only [e_ldi, e_ldim, e_ldl, e_ldlm, e_lda, e_ldam, e_sti, e_stl, e_sta, e_inc, e_incm, e_ii, e_ll, e_ld, e_ls, e_i1, e_l1, e_i2l, e_l2i, e_cmp, e_dupi, e_dupr, e_dup2, e_if_eq, e_ic_eq, e_if_ne, e_ic_ne, e_if_lt, e_ic_lt, e_if_ge, e_ic_ge, e_if_gt, e_ic_gt, e_if_le, e_ic_le, e_tsw, e_sw0, e_sw1, e_get2, e_get0, e_get3, e_put0, e_put3, e_put2, e_ald, e_lld, e_rld, e_ast, e_lst, e_rst, e_len, e_rk, e_cpi, e_cpl, e_ret, e_rtz, e_rtl, e_rtv, e_cst, e_go, e_kkn, e_kks, e_cas0, e_cas1, e_cav1, e_cas2, e_cav2, e_cas3, e_cav3, e_cas4, e_cav4, e_cas5, e_cav5, e_cas6, e_cav6, e_cas7, e_cav7, mm_lg, mm_s1, mm_s2, mm_c2, mm_kl, mm_en, mm_sum, Int.reduceAdd, Int.reduceEq, not_true_eq_false, not_false_eq_true, false_implies, true_implies, implies_true, true_and, and_true, Option.some.injEq, Sum.inl.injEq, Sum.inr.injEq, Prod.mk.injEq, exists_eq_left', exists_eq_left, Value.category, Nat.reduceAdd, Nat.reduceLeDiff, reduceCtorEq, mm_i_si, mm_i_sl, mm_i_sr, mm_l_si, mm_l_sl, mm_l_sr, mm_r_si, mm_r_sl, mm_z_si, mm_z_sl, mm_z_sr, mm_n_si, mm_n_sl, mm_i_ci, mm_l_ci, mm_r_ci, mm_z_ci, mm_n_ci, mm_i_cl, mm_l_cl, mm_r_cl, mm_z_cl, mm_n_cl, ↓reduceIte, Nat.reduceEqDiff, and_false, false_and, and_self, eq_self, z0_0, z0_1, z0_2, z0_3, z0_4, z0_5, z0_6, z0_7, z0_8, z0_9, z0_10, z0_11, z0_12, z0_13, z0_14, z0_15, z0_16, z0_81, z0_82, z0_83, z0_84, z0_85, z0_86, z0_87, z0_88, z0_89, z0_90, z0_91, z0_92, z0_93, z0_94, z0_95, z0_96, z0_97, r0_0_0, r0_0_2, r0_0_4, r0_0_7, r0_0_10, r0_0_11, r0_0_12, r0_0_13, r0_5_0, r0_7_0, r0_7_9, r0_8_0, r0_8_1, r0_12_0, r0_12_1, r0_15_0, r0_81_3, r0_81_4, r0_81_7, r0_81_8, r0_81_9, r0_81_10, r0_81_11, r0_81_12, r0_81_14, r0_81_16, r0_81_17, r0_81_27, r0_81_28, r0_81_29, r0_81_30, pb_X7_isBarred]
  exact bar_loop hL hp hu hT hok hQ ps.length 0 none (by omega) (fun j q hj => absurd hj (Nat.not_lt_zero _))
theorem ev_note {d n : Nat} {μ : mm_M} {u k x y h : Int32} {Q : mm_Q} (hL : Ly μ) (hn : mm_i μ 81 13 = nI n) (hn2 : n < 150) (hQ : Q none (mm_si (ap5 μ 89 n u k x y h) 81 13 (nI (n + 1)))) : Ev (d + 1) 134 [.ref 81, .int u, .int k, .int x, .int y, .int h] μ Q := by
  have h1 := nI_5 hn2 1 (by decide)
  have h2 := nI_5 hn2 2 (by decide)
  have h3 := nI_5 hn2 3 (by decide)
  have h4 := nI_5 hn2 4 (by decide)
  have h0 := nI_50 hn2
  have ec : (5 : Int32) * nI n = nI n * 5 := Int32.mul_comm _ _
  rw [show nI 1 = 1 from rfl] at h1
  rw [show nI 2 = 2 from rfl] at h2
  rw [show nI 3 = 3 from rfl] at h3
  rw [show nI 4 = 4 from rfl] at h4
  refine ev_step pp_134 (Nat.le_of_ble_eq_true rfl) ?_
  simp only [e_ldi, e_ldim, e_ldl, e_ldlm, e_lda, e_ldam, e_sti, e_stl, e_sta, e_inc, e_incm, e_ii, e_ll, e_ld, e_ls, e_i1, e_l1, e_i2l, e_l2i, e_cmp, e_dupi, e_dupr, e_dup2, e_if_eq, e_ic_eq, e_if_ne, e_ic_ne, e_if_lt, e_ic_lt, e_if_ge, e_ic_ge, e_if_gt, e_ic_gt, e_if_le, e_ic_le, e_tsw, e_sw0, e_sw1, e_get2, e_get0, e_get3, e_put0, e_put3, e_put2, e_ald, e_lld, e_rld, e_ast, e_lst, e_rst, e_len, e_rk, e_cpi, e_cpl, e_ret, e_rtz, e_rtl, e_rtv, e_cst, e_go, e_kkn, e_kks, e_cas0, e_cas1, e_cav1, e_cas2, e_cav2, e_cas3, e_cav3, e_cas4, e_cav4, e_cas5, e_cav5, e_cas6, e_cav6, e_cas7, e_cav7, mm_lg, mm_s1, mm_s2, mm_c2, mm_kl, mm_en, mm_sum, Int.reduceAdd, Int.reduceEq, not_true_eq_false, not_false_eq_true, false_implies, true_implies, implies_true, true_and, and_true, Option.some.injEq, Sum.inl.injEq, Sum.inr.injEq, Prod.mk.injEq, exists_eq_left', exists_eq_left, Value.category, Nat.reduceAdd, Nat.reduceLeDiff, reduceCtorEq, mm_i_si, mm_i_sl, mm_i_sr, mm_l_si, mm_l_sl, mm_l_sr, mm_r_si, mm_r_sl, mm_z_si, mm_z_sl, mm_z_sr, mm_n_si, mm_n_sl, mm_i_ci, mm_l_ci, mm_r_ci, mm_z_ci, mm_n_ci, mm_i_cl, mm_l_cl, mm_r_cl, mm_z_cl, mm_n_cl, ↓reduceIte, Nat.reduceEqDiff, and_false, false_and, and_self, eq_self, z0_0, z0_1, z0_2, z0_3, z0_4, z0_5, z0_6, z0_7, z0_8, z0_9, z0_10, z0_11, z0_12, z0_13, z0_14, z0_15, z0_16, z0_81, z0_82, z0_83, z0_84, z0_85, z0_86, z0_87, z0_88, z0_89, z0_90, z0_91, z0_92, z0_93, z0_94, z0_95, z0_96, z0_97, r0_0_0, r0_0_2, r0_0_4, r0_0_7, r0_0_10, r0_0_11, r0_0_12, r0_0_13, r0_5_0, r0_7_0, r0_7_9, r0_8_0, r0_8_1, r0_12_0, r0_12_1, r0_15_0, r0_81_3, r0_81_4, r0_81_7, r0_81_8, r0_81_9, r0_81_10, r0_81_11, r0_81_12, r0_81_14, r0_81_16, r0_81_17, r0_81_27, r0_81_28, r0_81_29, r0_81_30, pb_X7_note, hL.1, hL.2.1, hn, ec, h0.1, h0.2, h1.1, h1.2, h2.1, h2.2, h3.1, h3.2, h4.1, h4.2, nI_1]
  exact hQ
