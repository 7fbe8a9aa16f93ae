/-! what lies beside the cells, at the law's entry -/
def xG : Cond := Jvm.Cond.and given_1 narrow_1
def xad (r0' sf b : Nat) (aK aV : Nat → Nat) : Nat → Nat := fun i => if i = mm_ext then r0' else if i = mm_ext + 50 then sf else if i = mm_ext + 300 then b else if i < mm_ext + 101 then aK (i - (mm_ext + 1)) else aV (i - (mm_ext + 101))
theorem xad_0 {r0' sf b : Nat} {aK aV : Nat → Nat} : xad r0' sf b aK aV mm_ext = r0' := if_pos rfl
theorem xad_50 {r0' sf b : Nat} {aK aV : Nat → Nat} : xad r0' sf b aK aV (mm_ext + 50) = sf := by
  unfold xad; rw [if_neg (by omega), if_pos rfl]
theorem xad_300 {r0' sf b : Nat} {aK aV : Nat → Nat} : xad r0' sf b aK aV (mm_ext + 300) = b := by
  unfold xad; rw [if_neg (by omega), if_neg (by omega), if_pos rfl]
theorem xad_K {r0' sf b j : Nat} {aK aV : Nat → Nat} (h : j < 5) : xad r0' sf b aK aV (mm_ext + (j + 1)) = aK j := by
  unfold xad; rw [if_neg (by omega), if_neg (by omega), if_neg (by omega), if_pos (by omega), show mm_ext + (j + 1) - (mm_ext + 1) = j by omega]
theorem xad_V {r0' sf b j : Nat} {aK aV : Nat → Nat} (h : j < 5) : xad r0' sf b aK aV (mm_ext + (j + 101)) = aV j := by
  unfold xad; rw [if_neg (by omega), if_neg (by omega), if_neg (by omega), if_neg (by omega), show mm_ext + (j + 101) - (mm_ext + 101) = j by omega]
theorem lt5 {P : Nat → Prop} (h0 : P 0) (h1 : P 1) (h2 : P 2) (h3 : P 3) (h4 : P 4) : ∀ i, i < 5 → P i := fun i hi => by
  match i, hi with
  | 0, _ => exact h0
  | 1, _ => exact h1
  | 2, _ => exact h2
  | 3, _ => exact h3
  | 4, _ => exact h4
/-- the conditions of the start that are used -/
def nS (j : Nat) : Term := .string RX1 (px_si j)
def nV (j : Nat) : Term := (nS j).field "java/lang/String" "value" "[B"
def tR : Term := .static "HiddenSums" "RANKS" "[I"
theorem g_rk : ∀ j, j < 19 → Cond.eq (tR.elem (.int (Int32.ofNat j))) (.int (px_rk j)) ∈ flatC xG := by decide +kernel
theorem g_s1 : ∀ j, j < 5 → Cond.exactly (nS j) "java/lang/String" ∈ flatC xG := by decide +kernel
theorem g_s2 : ∀ j, j < 5 → Cond.eq ((nS j).field "java/lang/String" "coder" "B") (.int 0) ∈ flatC xG := by decide +kernel
theorem g_s3 : ∀ j, j < 5 → Cond.arrayOf (nV j) .byte ∈ flatC xG := by decide +kernel
theorem g_s4 : ∀ j, j < 5 → Cond.eq (nV j).length (.int (Int32.ofNat (mm_sl5.getD j 0))) ∈ flatC xG := by decide +kernel
theorem g_s5 : ∀ i, i < 5 → ∀ j, j < mm_sl5.getD i 0 → Cond.eq ((nV i).elem (.int (Int32.ofNat j))) (.int ((mm_sb5.getD i []).getD j 0)) ∈ flatC xG := by decide +kernel
theorem g_s6 : ∀ i, i < 5 → ∀ j, j < 5 → i ≠ j → (Cond.eq (nS i) (nS j)).not ∈ flatC xG ∨ (Cond.eq (nS j) (nS i)).not ∈ flatC xG := by decide +kernel
theorem g_m : ∀ j, j < 5 → Cond.exactly (.string RX6 (xm_i j)) "java/lang/String" ∈ flatC xG := by decide +kernel
def gL : List Cond := [Cond.arrayOf tR .int, Cond.eq tR.length (.int 19), Cond.eq (.static "java/lang/String" "COMPACT_STRINGS" "Z") (.int 1), Cond.isRef (.static "jdk/internal/util/Preconditions" "SIOOBE_FORMATTER" "Ljava/util/function/BiFunction;"), Cond.isRef (.static Bundle.tN "UNASSIGNED_STACK" Bundle.steD), Cond.isRef (.static Bundle.tN "SUPPRESSED_SENTINEL" Bundle.listD), (Cond.castable xn_2 xn_1).not, (Cond.castable xn_3 xn_1).not, (Cond.castable xn_3 xn_2).not]
theorem g_x : ∀ c ∈ gL, c ∈ flatC xG := by decide +kernel
theorem t_s : ∀ j, j < 5 → Cond.stringRef RX1 (px_si j) (px_st j) ∈ lw_tbl := by decide +kernel
theorem t_m : ∀ j, j < 5 → Cond.stringRef RX6 (xm_i j) (xm_t j) ∈ lw_tbl := by decide +kernel
theorem t_n : ∀ q ∈ px_nest, Cond.methodLinkNest q.1 q.2.1 q.2.2.1 q.2.2.2 ∈ lw_tbl := by decide +kernel
def tL : List Cond := [.laysStatic "HiddenSums" "RANKS" "[I", .initialized "HiddenSums", .laysStatic "java/lang/String" "COMPACT_STRINGS" "Z", .initialized "java/lang/String", .laysStatic "jdk/internal/util/Preconditions" "SIOOBE_FORMATTER" "Ljava/util/function/BiFunction;", .initialized "jdk/internal/util/Preconditions", .laysStatic Bundle.tN "UNASSIGNED_STACK" Bundle.steD, .laysStatic Bundle.tN "SUPPRESSED_SENTINEL" Bundle.listD, .initialized Bundle.tN, .fieldLinkNest RX1 135 RX6 "RANKS" "[I" RX6, .arrayOver (.object "HiddenSums$User"), .arrayOver (.object "HiddenSums$Reduced"), .declares (Bundle.initS xn_R), .declares (Bundle.initS xn_E), .declares (Bundle.initS Bundle.tN), .castable xn_1 xn_1, .castable xn_2 xn_2, .castable xn_3 xn_3]
theorem t_x : ∀ c ∈ tL, c ∈ lw_tbl := by decide +kernel
theorem xx_start {s : State} {b : Nat} (hts : ∀ w ∈ lw_tbl, w.before #[Value.ref b] s = true) (hgv : xG.before #[Value.ref b] s = true) : ∃ ad : Nat → Nat, ad (mm_ext + 300) = b ∧ XX ad (fun q => s.heap.size ≤ q) s s.heap := by
  have hs := flat_of_before _ hgv
  have hA : ∀ a : Nat, a < s.heap.size → ¬ (fun q => s.heap.size ≤ q) a := fun a h => Nat.not_le.mpr h
  have ht : ∀ {c : Cond} (i : Nat), tL[i]? = some c → c.before #[Value.ref b] s = true := fun i hc => hts _ (t_x _ (List.mem_of_getElem? hc))
  have hx : ∀ {c : Cond} (i : Nat), gL[i]? = some c → c.before #[Value.ref b] s = true := fun i hc => hs _ (g_x _ (List.mem_of_getElem? hc))
  obtain ⟨r, hr, hT⟩ := va_Tof (tm := tR) (ty := .int) (N := 19) (f := fun j => .int (px_rk j)) (by decide) (hx 0 rfl) (va_eqt (hx 1 rfl)) (fun j hj => va_eqt (hs _ (g_rk j hj))) hA
  have hZ := va_Zof (C := "HiddenSums") (n := "RANKS") (d := "[I") (ht 0 rfl) (ht 1 rfl) hr hA
  obtain ⟨aK, aV, hS, hE⟩ := vk_Sof (tm := nS) (N := 5) (len := mm_sl5) (byt := mm_sb5) (by decide) (fun i hi => hs _ (g_s1 i hi)) (fun i hi => hs _ (g_s2 i hi)) (fun i hi => hs _ (g_s3 i hi)) (fun i hi => hs _ (g_s4 i hi)) (fun i hi j hj => hs _ (g_s5 i hi j hj)) (fun i j hi hj hn => (g_s6 i hi j hj hn).imp (hs _) (hs _)) hA
  have hC := va_Zof (C := "java/lang/String") (n := "COMPACT_STRINGS") (d := "Z") (ht 2 rfl) (ht 3 rfl) (va_eqi (hx 2 rfl)) hA
  have hQ := va_Zqof (C := "jdk/internal/util/Preconditions") (n := "SIOOBE_FORMATTER") (d := "Ljava/util/function/BiFunction;") (ht 4 rfl) (ht 5 rfl) (hx 3 rfl) hA
  obtain ⟨sf, hQ⟩ : ∃ sf, va_Z "jdk/internal/util/Preconditions" "SIOOBE_FORMATTER" "Ljava/util/function/BiFunction;" .null (fun q => s.heap.size ≤ q) s s.heap ∨ va_Z "jdk/internal/util/Preconditions" "SIOOBE_FORMATTER" "Ljava/util/function/BiFunction;" (.ref sf) (fun q => s.heap.size ≤ q) s s.heap := by
    rcases hQ with h | ⟨t, h⟩
    · exact ⟨0, Or.inl h⟩
    · exact ⟨t, Or.inr h⟩
  refine ⟨xad r sf b aK aV, xad_300, ⟨?_, ?_, va_Nw.of rfl (ht 9 rfl), fun q hq => va_Nw.of rfl (hts _ (t_n q hq)), va_AO.of (ht 10 rfl), va_AO.of (ht 11 rfl), fun j hj => ?_, ⟨fun i hi => ?_, fun i j hi hj h => ?_⟩, hC, ?_⟩, vx_Zqof (ht 6 rfl) (ht 8 rfl) (hx 4 rfl) hA, vx_Zqof (ht 7 rfl) (ht 8 rfl) (hx 5 rfl) hA, fun j hj => ?_, fun y hy => ?_, fun y hy => ?_, va_Nc.of (hx 6 rfl), va_Nc.of (hx 7 rfl), va_Nc.of (hx 8 rfl)⟩
  · rw [xad_0]; exact hZ
  · rw [xad_0]; exact hT
  · rw [xad_K hj]; exact vk_R.of (hts _ (t_s j hj)) (hE j hj)
  · show va_O _ (xad r sf b aK aV (mm_ext + (i + 1))) _ _ _ ∧ va_OF _ _ _ _ (xad r sf b aK aV (mm_ext + (i + 1))) _ _ _ ∧ va_OF _ _ _ (.ref (xad r sf b aK aV (mm_ext + (i + 101)))) (xad r sf b aK aV (mm_ext + (i + 1))) _ _ _ ∧ va_T _ (xad r sf b aK aV (mm_ext + (i + 101))) _ _ _ _ _
    rw [xad_K hi, xad_V hi]; exact hS.1 i hi
  · have h : xad r sf b aK aV (mm_ext + (i + 1)) = xad r sf b aK aV (mm_ext + (j + 1)) := h
    rw [xad_K hi, xad_K hj] at h; exact hS.2 i j hi hj h
  · rw [xad_50]; exact hQ
  · obtain ⟨a, -, -, -, he, -⟩ := Cond.exactly_spec (hs _ (g_m j hj))
    exact ⟨a, vk_R.of (hts _ (t_m j hj)) he⟩
  · rcases hy with rfl | rfl | rfl
    · exact va_Nw.of rfl (ht 12 rfl)
    · exact va_Nw.of rfl (ht 13 rfl)
    · exact va_Nw.of rfl (ht 14 rfl)
  · rcases hy with rfl | rfl | rfl
    · exact va_Nw.of rfl (ht 15 rfl)
    · exact va_Nw.of rfl (ht 16 rfl)
    · exact va_Nw.of rfl (ht 17 rfl)
