/-! calls that throw: value, sum -/
def mm_tx (n : Nat) (Q : mm_Q) : mm_K := fun _ st μ κ => st = [] ∧ κ = (0, 0) ∧ Q (some (.retAddr n)) μ
theorem e_tx {n : Nat} {Q : mm_Q} {lv : mm_L} {μ : mm_M} : mm_tx n Q lv [] μ (0, 0) = Q (some (.retAddr n)) μ := by
  unfold mm_tx
  simp
def vb_value (J : mm_J) (C : mm_C) (Q : mm_Q) : mm_J := fun t => match t with
  | 0 => mm_lda 0 <| mm_ldi 1 <| mm_cav 80 2 6 C <| mm_ifc .eq 1 J <| mm_lda 0 <| mm_ldi 2 <| mm_cav 79 2 6 C <| mm_ifc .eq 1 J <| mm_ldi 3 <| mm_cas 81 1 C <| mm_ifc .ne 2 J <| mm_go 1 J
  | 1 => mm_tx 1 Q
  | 2 => mm_lda 0 <| mm_get [6, 10, 2] <| mm_cav 1 1 0 C <| mm_ifc .eq 3 J <| mm_tx 2 Q
  | 3 => mm_cst (.int 1) <| mm_ldi 2 <| mm_ii (fun x y => x <<< (y &&& 31)) <| mm_sti 4 <| mm_lda 0 <| mm_lda 0 <| mm_get [6, 2, 2] <| mm_ldi 1 <| mm_rld "HiddenSums$User" <| mm_ldi 3 <| mm_cav 90 3 6 C <| mm_ldi 4 <| mm_ii (fun x y => x &&& y) <| mm_ifc .ne 4 J <| mm_lda 0 <| mm_lda 0 <| mm_get [6, 2, 2] <| mm_ldi 1 <| mm_rld "HiddenSums$User" <| mm_ldi 3 <| mm_ldi 4 <| mm_cav 93 4 6 C <| mm_ifc .ne 5 J <| mm_go 4 J
  | 4 => mm_lda 0 <| mm_get [6, 10, 2] <| mm_ldi 1 <| mm_cst (.int 1) <| mm_ldi 2 <| mm_ldi 3 <| mm_cst (.int 1) <| mm_cav 2 6 0 C <| mm_tx 3 Q
  | 5 => mm_lda 0 <| mm_get [6, 10, 2] <| mm_ldi 1 <| mm_cst (.int 1) <| mm_ldi 2 <| mm_ldi 3 <| mm_cst (.int 0) <| mm_cav 2 6 0 C <| mm_lda 0 <| mm_get [6, 0, 2] <| mm_ldi 2 <| mm_cst (.int 4) <| mm_ii (fun x y => x * y) <| mm_ldi 3 <| mm_ii (fun x y => x + y) <| mm_ald .int <| mm_ret Q
  | _ => fun _ _ _ _ => False
def vb_sum (J : mm_J) (C : mm_C) (Q : mm_Q) : mm_J := fun t => match t with
  | 0 => mm_lda 0 <| mm_ldi 1 <| mm_cav 80 2 6 C <| mm_ifc .eq 1 J <| mm_ldi 2 <| mm_cas 81 1 C <| mm_ifc .eq 1 J <| mm_lda 0 <| mm_ldi 3 <| mm_cav 82 2 6 C <| mm_ifc .ne 2 J <| mm_go 1 J
  | 1 => mm_tx 1 Q
  | 2 => mm_lda 0 <| mm_get [6, 10, 2] <| mm_cav 1 1 0 C <| mm_ifc .eq 3 J <| mm_tx 2 Q
  | 3 => mm_lda 0 <| mm_lda 0 <| mm_get [6, 2, 2] <| mm_ldi 1 <| mm_rld "HiddenSums$User" <| mm_ldi 2 <| mm_ldi 3 <| mm_cav 93 4 6 C <| mm_ifc .ne 4 J <| mm_lda 0 <| mm_get [6, 10, 2] <| mm_ldi 1 <| mm_cst (.int 2) <| mm_ldi 2 <| mm_ldi 3 <| mm_cst (.int 1) <| mm_cav 2 6 0 C <| mm_tx 3 Q
  | 4 => mm_lda 0 <| mm_get [6, 10, 2] <| mm_ldi 1 <| mm_cst (.int 2) <| mm_ldi 2 <| mm_ldi 3 <| mm_cst (.int 0) <| mm_cav 2 6 0 C <| mm_lda 0 <| mm_ldi 2 <| mm_ldi 3 <| mm_cav 91 3 6 C <| mm_ret Q
  | _ => fun _ _ _ _ => False
def Ax (d : Nat) (b : mm_J → mm_C → mm_Q → mm_J) (Q : mm_Q) : mm_J := mm_Lf (fun J => b J (Ev d) Q)
def Xv (d : Nat) (b : mm_J → mm_C → mm_Q → mm_J) (nL : Nat) (as : List Value) (μ : mm_M) (Q : mm_Q) : Prop := mm_sum as ≤ nL ∧ Ax d b Q 0 (mm_en as nL) [] μ (0, 0)
theorem ax_step {d : Nat} {b : mm_J → mm_C → mm_Q → mm_J} {Q : mm_Q} {t : Nat} {lv : mm_L} {st : List Value} {μ : mm_M} {κ : Nat × Nat} (h : b (Ax d b Q) (Ev d) Q t lv st μ κ) : Ax d b Q t lv st μ κ := mm_Lf_step h
theorem xv_step {d : Nat} {b : mm_J → mm_C → mm_Q → mm_J} {Q : mm_Q} {nL : Nat} {as : List Value} {μ : mm_M} (h0 : mm_sum as ≤ nL) (h : b (Ax d b Q) (Ev d) Q 0 (mm_en as nL) [] μ (0, 0)) : Xv d b nL as μ Q := ⟨h0, ax_step h⟩
def VQ (K : Int32 → mm_M → Prop) (T : Nat → mm_M → Prop) : mm_Q := fun r μ => match r with
  | some (.int v) => K v μ
  | some (.retAddr n) => T n μ
  | _ => False
theorem VQ_i {K : Int32 → mm_M → Prop} {T : Nat → mm_M → Prop} {v : Int32} {μ : mm_M} : VQ K T (some (.int v)) μ = K v μ := rfl
theorem VQ_t {K : Int32 → mm_M → Prop} {T : Nat → mm_M → Prop} {n : Nat} {μ : mm_M} : VQ K T (some (.retAddr n)) μ = T n μ := rfl
theorem tl_cg {key : Int32} {f g f' g' : Nat → Int32} : ∀ D, (∀ q, q < D → f' q = f q ∧ g' q = g q) → tl key f' g' D = tl key f g D
  | 0, _ => rfl
  | D + 1, h => by
    unfold tl
    rw [(h D (by omega)).1, (h D (by omega)).2, tl_cg D (fun q hq => h q (by omega))]
theorem Inv_T {μ μ2 : mm_M} {N U L F E D k j : Nat} {b x1 x2 x3 x4 x5 : Int32} (hL : Ly μ) (hc : CN μ N U L F E D) (he : EQ μ) (ht : TB μ L) (hd : TD μ N U D) (hu : ∀ u, u < U → US μ N D u) (hk : k < U) (hj : j < 4) (hE : E < 150)
    (hS : Fr [0, 5, 6, 12, 13, 14, 16, 26 + 16 * k + 2 * j, 81, 89, 91, 92, 93, 94, 95, 96, 97] μ μ2) (w0 : ∀ q, ¬ q = 9 → mm_i μ2 0 q = mm_i μ 0 q) (h09 : mm_i μ2 0 9 = 1) (w81 : ∀ q, ¬ q = 0 → ¬ q = 13 → ¬ q = 18 → q < 19 → mm_i μ2 81 q = mm_i μ 81 q)
    (h51 : mm_i μ2 5 1 = nI (E + 1)) (h13 : mm_i μ2 81 13 = nI (E + 1)) (h18 : mm_i μ2 81 18 = nI (D + 1)) (h6 : mm_i μ2 6 = nt5 (mm_i μ 6) E x1 x2 x3 x4 x5) (h89 : mm_i μ2 89 = nt5 (mm_i μ 89) E x1 x2 x3 x4 x5)
    (h91 : ∀ q, mm_i μ2 91 q = if q = D then nI (4 * k + j) else mm_i μ 91 q) (h92 : ∀ q, mm_i μ2 92 q = if q = D then b else mm_i μ 92 q) (hb0 : ¬ b = 0) (hb : ∀ i, N ≤ i → bv b i = 0)
    (hR : RD (rwv μ2 (26 + 16 * k + 2 * j)) (bv b :: (tl (nI (4 * k + j)) (mm_i μ 91) (mm_i μ 92) D).map bv)) : Inv μ2 := by
  obtain ⟨⟨a1, a2, a3⟩, ⟨b1, b2', b3⟩, ⟨c1, c2, c3⟩, d1, ⟨e1, e2, e3⟩, ⟨f1, f2, f3⟩, g1, g2, g3⟩ := hc
  refine ⟨hS.ly hL, N, U, L, F, E + 1, D + 1, ⟨⟨by rw [w0 1 (by decide)]; exact a1, by rw [w81 1 (by decide) (by decide) (by decide) (by decide)]; exact a2, a3⟩, ⟨by rw [w0 3 (by decide)]; exact b1, by rw [w81 2 (by decide) (by decide) (by decide) (by decide)]; exact b2', b3⟩, ⟨by rw [w0 5 (by decide)]; exact c1, by rw [w81 5 (by decide) (by decide) (by decide) (by decide)]; exact c2, c3⟩, by rw [w0 6 (by decide), w81 6 (by decide) (by decide) (by decide) (by decide)]; exact d1, ⟨by rw [w0 8 (by decide)]; exact e1, by rw [w81 15 (by decide) (by decide) (by decide) (by decide)]; exact e2, e3⟩, ⟨h51, h13, by omega⟩, h18, by omega, by rw [h09, b2_t (by omega)]⟩, ⟨by rw [hS.i (by simp <;> omega), hS.i (by simp <;> omega)]; exact he.1, by rw [hS.i (by simp <;> omega), hS.i (by simp <;> omega)]; exact he.2.1, by rw [h6, h89, he.2.2]⟩, TB_keep ht (hS.i (by simp <;> omega)) (hS.i (by simp <;> omega)), fun q hq => ?_, fun w hw => ?_⟩
  · rw [h91, h92]
    by_cases e : q = D
    · rw [if_pos e, if_pos e]
      exact ⟨hb0, hb, k, j, hk, hj, rfl⟩
    · rw [if_neg e, if_neg e]
      exact hd q (by omega)
  · have hU := hu w hw
    have i17 : mm_i μ2 (17 + 16 * w) = mm_i μ (17 + 16 * w) := hS.i (by simp <;> omega)
    refine ⟨by rw [i17, hS.i (by simp <;> omega)]; exact hU.1, URt_k hU.2.1 (fun c _ _ => hS.i (by simp <;> omega)) (fun q _ _ => by rw [hS.i (by simp <;> omega)]) (by rw [hS.i (by simp <;> omega)]), UCu_k hU.2.2.1 (by rw [i17]) (by rw [i17]) (fun c _ _ => hS.i (by simp <;> omega)) (fun q _ _ => by rw [hS.i (by simp <;> omega)]) (by rw [hS.i (by simp <;> omega)]) (by rw [hS.i (by simp <;> omega)]) (by rw [hS.i (by simp <;> omega)]), fun f hf => ?_⟩
    have et : ∀ key, tl key (mm_i μ2 91) (mm_i μ2 92) D = tl key (mm_i μ 91) (mm_i μ 92) D := fun key => tl_cg D (fun q hq => ⟨by rw [h91, if_neg (by omega)], by rw [h92, if_neg (by omega)]⟩)
    rw [show tl (nI (4 * w + f)) (mm_i μ2 91) (mm_i μ2 92) (D + 1) = if mm_i μ2 91 D = nI (4 * w + f) ∧ ¬ mm_i μ2 92 D = 0 then mm_i μ2 92 D :: tl (nI (4 * w + f)) (mm_i μ2 91) (mm_i μ2 92) D else tl (nI (4 * w + f)) (mm_i μ2 91) (mm_i μ2 92) D from rfl, et, h91, h92, if_pos rfl, if_pos rfl]
    by_cases e : 4 * w + f = 4 * k + j
    · have ew : w = k := by omega
      have ef : f = j := by omega
      subst ew ef
      rw [if_pos ⟨rfl, hb0⟩]
      exact hR
    · rw [if_neg (fun z => e (nI_inj (by omega) (by omega) z.1).symm), rwv_k (hS.l (by simp <;> omega) : mm_l μ2 (26 + 16 * w + 2 * f) = mm_l μ (26 + 16 * w + 2 * f))]
      exact hU.2.2.2 f hf
