/-! a method's contract out of its blocks; all calls of a depth out of those of the depth below -/
theorem mm_sl_len : ∀ (vs : List Value), (lg_sl vs).length = mm_sum vs
  | [] => rfl
  | v :: vs => by
    have ih := mm_sl_len vs
    unfold lg_sl at ih ⊢
    rw [List.flatMap_cons, List.length_append, ih, mm_sum]
    rcases lv_cat v with h | h <;> simp [h]
theorem mm_sum_map (ad : Nat → Nat) : ∀ (vs : List Value), mm_sum (vs.map (mm_cv ad)) = mm_sum vs
  | [] => rfl
  | v :: vs => by simp only [List.map_cons, mm_sum]; rw [mm_cv_cat, mm_sum_map ad vs]
/-- the blocks of method y (class own, its contract's row in tab, its text body, where its blocks stand) are sound, whatever the depth -/
def mm_BS (l : Launch) (D : va_G) (cl : List vw_C) (Ts : List Cond) (EXT : (Nat → Nat) → (Nat → Prop) → State → Heap → Prop) (tab : Nat → mm_T) (y : Nat) (body : mm_J → mm_C → mm_Q → mm_J) (pcs : Nat → Nat) : Prop :=
  ∀ (d : Nat) (C : mm_C), mm_CS l D cl Ts EXT tab d C → ∀ (p : Program) (e : Env) (s : State) (m : MethodId) (args : Array Value) (below : List Frame) (meth : Method) (c : Code) (A : Nat → Prop) (ad0 : Nat → Nat) (cA0 : Nat → ClassId) (μ0 : mm_M) (free : Addr → Prop) (Q : mm_Q) (J : mm_J),
    mm_cx p (mm_rm (d + 1) (tab y).2.2.2.2.1 (tab y).2.2.2.2.2) s m args c (tab y).2.1 (tab y).1.cls Ts A D cl (tab y).2.2.1 → meth.sig.returnType = (tab y).2.2.2.1 → meth.locks = false → meth.name = (tab y).1.name → (∀ q, A q → free q) →
    (∀ t, mm_SK p l e (mm_rm (d + 1) (tab y).2.2.2.2.1 (tab y).2.2.2.2.2) s m args below meth c (MQ below (mm_Qc D cl Q ad0 cA0 μ0 (tab y).2.2.2.2.1 A) args s (tab y).2.2.2.2.1 (tab y).2.2.2.2.2 free) D cl A (tab y).2.2.1 (mm_EX EXT A s ad0 cA0 (mm_n μ0)) (pcs t) (J t)) →
    ∀ t, mm_SK p l e (mm_rm (d + 1) (tab y).2.2.2.2.1 (tab y).2.2.2.2.2) s m args below meth c (MQ below (mm_Qc D cl Q ad0 cA0 μ0 (tab y).2.2.2.2.1 A) args s (tab y).2.2.2.2.1 (tab y).2.2.2.2.2 free) D cl A (tab y).2.2.1 (mm_EX EXT A s ad0 cA0 (mm_n μ0)) (pcs t) (body J C Q t)
theorem mm_met {l : Launch} {D : va_G} {cl : List vw_C} {Ts : List Cond} {EXT : (Nat → Nat) → (Nat → Prop) → State → Heap → Prop} {tab : Nat → mm_T} {P : Nat → mm_D} {d y : Nat} {pcs : Nat → Nat} (h0 : pcs 0 = 0) (hp1 : (P y).1 = (tab y).2.2.1) (hpl : plainName (tab y).1.cls = true) (hB : mm_BS l D cl Ts EXT tab y (P y).2.2 pcs) (hC : mm_CS l D cl Ts EXT tab d (mm_Ev P d)) {as : List Value} {μ : mm_M} {Q : mm_Q} (hq : mm_Ev P (d + 1) y as μ Q) (ad : Nat → Nat) (cA : Nat → ClassId) (sz : Nat) :
    Met l (tab y).1 (.code (tab y).1 (tab y).2.1 (tab y).2.2.1 (tab y).2.2.2.1 :: Ts) (mm_rm (d + 1) (tab y).2.2.2.2.1 (tab y).2.2.2.2.2) (mm_Pc D cl EXT ad cA μ as sz) (mm_Qc D cl Q ad cA μ (tab y).2.2.2.2.1 (va_A (mm_wd ad cA μ) sz)) (tab y).2.2.2.2.1 (tab y).2.2.2.2.2 (va_A (mm_wd ad cA μ) sz) := by
  refine Met.ofW (cc := (tab y).2.1) (maxL := (tab y).2.2.1) (ret := (tab y).2.2.2.1) hpl rfl ?_
  intro p e s m args below meth c s₁ B hml hv
  obtain ⟨rfl, hsz, hP, hK, hD0, hok, hx⟩ := hv
  subst hsz
  have hts0 := atoms_spec (ws := (.code (tab y).1 (tab y).2.1 (tab y).2.2.1 (tab y).2.2.2.1 :: Ts)) B.pre
  have hD := hD0.self (sz := s.heap.size)
  obtain ⟨hfit, hlf⟩ := hq
  have X : mm_cx p (mm_rm (d + 1) (tab y).2.2.2.2.1 (tab y).2.2.2.2.2) s m (as.map (mm_cv ad)).toArray c (tab y).2.1 (tab y).1.cls Ts (va_A (mm_wd ad cA μ) s.heap.size) D cl (tab y).2.2.1 :=
    ⟨B.exec, B.bytes, hml, findClass_of_methodNamed B.named, fun w hw => hts0 w (List.mem_cons_of_mem _ hw), fun q h => Or.inr h, hK⟩
  have key := hlf (fun t => mm_WW p l e (mm_rm (d + 1) (tab y).2.2.2.2.1 (tab y).2.2.2.2.2) s m (as.map (mm_cv ad)).toArray below meth c (MQ below (mm_Qc D cl Q ad cA μ (tab y).2.2.2.2.1 (va_A (mm_wd ad cA μ) s.heap.size)) (as.map (mm_cv ad)).toArray s (tab y).2.2.2.2.1 (tab y).2.2.2.2.2 (va_A (mm_wd ad cA μ) s.heap.size)) D cl (va_A (mm_wd ad cA μ) s.heap.size) (tab y).2.2.1 (mm_EX EXT (va_A (mm_wd ad cA μ) s.heap.size) s ad cA (mm_n μ)) (pcs t)) ?_
  · have hl := lv_entry (as.map (mm_cv ad)) (n := (tab y).2.2.1) (by rw [mm_sl_len, mm_sum_map, ← hp1]; exact hfit)
    rw [lg_entry_eq]
    have kw := key ad cA s.heap [] _ ⟨hx, fun _ _ => rfl, Nat.le_refl _, fun _ => ⟨rfl, rfl, rfl⟩⟩ ⟨hP, hD, va_S.rf, hok⟩ ⟨hl.1, hl.2.1, fun i v hi => ?_⟩ (Nat.zero_le _) (Nat.zero_le _)
    · rw [h0] at kw
      exact kw
    · have := mm_en_at ad _ as 0 i v hi
      rw [Nat.zero_add] at this
      exact hl.2.2 _ this
  · rintro t lv st μ1 κ ⟨Y, hY, hF⟩
    exact hB d (mm_Ev P d) hC p e s m _ below meth c _ ad cA μ _ Q Y X B.returns B.notSynchronized (name_of_methodNamed B.named B.method).1 (fun q h => h) (fun t lv st μ κ h => hY t lv st μ κ h) t lv st μ1 κ hF
theorem mm_CS_0 {l : Launch} {D : va_G} {cl : List vw_C} {Ts : List Cond} {EXT : (Nat → Nat) → (Nat → Prop) → State → Heap → Prop} {tab : Nat → mm_T} {P : Nat → mm_D} : mm_CS l D cl Ts EXT tab 0 (mm_Ev P 0) := fun _ _ _ _ h => h.elim
/-- all calls that end, by depth: each method's blocks are sound -/
theorem mm_CS_all {l : Launch} {D : va_G} {cl : List vw_C} {Ts : List Cond} {EXT : (Nat → Nat) → (Nat → Prop) → State → Heap → Prop} {tab : Nat → mm_T} {P : Nat → mm_D} (hall : ∀ y, ((P y).2.2 = fun _ _ _ _ _ _ _ _ => False) ∨ ∃ pcs : Nat → Nat, pcs 0 = 0 ∧ (P y).1 = (tab y).2.2.1 ∧ plainName (tab y).1.cls = true ∧ mm_BS l D cl Ts EXT tab y (P y).2.2 pcs) : ∀ d, mm_CS l D cl Ts EXT tab d (mm_Ev P d)
  | 0 => mm_CS_0
  | d + 1 => by
    intro y as μ Q hq ad cA sz
    rcases hall y with h | ⟨pcs, h0, h1, h2, h3⟩
    · exfalso
      have h5 := hq.2
      rw [h] at h5
      exact h5 (fun _ _ _ _ _ => False) (fun _ _ _ _ _ ⟨_, _, h⟩ => h)
    · exact mm_met h0 h1 h2 h3 (mm_CS_all hall d) hq ad cA sz
