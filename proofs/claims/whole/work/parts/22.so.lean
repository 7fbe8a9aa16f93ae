/-! new cells, copies, calls, returns, methods -/
theorem mm_cv_ad {ad ad' : Nat → Nat} {n : Nat} (h : ∀ i, i < n ∨ mm_ext ≤ i → ad' i = ad i) : ∀ {v : Value}, mm_vk n v → mm_cv ad' v = mm_cv ad v
  | .ref a, hv => by simp only [mm_cv]; rw [h a hv]
  | .int _, _ => rfl
  | .long _, _ => rfl
  | .float _, _ => rfl
  | .double _, _ => rfl
  | .null, _ => rfl
  | .retAddr _, _ => rfl
theorem mm_ks_map {ad ad' : Nat → Nat} {n : Nat} (h : ∀ i, i < n ∨ mm_ext ≤ i → ad' i = ad i) : ∀ {st : List Value}, mm_ks n st → st.map (mm_cv ad') = st.map (mm_cv ad)
  | [], _ => rfl
  | v :: st, hs => by simp only [List.map_cons]; rw [mm_cv_ad h hs.1, mm_ks_map h hs.2]
theorem mm_kv_at {n : Nat} : ∀ {lv : mm_L} {i : Nat} {v : Value}, mm_kv n lv → mm_lg lv i = some v → mm_vk n v
  | [], i, v, _, h => by simp [mm_lg] at h
  | some u :: lv, 0, v, hk, h => by simp [mm_lg] at h; subst h; exact hk.1
  | some u :: lv, i + 1, v, hk, h => mm_kv_at (lv := lv) (i := i) hk.2 h
  | none :: lv, 0, v, _, h => by simp [mm_lg] at h
  | none :: lv, i + 1, v, hk, h => mm_kv_at (lv := lv) (i := i) hk h
theorem mm_Lh_ad {nL : Nat} {ad ad' : Nat → Nat} {ls : Array Slot} {lv : mm_L} {n : Nat} (h : ∀ i, i < n ∨ mm_ext ≤ i → ad' i = ad i) (hk : mm_kv n lv) (hL : mm_Lh nL ad ls lv) : mm_Lh nL ad' ls lv :=
  ⟨hL.1, hL.2.1, fun i v hv => by rw [mm_cv_ad h (mm_kv_at hk hv)]; exact hL.2.2 i v hv⟩
theorem mm_fl_ad {ad ad' : Nat → Nat} {μ : mm_M} {a : Nat} (h : ∀ f b, mm_r μ a f = some b → ad' b = ad b) : ∀ (r : List Nat) (f : Nat), mm_fl ad' μ a f r = mm_fl ad μ a f r
  | [], f => rfl
  | kd :: r, f => by
    simp only [mm_fl]
    rw [mm_fl_ad h r (f + 1)]
    congr 1
    unfold mm_fv
    split
    · congr 1
      cases hb : mm_r μ a f with
      | none => rfl
      | some b => simp [h f b hb]
    · rfl
theorem mm_ce_ad {ad ad' : Nat → Nat} {cA cA' : Nat → ClassId} {μ : mm_M} {a : Nat} (h : ∀ f b, mm_r μ a f = some b → ad' b = ad b) (hc : cA' a = cA a) : mm_ce ad' cA' μ a = mm_ce ad cA μ a := by
  unfold mm_ce
  split
  · rw [hc]
    congr 3
    unfold mm_ar
    split
    · rfl
    · congr 4
      funext j
      cases hb : mm_r μ a j with
      | none => rfl
      | some b => simp [h j b hb]
    · rfl
  · rw [mm_fl_ad h]
theorem mm_wd_na {ad : Nat → Nat} {cA : Nat → ClassId} {μ : mm_M} {z : (FieldType × Nat) ⊕ Nat} {q : Nat} {x : ClassId} (h3 : ∀ a f b, mm_r μ a f = some b → b < mm_n μ) :
    mm_wd (va_up ad (mm_n μ) q) (va_up cA (mm_n μ) x) (mm_na μ z) = mm_wd ad cA μ ++ [(q, mm_ce (va_up ad (mm_n μ) q) (va_up cA (mm_n μ) x) (mm_na μ z) (mm_n μ))] := by
  show (List.range (mm_n μ + 1)).map _ = _
  rw [List.range_succ, List.map_append]
  congr 1
  · unfold mm_wd
    apply List.map_congr_left
    intro i hi
    have hi : i < mm_n μ := List.mem_range.mp hi
    have hne : i ≠ mm_n μ := by omega
    congr 1
    · exact va_up_ne ad q hne
    · refine (mm_ce_congr ?_ ?_ ?_ ?_).trans (mm_ce_ad (fun f b hb => va_up_ne ad q (by have := h3 i f b hb; omega)) (va_up_ne cA x hne))
      · funext j; simp [mm_i, mm_na, hne]
      · funext j; simp [mm_l, mm_na, hne]
      · funext j; simp [mm_r, mm_na, hne]
      · simp [mm_z, mm_na, hne]
  · simp [va_up]
theorem mm_ag_na {ad : Nat → Nat} {n q : Nat} (hn : n < mm_ext) : ∀ i, i < n ∨ mm_ext ≤ i → va_up ad n q i = ad i := fun i hi => va_up_ne ad q (by omega)
def mm_dl : List Nat → List Value
  | [] => []
  | 2 :: r => .null :: mm_dl r
  | _ :: r => .int 0 :: mm_dl r
theorem mm_fl_na {ad : Nat → Nat} {μ : mm_M} {z : (FieldType × Nat) ⊕ Nat} : ∀ (r : List Nat) (f : Nat), mm_fl ad (mm_na μ z) (mm_n μ) f r = mm_dl r
  | [], f => rfl
  | kd :: r, f => by
    simp only [mm_fl]
    rw [mm_fl_na r (f + 1)]
    unfold mm_fv
    split
    · simp [mm_dl, mm_r, mm_na, va_rf]
    · rename_i h
      rw [mm_dl]
      · simp [mm_i, mm_na]
      · exact h
theorem mm_ok_na {s : State} {cA : Nat → ClassId} {μ : mm_M} {z : (FieldType × Nat) ⊕ Nat} {x : ClassId} (h : mm_ok s cA μ) (hz : ∀ q, z = .inl q → ArrOfT s x q.1 ∧ va_RA s x q.1) : mm_ok s (va_up cA (mm_n μ) x) (mm_na μ z) := by
  refine ⟨fun a q hq => ?_, fun a ci hq hc => ?_, fun a f b hb => ?_⟩
  · show a < mm_n μ + 1 ∧ _
    simp only [mm_z, mm_na] at hq
    by_cases ha : a = mm_n μ
    · rw [if_pos ha] at hq
      rw [ha, va_up_self]
      exact ⟨by omega, hz q hq⟩
    · rw [if_neg ha] at hq
      rw [va_up_ne cA x ha]
      have := h.1 a q hq
      exact ⟨by omega, this.2⟩
  · show a < mm_n μ + 1
    simp only [mm_z, mm_na] at hq
    by_cases ha : a = mm_n μ
    · omega
    · rw [if_neg ha] at hq
      have := h.2.1 a ci hq hc
      omega
  · show b < mm_n μ + 1
    simp only [mm_r, mm_na] at hb
    split at hb
    · cases hb
    · have := h.2.2 a f b hb
      omega
/-- the room of a call of depth d -/
def mm_rm (d mc ms : Nat) : Room := { frames := d, cells := mc, slots := ms, locals := 256 * d }
/-- what the machine holds beside the cells: it stays while nobody writes it -/
def mm_xo (EXT : (Nat → Nat) → (Nat → Prop) → State → Heap → Prop) : Prop :=
  (∀ ad A (u U : State) H, (u.WarmedH U.vm ∨ u.vm = U.vm) → EXT ad A u H → EXT ad A U H) ∧ (∀ ad A U (H H1 : Heap), EXT ad A U H → (∀ a : Nat, a < H.size → ¬ A a → H1[a]? = H[a]?) → EXT ad A U H1) ∧ (∀ ad (A B : Nat → Prop) U H, EXT ad A U H → (∀ q, B q → A q) → EXT ad B U H) ∧ ∀ ad ad' A U H, EXT ad A U H → (∀ i, mm_ext ≤ i → ad' i = ad i) → EXT ad' A U H
/-- a contract's start and end -/
def mm_Pc (D : va_G) (cl : List vw_C) (EXT : (Nat → Nat) → (Nat → Prop) → State → Heap → Prop) (ad : Nat → Nat) (cA : Nat → ClassId) (μ : mm_M) (as : List Value) (sz : Nat) : Array Value → State → Prop :=
  va_Pc (as.map (mm_cv ad)) (fun U => U.heap.size = sz ∧ va_P D cl (mm_wd ad cA μ) U.heap ∧ va_K D cl [] U ∧ va_D (fun _ => True) (mm_wd ad cA μ) ∧ mm_ok U cA μ ∧ EXT ad (va_A (mm_wd ad cA μ) sz) U U.heap)
def mm_Qc (D : va_G) (cl : List vw_C) (Q : mm_Q) (ad : Nat → Nat) (cA : Nat → ClassId) (μ : mm_M) (mc : Nat) (A : Nat → Prop) : Array Value → State → Outcome → State → Prop := fun _ st oc t =>
  (∃ v μ' ad' cA', oc = .returned (v.map (mm_cv ad')) ∧ Q v μ' ∧ (∀ i, i < mm_n μ ∨ mm_ext ≤ i → ad' i = ad i) ∧ mm_n μ ≤ mm_n μ' ∧ (mc = 0 → ad' = ad ∧ cA' = cA ∧ mm_n μ' = mm_n μ) ∧ va_P D cl (mm_wd ad' cA' μ') t.heap ∧ va_D A (mm_wd ad' cA' μ') ∧ mm_ok t cA' μ') ∧ va_F A st t
/-- the table of the methods: name, bytes, words of locals, what it returns, cells and slots -/
abbrev mm_T : Type := MethodName × ByteArray × Nat × Option FieldType × Nat × Nat
def mm_CS (l : Launch) (D : va_G) (cl : List vw_C) (Ts : List Cond) (EXT : (Nat → Nat) → (Nat → Prop) → State → Heap → Prop) (tab : Nat → mm_T) (d : Nat) (C : mm_C) : Prop :=
  ∀ y as μ Q, C y as μ Q → ∀ (ad : Nat → Nat) (cA : Nat → ClassId) (sz : Nat), Met l (tab y).1 (.code (tab y).1 (tab y).2.1 (tab y).2.2.1 (tab y).2.2.2.1 :: Ts) (mm_rm d (tab y).2.2.2.2.1 (tab y).2.2.2.2.2) (mm_Pc D cl EXT ad cA μ as sz) (mm_Qc D cl Q ad cA μ (tab y).2.2.2.2.1 (va_A (mm_wd ad cA μ) sz)) (tab y).2.2.2.2.1 (tab y).2.2.2.2.2 (va_A (mm_wd ad cA μ) sz)
theorem mm_ok_moved {u U : State} {cA : Nat → ClassId} {μ : mm_M} (hvm : u.vm.Alike U.vm) (h : mm_ok u cA μ) : mm_ok U cA μ :=
  ⟨fun a q hq => ⟨(h.1 a q hq).1, arrOfT_moved hvm (h.1 a q hq).2.1, (h.1 a q hq).2.2.moved hvm⟩, h.2⟩
theorem mm_blind {D : va_G} {cl : List vw_C} {EXT : (Nat → Nat) → (Nat → Prop) → State → Heap → Prop} (hX : mm_xo EXT) {ad : Nat → Nat} {cA : Nat → ClassId} {μ : mm_M} {as : List Value} {sz : Nat} : FrameBlind (mm_Pc D cl EXT ad cA μ as sz) := by
  intro a U g mk q
  obtain ⟨q0, q1, qP, qK, qD, qo, qe⟩ := q
  exact ⟨q0, q1, qP, va_K.moved (u := U) (U := U.calling g mk a) (Vm.Alike.refl U.vm) qK, qD, mm_ok_moved (u := U) (U := U.calling g mk a) (Vm.Alike.refl U.vm) qo, hX.1 _ _ U (U.calling g mk a) _ (Or.inr rfl) qe⟩
theorem mm_pa_v {P : List Value → List Value → Prop} : ∀ (n : Nat) (as st : List Value), mm_pa n as st P → ∃ bs st', st = bs ++ st' ∧ bs.length = n ∧ P (bs.reverse ++ as) st'
  | 0, as, st, h => ⟨[], st, rfl, rfl, h⟩
  | n + 1, as, v :: st, h => by
    obtain ⟨bs, st', e1, e2, e3⟩ := mm_pa_v n (v :: as) st h
    exact ⟨v :: bs, st', by rw [e1]; rfl, by simp [e2], by simpa using e3⟩
  | n + 1, as, [], h => h.elim
theorem mm_sum_cv {ad : Nat → Nat} : ∀ (st : List Value), ((st.map (mm_cv ad)).map fun v => v.category).sum = mm_sum st
  | [] => rfl
  | v :: st => by simp only [List.map_cons, List.sum_cons, mm_sum]; rw [mm_cv_cat, mm_sum_cv st]
theorem mm_ps_cv {ad : Nat → Nat} (v : Option Value) (st : List Value) : (v.map (mm_cv ad)).toList ++ st.map (mm_cv ad) = (mm_ps v st).map (mm_cv ad) := by cases v <;> rfl
section
variable {p : Program} {l : Launch} {e : Env} {R : Room} {s : State} {m : MethodId} {args : Array Value} {below : List Frame} {meth : Method} {c : Code} {Qw : State → Prop} {D : va_G} {cl : List vw_C} {A : Nat → Prop} {nL : Nat} {EX : (Nat → Nat) → (Nat → ClassId) → Nat → Nat × Nat → Prop} {cc : ByteArray} {own : String} {Ts : List Cond} {pc : Nat} {k : mm_K} {J : mm_J}
variable {EXT : (Nat → Nat) → (Nat → Prop) → State → Heap → Prop} {tab : Nat → mm_T} {d : Nat} {C : mm_C} {B : Nat × Nat}
theorem so_new (X : mm_cx p R s m args c cc own Ts A D cl nL) (hcl : ∀ ad cA n κ ad' cA' n' κ', EX ad cA n κ → (∀ i, i < n ∨ mm_ext ≤ i → ad' i = ad i) → n ≤ n' → 0 < (κ' : Nat × Nat).1 → EX ad' cA' n' κ') (hB : B.1 ≤ R.cells ∧ B.2 ≤ R.slots) {index ci N : Nat} {C : String} {T : u_T} (hc : cl[ci]? = some (C, T, N)) (hin : ∀ w ∈ u_ws C T N, w ∈ Ts) (ty0 : Nat → FieldType) (hty : ∀ k, k < N → parseFieldDescriptor (T k).2.2.1 = some (ty0 k)) (hdf : ∀ j, j < N → defaultValue (ty0 j) = vp_V (mm_dl (mm_fk ci)) j) (hw : Cond.classLink own index C ∈ Ts) (hi : Cond.instantiable C N ∈ Ts) (hn : Cond.initialized C ∈ Ts) (hd : decode cc pc = .ok (.new index, 3)) (K : mm_SK p l e R s m args below meth c Qw D cl A nL EX (pc + 3) k) : mm_SK p l e R s m args below meth c Qw D cl A nL EX pc (mm_new ci N B k) := by
  intro lv st μ κ h ad cA H locs ls hE hR hL h1 h2
  obtain ⟨g1, g2, g3, g4, g5, h⟩ := h
  refine va_new (D := D) (ci := ci) (fs := mm_dl (mm_fk ci)) (C := C) (T := T) (N := N) X.1 X.2.1 X.2.2.2.2.1 hin ty0 hty X.2.2.2.1 (X.2.2.2.2.1 _ hw) (X.2.2.2.2.1 _ hi) (X.2.2.2.2.1 _ hn) X.2.2.2.2.2.2 hR.1 hR.2.1 hR.2.2.1 X.2.2.2.2.2.1 hc hdf (by omega) (by omega) hd (fun q H1 hP hD hS => ?_)
  have e : mm_ce (va_up ad (mm_n μ) q) (va_up cA (mm_n μ) (cA 0)) (mm_na μ (.inr ci)) (mm_n μ) = .inr (ci, mm_dl (mm_fk ci)) := by
    have hz : mm_z (mm_na μ (.inr ci)) (mm_n μ) = .inr ci := by simp [mm_z, mm_na]
    simp only [mm_ce, hz]
    rw [mm_fl_na]
  have ew := mm_wd_na (ad := ad) (cA := cA) (z := .inr ci) (q := q) (x := cA 0) hR.2.2.2.2.2
  rw [e] at ew
  rw [← ew] at hP hD
  have ka := K lv _ _ _ h (va_up ad (mm_n μ) q) (va_up cA (mm_n μ) (cA 0)) H1 locs ls (hcl _ _ _ _ _ _ _ _ hE (mm_ag_na g1) (Nat.le_succ _) (Nat.succ_pos _)) ⟨hP, hD, hS, mm_ok_na hR.2.2.2 (fun q h => by cases h)⟩ (mm_Lh_ad (mm_ag_na g1) g3 hL) (by show κ.1 + 1 ≤ R.cells; omega) (by show κ.2 + N ≤ R.slots; omega)
  simp only [List.map_cons, mm_cv, va_up_self] at ka
  rw [mm_ks_map (mm_ag_na g1) g2] at ka
  exact ka
theorem so_naint (X : mm_cx p R s m args c cc own Ts A D cl nL) (hcl : ∀ ad cA n κ ad' cA' n' κ', EX ad cA n κ → (∀ i, i < n ∨ mm_ext ≤ i → ad' i = ad i) → n ≤ n' → 0 < (κ' : Nat × Nat).1 → EX ad' cA' n' κ') (hB : B.1 ≤ R.cells ∧ B.2 ≤ R.slots) (hw : Cond.arrayClass .int ∈ Ts) (hd : decode cc pc = .ok (.newarray .int, 2)) (K : mm_SK p l e R s m args below meth c Qw D cl A nL EX (pc + 2) k) : mm_SK p l e R s m args below meth c Qw D cl A nL EX pc (mm_nar .int B k) := by
  intro lv st μ κ h ad cA H locs ls hE hR hL h1 h2
  unfold mm_nar at h
  split at h
  · rename_i v st'
    obtain ⟨g1, g2, g3, g6, g7, g4, g5, h⟩ := h
    refine va_newa (D := D) (cl := cl) (atype := .int) (a0 := (v.toNatClampNeg, .inl (fun _ => 0))) (ty := .int) X.1 X.2.1 (X.2.2.2.2.1 _ hw) rfl X.2.2.2.2.2.2 hR.1 hR.2.1 hR.2.2.1 X.2.2.2.2.2.1 (fun cA => rfl) g6 rfl (by simp only [componentBytes]; omega) (by omega) (by omega) hd (fun q cX H1 hK1 hP hD hS => ?_)
    have e : mm_ce (va_up ad (mm_n μ) q) (va_up cA (mm_n μ) cX) (mm_na μ (.inl (.int, v.toNatClampNeg))) (mm_n μ) = .inl (cX, v.toNatClampNeg, .inl (fun _ => 0)) := by
      have hz : mm_z (mm_na μ (.inl (.int, v.toNatClampNeg))) (mm_n μ) = .inl (.int, v.toNatClampNeg) := by simp [mm_z, mm_na]
      simp only [mm_ce, hz, va_up_self, mm_ar]
      have e0 : mm_i (mm_na μ (.inl (.int, v.toNatClampNeg))) (mm_n μ) = fun _ => 0 := by funext j; simp [mm_i, mm_na]
      rw [e0]
    have ew := mm_wd_na (ad := ad) (cA := cA) (z := .inl (.int, v.toNatClampNeg)) (q := q) (x := cX) hR.2.2.2.2.2
    rw [e] at ew
    rw [← ew] at hP hD
    have ka := K lv _ _ _ h (va_up ad (mm_n μ) q) (va_up cA (mm_n μ) cX) H1 locs ls (hcl _ _ _ _ _ _ _ _ hE (mm_ag_na g1) (Nat.le_succ _) (Nat.succ_pos _)) ⟨hP, hD, hS, mm_ok_na hR.2.2.2 (fun q h => by cases h; exact hK1.2 0 _ rfl)⟩ (mm_Lh_ad (mm_ag_na g1) g3 hL) (by show κ.1 + 1 ≤ R.cells; omega) (by show κ.2 + v.toNatClampNeg ≤ R.slots; omega)
    simp only [List.map_cons, mm_cv, va_up_self] at ka
    rw [mm_ks_map (mm_ag_na g1) g2] at ka
    exact ka
  · exact h.elim
theorem so_nabyte (X : mm_cx p R s m args c cc own Ts A D cl nL) (hcl : ∀ ad cA n κ ad' cA' n' κ', EX ad cA n κ → (∀ i, i < n ∨ mm_ext ≤ i → ad' i = ad i) → n ≤ n' → 0 < (κ' : Nat × Nat).1 → EX ad' cA' n' κ') (hB : B.1 ≤ R.cells ∧ B.2 ≤ R.slots) (hw : Cond.arrayClass .byte ∈ Ts) (hd : decode cc pc = .ok (.newarray .byte, 2)) (K : mm_SK p l e R s m args below meth c Qw D cl A nL EX (pc + 2) k) : mm_SK p l e R s m args below meth c Qw D cl A nL EX pc (mm_nar .byte B k) := by
  intro lv st μ κ h ad cA H locs ls hE hR hL h1 h2
  unfold mm_nar at h
  split at h
  · rename_i v st'
    obtain ⟨g1, g2, g3, g6, g7, g4, g5, h⟩ := h
    refine va_newa (D := D) (cl := cl) (atype := .byte) (a0 := (v.toNatClampNeg, .inl (fun _ => 0))) (ty := .byte) X.1 X.2.1 (X.2.2.2.2.1 _ hw) rfl X.2.2.2.2.2.2 hR.1 hR.2.1 hR.2.2.1 X.2.2.2.2.2.1 (fun cA => rfl) g6 rfl (by simp only [componentBytes]; omega) (by omega) (by omega) hd (fun q cX H1 hK1 hP hD hS => ?_)
    have e : mm_ce (va_up ad (mm_n μ) q) (va_up cA (mm_n μ) cX) (mm_na μ (.inl (.byte, v.toNatClampNeg))) (mm_n μ) = .inl (cX, v.toNatClampNeg, .inl (fun _ => 0)) := by
      have hz : mm_z (mm_na μ (.inl (.byte, v.toNatClampNeg))) (mm_n μ) = .inl (.byte, v.toNatClampNeg) := by simp [mm_z, mm_na]
      simp only [mm_ce, hz, va_up_self, mm_ar]
      have e0 : mm_i (mm_na μ (.inl (.byte, v.toNatClampNeg))) (mm_n μ) = fun _ => 0 := by funext j; simp [mm_i, mm_na]
      rw [e0]
    have ew := mm_wd_na (ad := ad) (cA := cA) (z := .inl (.byte, v.toNatClampNeg)) (q := q) (x := cX) hR.2.2.2.2.2
    rw [e] at ew
    rw [← ew] at hP hD
    have ka := K lv _ _ _ h (va_up ad (mm_n μ) q) (va_up cA (mm_n μ) cX) H1 locs ls (hcl _ _ _ _ _ _ _ _ hE (mm_ag_na g1) (Nat.le_succ _) (Nat.succ_pos _)) ⟨hP, hD, hS, mm_ok_na hR.2.2.2 (fun q h => by cases h; exact hK1.2 0 _ rfl)⟩ (mm_Lh_ad (mm_ag_na g1) g3 hL) (by show κ.1 + 1 ≤ R.cells; omega) (by show κ.2 + v.toNatClampNeg ≤ R.slots; omega)
    simp only [List.map_cons, mm_cv, va_up_self] at ka
    rw [mm_ks_map (mm_ag_na g1) g2] at ka
    exact ka
  · exact h.elim
theorem so_nabool (X : mm_cx p R s m args c cc own Ts A D cl nL) (hcl : ∀ ad cA n κ ad' cA' n' κ', EX ad cA n κ → (∀ i, i < n ∨ mm_ext ≤ i → ad' i = ad i) → n ≤ n' → 0 < (κ' : Nat × Nat).1 → EX ad' cA' n' κ') (hB : B.1 ≤ R.cells ∧ B.2 ≤ R.slots) (hw : Cond.arrayClass .boolean ∈ Ts) (hd : decode cc pc = .ok (.newarray .boolean, 2)) (K : mm_SK p l e R s m args below meth c Qw D cl A nL EX (pc + 2) k) : mm_SK p l e R s m args below meth c Qw D cl A nL EX pc (mm_nar .boolean B k) := by
  intro lv st μ κ h ad cA H locs ls hE hR hL h1 h2
  unfold mm_nar at h
  split at h
  · rename_i v st'
    obtain ⟨g1, g2, g3, g6, g7, g4, g5, h⟩ := h
    refine va_newa (D := D) (cl := cl) (atype := .boolean) (a0 := (v.toNatClampNeg, .inl (fun _ => 0))) (ty := .boolean) X.1 X.2.1 (X.2.2.2.2.1 _ hw) rfl X.2.2.2.2.2.2 hR.1 hR.2.1 hR.2.2.1 X.2.2.2.2.2.1 (fun cA => rfl) g6 rfl (by simp only [componentBytes]; omega) (by omega) (by omega) hd (fun q cX H1 hK1 hP hD hS => ?_)
    have e : mm_ce (va_up ad (mm_n μ) q) (va_up cA (mm_n μ) cX) (mm_na μ (.inl (.boolean, v.toNatClampNeg))) (mm_n μ) = .inl (cX, v.toNatClampNeg, .inl (fun _ => 0)) := by
      have hz : mm_z (mm_na μ (.inl (.boolean, v.toNatClampNeg))) (mm_n μ) = .inl (.boolean, v.toNatClampNeg) := by simp [mm_z, mm_na]
      simp only [mm_ce, hz, va_up_self, mm_ar]
      have e0 : mm_i (mm_na μ (.inl (.boolean, v.toNatClampNeg))) (mm_n μ) = fun _ => 0 := by funext j; simp [mm_i, mm_na]
      rw [e0]
    have ew := mm_wd_na (ad := ad) (cA := cA) (z := .inl (.boolean, v.toNatClampNeg)) (q := q) (x := cX) hR.2.2.2.2.2
    rw [e] at ew
    rw [← ew] at hP hD
    have ka := K lv _ _ _ h (va_up ad (mm_n μ) q) (va_up cA (mm_n μ) cX) H1 locs ls (hcl _ _ _ _ _ _ _ _ hE (mm_ag_na g1) (Nat.le_succ _) (Nat.succ_pos _)) ⟨hP, hD, hS, mm_ok_na hR.2.2.2 (fun q h => by cases h; exact hK1.2 0 _ rfl)⟩ (mm_Lh_ad (mm_ag_na g1) g3 hL) (by show κ.1 + 1 ≤ R.cells; omega) (by show κ.2 + v.toNatClampNeg ≤ R.slots; omega)
    simp only [List.map_cons, mm_cv, va_up_self] at ka
    rw [mm_ks_map (mm_ag_na g1) g2] at ka
    exact ka
  · exact h.elim
theorem so_nalong (X : mm_cx p R s m args c cc own Ts A D cl nL) (hcl : ∀ ad cA n κ ad' cA' n' κ', EX ad cA n κ → (∀ i, i < n ∨ mm_ext ≤ i → ad' i = ad i) → n ≤ n' → 0 < (κ' : Nat × Nat).1 → EX ad' cA' n' κ') (hB : B.1 ≤ R.cells ∧ B.2 ≤ R.slots) (hw : Cond.arrayClass .long ∈ Ts) (hd : decode cc pc = .ok (.newarray .long, 2)) (K : mm_SK p l e R s m args below meth c Qw D cl A nL EX (pc + 2) k) : mm_SK p l e R s m args below meth c Qw D cl A nL EX pc (mm_nar .long B k) := by
  intro lv st μ κ h ad cA H locs ls hE hR hL h1 h2
  unfold mm_nar at h
  split at h
  · rename_i v st'
    obtain ⟨g1, g2, g3, g6, g7, g4, g5, h⟩ := h
    refine va_newa (D := D) (cl := cl) (atype := .long) (a0 := (v.toNatClampNeg, .inr (.inl (fun _ => 0)))) (ty := .long) X.1 X.2.1 (X.2.2.2.2.1 _ hw) rfl X.2.2.2.2.2.2 hR.1 hR.2.1 hR.2.2.1 X.2.2.2.2.2.1 (fun cA => rfl) g6 rfl (by simp only [componentBytes]; omega) (by omega) (by omega) hd (fun q cX H1 hK1 hP hD hS => ?_)
    have e : mm_ce (va_up ad (mm_n μ) q) (va_up cA (mm_n μ) cX) (mm_na μ (.inl (.long, v.toNatClampNeg))) (mm_n μ) = .inl (cX, v.toNatClampNeg, .inr (.inl (fun _ => 0))) := by
      have hz : mm_z (mm_na μ (.inl (.long, v.toNatClampNeg))) (mm_n μ) = .inl (.long, v.toNatClampNeg) := by simp [mm_z, mm_na]
      simp only [mm_ce, hz, va_up_self, mm_ar]
      have e0 : mm_l (mm_na μ (.inl (.long, v.toNatClampNeg))) (mm_n μ) = fun _ => 0 := by funext j; simp [mm_l, mm_na]
      rw [e0]
    have ew := mm_wd_na (ad := ad) (cA := cA) (z := .inl (.long, v.toNatClampNeg)) (q := q) (x := cX) hR.2.2.2.2.2
    rw [e] at ew
    rw [← ew] at hP hD
    have ka := K lv _ _ _ h (va_up ad (mm_n μ) q) (va_up cA (mm_n μ) cX) H1 locs ls (hcl _ _ _ _ _ _ _ _ hE (mm_ag_na g1) (Nat.le_succ _) (Nat.succ_pos _)) ⟨hP, hD, hS, mm_ok_na hR.2.2.2 (fun q h => by cases h; exact hK1.2 0 _ rfl)⟩ (mm_Lh_ad (mm_ag_na g1) g3 hL) (by show κ.1 + 1 ≤ R.cells; omega) (by show κ.2 + v.toNatClampNeg ≤ R.slots; omega)
    simp only [List.map_cons, mm_cv, va_up_self] at ka
    rw [mm_ks_map (mm_ag_na g1) g2] at ka
    exact ka
  · exact h.elim
theorem so_naref (X : mm_cx p R s m args c cc own Ts A D cl nL) (hcl : ∀ ad cA n κ ad' cA' n' κ', EX ad cA n κ → (∀ i, i < n ∨ mm_ext ≤ i → ad' i = ad i) → n ≤ n' → 0 < (κ' : Nat × Nat).1 → EX ad' cA' n' κ') (hB : B.1 ≤ R.cells ∧ B.2 ≤ R.slots) {C : String} {index : Nat} (hw : Cond.classLink own index C ∈ Ts) (hv : ∀ ad cA n κ, EX ad cA n κ → va_AO C s) (hd : decode cc pc = .ok (.anewarray index, 3)) (K : mm_SK p l e R s m args below meth c Qw D cl A nL EX (pc + 3) k) : mm_SK p l e R s m args below meth c Qw D cl A nL EX pc (mm_nar (.object C) B k) := by
  intro lv st μ κ h ad cA H locs ls hE hR hL h1 h2
  unfold mm_nar at h
  split at h
  · rename_i v st'
    obtain ⟨g1, g2, g3, g6, g7, g4, g5, h⟩ := h
    refine va_newq (D := D) (cl := cl) X.1 X.2.1 X.2.2.2.1 (X.2.2.2.2.1 _ hw) (hv _ _ _ _ hE) X.2.2.2.2.2.2 hR.1 hR.2.1 hR.2.2.1 X.2.2.2.2.2.1 g6 rfl (by omega) (by omega) (by omega) hd (fun q cX H1 hK1 hP hD hS => ?_)
    have e : mm_ce (va_up ad (mm_n μ) q) (va_up cA (mm_n μ) cX) (mm_na μ (.inl (.object C, v.toNatClampNeg))) (mm_n μ) = .inl (cX, v.toNatClampNeg, .inr (.inr (.inr (.inr (fun _ => none))))) := by
      have hz : mm_z (mm_na μ (.inl (.object C, v.toNatClampNeg))) (mm_n μ) = .inl (.object C, v.toNatClampNeg) := by simp [mm_z, mm_na]
      simp only [mm_ce, hz, va_up_self, mm_ar]
      have e0 : (fun j => (mm_r (mm_na μ (.inl (.object C, v.toNatClampNeg))) (mm_n μ) j).map (va_up ad (mm_n μ) q)) = fun _ => none := by funext j; simp [mm_r, mm_na]
      rw [e0]
    have ew := mm_wd_na (ad := ad) (cA := cA) (z := .inl (.object C, v.toNatClampNeg)) (q := q) (x := cX) hR.2.2.2.2.2
    rw [e] at ew
    rw [← ew] at hP hD
    have ka := K lv _ _ _ h (va_up ad (mm_n μ) q) (va_up cA (mm_n μ) cX) H1 locs ls (hcl _ _ _ _ _ _ _ _ hE (mm_ag_na g1) (Nat.le_succ _) (Nat.succ_pos _)) ⟨hP, hD, hS, mm_ok_na hR.2.2.2 (fun q h => by cases h; exact hK1.2 0 _ rfl)⟩ (mm_Lh_ad (mm_ag_na g1) g3 hL) (by show κ.1 + 1 ≤ R.cells; omega) (by show κ.2 + v.toNatClampNeg ≤ R.slots; omega)
    simp only [List.map_cons, mm_cv, va_up_self] at ka
    rw [mm_ks_map (mm_ag_na g1) g2] at ka
    exact ka
  · exact h.elim
theorem so_obi (X : mm_cx p R s m args c cc own Ts A D cl nL) {index : Nat} (hw : Cond.methodLink own index objectInit ∈ Ts) (hi : Cond.instanceMethod objectInit ∈ Ts) (hcd : Cond.code objectInit ⟨#[0xb1]⟩ 1 none ∈ Ts) (hfr : 1 ≤ R.frames) (hlo : 20 ≤ R.locals) (hd : decode cc pc = .ok (.invokespecial index, 3)) (K : mm_SK p l e R s m args below meth c Qw D cl A nL EX (pc + 3) k) : mm_SK p l e R s m args below meth c Qw D cl A nL EX pc (mm_obi k) := by
  intro lv st μ κ h ad cA H locs ls hE hR hL h1 h2
  unfold mm_obi at h
  split at h
  · rename_i a st'
    obtain ⟨g1, h⟩ := h
    refine W.objInit X.1 X.2.1 X.2.2.2.1 (X.2.2.2.2.1 _ hw) (X.2.2.2.2.1 _ hi) (X.2.2.2.2.1 _ hcd) rfl (by rw [X.2.2.1]; exact hL.1) (a := ad a) (rest := st'.map (mm_cv ad)) rfl hd hfr ?_ ?_
    · have := lv_room (m := m) (pc := pc) (ls := ls) (rest := List.map (mm_cv ad) (Value.ref a :: st')) (st := st'.map (mm_cv ad)) (by rw [mm_sum_cv]; exact g1)
      omega
    · exact K lv _ μ κ h ad cA H locs ls hE hR hL h1 h2
  · exact h.elim
theorem so_cpi (X : mm_cx p R s m args c cc own Ts A D cl nL) {index : Nat} (hw : Cond.methodLink own index arraycopyName ∈ Ts) (hna : Cond.native arraycopyName ∈ Ts) (hst : Cond.static arraycopyName ∈ Ts) (hin : Cond.initialized "java/lang/System" ∈ Ts) (hfr : 1 ≤ R.frames) (hlo : 64 ≤ R.locals) (hd : decode cc pc = .ok (.invokestatic index, 3)) (K : mm_SK p l e R s m args below meth c Qw D cl A nL EX (pc + 3) k) : mm_SK p l e R s m args below meth c Qw D cl A nL EX pc (mm_cpi k) := by
  intro lv st μ κ h ad cA H locs ls hE hR hL h1 h2
  unfold mm_cpi at h
  split at h
  · rename_i n dp b sp a st'
    obtain ⟨g0, n0, n1, z0, z1, g1, g2, g3, g4, g5, h⟩ := h
    have ha0 := mm_at_a (ad := ad) (cA := cA) z0 (hR.2.2.2.1 _ _ z0).1
    have ha1 := mm_at_a (ad := ad) (cA := cA) z1 (hR.2.2.2.1 _ _ z1).1
    refine va_copyi (D := D) (cl := cl) (ty := .int) X.1 X.2.1 (X.2.2.1.trans hL.1.symm) X.2.2.2.1 (X.2.2.2.2.1 _ hw) (X.2.2.2.2.1 _ hna) (X.2.2.2.2.1 _ hst) (X.2.2.2.2.1 _ hin) (mm_K2 X.2.2.2.2.2.2 hR.2.2.2 z0 z1) hR.1 hR.2.1 hR.2.2.1 a b 0 1 ha0 ha1 rfl rfl rfl g1 g2 g3 g4 g5 (fun i _ => rfl) hfr (by rw [mm_sum_cv]; have e9 : nativeFrameWords "java/lang/System" "arraycopy" 5 = 7 := (by decide +kernel); omega) hd (fun H1 locs1 hP hD hS => ?_)
    have e : mm_ce ad cA (mm_ci μ a sp.toNatClampNeg b dp.toNatClampNeg n.toNatClampNeg) b = .inl (cA b, n1, .inl (va_cpy (mm_i μ a) (mm_i μ b) sp.toNatClampNeg dp.toNatClampNeg n.toNatClampNeg)) := by
      have hz : mm_z (mm_ci μ a sp.toNatClampNeg b dp.toNatClampNeg n.toNatClampNeg) b = .inl (.int, n1) := z1
      simp only [mm_ce, hz, mm_ar]
      have e0 : mm_i (mm_ci μ a sp.toNatClampNeg b dp.toNatClampNeg n.toNatClampNeg) b = va_cpy (mm_i μ a) (mm_i μ b) sp.toNatClampNeg dp.toNatClampNeg n.toNatClampNeg := by funext j; simp [mm_i, mm_ci]
      rw [e0]
    have ew := mm_wd_set (ad := ad) (cA := cA) (μ := μ) (μ' := mm_ci μ a sp.toNatClampNeg b dp.toNatClampNeg n.toNatClampNeg) (a := b) rfl (fun c hc => mm_ce_congr (by funext j; simp [mm_i, mm_ci, hc]) rfl rfl rfl)
    rw [e] at ew
    dsimp only at hP hD
    rw [ew] at hP hD
    exact K lv _ _ κ h ad cA H1 locs1 ls hE ⟨hP, hD, hS, hR.2.2.2⟩ hL h1 h2
  · exact h.elim
theorem so_cpl (X : mm_cx p R s m args c cc own Ts A D cl nL) {index : Nat} (hw : Cond.methodLink own index arraycopyName ∈ Ts) (hna : Cond.native arraycopyName ∈ Ts) (hst : Cond.static arraycopyName ∈ Ts) (hin : Cond.initialized "java/lang/System" ∈ Ts) (hfr : 1 ≤ R.frames) (hlo : 64 ≤ R.locals) (hd : decode cc pc = .ok (.invokestatic index, 3)) (K : mm_SK p l e R s m args below meth c Qw D cl A nL EX (pc + 3) k) : mm_SK p l e R s m args below meth c Qw D cl A nL EX pc (mm_cpl k) := by
  intro lv st μ κ h ad cA H locs ls hE hR hL h1 h2
  unfold mm_cpl at h
  split at h
  · rename_i n dp b sp a st'
    obtain ⟨g0, n0, n1, z0, z1, g1, g2, g3, g4, g5, h⟩ := h
    have ha0 := mm_at_a (ad := ad) (cA := cA) z0 (hR.2.2.2.1 _ _ z0).1
    have ha1 := mm_at_a (ad := ad) (cA := cA) z1 (hR.2.2.2.1 _ _ z1).1
    refine va_copyl (D := D) (cl := cl) (ty := .long) X.1 X.2.1 (X.2.2.1.trans hL.1.symm) X.2.2.2.1 (X.2.2.2.2.1 _ hw) (X.2.2.2.2.1 _ hna) (X.2.2.2.2.1 _ hst) (X.2.2.2.2.1 _ hin) (mm_K2 X.2.2.2.2.2.2 hR.2.2.2 z0 z1) hR.1 hR.2.1 hR.2.2.1 a b 0 1 ha0 ha1 rfl rfl rfl g1 g2 g3 g4 g5 (fun i _ => rfl) hfr (by rw [mm_sum_cv]; have e9 : nativeFrameWords "java/lang/System" "arraycopy" 5 = 7 := (by decide +kernel); omega) hd (fun H1 locs1 hP hD hS => ?_)
    have e : mm_ce ad cA (mm_cl μ a sp.toNatClampNeg b dp.toNatClampNeg n.toNatClampNeg) b = .inl (cA b, n1, .inr (.inl (va_cpy (mm_l μ a) (mm_l μ b) sp.toNatClampNeg dp.toNatClampNeg n.toNatClampNeg))) := by
      have hz : mm_z (mm_cl μ a sp.toNatClampNeg b dp.toNatClampNeg n.toNatClampNeg) b = .inl (.long, n1) := z1
      simp only [mm_ce, hz, mm_ar]
      have e0 : mm_l (mm_cl μ a sp.toNatClampNeg b dp.toNatClampNeg n.toNatClampNeg) b = va_cpy (mm_l μ a) (mm_l μ b) sp.toNatClampNeg dp.toNatClampNeg n.toNatClampNeg := by funext j; simp [mm_l, mm_cl]
      rw [e0]
    have ew := mm_wd_set (ad := ad) (cA := cA) (μ := μ) (μ' := mm_cl μ a sp.toNatClampNeg b dp.toNatClampNeg n.toNatClampNeg) (a := b) rfl (fun c hc => mm_ce_congr rfl (by funext j; simp [mm_l, mm_cl, hc]) rfl rfl)
    rw [e] at ew
    dsimp only at hP hD
    rw [ew] at hP hD
    exact K lv _ _ κ h ad cA H1 locs1 ls hE ⟨hP, hD, hS, hR.2.2.2⟩ hL h1 h2
  · exact h.elim
theorem mm_back {Q : mm_Q} {ad : Nat → Nat} {cA : Nat → ClassId} {μ : mm_M} {H : Heap} {locs : List Loc} {cells slots mc ms : Nat} {ls : Array Slot} {st0 rest : List Value} {a : Array Value} (hr : va_Run p l e R s m args below meth c H locs cells slots mc ms (F0 m pc ls st0) rest (mm_Qc D cl Q ad cA μ mc (va_A (mm_wd ad cA μ) H.size) a) (va_A (mm_wd ad cA μ) H.size)) (hS : va_S A s.heap H locs) (hf : ∀ q, va_A (mm_wd ad cA μ) H.size q → A q)
    (kk : ∀ (v : Option Value) (μ' : mm_M) (ad' : Nat → Nat) (cA' : Nat → ClassId) (H1 : Heap) (locs1 : List Loc), Q v μ' → (∀ i, i < mm_n μ ∨ mm_ext ≤ i → ad' i = ad i) → mm_n μ ≤ mm_n μ' → (mc = 0 → ad' = ad ∧ cA' = cA ∧ mm_n μ' = mm_n μ) → mm_Rl D cl s A ad' cA' μ' H1 locs1 → W p l e R s m args below meth c H1 locs1 (cells + mc) (slots + ms) Qw (F0 m (pc + 3) ls ((v.map (mm_cv ad')).toList ++ rest))) : W p l e R s m args below meth c H locs cells slots Qw (F0 m pc ls st0) := by
  intro T hT X'
  obtain ⟨v, st₀, t, T', L, h0, X', hL, e1, e2, ⟨⟨v', μ', ad', cA', hv, hq, g1, g2, g3, g4, g5, g6⟩, hz, hk⟩, st⟩ := hr T hT X'
  cases hv
  rw [h0] at hz hk
  have hS1 : va_S A s.heap T'.heap (locs ++ L) := ⟨Nat.le_trans hS.1 (by rw [e1]; exact hz), fun q h1 h2 => by rw [e1, hk q (Nat.lt_of_lt_of_le h1 hS.1) (fun z => h2 (hf q z))]; exact hS.2.1 q h1 h2, fun q hq => by
      rcases List.mem_append.mp hq with h | h
      · exact hS.2.2 q h
      · exact hf _ (hL q h)⟩
  have hal : t.vm.Alike s.vm := by rw [← e2]; exact X'.warmed.alike.symm
  obtain ⟨t2, a1, b1⟩ := kk v' μ' ad' cA' T'.heap (locs ++ L) hq g1 g2 g3 ⟨by rw [e1]; exact g4, g5.weaken (fun _ q _ h => hf _ h), hS1, mm_ok_moved hal g6⟩ T' rfl X'
  exact ⟨t2, st t2 a1, b1⟩
theorem so_cav (X : mm_cx p R s m args c cc own Ts A D cl nL) (hX : mm_xo EXT) (hxt : ∀ ad cA n κ, EX ad cA n κ → EXT ad A s s.heap) (hC : mm_CS l D cl Ts EXT tab d C) (hg : ∀ w ∈ Ts, (w.onTables && w.keeps) = true ∨ ∃ ty, w = .arrayClass ty) (hfr : d + 1 ≤ R.frames) (hlo : 256 * d + 256 ≤ R.locals) {y na index maxL : Nat} {nm : MethodName} {bytes : ByteArray} {ret : Option FieldType} (ht : tab y = (nm, bytes, maxL, ret, 0, 0)) (hmx : maxL ≤ 200) (hcd : Cond.code nm bytes maxL ret ∈ Ts) (hw : Cond.methodLink own index nm ∈ Ts) (hni : Cond.initialized nm.cls ∈ Ts) {ci N : Nat} {T : u_T} (hc : cl[ci]? = some (nm.cls, T, N)) (hci : ci < 99) (hi : Cond.instanceMethod nm ∈ Ts) (hs : Cond.selects nm.cls nm nm ∈ Ts) (hnm : nm.cls ≠ "java/lang/invoke/MethodHandle" ∧ nm.cls ≠ "java/lang/invoke/VarHandle" ∧ (parseMethodDescriptor nm.desc).map (fun d => d.parameters.length + 1) = some na) (hd : decode cc pc = .ok (.invokevirtual index, 3)) (K : mm_SK p l e R s m args below meth c Qw D cl A nL EX (pc + 3) k) : mm_SK p l e R s m args below meth c Qw D cl A nL EX pc (mm_cav y na ci C k) := by
  intro lv st μ κ h ad cA H locs ls hE hR hL h1 h2
  obtain ⟨bs, st1, rfl, hlen, hrc, hsum, hq⟩ := mm_pa_v na [] st h
  simp only [List.append_nil] at hrc hq
  generalize has : bs.reverse = as at hrc hq
  have hbs : bs = as.reverse := by rw [← has, List.reverse_reverse]
  subst hbs
  match as, hrc with
  | .ref a :: As, hz =>
  have hz : mm_z μ a = .inr ci := hz
  have ha := hR.2.2.2.2.1 a ci hz hci
  have hFc : ∀ q, va_A (mm_wd ad cA μ) H.size q → A q := by
    rintro q (⟨i, ee, hi⟩ | hq)
    · exact hR.2.1.2 i _ hi
    · exact X.2.2.2.2.2.1 q (Nat.le_trans hR.2.2.1.1 hq)
  have hXe : EXT ad (va_A (mm_wd ad cA μ) H.size) s H := hX.2.2.1 _ _ _ _ _ (hX.2.1 _ _ _ _ _ (hxt _ _ _ _ hE) hR.2.2.1.2.1) hFc
  have hPre : ∀ U : State, U.heap = H → s.WarmedH U.vm → mm_Pc D cl EXT ad cA μ (.ref a :: As) H.size ((.ref a :: As : List Value).map (mm_cv ad)).toArray U := fun U hU hW => ⟨rfl, by rw [hU], by rw [hU]; exact hR.1, va_K.moved hW.alike X.2.2.2.2.2.2, hR.2.1.weaken (fun _ _ _ _ => trivial), mm_ok_moved hW.alike hR.2.2.2, hX.1 _ _ _ _ _ (Or.inl hW) (by rw [hU]; exact hXe)⟩
  have hM := hC y _ μ _ hq ad cA H.size
  rw [ht] at hM
  refine mm_back (mc := 0) (ms := 0) (va_runV (C := nm.cls) (As := As.map (mm_cv ad)) (rest := st1.map (mm_cv ad)) (b := ad a) (n := na - 1) ⟨X.1, X.2.1, X.2.2.1, X.2.2.2.1, X.2.2.2.2.1⟩ hM (cwV (na - 1) X.2.2.2.2.1 ?_ rfl rfl rfl ⟨rfl, hnm.1, hnm.2.1, ?_⟩ ⟨hfr, ?_⟩) ⟨mm_blind hX, va_recv X.2.2.2.2.2.2 hR.1 hc (mm_at_o hz ha), hPre⟩ rfl ?_ hL.1 ?_ (lv_room (by rw [mm_sum_cv]; exact hsum)) hd ⟨h1, h2⟩) hR.2.2.1 hFc (fun v μ' ad' cA' H1 locs1 hQ g1 g2 g3 hR1 => ?_)
  · intro w hw'
    rcases List.mem_append.mp hw' with q | q
    · simp only [List.mem_cons, List.not_mem_nil, or_false] at q
      rcases q with rfl | rfl | rfl | rfl
      · exact ⟨hw, hg _ hw⟩
      · exact ⟨hi, hg _ hi⟩
      · exact ⟨hs, hg _ hs⟩
      · exact ⟨hni, hg _ hni⟩
    · rcases List.mem_cons.mp q with rfl | q
      · exact ⟨hcd, hg _ hcd⟩
      · exact ⟨q, hg _ q⟩
  · have h9 := hnm.2.2
    cases hp : parseMethodDescriptor nm.desc with
    | none => rw [hp] at h9; cases h9
    | some sg => rw [hp] at h9; simp at h9 ⊢; omega
  · show 8 + (maxL + 11) + 256 * d ≤ R.locals
    omega
  · simp at hlen ⊢
    omega
  · simp [mm_cv]
  · obtain ⟨rfl, rfl, e3⟩ := g3 rfl
    rw [mm_ps_cv]
    exact K lv _ μ' κ hQ ad' cA' H1 locs1 ls (by rw [e3]; exact hE) hR1 hL h1 h2
theorem so_cas (X : mm_cx p R s m args c cc own Ts A D cl nL) (hX : mm_xo EXT) (hxt : ∀ ad cA n κ, EX ad cA n κ → EXT ad A s s.heap) (hC : mm_CS l D cl Ts EXT tab d C) (hg : ∀ w ∈ Ts, (w.onTables && w.keeps) = true ∨ ∃ ty, w = .arrayClass ty) (hfr : d + 1 ≤ R.frames) (hlo : 256 * d + 256 ≤ R.locals) {y na index maxL : Nat} {nm : MethodName} {bytes : ByteArray} {ret : Option FieldType} (ht : tab y = (nm, bytes, maxL, ret, 0, 0)) (hmx : maxL ≤ 200) (hcd : Cond.code nm bytes maxL ret ∈ Ts) (hw : Cond.methodLink own index nm ∈ Ts) (hni : Cond.initialized nm.cls ∈ Ts) (hi : Cond.static nm ∈ Ts) (hnm : nm.cls ≠ "java/lang/invoke/MethodHandle" ∧ nm.cls ≠ "java/lang/invoke/VarHandle" ∧ (parseMethodDescriptor nm.desc).map (fun d => d.parameters.length) = some na) (hd : decode cc pc = .ok (.invokestatic index, 3)) (K : mm_SK p l e R s m args below meth c Qw D cl A nL EX (pc + 3) k) : mm_SK p l e R s m args below meth c Qw D cl A nL EX pc (mm_cas y na C k) := by
  intro lv st μ κ h ad cA H locs ls hE hR hL h1 h2
  obtain ⟨bs, st1, rfl, hlen, hsum, hq⟩ := mm_pa_v na [] st h
  simp only [List.append_nil] at hq
  generalize has : bs.reverse = as at hq
  have hbs : bs = as.reverse := by rw [← has, List.reverse_reverse]
  subst hbs
  have hFc : ∀ q, va_A (mm_wd ad cA μ) H.size q → A q := by
    rintro q (⟨i, ee, hi⟩ | hq)
    · exact hR.2.1.2 i _ hi
    · exact X.2.2.2.2.2.1 q (Nat.le_trans hR.2.2.1.1 hq)
  have hXe : EXT ad (va_A (mm_wd ad cA μ) H.size) s H := hX.2.2.1 _ _ _ _ _ (hX.2.1 _ _ _ _ _ (hxt _ _ _ _ hE) hR.2.2.1.2.1) hFc
  have hPre : ∀ U : State, U.heap = H → s.WarmedH U.vm → mm_Pc D cl EXT ad cA μ as H.size (as.map (mm_cv ad)).toArray U := fun U hU hW => ⟨rfl, by rw [hU], by rw [hU]; exact hR.1, va_K.moved hW.alike X.2.2.2.2.2.2, hR.2.1.weaken (fun _ _ _ _ => trivial), mm_ok_moved hW.alike hR.2.2.2, hX.1 _ _ _ _ _ (Or.inl hW) (by rw [hU]; exact hXe)⟩
  have hM := hC y _ μ _ hq ad cA H.size
  rw [ht] at hM
  refine mm_back (mc := 0) (ms := 0) (va_runS (As := as.map (mm_cv ad)) (rest := st1.map (mm_cv ad)) (n := na) ⟨X.1, X.2.1, X.2.2.1, X.2.2.2.1, X.2.2.2.2.1⟩ hM (va_cwS na X.2.2.2.2.1 ?_ rfl rfl rfl hnm ⟨hfr, ?_⟩) ⟨mm_blind hX, hPre⟩ rfl ?_ hL.1 ?_ (lv_room (by rw [mm_sum_cv]; exact hsum)) hd ⟨h1, h2⟩) hR.2.2.1 hFc (fun v μ' ad' cA' H1 locs1 hQ g1 g2 g3 hR1 => ?_)
  · intro w hw'
    rcases List.mem_append.mp hw' with q | q
    · simp only [List.mem_cons, List.not_mem_nil, or_false] at q
      rcases q with rfl | rfl | rfl
      · exact ⟨hw, hg _ hw⟩
      · exact ⟨hi, hg _ hi⟩
      · exact ⟨hni, hg _ hni⟩
    · rcases List.mem_cons.mp q with rfl | q
      · exact ⟨hcd, hg _ hcd⟩
      · exact ⟨q, hg _ q⟩
  · show 8 + (maxL + 11) + 256 * d ≤ R.locals
    omega
  · simpa using hlen
  · simp
  · obtain ⟨rfl, rfl, e3⟩ := g3 rfl
    rw [mm_ps_cv]
    exact K lv _ μ' κ hQ ad' cA' H1 locs1 ls (by rw [e3]; exact hE) hR1 hL h1 h2
end
