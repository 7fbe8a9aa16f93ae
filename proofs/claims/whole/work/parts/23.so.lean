/-! constructors' calls, statics, returns; a method's contract out of its blocks -/
section
variable {p : Program} {l : Launch} {e : Env} {R : Room} {s : State} {m : MethodId} {args : Array Value} {below : List Frame} {meth : Method} {c : Code} {Qw : State → Prop} {D : va_G} {cl : List vw_C} {A : Nat → Prop} {nL : Nat} {EX : (Nat → Nat) → (Nat → ClassId) → Nat → Nat × Nat → Prop} {cc : ByteArray} {own : String} {Ts : List Cond} {pc : Nat} {k : mm_K} {J : mm_J}
variable {EXT : (Nat → Nat) → (Nat → Prop) → State → Heap → Prop} {tab : Nat → mm_T} {d : Nat} {C : mm_C} {B : Nat × Nat}
theorem so_cai (X : mm_cx p R s m args c cc own Ts A D cl nL) (hcl : ∀ ad cA n κ ad' cA' n' κ', EX ad cA n κ → (∀ i, i < n ∨ mm_ext ≤ i → ad' i = ad i) → n ≤ n' → 0 < (κ' : Nat × Nat).1 → EX ad' cA' n' κ') (hB : B.1 ≤ R.cells ∧ B.2 ≤ R.slots) (hX : mm_xo EXT) (hxt : ∀ ad cA n κ, EX ad cA n κ → EXT ad A s s.heap) (hC : mm_CS l D cl Ts EXT tab d C) (hg : ∀ w ∈ Ts, (w.onTables && w.keeps) = true ∨ ∃ ty, w = .arrayClass ty) (hfr : d + 1 ≤ R.frames) (hlo : 256 * d + 256 ≤ R.locals) {y na index maxL mc ms : Nat} {nm : MethodName} {bytes : ByteArray} (ht : tab y = (nm, bytes, maxL, none, mc, ms)) (hmc : 0 < mc) (hmx : maxL ≤ 200) (hcd : Cond.code nm bytes maxL none ∈ Ts) (hni : Cond.initialized nm.cls ∈ Ts) (hi : Cond.instanceMethod nm ∈ Ts) (hnn : nm.name = "<init>") (hnm : nm.cls ≠ "java/lang/invoke/MethodHandle" ∧ nm.cls ≠ "java/lang/invoke/VarHandle" ∧ (parseMethodDescriptor nm.desc).map (fun d => d.parameters.length + 1) = some na) (hd : decode cc pc = .ok (.invokespecial index, 3)) (hw : Cond.methodLink own index nm ∈ Ts)  (K : mm_SK p l e R s m args below meth c Qw D cl A nL EX (pc + 3) k) : mm_SK p l e R s m args below meth c Qw D cl A nL EX pc (mm_can y na mc ms B C k) := by
  intro lv st μ κ h ad cA H locs ls hE hR hL h1 h2
  obtain ⟨bs, st1, rfl, hlen, hrf, hsum, k1, k2, k3, k4, hq⟩ := mm_pa_v na [] st h
  simp only [List.append_nil] at hq hrf
  generalize has : bs.reverse = as at hq hrf
  have hbs : bs = as.reverse := by rw [← has, List.reverse_reverse]
  subst hbs
  have hna : 0 < na := by
    have h9 := hnm.2.2
    cases hp : parseMethodDescriptor nm.desc with
    | none => rw [hp] at h9; cases h9
    | some sg => rw [hp] at h9; simp at h9; omega
  have hFc : ∀ q, va_A (mm_wd ad cA μ) H.size q → A q := by
    rintro q (⟨i, ee, hi⟩ | hq)
    · exact hR.2.1.2 i _ hi
    · exact X.2.2.2.2.2.1 q (Nat.le_trans hR.2.2.1.1 hq)
  have hXe : EXT ad (va_A (mm_wd ad cA μ) H.size) s H := hX.2.2.1 _ _ _ _ _ (hX.2.1 _ _ _ _ _ (hxt _ _ _ _ hE) hR.2.2.1.2.1) hFc
  have hPre : ∀ U : State, U.heap = H → s.WarmedH U.vm → mm_Pc D cl EXT ad cA μ as H.size (as.map (mm_cv ad)).toArray U := fun U hU hW => ⟨rfl, by rw [hU], by rw [hU]; exact hR.1, va_K.moved hW.alike X.2.2.2.2.2.2, hR.2.1.weaken (fun _ _ _ _ => trivial), mm_ok_moved hW.alike hR.2.2.2, hX.1 _ _ _ _ _ (Or.inl hW) (by rw [hU]; exact hXe)⟩
  have hM := hC y _ μ _ hq ad cA H.size
  rw [ht] at hM
  cases as with
  | nil => simp at hlen; omega
  | cons v0 As =>
  have hv0 : ∃ b, mm_cv ad v0 = .ref b := by
    cases v0 with
    | ref b => exact ⟨ad b, rfl⟩
    | _ => exact hrf.elim
  obtain ⟨b, hb⟩ := hv0
  simp only [List.map_cons] at hPre
  rw [hb] at hPre
  refine mm_back (mc := mc) (ms := ms) (va_runI (As := As.map (mm_cv ad)) (rest := st1.map (mm_cv ad)) (b := b) (n := na - 1) ⟨X.1, X.2.1, X.2.2.1, X.2.2.2.1, X.2.2.2.2.1⟩ hM (cwI (na - 1) X.2.2.2.2.1 ?_ rfl rfl rfl (X.2.2.2.2.1 _ hni) (X.2.2.2.2.1 _ hw) (X.2.2.2.2.1 _ hi) hnn ⟨hnm.1, hnm.2.1, ?_⟩ ⟨hfr, ?_⟩) ⟨mm_blind hX, hPre⟩ rfl ?_ hL.1 ?_ (lv_room (by rw [mm_sum_cv]; exact hsum)) hd ⟨by show κ.1 + mc ≤ R.cells; omega, by show κ.2 + ms ≤ R.slots; omega⟩) hR.2.2.1 hFc (fun v μ' ad' cA' H1 locs1 hQ g1 g2 g3 hR1 => ?_)
  · intro w hw'
    rcases List.mem_cons.mp hw' with rfl | q
    · exact ⟨hcd, hg _ hcd⟩
    · exact ⟨q, hg _ q⟩
  · have h9 := hnm.2.2
    cases hp : parseMethodDescriptor nm.desc with
    | none => rw [hp] at h9; cases h9
    | some sg => rw [hp] at h9; simp at h9 ⊢; omega
  · show 8 + (maxL + 11) + 256 * d ≤ R.locals
    omega
  · simp at hlen ⊢
    omega
  · simp [hb]
  · rw [← mm_ks_map g1 k1, mm_ps_cv]
    exact K lv _ μ' (κ.1 + mc, κ.2 + ms) hQ ad' cA' H1 locs1 ls (hcl _ _ _ _ _ _ _ _ hE g1 g2 (by show 0 < κ.1 + mc; omega)) hR1 (mm_Lh_ad g1 k2 hL) (by show κ.1 + mc ≤ R.cells; omega) (by show κ.2 + ms ≤ R.slots; omega)
theorem so_cni (X : mm_cx p R s m args c cc own Ts A D cl nL) (hcl : ∀ ad cA n κ ad' cA' n' κ', EX ad cA n κ → (∀ i, i < n ∨ mm_ext ≤ i → ad' i = ad i) → n ≤ n' → 0 < (κ' : Nat × Nat).1 → EX ad' cA' n' κ') (hB : B.1 ≤ R.cells ∧ B.2 ≤ R.slots) (hX : mm_xo EXT) (hxt : ∀ ad cA n κ, EX ad cA n κ → EXT ad A s s.heap) (hC : mm_CS l D cl Ts EXT tab d C) (hg : ∀ w ∈ Ts, (w.onTables && w.keeps) = true ∨ ∃ ty, w = .arrayClass ty) (hfr : d + 1 ≤ R.frames) (hlo : 256 * d + 256 ≤ R.locals) {y na index maxL mc ms : Nat} {nm : MethodName} {bytes : ByteArray} (ht : tab y = (nm, bytes, maxL, none, mc, ms)) (hmc : 0 < mc) (hmx : maxL ≤ 200) (hcd : Cond.code nm bytes maxL none ∈ Ts) (hni : Cond.initialized nm.cls ∈ Ts) (hi : Cond.instanceMethod nm ∈ Ts) (hnn : nm.name = "<init>") (hnm : nm.cls ≠ "java/lang/invoke/MethodHandle" ∧ nm.cls ≠ "java/lang/invoke/VarHandle" ∧ (parseMethodDescriptor nm.desc).map (fun d => d.parameters.length + 1) = some na) (hd : decode cc pc = .ok (.invokespecial index, 3)) {host : String} (hw : ∀ ad cA n κ, EX ad cA n κ → va_Nw (.methodLinkNest own index nm host) s)  (K : mm_SK p l e R s m args below meth c Qw D cl A nL EX (pc + 3) k) : mm_SK p l e R s m args below meth c Qw D cl A nL EX pc (mm_can y na mc ms B C k) := by
  intro lv st μ κ h ad cA H locs ls hE hR hL h1 h2
  obtain ⟨bs, st1, rfl, hlen, hrf, hsum, k1, k2, k3, k4, hq⟩ := mm_pa_v na [] st h
  simp only [List.append_nil] at hq hrf
  generalize has : bs.reverse = as at hq hrf
  have hbs : bs = as.reverse := by rw [← has, List.reverse_reverse]
  subst hbs
  have hna : 0 < na := by
    have h9 := hnm.2.2
    cases hp : parseMethodDescriptor nm.desc with
    | none => rw [hp] at h9; cases h9
    | some sg => rw [hp] at h9; simp at h9; omega
  have hFc : ∀ q, va_A (mm_wd ad cA μ) H.size q → A q := by
    rintro q (⟨i, ee, hi⟩ | hq)
    · exact hR.2.1.2 i _ hi
    · exact X.2.2.2.2.2.1 q (Nat.le_trans hR.2.2.1.1 hq)
  have hXe : EXT ad (va_A (mm_wd ad cA μ) H.size) s H := hX.2.2.1 _ _ _ _ _ (hX.2.1 _ _ _ _ _ (hxt _ _ _ _ hE) hR.2.2.1.2.1) hFc
  have hPre : ∀ U : State, U.heap = H → s.WarmedH U.vm → mm_Pc D cl EXT ad cA μ as H.size (as.map (mm_cv ad)).toArray U := fun U hU hW => ⟨rfl, by rw [hU], by rw [hU]; exact hR.1, va_K.moved hW.alike X.2.2.2.2.2.2, hR.2.1.weaken (fun _ _ _ _ => trivial), mm_ok_moved hW.alike hR.2.2.2, hX.1 _ _ _ _ _ (Or.inl hW) (by rw [hU]; exact hXe)⟩
  have hM := hC y _ μ _ hq ad cA H.size
  rw [ht] at hM
  cases as with
  | nil => simp at hlen; omega
  | cons v0 As =>
  have hv0 : ∃ b, mm_cv ad v0 = .ref b := by
    cases v0 with
    | ref b => exact ⟨ad b, rfl⟩
    | _ => exact hrf.elim
  obtain ⟨b, hb⟩ := hv0
  simp only [List.map_cons] at hPre
  rw [hb] at hPre
  refine mm_back (mc := mc) (ms := ms) (va_runIN (As := As.map (mm_cv ad)) (rest := st1.map (mm_cv ad)) (b := b) (n := na - 1) ⟨X.1, X.2.1, X.2.2.1, X.2.2.2.1, X.2.2.2.2.1⟩ hM ⟨va_cnB (na - 1) X.2.2.2.2.1 ?_ rfl rfl rfl (hw _ _ _ _ hE) (X.2.2.2.2.1 _ hni) ⟨hnm.1, hnm.2.1, ?_⟩ ⟨hfr, ?_⟩, hnn, X.2.2.2.2.1 _ hi⟩ ⟨mm_blind hX, hPre⟩ rfl ?_ hL.1 ?_ (lv_room (by rw [mm_sum_cv]; exact hsum)) hd ⟨by show κ.1 + mc ≤ R.cells; omega, by show κ.2 + ms ≤ R.slots; omega⟩) hR.2.2.1 hFc (fun v μ' ad' cA' H1 locs1 hQ g1 g2 g3 hR1 => ?_)
  · intro w hw'
    rcases List.mem_cons.mp hw' with rfl | q
    · exact ⟨hcd, hg _ hcd⟩
    · exact ⟨q, hg _ q⟩
  · have h9 := hnm.2.2
    cases hp : parseMethodDescriptor nm.desc with
    | none => rw [hp] at h9; cases h9
    | some sg => rw [hp] at h9; simp at h9 ⊢; omega
  · show 8 + (maxL + 11) + 256 * d ≤ R.locals
    omega
  · simp at hlen ⊢
    omega
  · simp [hb]
  · rw [← mm_ks_map g1 k1, mm_ps_cv]
    exact K lv _ μ' (κ.1 + mc, κ.2 + ms) hQ ad' cA' H1 locs1 ls (hcl _ _ _ _ _ _ _ _ hE g1 g2 (by show 0 < κ.1 + mc; omega)) hR1 (mm_Lh_ad g1 k2 hL) (by show κ.1 + mc ≤ R.cells; omega) (by show κ.2 + ms ≤ R.slots; omega)
theorem so_gets (X : mm_cx p R s m args c cc own Ts A D cl nL) {index : Nat} {C n d' ref host : String} (hZ : ∀ ad cA q κ, EX ad cA q κ → va_Z C n d' (.ref (ad mm_ext)) A s s.heap) (hw : ∀ ad cA q κ, EX ad cA q κ → va_Nw (.fieldLinkNest own index ref n d' host) s) (hsame : ref = C) (hd : decode cc pc = .ok (.getstatic index, 3)) (K : mm_SK p l e R s m args below meth c Qw D cl A nL EX (pc + 3) k) : mm_SK p l e R s m args below meth c Qw D cl A nL EX pc (mm_cst (.ref mm_ext) k) := by
  intro lv st μ κ h ad cA H locs ls hE hR hL h1 h2
  subst hsame
  exact va_getsN X.1 X.2.1 (hZ _ _ _ _ hE) hR.2.2.1 X.2.2.2.1 (va_Nw.use rfl (hw _ _ _ _ hE)) (fun _ h => h) hd (K lv _ μ κ h ad cA H locs ls hE hR hL h1 h2)
theorem so_rk (X : mm_cx p R s m args c cc own Ts A D cl nL) {rk : Nat → Int32} {n : Nat} (hT : ∀ ad cA q κ, EX ad cA q κ → va_T .int (ad mm_ext) n (fun j => .int (rk j)) A s s.heap) (hd : decode cc pc = .ok (.iaload, 1)) (K : mm_SK p l e R s m args below meth c Qw D cl A nL EX (pc + 1) k) : mm_SK p l e R s m args below meth c Qw D cl A nL EX pc (mm_rk rk n k) := by
  intro lv st μ κ h ad cA H locs ls hE hR hL h1 h2
  unfold mm_rk at h
  split at h
  · obtain ⟨rfl, hi, h⟩ := h
    exact va_ti X.1 X.2.1 (hT _ _ _ _ hE) hR.2.2.1 hi rfl hd (K lv _ μ κ h ad cA H locs ls hE hR hL h1 h2)
  · exact h.elim
/-- what a method's own start gives, for its calls and its end -/
def mm_EX (EXT : (Nat → Nat) → (Nat → Prop) → State → Heap → Prop) (A : Nat → Prop) (s : State) (ad0 : Nat → Nat) (cA0 : Nat → ClassId) (n0 : Nat) : (Nat → Nat) → (Nat → ClassId) → Nat → Nat × Nat → Prop := fun ad cA n κ =>
  EXT ad A s s.heap ∧ (∀ i, i < n0 ∨ mm_ext ≤ i → ad i = ad0 i) ∧ n0 ≤ n ∧ (κ.1 = 0 → ad = ad0 ∧ cA = cA0 ∧ n = n0)
theorem mm_EX_cl {EXT : (Nat → Nat) → (Nat → Prop) → State → Heap → Prop} (hX : mm_xo EXT) {A : Nat → Prop} {s : State} {ad0 : Nat → Nat} {cA0 : Nat → ClassId} {n0 : Nat} : ∀ ad cA n κ ad' cA' n' κ', mm_EX EXT A s ad0 cA0 n0 ad cA n κ → (∀ i, i < n ∨ mm_ext ≤ i → ad' i = ad i) → n ≤ n' → 0 < (κ' : Nat × Nat).1 → mm_EX EXT A s ad0 cA0 n0 ad' cA' n' κ' := by
  intro ad cA n κ ad' cA' n' κ' ⟨h1, h2, h3, h4⟩ g1 g2 g3
  refine ⟨hX.2.2.2 _ _ _ _ _ h1 (fun i hi => g1 i (Or.inr hi)), fun i hi => ?_, by omega, fun q => by omega⟩
  rw [g1 i (by omega), h2 i hi]
theorem mm_leave {D : va_G} {cl : List vw_C} {EXT : (Nat → Nat) → (Nat → Prop) → State → Heap → Prop} {Q : mm_Q} {A : Nat → Prop} {s t : State} {ad0 ad : Nat → Nat} {cA0 cA : Nat → ClassId} {μ0 μ : mm_M} {mc : Nat} {κ : Nat × Nat} {H : Heap} {locs : List Loc} {v : Option Value} {as : Array Value} (hE : mm_EX EXT A s ad0 cA0 (mm_n μ0) ad cA (mm_n μ) κ) (hR : mm_Rl D cl s A ad cA μ H locs) (hmc : κ.1 ≤ mc) (hQ : Q v μ) (ht : t.heap = H) (hW : s.WarmedH t.vm) : mm_Qc D cl Q ad0 cA0 μ0 mc A as s (.returned (v.map (mm_cv ad))) t :=
  ⟨⟨v, μ, ad, cA, rfl, hQ, hE.2.1, hE.2.2.1, fun h => hE.2.2.2 (by omega), by rw [ht]; exact hR.1, hR.2.1, mm_ok_moved hW.alike hR.2.2.2⟩, hR.2.2.1.F ht⟩
theorem so_ret (X : mm_cx p R s m args c cc own Ts A D cl nL) {ad0 : Nat → Nat} {cA0 : Nat → ClassId} {μ0 : mm_M} {Q : mm_Q} {free : Addr → Prop} (hlk : meth.locks = false) (hfree : ∀ q, A q → free q) (hr : meth.sig.returnType = some .int) (hd : decode cc pc = .ok (.ireturn, 1)) : mm_SK p l e R s m args below meth c (MQ below (mm_Qc D cl Q ad0 cA0 μ0 R.cells A) args s R.cells R.slots free) D cl A nL (mm_EX EXT A s ad0 cA0 (mm_n μ0)) pc (mm_ret Q) := by
  intro lv st μ κ h ad cA H locs ls hE hR hL h1 h2
  unfold mm_ret at h
  split at h
  · refine W.widen h1 h2 ?_
    exact W.iret X.1 X.2.1 hr (fun t ht hW => mm_leave hE hR h1 h ht hW) (fun q hq => hfree _ (hR.2.2.1.2.2 q hq)) hd hlk
  · exact h.elim
theorem so_rtz (X : mm_cx p R s m args c cc own Ts A D cl nL) {ad0 : Nat → Nat} {cA0 : Nat → ClassId} {μ0 : mm_M} {Q : mm_Q} {free : Addr → Prop} (hlk : meth.locks = false) (hfree : ∀ q, A q → free q) (hr : meth.sig.returnType = some .boolean) (hd : decode cc pc = .ok (.ireturn, 1)) : mm_SK p l e R s m args below meth c (MQ below (mm_Qc D cl Q ad0 cA0 μ0 R.cells A) args s R.cells R.slots free) D cl A nL (mm_EX EXT A s ad0 cA0 (mm_n μ0)) pc (mm_rtz Q) := by
  intro lv st μ κ h ad cA H locs ls hE hR hL h1 h2
  unfold mm_rtz at h
  split at h
  · obtain ⟨hv, h⟩ := h
    refine W.widen h1 h2 ?_
    exact W.zret X.1 X.2.1 hr (by rcases hv with rfl | rfl <;> rfl) (fun t ht hW => mm_leave hE hR h1 h ht hW) (fun q hq => hfree _ (hR.2.2.1.2.2 q hq)) hd hlk
  · exact h.elim
theorem so_rtl (X : mm_cx p R s m args c cc own Ts A D cl nL) {ad0 : Nat → Nat} {cA0 : Nat → ClassId} {μ0 : mm_M} {Q : mm_Q} {free : Addr → Prop} (hlk : meth.locks = false) (hfree : ∀ q, A q → free q) (hr : meth.sig.returnType = some .long) (hd : decode cc pc = .ok (.lreturn, 1)) : mm_SK p l e R s m args below meth c (MQ below (mm_Qc D cl Q ad0 cA0 μ0 R.cells A) args s R.cells R.slots free) D cl A nL (mm_EX EXT A s ad0 cA0 (mm_n μ0)) pc (mm_rtl Q) := by
  intro lv st μ κ h ad cA H locs ls hE hR hL h1 h2
  unfold mm_rtl at h
  split at h
  · refine W.widen h1 h2 ?_
    exact W.lret X.1 X.2.1 hr (fun t ht hW => mm_leave hE hR h1 h ht hW) (fun q hq => hfree _ (hR.2.2.1.2.2 q hq)) hd hlk
  · exact h.elim
theorem so_rtv (X : mm_cx p R s m args c cc own Ts A D cl nL) {ad0 : Nat → Nat} {cA0 : Nat → ClassId} {μ0 : mm_M} {Q : mm_Q} {free : Addr → Prop} (hlk : meth.locks = false) (hfree : ∀ q, A q → free q) (hr : meth.sig.returnType = none) (hd : decode cc pc = .ok (.return_, 1)) : mm_SK p l e R s m args below meth c (MQ below (mm_Qc D cl Q ad0 cA0 μ0 R.cells A) args s R.cells R.slots free) D cl A nL (mm_EX EXT A s ad0 cA0 (mm_n μ0)) pc (mm_rtv Q) := by
  intro lv st μ κ h ad cA H locs ls hE hR hL h1 h2
  unfold mm_rtv at h
  split at h
  · refine W.widen h1 h2 ?_
    exact W.vret X.1 X.2.1 hr (fun t ht hW => mm_leave (v := none) hE hR h1 h ht hW) (fun q hq => hfree _ (hR.2.2.1.2.2 q hq)) hd hlk
  · exact h.elim
end
theorem mm_en_at (ad : Nat → Nat) : ∀ (n : Nat) (as : List Value) (i0 i : Nat) (v : Value), mm_lg (mm_en as n) i = some v → (i0 + i, mm_cv ad v) ∈ lv_args i0 (as.map (mm_cv ad))
  | 0, as, i0, i, v, h => by simp [mm_en, mm_lg] at h
  | n + 1, [], i0, 0, v, h => by simp [mm_en, mm_lg] at h
  | n + 1, [], i0, i + 1, v, h => by
    have := mm_en_at ad n [] (i0 + 1) i v (by simpa [mm_en, mm_lg] using h)
    simp [lv_args] at this
  | 1, .long x :: vs, i0, i, v, h => by
    cases i with
    | zero =>
      simp [mm_en, mm_lg] at h
      subst h
      simp [lv_args]
    | succ i => simp [mm_en, mm_lg] at h
  | n + 2, .long x :: vs, i0, i, v, h => by
    match i, h with
    | 0, h =>
      simp [mm_en, mm_lg] at h
      subst h
      simp [lv_args]
    | 1, h => simp [mm_en, mm_lg] at h
    | i + 2, h =>
      have h' := mm_en_at ad n vs (i0 + 2) i v (by simpa [mm_en, mm_lg] using h)
      simp only [List.map_cons, lv_args]
      rw [if_pos (by rfl)]
      refine List.mem_cons_of_mem _ ?_
      rw [show i0 + (i + 2) = i0 + 2 + i by omega]
      exact h'
  | n + 1, .int x :: vs, i0, i, v, h => by
    match i, h with
    | 0, h =>
      simp [mm_en, mm_lg] at h
      subst h
      simp [lv_args]
    | i + 1, h =>
      have h' := mm_en_at ad n vs (i0 + 1) i v (by simpa [mm_en, mm_lg] using h)
      simp only [List.map_cons, lv_args]
      rw [if_neg (by simp [mm_cv, Value.category])]
      refine List.mem_cons_of_mem _ ?_
      rw [show i0 + (i + 1) = i0 + 1 + i by omega]
      exact h'
  | n + 1, .ref x :: vs, i0, i, v, h => by
    match i, h with
    | 0, h =>
      simp [mm_en, mm_lg] at h
      subst h
      simp [lv_args]
    | i + 1, h =>
      have h' := mm_en_at ad n vs (i0 + 1) i v (by simpa [mm_en, mm_lg] using h)
      simp only [List.map_cons, lv_args]
      rw [if_neg (by simp [mm_cv, Value.category])]
      refine List.mem_cons_of_mem _ ?_
      rw [show i0 + (i + 1) = i0 + 1 + i by omega]
      exact h'
  | n + 1, .float x :: vs, i0, i, v, h => by
    match i, h with
    | 0, h =>
      simp [mm_en, mm_lg] at h
      subst h
      simp [lv_args]
    | i + 1, h =>
      have h' := mm_en_at ad n vs (i0 + 1) i v (by simpa [mm_en, mm_lg] using h)
      simp only [List.map_cons, lv_args]
      rw [if_neg (by simp [mm_cv, Value.category])]
      refine List.mem_cons_of_mem _ ?_
      rw [show i0 + (i + 1) = i0 + 1 + i by omega]
      exact h'
  | n + 1, .null :: vs, i0, i, v, h => by
    match i, h with
    | 0, h =>
      simp [mm_en, mm_lg] at h
      subst h
      simp [lv_args]
    | i + 1, h =>
      have h' := mm_en_at ad n vs (i0 + 1) i v (by simpa [mm_en, mm_lg] using h)
      simp only [List.map_cons, lv_args]
      rw [if_neg (by simp [mm_cv, Value.category])]
      refine List.mem_cons_of_mem _ ?_
      rw [show i0 + (i + 1) = i0 + 1 + i by omega]
      exact h'
  | n + 1, .retAddr x :: vs, i0, i, v, h => by
    match i, h with
    | 0, h =>
      simp [mm_en, mm_lg] at h
      subst h
      simp [lv_args]
    | i + 1, h =>
      have h' := mm_en_at ad n vs (i0 + 1) i v (by simpa [mm_en, mm_lg] using h)
      simp only [List.map_cons, lv_args]
      rw [if_neg (by simp [mm_cv, Value.category])]
      refine List.mem_cons_of_mem _ ?_
      rw [show i0 + (i + 1) = i0 + 1 + i by omega]
      exact h'
  | n + 1, .double x :: vs, i0, i, v, h => by
    simp [mm_en, mm_lg] at h
