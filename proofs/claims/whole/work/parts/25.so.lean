section
variable {p : Program} {l : Launch} {e : Env} {R : Room} {s : State} {m : MethodId} {args : Array Value} {below : List Frame} {meth : Method} {c : Code} {Qw : State → Prop} {D : va_G} {cl : List vw_C} {A : Nat → Prop} {nL : Nat} {EX : (Nat → Nat) → (Nat → ClassId) → Nat → Nat × Nat → Prop} {cc : ByteArray} {own : String} {Ts : List Cond} {pc : Nat} {k : mm_K} {J : mm_J}
variable {EXT : (Nat → Nat) → (Nat → Prop) → State → Heap → Prop} {tab : Nat → mm_T} {d : Nat} {C : mm_C} {B : Nat × Nat}
theorem so_bad : mm_SK p l e R s m args below meth c Qw D cl A nL EX pc mm_bad := fun _ _ _ _ h => h.elim
theorem so_pop (X : mm_cx p R s m args c cc own Ts A D cl nL) (hd : decode cc pc = .ok (.pop, 1)) (K : mm_SK p l e R s m args below meth c Qw D cl A nL EX (pc + 1) k) : mm_SK p l e R s m args below meth c Qw D cl A nL EX pc (mm_pop k) := by
  intro lv st μ κ h ad cA H locs ls hE hR hL h1 h2
  unfold mm_pop at h
  split at h
  · exact lv_pop X.1 X.2.1 hd ((mm_cv_cat ad _).trans h.1) (K lv _ μ κ h.2 ad cA H locs ls hE hR hL h1 h2)
  · exact h.elim
theorem so_i2c (X : mm_cx p R s m args c cc own Ts A D cl nL) (hd : decode cc pc = .ok (.i2c, 1)) (K : mm_SK p l e R s m args below meth c Qw D cl A nL EX (pc + 1) k) : mm_SK p l e R s m args below meth c Qw D cl A nL EX pc (mm_i1 (fun x => (x.toUInt32 % 65536).toInt32) k) := by
  intro lv st μ κ h ad cA H locs ls hE hR hL h1 h2
  obtain ⟨x, st, rfl, h⟩ := mm_i1_v h
  exact lv_i2c X.1 X.2.1 hd rfl (K lv _ μ κ h ad cA H locs ls hE hR hL h1 h2)
theorem so_gsi (X : mm_cx p R s m args c cc own Ts A D cl nL) {index : Nat} {C n d' : String} {v : Int32} (hZ : ∀ ad cA q κ, EX ad cA q κ → va_Z C n d' (.int v) A s s.heap) (hw : Cond.fieldLink own index C n d' ∈ Ts) (hd : decode cc pc = .ok (.getstatic index, 3)) (K : mm_SK p l e R s m args below meth c Qw D cl A nL EX (pc + 3) k) : mm_SK p l e R s m args below meth c Qw D cl A nL EX pc (mm_cst (.int v) k) := by
  intro lv st μ κ h ad cA H locs ls hE hR hL h1 h2
  exact va_gets X.1 X.2.1 (hZ _ _ _ _ hE) hR.2.2.1 X.2.2.2.1 (X.2.2.2.2.1 _ hw) (fun _ h => h) hd (K lv _ μ κ h ad cA H locs ls hE hR hL h1 h2)
theorem so_zq (X : mm_cx p R s m args c cc own Ts A D cl nL) {index : Nat} {C n d' : String} (hZ : ∀ ad cA q κ, EX ad cA q κ → va_Z C n d' .null A s s.heap ∨ va_Z C n d' (.ref (ad (mm_ext + 50))) A s s.heap) (hw : Cond.fieldLink own index C n d' ∈ Ts) (hd : decode cc pc = .ok (.getstatic index, 3)) (K : mm_SK p l e R s m args below meth c Qw D cl A nL EX (pc + 3) k) : mm_SK p l e R s m args below meth c Qw D cl A nL EX pc (mm_zq k) := by
  intro lv st μ κ h ad cA H locs ls hE hR hL h1 h2
  rcases hZ _ _ _ _ hE with q | q
  · exact va_gets X.1 X.2.1 q hR.2.2.1 X.2.2.2.1 (X.2.2.2.2.1 _ hw) (fun _ h => h) hd (K lv _ μ κ h.2 ad cA H locs ls hE hR hL h1 h2)
  · exact va_gets X.1 X.2.1 q hR.2.2.1 X.2.2.2.1 (X.2.2.2.2.1 _ hw) (fun _ h => h) hd (K lv _ μ κ h.1 ad cA H locs ls hE hR hL h1 h2)
theorem so_lds (X : mm_cx p R s m args c cc own Ts A D cl nL) {index j : Nat} {tx : String} (hZ : ∀ ad cA q κ, EX ad cA q κ → vk_R own index tx (ad (mm_ext + j)) s) (hd : decode cc pc = .ok (.ldc index, 2)) (K : mm_SK p l e R s m args below meth c Qw D cl A nL EX (pc + 2) k) : mm_SK p l e R s m args below meth c Qw D cl A nL EX pc (mm_cst (.ref (mm_ext + j)) k) := by
  intro lv st μ κ h ad cA H locs ls hE hR hL h1 h2
  exact va_ldcS X.1 X.2.1 X.2.2.2.1 (hZ _ _ _ _ hE) hd (K lv _ μ κ h ad cA H locs ls hE hR hL h1 h2)
theorem so_sgv (X : mm_cx p R s m args c cc own Ts A D cl nL) {index : Nat} (hZ : ∀ ad cA q κ, EX ad cA q κ → vk_S 5 mm_sl5 mm_sb5 (fun j => ad (mm_ext + (j + 1))) (fun j => ad (mm_ext + (j + 101))) A s s.heap) (hw : Cond.fieldLink own index "java/lang/String" "value" "[B" ∈ Ts) (hd : decode cc pc = .ok (.getfield index, 3)) (K : mm_SK p l e R s m args below meth c Qw D cl A nL EX (pc + 3) k) : mm_SK p l e R s m args below meth c Qw D cl A nL EX pc (mm_sgv k) := by
  intro lv st μ κ h ad cA H locs ls hE hR hL h1 h2
  unfold mm_sgv at h
  split at h
  · obtain ⟨j, hj, rfl, h⟩ := h
    exact vk_getf X.1 X.2.1 ((hZ _ _ _ _ hE).1 j hj).2.2.1 hR.2.2.1 X.2.2.2.1 (X.2.2.2.2.1 _ hw) (fun _ h => h) hd (K lv _ μ κ h ad cA H locs ls hE hR hL h1 h2)
  · exact h.elim
theorem so_sgc (X : mm_cx p R s m args c cc own Ts A D cl nL) {index : Nat} (hZ : ∀ ad cA q κ, EX ad cA q κ → vk_S 5 mm_sl5 mm_sb5 (fun j => ad (mm_ext + (j + 1))) (fun j => ad (mm_ext + (j + 101))) A s s.heap) (hw : Cond.fieldLink own index "java/lang/String" "coder" "B" ∈ Ts) (hd : decode cc pc = .ok (.getfield index, 3)) (K : mm_SK p l e R s m args below meth c Qw D cl A nL EX (pc + 3) k) : mm_SK p l e R s m args below meth c Qw D cl A nL EX pc (mm_sgc k) := by
  intro lv st μ κ h ad cA H locs ls hE hR hL h1 h2
  unfold mm_sgc at h
  split at h
  · obtain ⟨j, hj, rfl, h⟩ := h
    exact vk_getf X.1 X.2.1 ((hZ _ _ _ _ hE).1 j hj).2.1 hR.2.2.1 X.2.2.2.1 (X.2.2.2.2.1 _ hw) (fun _ h => h) hd (K lv _ μ κ h ad cA H locs ls hE hR hL h1 h2)
  · exact h.elim
theorem so_sln (X : mm_cx p R s m args c cc own Ts A D cl nL) (hZ : ∀ ad cA q κ, EX ad cA q κ → vk_S 5 mm_sl5 mm_sb5 (fun j => ad (mm_ext + (j + 1))) (fun j => ad (mm_ext + (j + 101))) A s s.heap) (hd : decode cc pc = .ok (.arraylength, 1)) (K : mm_SK p l e R s m args below meth c Qw D cl A nL EX (pc + 1) k) : mm_SK p l e R s m args below meth c Qw D cl A nL EX pc (mm_sln k) := by
  intro lv st μ κ h ad cA H locs ls hE hR hL h1 h2
  unfold mm_sln at h
  split at h
  · obtain ⟨j, hj, rfl, h⟩ := h
    exact va_tlen X.1 X.2.1 ((hZ _ _ _ _ hE).1 j hj).2.2.2 hR.2.2.1 rfl hd (K lv _ μ κ h ad cA H locs ls hE hR hL h1 h2)
  · exact h.elim
theorem so_sbl (X : mm_cx p R s m args c cc own Ts A D cl nL) (hZ : ∀ ad cA q κ, EX ad cA q κ → vk_S 5 mm_sl5 mm_sb5 (fun j => ad (mm_ext + (j + 1))) (fun j => ad (mm_ext + (j + 101))) A s s.heap) (hd : decode cc pc = .ok (.baload, 1)) (K : mm_SK p l e R s m args below meth c Qw D cl A nL EX (pc + 1) k) : mm_SK p l e R s m args below meth c Qw D cl A nL EX pc (mm_sbl k) := by
  intro lv st μ κ h ad cA H locs ls hE hR hL h1 h2
  unfold mm_sbl at h
  split at h
  · obtain ⟨j, hj, rfl, hi, h⟩ := h
    exact va_tb X.1 X.2.1 ((hZ _ _ _ _ hE).1 j hj).2.2.2 hR.2.2.1 hi rfl hd (K lv _ μ κ h ad cA H locs ls hE hR hL h1 h2)
  · exact h.elim
theorem so_rtn (X : mm_cx p R s m args c cc own Ts A D cl nL) {ad0 : Nat → Nat} {cA0 : Nat → ClassId} {μ0 : mm_M} {Q : mm_Q} {free : Addr → Prop} (hlk : meth.locks = false) (hfree : ∀ q, A q → free q) {ty : FieldType} (hr : meth.sig.returnType = some ty) (hd : decode cc pc = .ok (.ireturn, 1)) : mm_SK p l e R s m args below meth c (MQ below (mm_Qc D cl Q ad0 cA0 μ0 R.cells A) args s R.cells R.slots free) D cl A nL (mm_EX EXT A s ad0 cA0 (mm_n μ0)) pc (mm_rtn ty Q) := by
  intro lv st μ κ h ad cA H locs ls hE hR hL h1 h2
  unfold mm_rtn at h
  split at h
  · obtain ⟨hv, h⟩ := h
    refine W.widen h1 h2 ?_
    exact W.zret X.1 X.2.1 hr hv (fun t ht hW => mm_leave hE hR h1 h ht hW) (fun q hq => hfree _ (hR.2.2.1.2.2 q hq)) hd hlk
  · exact h.elim
theorem so_css (X : mm_cx p R s m args c cc own Ts A D cl nL) (hX : mm_xo EXT) (hxt : ∀ ad cA n κ, EX ad cA n κ → EXT ad A s s.heap) (hC : mm_CS l D cl Ts EXT tab d C) (hg : ∀ w ∈ Ts, (w.onTables && w.keeps) = true ∨ ∃ ty, w = .arrayClass ty) (hfr : d + 1 ≤ R.frames) (hlo : 256 * d + 256 ≤ R.locals) {y na index maxL : Nat} {nm : MethodName} {bytes : ByteArray} {ret : Option FieldType} (ht : tab y = (nm, bytes, maxL, ret, 0, 0)) (hmx : maxL ≤ 200) (hcd : Cond.code nm bytes maxL ret ∈ Ts) (hw : Cond.methodLink own index nm ∈ Ts) (hni : Cond.initialized nm.cls ∈ Ts) (hZ : ∀ ad cA q κ, EX ad cA q κ → vk_S 5 mm_sl5 mm_sb5 (fun j => ad (mm_ext + (j + 1))) (fun j => ad (mm_ext + (j + 101))) A s s.heap) (hcl : nm.cls = "java/lang/String") (hi : Cond.instanceMethod nm ∈ Ts) (hs : Cond.selects nm.cls nm nm ∈ Ts) (hnm : nm.cls ≠ "java/lang/invoke/MethodHandle" ∧ nm.cls ≠ "java/lang/invoke/VarHandle" ∧ (parseMethodDescriptor nm.desc).map (fun d => d.parameters.length + 1) = some na) (hd : decode cc pc = .ok (.invokevirtual index, 3)) (K : mm_SK p l e R s m args below meth c Qw D cl A nL EX (pc + 3) k) : mm_SK p l e R s m args below meth c Qw D cl A nL EX pc (mm_css y na C k) := by
  intro lv st μ κ h ad cA H locs ls hE hR hL h1 h2
  obtain ⟨bs, st1, rfl, hlen, ⟨j, As, hj, hrc⟩, hsum, hq⟩ := mm_pa_v na [] st h
  simp only [List.append_nil] at hrc hq
  generalize has : bs.reverse = as at hrc hq
  have hbs : bs = as.reverse := by rw [← has, List.reverse_reverse]
  subst hbs
  subst hrc
  have hFc : ∀ q, va_A (mm_wd ad cA μ) H.size q → A q := by
    rintro q (⟨i, ee, hi⟩ | hq)
    · exact hR.2.1.2 i _ hi
    · exact X.2.2.2.2.2.1 q (Nat.le_trans hR.2.2.1.1 hq)
  have hXe : EXT ad (va_A (mm_wd ad cA μ) H.size) s H := hX.2.2.1 _ _ _ _ _ (hX.2.1 _ _ _ _ _ (hxt _ _ _ _ hE) hR.2.2.1.2.1) hFc
  have hPre : ∀ U : State, U.heap = H → s.WarmedH U.vm → mm_Pc D cl EXT ad cA μ (.ref (mm_ext + (j + 1)) :: As) H.size ((.ref (mm_ext + (j + 1)) :: As : List Value).map (mm_cv ad)).toArray U := fun U hU hW => ⟨rfl, by rw [hU], by rw [hU]; exact hR.1, va_K.moved hW.alike X.2.2.2.2.2.2, hR.2.1.weaken (fun _ _ _ _ => trivial), mm_ok_moved hW.alike hR.2.2.2, hX.1 _ _ _ _ _ (Or.inl hW) (by rw [hU]; exact hXe)⟩
  have hM := hC y _ μ _ hq ad cA H.size
  rw [ht] at hM
  have hrv := vk_recv (i := j) (hZ _ _ _ _ hE) hj hR.2.2.1
  refine mm_back (mc := 0) (ms := 0) (va_runV (C := nm.cls) (As := As.map (mm_cv ad)) (rest := st1.map (mm_cv ad)) (b := ad (mm_ext + (j + 1))) (n := na - 1) ⟨X.1, X.2.1, X.2.2.1, X.2.2.2.1, X.2.2.2.2.1⟩ hM (cwV (na - 1) X.2.2.2.2.1 ?_ rfl rfl rfl ⟨rfl, hnm.1, hnm.2.1, ?_⟩ ⟨hfr, ?_⟩) ⟨mm_blind hX, by rw [hcl]; exact hrv, hPre⟩ rfl ?_ hL.1 ?_ (lv_room (by rw [mm_sum_cv]; exact hsum)) hd ⟨h1, h2⟩) hR.2.2.1 hFc (fun v μ' ad' cA' H1 locs1 hQ g1 g2 g3 hR1 => ?_)
  · intro w hw'
    rcases List.mem_append.mp hw' with q | q
    · simp only [List.mem_cons, List.not_mem_nil, or_false] at q
      rcases q with rfl | rfl | rfl | rfl
      · exact ⟨hw, hg _ hw⟩
      · exact ⟨hi, hg _ hi⟩
      · exact ⟨hs, hg _ hs⟩
      · exact ⟨hni, hg _ hni⟩
    · rcases List.mem_cons.mp q with rfl | q
      · exact ⟨hcd, hg _ hcd⟩
      · exact ⟨q, hg _ q⟩
  · have h9 := hnm.2.2
    cases hp : parseMethodDescriptor nm.desc with
    | none => rw [hp] at h9; cases h9
    | some sg => rw [hp] at h9; simp at h9 ⊢; omega
  · show 8 + (maxL + 11) + 256 * d ≤ R.locals
    omega
  · simp at hlen ⊢
    omega
  · simp [mm_cv]
  · obtain ⟨rfl, rfl, e3⟩ := g3 rfl
    rw [mm_ps_cv]
    exact K lv _ μ' κ hQ ad' cA' H1 locs1 ls (by rw [e3]; exact hE) hR1 hL h1 h2
end
