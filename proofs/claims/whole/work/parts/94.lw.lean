/-! the law's own value and sum; a call of them; the law's script and its end -/
def LV (V : List Value → mm_M → mm_Q → Prop) (as : List Value) (μ : mm_M) (Q : mm_Q) : Prop := match as with
  | [.ref a, .int x, .int y, .int z, .ref b] => mm_z μ a = .inr 6 ∧ a < mm_n μ ∧ b < mm_n μ ∧ V [.ref a, .int x, .int y, .int z] μ (VQ (fun v μ' => ∃ nn, mm_z μ' b = .inl (.long, nn) ∧ vp_in 0 nn ∧ Q (some (.int 0)) (mm_sl μ' b (0 : Int32).toNatClampNeg v.toInt64)) (fun n μ' => Q (some (.int (nI n))) μ'))
  | _ => False
def kL (V : List Value → mm_M → mm_Q → Prop) (Q : mm_Q) : mm_K := mm_lda 4 <| mm_cst (.int 0) <| mm_lda 0 <| mm_ldi 1 <| mm_ldi 2 <| mm_ldi 3 <| mm_try V (mm_i2l <| mm_lst <| mm_go 0 (fun _ => mm_cst (.int 0) <| mm_ret Q)) (fun n => mm_cst (.int (nI n)) <| mm_ret Q)
theorem LV_k {V : List Value → mm_M → mm_Q → Prop} {as : List Value} {μ : mm_M} {Q : mm_Q} (h : LV V as μ Q) : mm_sum as ≤ 6 ∧ kL V Q (mm_en as 6) [] μ (0, 0) := by
  unfold LV at h
  split at h
  · obtain ⟨h1, h2, h3, h4⟩ := h
    refine ⟨by simp [mm_sum, Value.category], h1, by simp [mm_sum, Value.category], rfl, ⟨trivial, Or.inl h3, trivial⟩, ⟨Or.inl h2, trivial, trivial, trivial, Or.inl h3, trivial⟩, h4⟩
  · exact h.elim
theorem tw_604 : Cond.code yX6_value cX6_value 5 (some .int) ∈ lw_T := lw_it (i := 615) (by decide +kernel) (by decide +kernel)
theorem tw_605 : Cond.methodLink RL 7 yX6_value ∈ lw_T := lw_it (i := 612) (by decide +kernel) (by decide +kernel)
theorem tw_606 : Cond.instanceMethod yX6_value ∈ lw_T := lw_it (i := 613) (by decide +kernel) (by decide +kernel)
theorem tw_607 : Cond.selects RX6 yX6_value yX6_value ∈ lw_T := lw_it (i := 614) (by decide +kernel) (by decide +kernel)
theorem tw_608 : Cond.code yX6_sum cX6_sum 4 (some .int) ∈ lw_T := lw_it (i := 734) (by decide +kernel) (by decide +kernel)
theorem tw_609 : Cond.methodLink RL 19 yX6_sum ∈ lw_T := lw_it (i := 731) (by decide +kernel) (by decide +kernel)
theorem tw_610 : Cond.instanceMethod yX6_sum ∈ lw_T := lw_it (i := 732) (by decide +kernel) (by decide +kernel)
theorem tw_611 : Cond.selects RX6 yX6_sum yX6_sum ∈ lw_T := lw_it (i := 733) (by decide +kernel) (by decide +kernel)
theorem lk_value {l : Launch} {D : va_G} {d : Nat} {V : List Value → mm_M → mm_Q → Prop} (hV : ∀ as μ Q, V as μ Q → ∀ ad cA sz, vx_Met l yX6_value (.code yX6_value cX6_value 5 (some .int) :: lw_T) (mm_rm (d + 6) 1 6) (mm_Pc D pcl XX ad cA μ as sz) (mm_Qc D pcl (RQ Q) ad cA μ 1 (va_A (mm_wd ad cA μ) sz)) (vX D Q ad cA μ (va_A (mm_wd ad cA μ) sz)) 1 6 (va_A (mm_wd ad cA μ) sz)) {p : Program} {e : Env} {s : State} {m : MethodId} {args : Array Value} {below : List Frame} {meth : Method} {c : Code} {A : Nat → Prop} {ad0 : Nat → Nat} {cA0 : Nat → ClassId} {μ0 : mm_M} {free : Addr → Prop} {Q : mm_Q} (X : mm_cx p (mm_rm (d + 7) 1 6) s m args c cL_value RL lw_T A D pcl 6) (hr : meth.sig.returnType = some .int) (hlk : meth.locks = false) (hfree : ∀ q, A q → free q) (htb : c.exceptionTable.toList = tableOf hhL) : mm_SK p l e (mm_rm (d + 7) 1 6) s m args below meth c (MQ below (mm_Qc D pcl Q ad0 cA0 μ0 1 A) args s 1 6 free) D pcl A 6 (mm_EX XX A s ad0 cA0 (mm_n μ0)) 0 (kL V Q) := by
  refine so_aload (pc := 0) (i := 4) X (by decide +kernel) ?_
  refine so_iconst (pc := 2) (n := 0) (v := 0) X (by decide +kernel) (by decide) ?_
  refine so_aload_n (pc := 3) (i := 0) X (by decide +kernel) ?_
  refine so_iload_n (pc := 4) (i := 1) X (by decide +kernel) ?_
  refine so_iload_n (pc := 5) (i := 2) X (by decide +kernel) ?_
  refine so_iload_n (pc := 6) (i := 3) X (by decide +kernel) ?_
  refine so_try (pc := 7) (d1 := d + 6) (index := 7) (maxL := 5) (y := yX6_value) (bytes := cX6_value) X hV (Nat.le_refl _) (mm_lo (d + 6)) (Nat.le_refl _) (Nat.le_refl _) (by decide) tw_604 tw_605 tw_259 tw_606 tw_607 rfl (by decide +kernel) htb rfl (by decide +kernel) (by decide +kernel) (by decide +kernel) (by decide +kernel) ?_ (fun n hn => ?_)
  · refine so_i2l (pc := 10) X (by decide +kernel) ?_
    refine so_last (pc := 11) X (by decide +kernel) ?_
    refine so_goto (pc := 12) (off := 15) (tgt := 27) X (by decide +kernel) (by decide) ?_
    refine so_iconst (pc := 27) (n := 0) (v := 0) X (by decide +kernel) (by decide) ?_
    exact so_ret (pc := 28) X hlk hfree hr (by decide +kernel)
  · rcases hn with rfl | rfl | rfl
    · refine so_iconst (pc := 17) (n := 1) (v := nI 1) X (by decide +kernel) (by decide) ?_
      exact so_ret (pc := 18) X hlk hfree hr (by decide +kernel)
    · refine so_iconst (pc := 21) (n := 2) (v := nI 2) X (by decide +kernel) (by decide) ?_
      exact so_ret (pc := 22) X hlk hfree hr (by decide +kernel)
    · refine so_iconst (pc := 25) (n := 3) (v := nI 3) X (by decide +kernel) (by decide) ?_
      exact so_ret (pc := 26) X hlk hfree hr (by decide +kernel)
theorem lm_value {l : Launch} (hlt : l.stackTraces = false) {D : va_G} {d : Nat} (hC : mm_CS l D pcl lw_T XX px_tab (d + 5) (Ev (d + 5))) {as : List Value} {μ : mm_M} {Q : mm_Q} (hq : LV (fun as μ Q => Xv (d + 5) vb_value 5 as μ Q) as μ Q) (ad : Nat → Nat) (cA : Nat → ClassId) (sz : Nat) :
    Met l yL_value (.codeWith yL_value cL_value 6 (some .int) hhL :: lw_T) (mm_rm (d + 7) 1 6) (mm_Pc D pcl XX ad cA μ as sz) (mm_Qc D pcl Q ad cA μ 1 (va_A (mm_wd ad cA μ) sz)) 1 6 (va_A (mm_wd ad cA μ) sz) := by
  refine va_MetW (cc := cL_value) (maxL := 6) (ret := some .int) (hh := hhL) (by decide +kernel) rfl ?_
  intro p e s m args below meth c s₁ B hml hv
  obtain ⟨rfl, hsz, hP, hK, hD0, hok, hx⟩ := hv
  subst hsz
  have hts0 := atoms_spec (ws := (.codeWith yL_value cL_value 6 (some .int) hhL :: lw_T)) B.pre
  have hD := hD0.self (sz := s.heap.size)
  have htb := vx_table (x := yL_value) B (hts0 _ List.mem_cons_self)
  obtain ⟨hfit, hk⟩ := LV_k hq
  have X : mm_cx p (mm_rm (d + 7) 1 6) s m (as.map (mm_cv ad)).toArray c cL_value RL lw_T (va_A (mm_wd ad cA μ) s.heap.size) D pcl 6 :=
    ⟨B.exec, B.bytes, hml, findClass_of_methodNamed B.named, fun w hw => hts0 w (List.mem_cons_of_mem _ hw), fun q h => Or.inr h, hK⟩
  have hl := lv_entry (as.map (mm_cv ad)) (n := 6) (by rw [mm_sl_len, mm_sum_map]; exact hfit)
  rw [lg_entry_eq]
  refine lk_value (fun as μ Q h ad cA sz => vm_value hlt hC h ad cA sz) X B.returns B.notSynchronized (fun q h => h) htb _ [] μ (0, 0) hk ad cA s.heap [] _ ⟨hx, fun _ _ => rfl, Nat.le_refl _, fun _ => ⟨rfl, rfl, rfl⟩⟩ ⟨hP, hD, va_S.rf, hok⟩ ⟨hl.1, hl.2.1, fun i v hi => ?_⟩ (Nat.zero_le _) (Nat.zero_le _)
  have := mm_en_at ad _ as 0 i v hi
  rw [Nat.zero_add] at this
  exact hl.2.2 _ this
theorem lk_sum {l : Launch} {D : va_G} {d : Nat} {V : List Value → mm_M → mm_Q → Prop} (hV : ∀ as μ Q, V as μ Q → ∀ ad cA sz, vx_Met l yX6_sum (.code yX6_sum cX6_sum 4 (some .int) :: lw_T) (mm_rm (d + 6) 1 6) (mm_Pc D pcl XX ad cA μ as sz) (mm_Qc D pcl (RQ Q) ad cA μ 1 (va_A (mm_wd ad cA μ) sz)) (vX D Q ad cA μ (va_A (mm_wd ad cA μ) sz)) 1 6 (va_A (mm_wd ad cA μ) sz)) {p : Program} {e : Env} {s : State} {m : MethodId} {args : Array Value} {below : List Frame} {meth : Method} {c : Code} {A : Nat → Prop} {ad0 : Nat → Nat} {cA0 : Nat → ClassId} {μ0 : mm_M} {free : Addr → Prop} {Q : mm_Q} (X : mm_cx p (mm_rm (d + 7) 1 6) s m args c cL_sum RL lw_T A D pcl 6) (hr : meth.sig.returnType = some .int) (hlk : meth.locks = false) (hfree : ∀ q, A q → free q) (htb : c.exceptionTable.toList = tableOf hhL) : mm_SK p l e (mm_rm (d + 7) 1 6) s m args below meth c (MQ below (mm_Qc D pcl Q ad0 cA0 μ0 1 A) args s 1 6 free) D pcl A 6 (mm_EX XX A s ad0 cA0 (mm_n μ0)) 0 (kL V Q) := by
  refine so_aload (pc := 0) (i := 4) X (by decide +kernel) ?_
  refine so_iconst (pc := 2) (n := 0) (v := 0) X (by decide +kernel) (by decide) ?_
  refine so_aload_n (pc := 3) (i := 0) X (by decide +kernel) ?_
  refine so_iload_n (pc := 4) (i := 1) X (by decide +kernel) ?_
  refine so_iload_n (pc := 5) (i := 2) X (by decide +kernel) ?_
  refine so_iload_n (pc := 6) (i := 3) X (by decide +kernel) ?_
  refine so_try (pc := 7) (d1 := d + 6) (index := 19) (maxL := 4) (y := yX6_sum) (bytes := cX6_sum) X hV (Nat.le_refl _) (mm_lo (d + 6)) (Nat.le_refl _) (Nat.le_refl _) (by decide) tw_608 tw_609 tw_259 tw_610 tw_611 rfl (by decide +kernel) htb rfl (by decide +kernel) (by decide +kernel) (by decide +kernel) (by decide +kernel) ?_ (fun n hn => ?_)
  · refine so_i2l (pc := 10) X (by decide +kernel) ?_
    refine so_last (pc := 11) X (by decide +kernel) ?_
    refine so_goto (pc := 12) (off := 15) (tgt := 27) X (by decide +kernel) (by decide) ?_
    refine so_iconst (pc := 27) (n := 0) (v := 0) X (by decide +kernel) (by decide) ?_
    exact so_ret (pc := 28) X hlk hfree hr (by decide +kernel)
  · rcases hn with rfl | rfl | rfl
    · refine so_iconst (pc := 17) (n := 1) (v := nI 1) X (by decide +kernel) (by decide) ?_
      exact so_ret (pc := 18) X hlk hfree hr (by decide +kernel)
    · refine so_iconst (pc := 21) (n := 2) (v := nI 2) X (by decide +kernel) (by decide) ?_
      exact so_ret (pc := 22) X hlk hfree hr (by decide +kernel)
    · refine so_iconst (pc := 25) (n := 3) (v := nI 3) X (by decide +kernel) (by decide) ?_
      exact so_ret (pc := 26) X hlk hfree hr (by decide +kernel)
theorem lm_sum {l : Launch} (hlt : l.stackTraces = false) {D : va_G} {d : Nat} (hC : mm_CS l D pcl lw_T XX px_tab (d + 5) (Ev (d + 5))) {as : List Value} {μ : mm_M} {Q : mm_Q} (hq : LV (fun as μ Q => Xv (d + 5) vb_sum 4 as μ Q) as μ Q) (ad : Nat → Nat) (cA : Nat → ClassId) (sz : Nat) :
    Met l yL_sum (.codeWith yL_sum cL_sum 6 (some .int) hhL :: lw_T) (mm_rm (d + 7) 1 6) (mm_Pc D pcl XX ad cA μ as sz) (mm_Qc D pcl Q ad cA μ 1 (va_A (mm_wd ad cA μ) sz)) 1 6 (va_A (mm_wd ad cA μ) sz) := by
  refine va_MetW (cc := cL_sum) (maxL := 6) (ret := some .int) (hh := hhL) (by decide +kernel) rfl ?_
  intro p e s m args below meth c s₁ B hml hv
  obtain ⟨rfl, hsz, hP, hK, hD0, hok, hx⟩ := hv
  subst hsz
  have hts0 := atoms_spec (ws := (.codeWith yL_sum cL_sum 6 (some .int) hhL :: lw_T)) B.pre
  have hD := hD0.self (sz := s.heap.size)
  have htb := vx_table (x := yL_sum) B (hts0 _ List.mem_cons_self)
  obtain ⟨hfit, hk⟩ := LV_k hq
  have X : mm_cx p (mm_rm (d + 7) 1 6) s m (as.map (mm_cv ad)).toArray c cL_sum RL lw_T (va_A (mm_wd ad cA μ) s.heap.size) D pcl 6 :=
    ⟨B.exec, B.bytes, hml, findClass_of_methodNamed B.named, fun w hw => hts0 w (List.mem_cons_of_mem _ hw), fun q h => Or.inr h, hK⟩
  have hl := lv_entry (as.map (mm_cv ad)) (n := 6) (by rw [mm_sl_len, mm_sum_map]; exact hfit)
  rw [lg_entry_eq]
  refine lk_sum (fun as μ Q h ad cA sz => vm_sum hlt hC h ad cA sz) X B.returns B.notSynchronized (fun q h => h) htb _ [] μ (0, 0) hk ad cA s.heap [] _ ⟨hx, fun _ _ => rfl, Nat.le_refl _, fun _ => ⟨rfl, rfl, rfl⟩⟩ ⟨hP, hD, va_S.rf, hok⟩ ⟨hl.1, hl.2.1, fun i v hi => ?_⟩ (Nat.zero_le _) (Nat.zero_le _)
  have := mm_en_at ad _ as 0 i v hi
  rw [Nat.zero_add] at this
  exact hl.2.2 _ this
/-- a call of one of them, out of the law -/
def mm_cal (V : List Value → mm_M → mm_Q → Prop) (B : Nat × Nat) (k : mm_K) : mm_K := fun lv st μ κ => mm_pa 5 [] st (fun as st => mm_sum st ≤ 8 ∧ mm_ks (mm_n μ) st ∧ mm_kv (mm_n μ) lv ∧ κ.1 + 1 ≤ B.1 ∧ κ.2 + 6 ≤ B.2 ∧ LV V as μ (fun v μ => k lv (mm_ps v st) μ (κ.1 + 1, κ.2 + 6)))
/-- the law's script; its end -/
def mm_sld (L : Nat) (xs : Nat → Int32) (k : mm_K) : mm_K := fun lv st μ κ => match st with
  | .int i :: .ref a :: st => a = mm_ext + 300 ∧ vp_in i L ∧ k lv (.int (xs i.toNatClampNeg) :: st) μ κ
  | _ => False
def mm_sle (L : Nat) (k : mm_K) : mm_K := fun lv st μ κ => match st with
  | .ref a :: st => a = mm_ext + 300 ∧ k lv (.int (Int32.ofNat L) :: st) μ κ
  | _ => False
def mm_lwr : mm_K := fun _ st _ _ => st = [.int 1]
section
variable {p : Program} {l : Launch} {e : Env} {R : Room} {s : State} {m : MethodId} {args : Array Value} {below : List Frame} {meth : Method} {c : Code} {Qw : State → Prop} {D : va_G} {A : Nat → Prop} {nL : Nat} {cc : ByteArray} {pc : Nat} {k : mm_K} {ad0 : Nat → Nat} {cA0 : Nat → ClassId} {n0 : Nat}
theorem so_cal {V : List Value → mm_M → mm_Q → Prop} {B : Nat × Nat} {d1 index : Nat} {y : MethodName} {bytes : ByteArray} (X : mm_cx p R s m args c cc RL lw_T A D pcl nL) (hB : B.1 ≤ R.cells ∧ B.2 ≤ R.slots)
    (hV : ∀ as μ Q, LV V as μ Q → ∀ ad cA sz, Met l y (.codeWith y bytes 6 (some .int) hhL :: lw_T) (mm_rm d1 1 6) (mm_Pc D pcl XX ad cA μ as sz) (mm_Qc D pcl Q ad cA μ 1 (va_A (mm_wd ad cA μ) sz)) 1 6 (va_A (mm_wd ad cA μ) sz))
    (hfr : d1 + 1 ≤ R.frames) (hlo : 256 * d1 + 256 ≤ R.locals) (hcd : Cond.codeWith y bytes 6 (some .int) hhL ∈ lw_T) (hw : Cond.methodLink RL index y ∈ lw_T) (hni : Cond.initialized y.cls ∈ lw_T) (hi : Cond.static y ∈ lw_T) (hnm : y.cls ≠ "java/lang/invoke/MethodHandle" ∧ y.cls ≠ "java/lang/invoke/VarHandle" ∧ (parseMethodDescriptor y.desc).map (fun d => d.parameters.length) = some 5)
    (hd : decode cc pc = .ok (.invokestatic index, 3)) (K : mm_SK p l e R s m args below meth c Qw D pcl A nL (mm_EX XX A s ad0 cA0 n0) (pc + 3) k) : mm_SK p l e R s m args below meth c Qw D pcl A nL (mm_EX XX A s ad0 cA0 n0) pc (mm_cal V B k) := by
  intro lv st μ κ h ad cA H locs ls hE hR hL h1 h2
  obtain ⟨bs, st1, rfl, hlen, hsum, k1, k2, k3, k4, hq⟩ := mm_pa_v 5 [] st h
  simp only [List.append_nil] at hq
  generalize has : bs.reverse = as at hq
  have hbs : bs = as.reverse := by rw [← has, List.reverse_reverse]
  subst hbs
  have hX := XX_o
  have hFc : ∀ q, va_A (mm_wd ad cA μ) H.size q → A q := by
    rintro q (⟨i, ee, hi⟩ | hq)
    · exact hR.2.1.2 i _ hi
    · exact X.2.2.2.2.2.1 q (Nat.le_trans hR.2.2.1.1 hq)
  have hXe : XX ad (va_A (mm_wd ad cA μ) H.size) s H := hX.2.2.1 _ _ _ _ _ (hX.2.1 _ _ _ _ _ hE.1 hR.2.2.1.2.1) hFc
  have hPre : ∀ U : State, U.heap = H → s.WarmedH U.vm → mm_Pc D pcl XX ad cA μ as H.size (as.map (mm_cv ad)).toArray U := fun U hU hW => ⟨rfl, by rw [hU], by rw [hU]; exact hR.1, va_K.moved hW.alike X.2.2.2.2.2.2, hR.2.1.weaken (fun _ _ _ _ => trivial), mm_ok_moved hW.alike hR.2.2.2, hX.1 _ _ _ _ _ (Or.inl hW) (by rw [hU]; exact hXe)⟩
  have hM := hV _ μ _ hq ad cA H.size
  refine mm_back (mc := 1) (ms := 6) (vx_runSW (hh := hhL) (As := as.map (mm_cv ad)) (rest := st1.map (mm_cv ad)) (n := 5) ⟨X.1, X.2.1, X.2.2.1, X.2.2.2.1, X.2.2.2.2.1⟩ hM (vx_cwSW 5 X.2.2.2.2.1 ?_ rfl rfl rfl hnm ⟨hfr, ?_⟩) ⟨mm_blind hX, hPre⟩ rfl ?_ hL.1 ?_ (lv_room (by rw [mm_sum_cv]; exact hsum)) hd ⟨by omega, by omega⟩) hR.2.2.1 hFc (fun v μ' ad' cA' H1 locs1 hQ g1 g2 g3 hR1 => ?_)
  · intro w hw'
    rcases List.mem_append.mp hw' with q | q
    · simp only [List.mem_cons, List.not_mem_nil, or_false] at q
      rcases q with rfl | rfl | rfl
      · exact ⟨hw, lw_good _ hw⟩
      · exact ⟨hi, lw_good _ hi⟩
      · exact ⟨hni, lw_good _ hni⟩
    · rcases List.mem_cons.mp q with rfl | q
      · exact ⟨hcd, lw_good _ hcd⟩
      · exact ⟨q, lw_good _ q⟩
  · show 8 + (6 + 11) + 256 * d1 ≤ R.locals
    omega
  · simpa using hlen
  · simp
  · rw [← mm_ks_map g1 k1, mm_ps_cv]
    exact K lv _ μ' (κ.1 + 1, κ.2 + 6) hQ ad' cA' H1 locs1 ls (mm_EX_cl hX _ _ _ _ _ _ _ _ hE g1 g2 (by show 0 < κ.1 + 1; omega)) hR1 (mm_Lh_ad g1 k2 hL) (by show κ.1 + 1 ≤ R.cells; omega) (by show κ.2 + 6 ≤ R.slots; omega)
theorem so_sld {b L : Nat} {xs : Nat → Int32} (X : mm_cx p R s m args c cc RL lw_T A D pcl nL) (hX : va_X b L xs s s.heap) (hb : b < s.heap.size) (hA : ¬ A b) (ha : ad0 (mm_ext + 300) = b) (hd : decode cc pc = .ok (.iaload, 1)) (K : mm_SK p l e R s m args below meth c Qw D pcl A nL (mm_EX XX A s ad0 cA0 n0) (pc + 1) k) : mm_SK p l e R s m args below meth c Qw D pcl A nL (mm_EX XX A s ad0 cA0 n0) pc (mm_sld L xs k) := by
  intro lv st μ κ h ad cA H locs ls hE hR hL h1 h2
  unfold mm_sld at h
  split at h
  · obtain ⟨rfl, hin, h⟩ := h
    have e1 : ad (mm_ext + 300) = b := (hE.2.1 _ (Or.inr (by omega))).trans ha
    have := va_sld X.1 X.2.1 hX hb hA hR.2.2.1 hin hd (K lv _ μ κ h ad cA H locs ls hE hR hL h1 h2)
    rw [← e1] at this
    exact this
  · exact h.elim
theorem so_sle {b L : Nat} {xs : Nat → Int32} (X : mm_cx p R s m args c cc RL lw_T A D pcl nL) (hX : va_X b L xs s s.heap) (hb : b < s.heap.size) (hA : ¬ A b) (ha : ad0 (mm_ext + 300) = b) (hd : decode cc pc = .ok (.arraylength, 1)) (K : mm_SK p l e R s m args below meth c Qw D pcl A nL (mm_EX XX A s ad0 cA0 n0) (pc + 1) k) : mm_SK p l e R s m args below meth c Qw D pcl A nL (mm_EX XX A s ad0 cA0 n0) pc (mm_sle L k) := by
  intro lv st μ κ h ad cA H locs ls hE hR hL h1 h2
  unfold mm_sle at h
  split at h
  · obtain ⟨rfl, h⟩ := h
    have e1 : ad (mm_ext + 300) = b := (hE.2.1 _ (Or.inr (by omega))).trans ha
    have := va_slen X.1 X.2.1 hX hb hA hR.2.2.1 hd (K lv _ μ κ h ad cA H locs ls hE hR hL h1 h2)
    rw [← e1] at this
    exact this
  · exact h.elim
end
