/-! the contracts of value and sum; of the law's own two, which catch -/
theorem xv_met {l : Launch} {D : va_G} {y : MethodName} {cc : ByteArray} {nL d : Nat} {body : mm_J → mm_C → mm_Q → mm_J} {pcs : Nat → Nat} (hpl : plainName y.cls = true) (h0 : pcs 0 = 0)
    (hB : ∀ (p : Program) (e : Env) (s : State) (m : MethodId) (args : Array Value) (below : List Frame) (meth : Method) (c : Code) (A : Nat → Prop) (ad0 : Nat → Nat) (cA0 : Nat → ClassId) (μ0 : mm_M) (free : Addr → Prop) (Q : mm_Q) (J : mm_J), mm_cx p (mm_rm (d + 6) 1 6) s m args c cc y.cls lw_T A D pcl nL → meth.sig.returnType = some .int → meth.locks = false → (∀ q, A q → free q) → (∀ x ∈ c.exceptionTable.toList, False) → (∀ t, mm_SK p l e (mm_rm (d + 6) 1 6) s m args below meth c (vx_MQ below (mm_Qc D pcl (RQ Q) ad0 cA0 μ0 1 A) (vX D Q ad0 cA0 μ0 A) args s 1 6 free) D pcl A nL (mm_EX XX A s ad0 cA0 (mm_n μ0)) (pcs t) (J t)) → ∀ t, mm_SK p l e (mm_rm (d + 6) 1 6) s m args below meth c (vx_MQ below (mm_Qc D pcl (RQ Q) ad0 cA0 μ0 1 A) (vX D Q ad0 cA0 μ0 A) args s 1 6 free) D pcl A nL (mm_EX XX A s ad0 cA0 (mm_n μ0)) (pcs t) (body J (Ev (d + 5)) Q t))
    {as : List Value} {μ : mm_M} {Q : mm_Q} (hq : Xv (d + 5) body nL as μ Q) (ad : Nat → Nat) (cA : Nat → ClassId) (sz : Nat) :
    vx_Met l y (.code y cc nL (some .int) :: lw_T) (mm_rm (d + 6) 1 6) (mm_Pc D pcl XX ad cA μ as sz) (mm_Qc D pcl (RQ Q) ad cA μ 1 (va_A (mm_wd ad cA μ) sz)) (vX D Q ad cA μ (va_A (mm_wd ad cA μ) sz)) 1 6 (va_A (mm_wd ad cA μ) sz) := by
  refine vx_ofW (cc := cc) (maxL := nL) (ret := some .int) hpl rfl ?_
  intro p e s m args below meth c s₁ B hml hout hv
  obtain ⟨rfl, hsz, hP, hK, hD0, hok, hx⟩ := hv
  subst hsz
  have hts0 := atoms_spec (ws := (.code y cc nL (some .int) :: lw_T)) B.pre
  have hD := hD0.self (sz := s.heap.size)
  obtain ⟨hfit, hlf⟩ := hq
  have X : mm_cx p (mm_rm (d + 6) 1 6) s m (as.map (mm_cv ad)).toArray c cc y.cls lw_T (va_A (mm_wd ad cA μ) s.heap.size) D pcl nL :=
    ⟨B.exec, B.bytes, hml, findClass_of_methodNamed B.named, fun w hw => hts0 w (List.mem_cons_of_mem _ hw), fun q h => Or.inr h, hK⟩
  have key := hlf (fun t => mm_WW p l e (mm_rm (d + 6) 1 6) s m (as.map (mm_cv ad)).toArray below meth c (vx_MQ below (mm_Qc D pcl (RQ Q) ad cA μ 1 (va_A (mm_wd ad cA μ) s.heap.size)) (vX D Q ad cA μ (va_A (mm_wd ad cA μ) s.heap.size)) (as.map (mm_cv ad)).toArray s 1 6 (va_A (mm_wd ad cA μ) s.heap.size)) D pcl (va_A (mm_wd ad cA μ) s.heap.size) nL (mm_EX XX (va_A (mm_wd ad cA μ) s.heap.size) s ad cA (mm_n μ)) (pcs t)) ?_
  · have hl := lv_entry (as.map (mm_cv ad)) (n := nL) (by rw [mm_sl_len, mm_sum_map]; exact hfit)
    rw [lg_entry_eq]
    have kw := key ad cA s.heap [] _ ⟨hx, fun _ _ => rfl, Nat.le_refl _, fun _ => ⟨rfl, rfl, rfl⟩⟩ ⟨hP, hD, va_S.rf, hok⟩ ⟨hl.1, hl.2.1, fun i v hi => ?_⟩ (Nat.zero_le _) (Nat.zero_le _)
    · rw [h0] at kw
      exact kw
    · have := mm_en_at ad _ as 0 i v hi
      rw [Nat.zero_add] at this
      exact hl.2.2 _ this
  · rintro t lv st μ1 κ ⟨Y, hY, hF⟩
    exact hB p e s m _ below meth c _ ad cA μ _ Q Y X B.returns B.notSynchronized (fun q h => h) hout (fun t lv st μ κ h => hY t lv st μ κ h) t lv st μ1 κ hF
theorem vm_value {l : Launch} (hlt : l.stackTraces = false) {D : va_G} {d : Nat} (hC : mm_CS l D pcl lw_T XX px_tab (d + 5) (Ev (d + 5))) {as : List Value} {μ : mm_M} {Q : mm_Q} (hq : Xv (d + 5) vb_value 5 as μ Q) (ad : Nat → Nat) (cA : Nat → ClassId) (sz : Nat) :
    vx_Met l yX6_value (.code yX6_value cX6_value 5 (some .int) :: lw_T) (mm_rm (d + 6) 1 6) (mm_Pc D pcl XX ad cA μ as sz) (mm_Qc D pcl (RQ Q) ad cA μ 1 (va_A (mm_wd ad cA μ) sz)) (vX D Q ad cA μ (va_A (mm_wd ad cA μ) sz)) 1 6 (va_A (mm_wd ad cA μ) sz) :=
  xv_met (pcs := vp_value) (by decide +kernel) rfl (fun p e s m args below meth c A ad0 cA0 μ0 free Q J X hr hlk hf ho hJ => vk_value hlt hC X hr hlk hf ho hJ) hq ad cA sz
theorem vm_sum {l : Launch} (hlt : l.stackTraces = false) {D : va_G} {d : Nat} (hC : mm_CS l D pcl lw_T XX px_tab (d + 5) (Ev (d + 5))) {as : List Value} {μ : mm_M} {Q : mm_Q} (hq : Xv (d + 5) vb_sum 4 as μ Q) (ad : Nat → Nat) (cA : Nat → ClassId) (sz : Nat) :
    vx_Met l yX6_sum (.code yX6_sum cX6_sum 4 (some .int) :: lw_T) (mm_rm (d + 6) 1 6) (mm_Pc D pcl XX ad cA μ as sz) (mm_Qc D pcl (RQ Q) ad cA μ 1 (va_A (mm_wd ad cA μ) sz)) (vX D Q ad cA μ (va_A (mm_wd ad cA μ) sz)) 1 6 (va_A (mm_wd ad cA μ) sz) :=
  xv_met (pcs := vp_sum) (by decide +kernel) rfl (fun p e s m args below meth c A ad0 cA0 μ0 free Q J X hr hlk hf ho hJ => vk_sum hlt hC X hr hlk hf ho hJ) hq ad cA sz
/-- a call that may throw, under the three handlers -/
def mm_try (V : List Value → mm_M → mm_Q → Prop) (k1 : mm_K) (k2 : Nat → mm_K) : mm_K := fun lv st μ κ => match st with
  | .int z :: .int y :: .int x :: .ref a :: st' => mm_z μ a = .inr 6 ∧ mm_sum st' ≤ 8 ∧ κ = (0, 0) ∧ mm_ks (mm_n μ) st' ∧ mm_kv (mm_n μ) lv ∧ V [.ref a, .int x, .int y, .int z] μ (VQ (fun v μ' => k1 lv (.int v :: st') μ' (1, 6)) (fun n μ' => k2 n [] [] μ' (1, 6)))
  | _ => False
def hhL : List (Nat × Nat × Nat × Nat) := [(0, 12, 15, 13), (0, 12, 19, 15), (0, 12, 23, 17)]
theorem xl_13 : Cond.classLink RL 13 xn_1 ∈ lw_T := lw_in (by decide +kernel) (by decide +kernel)
theorem xl_15 : Cond.classLink RL 15 xn_2 ∈ lw_T := lw_in (by decide +kernel) (by decide +kernel)
theorem xl_17 : Cond.classLink RL 17 xn_3 ∈ lw_T := lw_in (by decide +kernel) (by decide +kernel)
section
variable {p : Program} {l : Launch} {e : Env} {R : Room} {s : State} {m : MethodId} {args : Array Value} {below : List Frame} {meth : Method} {c : Code} {Qw : State → Prop} {D : va_G} {A : Nat → Prop} {cc : ByteArray} {pc : Nat}
theorem so_try {V : List Value → mm_M → mm_Q → Prop} {d1 index maxL : Nat} {y : MethodName} {bytes : ByteArray} {ad0 : Nat → Nat} {cA0 : Nat → ClassId} {n0 : Nat} (X : mm_cx p R s m args c cc RL lw_T A D pcl 6)
    (hV : ∀ as μ Q, V as μ Q → ∀ ad cA sz, vx_Met l y (.code y bytes maxL (some .int) :: lw_T) (mm_rm d1 1 6) (mm_Pc D pcl XX ad cA μ as sz) (mm_Qc D pcl (RQ Q) ad cA μ 1 (va_A (mm_wd ad cA μ) sz)) (vX D Q ad cA μ (va_A (mm_wd ad cA μ) sz)) 1 6 (va_A (mm_wd ad cA μ) sz))
    (hfr : d1 + 1 ≤ R.frames) (hlo : 256 * d1 + 256 ≤ R.locals) (hRc : 1 ≤ R.cells) (hRs : 6 ≤ R.slots) (hmx : maxL ≤ 200) (hcd : Cond.code y bytes maxL (some .int) ∈ lw_T) (hw : Cond.methodLink RL index y ∈ lw_T) (hni : Cond.initialized RX6 ∈ lw_T) (hi : Cond.instanceMethod y ∈ lw_T) (hs : Cond.selects RX6 y y ∈ lw_T) (hyc : y.cls = RX6)
    (hnm : (parseMethodDescriptor y.desc).map (fun d => d.parameters.length) = some 3) (htb : c.exceptionTable.toList = tableOf hhL) (hpc : pc = 7) (hd : decode cc pc = .ok (.invokevirtual index, 3)) (d15 : decode cc 15 = .ok (.astore 5, 2)) (d19 : decode cc 19 = .ok (.astore 5, 2)) (d23 : decode cc 23 = .ok (.astore 5, 2))
    {k1 : mm_K} {k2 : Nat → mm_K} (K1 : mm_SK p l e R s m args below meth c Qw D pcl A 6 (mm_EX XX A s ad0 cA0 n0) (pc + 3) k1) (K2 : ∀ n, n = 1 ∨ n = 2 ∨ n = 3 → mm_SK p l e R s m args below meth c Qw D pcl A 6 (mm_EX XX A s ad0 cA0 n0) (13 + 4 * n) (k2 n)) :
    mm_SK p l e R s m args below meth c Qw D pcl A 6 (mm_EX XX A s ad0 cA0 n0) pc (mm_try V k1 k2) := by
  intro lv st μ κ h ad cA H locs ls hE hR hL h1 h2
  unfold mm_try at h
  split at h
  rotate_left
  · exact h.elim
  rename_i z y1 x a st'
  obtain ⟨hz, hsum, rfl, hks, hkv, hv⟩ := h
  have ha := hR.2.2.2.2.1 a 6 hz (by decide)
  have hFc : ∀ q, va_A (mm_wd ad cA μ) H.size q → A q := by
    rintro q (⟨i, ee, hi⟩ | hq)
    · exact hR.2.1.2 i _ hi
    · exact X.2.2.2.2.2.1 q (Nat.le_trans hR.2.2.1.1 hq)
  have hX := XX_o
  have hXe : XX ad (va_A (mm_wd ad cA μ) H.size) s H := hX.2.2.1 _ _ _ _ _ (hX.2.1 _ _ _ _ _ hE.1 hR.2.2.1.2.1) hFc
  have hPre : ∀ U : State, U.heap = H → s.WarmedH U.vm → mm_Pc D pcl XX ad cA μ [.ref a, .int x, .int y1, .int z] H.size (([.ref a, .int x, .int y1, .int z] : List Value).map (mm_cv ad)).toArray U := fun U hU hW => ⟨rfl, by rw [hU], by rw [hU]; exact hR.1, va_K.moved hW.alike X.2.2.2.2.2.2, hR.2.1.weaken (fun _ _ _ _ => trivial), mm_ok_moved hW.alike hR.2.2.2, hX.1 _ _ _ _ _ (Or.inl hW) (by rw [hU]; exact hXe)⟩
  have hM := hV _ μ _ hv ad cA H.size
  have hr := vx_runV (p := p) (e := e) (R := R) (s := s) (m := m) (args := args) (below := below) (meth := meth) (c := c) (H := H) (locs := locs) (cells := 0) (slots := 0) (C := RX6) (own := RL) (index := index) (bytes := bytes) (maxL := maxL) (ret := some .int) (Ts := lw_T) (cc := cc) (nL := 6) (g := F0 m pc ls (.int z :: .int y1 :: .int x :: .ref (ad a) :: st'.map (mm_cv ad))) (As := [.int x, .int y1, .int z]) (rest := st'.map (mm_cv ad)) (b := ad a) (n := 3) ⟨X.1, X.2.1, X.2.2.1, X.2.2.2.1, X.2.2.2.2.1⟩ hM (cwV 3 X.2.2.2.2.1 ?_ rfl rfl rfl ⟨hyc, by rw [hyc]; decide +kernel, by rw [hyc]; decide +kernel, hnm⟩ ⟨hfr, ?_⟩) ⟨mm_blind hX, va_recv X.2.2.2.2.2.2 hR.1 (ci := 6) (q := (RX6, TX6, 14)) rfl (mm_at_o hz ha), hPre⟩ rfl rfl hL.1 rfl (lv_room (by rw [mm_sum_cv]; exact hsum)) hd ⟨by simpa using hRc, by simpa using hRs⟩
  · intro T hT X'
    rcases hr T hT X' with ⟨v, st₀, t, T', L, g0, X1, hLo, e1, e2, ⟨⟨v', μ', ad', cA', hvv, hq, g1, g2, g3, g4, g5, g6⟩, hz', hk'⟩, st⟩ | ⟨q, st₀, t, T', L, E, ce, g0, X1, hLo, e1, e2, ⟨n, μ', hn, hq, en, hP1, hD1, hok1, hF1⟩, hce, hcv, hcl, st⟩
    · cases hvv
      obtain ⟨⟨v, rfl⟩, hq⟩ := hq
      rw [g0] at hz' hk'
      have hS1 : va_S A s.heap T'.heap (locs ++ L) := ⟨Nat.le_trans hR.2.2.1.1 (by rw [e1]; exact hz'), fun q h1 h2 => by rw [e1, hk' q (Nat.lt_of_lt_of_le h1 hR.2.2.1.1) (fun z => h2 (hFc q z))]; exact hR.2.2.1.2.1 q h1 h2, fun q hq => by
          rcases List.mem_append.mp hq with h | h
          · exact hR.2.2.1.2.2 q h
          · exact hFc _ (hLo q h)⟩
      have hal : t.vm.Alike s.vm := by rw [← e2]; exact X1.warmed.alike.symm
      have kk := K1 lv _ μ' (1, 6) hq ad' cA' T'.heap (locs ++ L) ls (mm_EX_cl hX _ _ _ _ _ _ _ _ hE g1 g2 (by decide)) ⟨by rw [e1]; exact g4, g5.weaken (fun _ q _ h => hFc _ h), hS1, mm_ok_moved hal g6⟩ (mm_Lh_ad g1 hkv hL) hRc hRs
      rw [List.map_cons, mm_ks_map g1 hks] at kk
      obtain ⟨t2, a1, b1⟩ := kk T' rfl X1
      exact ⟨t2, st t2 a1, b1⟩
    · rw [VQ_t] at hq
      obtain ⟨hz', hk'⟩ := hF1
      rw [g0] at hz' hk'
      have hS1 : va_S A s.heap T'.heap (locs ++ L) := ⟨Nat.le_trans hR.2.2.1.1 (by rw [e1]; exact hz'), fun q h1 h2 => by rw [e1, hk' q (Nat.lt_of_lt_of_le h1 hR.2.2.1.1) (fun z => h2 (hFc q z))]; exact hR.2.2.1.2.1 q h1 h2, fun q hq => by
          rcases List.mem_append.mp hq with h | h
          · exact hR.2.2.1.2.2 q h
          · exact hFc _ (hLo q h)⟩
      have hal : t.vm.Alike s.vm := by rw [← e2]; exact X1.warmed.alike.symm
      have hR1 : mm_Rl D pcl s A ad cA μ' T'.heap (locs ++ L) := ⟨by rw [e1]; exact hP1, hD1.weaken (fun _ q _ h => hFc _ h), hS1, mm_ok_moved hal hok1⟩
      have hcell : T'.heap[q]? = some ce := by rw [e1]; exact hce
      have pe := hE.1.2
      have hown : s.vm.findClass RL = some m.cls := X.2.2.2.1
      have fin : ∀ (hp : Nat), hp = 11 + 4 * n → decode cc hp = .ok (.astore 5, 2) → (n = 1 ∨ n = 2 ∨ n = 3) → W p l e R s m args below meth c T'.heap (locs ++ L) (0 + 1) (0 + 6) Qw (F0 m hp ls [.ref q]) := fun hp e9 dd hn3 => by
        refine lv_astore X.1 X.2.1 dd (mm_Lh_has hL) (by decide) rfl (fun ls1 hl1 => ?_)
        have := K2 n hn3 [] [] μ' (1, 6) hq ad cA T'.heap (locs ++ L) ls1 (mm_EX_cl hX _ _ _ _ _ _ _ _ hE (fun _ _ => rfl) (Nat.le_of_eq en.symm) (by decide)) hR1 ⟨hl1.1, hl1.2.1, fun i v hi => by simp [mm_lg] at hi⟩ hRc hRs
        rw [show 13 + 4 * n = hp + 2 by omega] at this
        exact this
      have hw : vx_W p l e R s m args below meth c T'.heap (locs ++ L) (0 + 1) (0 + 6) Qw (F0 m pc ls (st'.map (mm_cv ad))) q := by
        rcases hn with ⟨rfl, rfl⟩ | ⟨rfl, rfl⟩ | ⟨rfl, rfl⟩
        · exact vx_catch hown [] ⟨0, 12, 15, 13⟩ [⟨0, 12, 19, 15⟩, ⟨0, 12, 23, 17⟩] htb (fun z hz => nomatch hz) (by rw [hpc]; decide +kernel) (by decide) (X.2.2.2.2.1 _ xl_13) (va_Nw.use rfl (pe.2.2.2.2.1 _ (Or.inl rfl))) hcell hcv hcl (fin 15 rfl d15 (Or.inl rfl))
        · refine vx_catch hown [⟨0, 12, 15, 13⟩] ⟨0, 12, 19, 15⟩ [⟨0, 12, 23, 17⟩] htb (fun z hz => ?_) (by rw [hpc]; decide +kernel) (by decide) (X.2.2.2.2.1 _ xl_15) (va_Nw.use rfl (pe.2.2.2.2.1 _ (Or.inr (Or.inl rfl)))) hcell hcv hcl (fin 19 rfl d19 (Or.inr (Or.inl rfl)))
          rw [List.mem_singleton.mp hz]
          exact Or.inr ⟨by decide, xn_1, X.2.2.2.2.1 _ xl_13, pe.2.2.2.2.2.1⟩
        · refine vx_catch hown [⟨0, 12, 15, 13⟩, ⟨0, 12, 19, 15⟩] ⟨0, 12, 23, 17⟩ [] htb (fun z hz => ?_) (by rw [hpc]; decide +kernel) (by decide) (X.2.2.2.2.1 _ xl_17) (va_Nw.use rfl (pe.2.2.2.2.1 _ (Or.inr (Or.inr rfl)))) hcell hcv hcl (fin 23 rfl d23 (Or.inr (Or.inr rfl)))
          rcases List.mem_cons.mp hz with rfl | hz
          · exact Or.inr ⟨by decide, xn_1, X.2.2.2.2.1 _ xl_13, pe.2.2.2.2.2.2.1⟩
          · rw [List.mem_singleton.mp hz]
            exact Or.inr ⟨by decide, xn_2, X.2.2.2.2.1 _ xl_15, pe.2.2.2.2.2.2.2⟩
      obtain ⟨t2, a1, b1⟩ := hw T' rfl X1
      exact ⟨t2, st.trans a1, b1⟩
  · intro w hw'
    rcases List.mem_append.mp hw' with q | q
    · simp only [List.mem_cons, List.not_mem_nil, or_false] at q
      rcases q with rfl | rfl | rfl | rfl
      · exact ⟨hw, lw_good _ hw⟩
      · exact ⟨hi, lw_good _ hi⟩
      · exact ⟨hs, lw_good _ hs⟩
      · exact ⟨hni, lw_good _ hni⟩
    · rcases List.mem_cons.mp q with rfl | q
      · exact ⟨hcd, lw_good _ hcd⟩
      · exact ⟨q, lw_good _ q⟩
  · show 8 + (maxL + 11) + 256 * d1 ≤ R.locals
    omega
end
