/-! throws: so_tx; the soundness of value and sum -/
def vX (D : va_G) (Q : mm_Q) (ad : Nat → Nat) (cA : Nat → ClassId) (μ : mm_M) (A : Nat → Prop) : String → State → State → Prop := fun E st t =>
  ∃ (n : Nat) (μ' : mm_M), ((n = 1 ∧ E = xn_1) ∨ (n = 2 ∧ E = xn_2) ∨ (n = 3 ∧ E = xn_3)) ∧ Q (some (.retAddr n)) μ' ∧ mm_n μ' = mm_n μ ∧ va_P D pcl (mm_wd ad cA μ') t.heap ∧ va_D A (mm_wd ad cA μ') ∧ mm_ok t cA μ' ∧ va_F A st t
/-- a return of an int -/
def RQ (Q : mm_Q) : mm_Q := fun r μ => (∃ v, r = some (.int v)) ∧ Q r μ
section
variable {p : Program} {l : Launch} {e : Env} {R : Room} {s : State} {m : MethodId} {args : Array Value} {below : List Frame} {meth : Method} {c : Code} {D : va_G} {A : Nat → Prop} {nL : Nat} {cc : ByteArray} {pc : Nat}
theorem so_xret {Q : mm_Q} {ad0 : Nat → Nat} {cA0 : Nat → ClassId} {μ0 : mm_M} {A0 : Nat → Prop} {k0 : Nat} {XC : String → State → State → Prop} {mc ms : Nat} {free : Addr → Prop} {EX : (Nat → Nat) → (Nat → ClassId) → Nat → Nat × Nat → Prop} (h : mm_SK p l e R s m args below meth c (MQ below (mm_Qc D pcl (RQ Q) ad0 cA0 μ0 k0 A0) args s mc ms free) D pcl A nL EX pc (mm_ret (RQ Q))) : mm_SK p l e R s m args below meth c (vx_MQ below (mm_Qc D pcl (RQ Q) ad0 cA0 μ0 k0 A0) XC args s mc ms free) D pcl A nL EX pc (mm_ret Q) := by
  intro lv st μ κ hk ad cA H locs ls hE hR hL h1 h2
  refine vx_ret (h lv st μ κ ?_ ad cA H locs ls hE hR hL h1 h2)
  unfold mm_ret at hk ⊢
  split at hk
  · exact ⟨⟨_, rfl⟩, hk⟩
  · exact hk.elim
theorem so_tx {ad0 : Nat → Nat} {cA0 : Nat → ClassId} {μ0 : mm_M} {Q : mm_Q} {free : Addr → Prop} {Qc : Array Value → State → Outcome → State → Prop} {n j ik ic : Nat} {cls : String} (X : mm_cx p R s m args c cc RX6 lw_T A D pcl nL) (hRf : 5 < R.frames) (hRl : 82 ≤ R.locals) (hRc : 1 ≤ R.cells) (hRs : 6 ≤ R.slots) (hlt : l.stackTraces = false) (hlk : meth.locks = false) (hfree : ∀ q, A q → free q) (hout : ∀ x ∈ c.exceptionTable.toList, False) (hj : j < 5)
    (hn : (n = 1 ∧ cls = xn_1) ∨ (n = 2 ∧ cls = xn_2) ∨ (n = 3 ∧ cls = xn_3)) (hcls : Bundle.fit cls = true) (hk : Cond.classLink RX6 ik cls ∈ lw_T) (hini : Cond.initialized cls ∈ lw_T)
    (hg1 : ∀ w ∈ (vx_atS RX6 ic cls [xn_R, xn_E]).filter goodWord, w ∈ lw_T) (hg2 : ∀ w ∈ (vx_atS RX6 ic cls [xn_R, xn_E]).filter (fun w => !goodWord w), w ∈ [Cond.declares (Bundle.initS xn_R), Cond.declares (Bundle.initS xn_E), Cond.declares (Bundle.initS Bundle.tN), Cond.castable cls cls])
    (hgood : ∀ w ∈ Cond.classLink RX6 ik cls :: Cond.initialized cls :: vx_atS RX6 ic cls [xn_R, xn_E], vx_ot w = true)
    (d0 : decode cc pc = .ok (.new ik, 3)) (d3 : decode cc (pc + 3) = .ok (.dup, 1)) (d4 : decode cc (pc + 4) = .ok (.ldc (xm_i j), 2)) (d6 : decode cc (pc + 6) = .ok (.invokespecial ic, 3)) (d9 : decode cc (pc + 9) = .ok (.athrow, 1)) :
    mm_SK p l e R s m args below meth c (vx_MQ below Qc (vX D Q ad0 cA0 μ0 A) args s 1 6 free) D pcl A nL (mm_EX XX A s ad0 cA0 (mm_n μ0)) pc (mm_tx n Q) := by
  intro lv st μ κ h ad cA H locs ls hE hR hL h1 h2
  obtain ⟨rfl, rfl, hq⟩ := h
  obtain ⟨e1, e2, e3⟩ := hE.2.2.2 rfl
  subst e1 e2
  obtain ⟨sa, hsa⟩ := hE.1.2.2.2.1 j hj
  have pe := hE.1.2
  refine vx_throwS (A := A) (cls := cls) (names := [xn_R, xn_E]) (text := xm_t j) (sa := sa) X.1 X.2.1 hlt X.2.2.2.1 hcls (by decide +kernel) (X.2.2.2.2.1 _ hk) (X.2.2.2.2.1 _ hini) hsa (vx_hat (fun w hw => X.2.2.2.2.1 w (hg1 w hw)) hg2 ?_) hgood pe.1 pe.2.1 hR.2.2.1 (hL.1.trans X.2.2.1.symm) d0 d3 d4 d6 d9 (fun x hx => (hout x hx).elim) hRf (by simp; omega) (by simpa using hRc) (by simpa using hRs) hlk (fun t hal hz hsame => ?_) (fun z hz => hfree _ (hR.2.2.1.2.2 z hz)) (Nat.le_refl _) (Nat.le_refl _)
  · refine vx_c (va_Nw.use rfl (pe.2.2.2.1 _ (Or.inl rfl))) (vx_c (va_Nw.use rfl (pe.2.2.2.1 _ (Or.inr (Or.inl rfl)))) (vx_c (va_Nw.use rfl (pe.2.2.2.1 _ (Or.inr (Or.inr rfl)))) (vx_c (va_Nw.use rfl (pe.2.2.2.2.1 _ ?_)) vx_n)))
    rcases hn with ⟨-, h⟩ | ⟨-, h⟩ | ⟨-, h⟩
    · exact Or.inl h
    · exact Or.inr (Or.inl h)
    · exact Or.inr (Or.inr h)
  · refine ⟨n, μ, hn, hq, e3, hR.1.kept (fun k q hk => hsame _ (vx_lt hR.1 hk)), hR.2.1, mm_ok_moved hal hR.2.2.2, Nat.le_trans hR.2.2.1.1 hz, fun q q1 q2 => ?_⟩
    rw [hsame q (Nat.lt_of_lt_of_le q1 hR.2.2.1.1), hR.2.2.1.2.1 q q1 q2]
end
theorem tw_596 : Cond.code yX6_tell cX6_tell 6 (some .boolean) ∈ lw_T := lw_it (i := 706) (by decide +kernel) (by decide +kernel)
theorem tw_597 : Cond.methodLink RX6 138 yX6_tell ∈ lw_T := lw_it (i := 703) (by decide +kernel) (by decide +kernel)
theorem tw_598 : Cond.instanceMethod yX6_tell ∈ lw_T := lw_it (i := 705) (by decide +kernel) (by decide +kernel)
theorem tw_599 : Cond.selects RX6 yX6_tell yX6_tell ∈ lw_T := lw_is (i := 41) (by decide +kernel) (by decide +kernel)
theorem tw_600 : Cond.code yX6_total cX6_total 5 (some .int) ∈ lw_T := lw_it (i := 740) (by decide +kernel) (by decide +kernel)
theorem tw_601 : Cond.methodLink RX6 158 yX6_total ∈ lw_T := lw_it (i := 737) (by decide +kernel) (by decide +kernel)
theorem tw_602 : Cond.instanceMethod yX6_total ∈ lw_T := lw_it (i := 739) (by decide +kernel) (by decide +kernel)
theorem tw_603 : Cond.selects RX6 yX6_total yX6_total ∈ lw_T := lw_is (i := 42) (by decide +kernel) (by decide +kernel)
theorem xw_k1 : Cond.classLink RX6 123 xn_1 ∈ lw_T := lw_in (by decide +kernel) (by decide +kernel)
theorem xw_i1 : Cond.initialized xn_1 ∈ lw_T := lw_in (by decide +kernel) (by decide +kernel)
theorem xw_g1 : ∀ w ∈ (vx_atS RX6 127 xn_1 [xn_R, xn_E]).filter goodWord, w ∈ lw_T := fun w h => lw_in ((by decide +kernel : ∀ w ∈ (vx_atS RX6 127 xn_1 [xn_R, xn_E]).filter goodWord, w ∈ lw_tbl) w h) (List.mem_filter.mp h).2
theorem xw_b1 : ∀ w ∈ (vx_atS RX6 127 xn_1 [xn_R, xn_E]).filter (fun w => !goodWord w), w ∈ [Cond.declares (Bundle.initS xn_R), Cond.declares (Bundle.initS xn_E), Cond.declares (Bundle.initS Bundle.tN), Cond.castable xn_1 xn_1] := by decide +kernel
theorem xw_o1 : ∀ w ∈ Cond.classLink RX6 123 xn_1 :: Cond.initialized xn_1 :: vx_atS RX6 127 xn_1 [xn_R, xn_E], vx_ot w = true := by decide +kernel
theorem xw_k2 : Cond.classLink RX6 130 xn_2 ∈ lw_T := lw_in (by decide +kernel) (by decide +kernel)
theorem xw_i2 : Cond.initialized xn_2 ∈ lw_T := lw_in (by decide +kernel) (by decide +kernel)
theorem xw_g2 : ∀ w ∈ (vx_atS RX6 134 xn_2 [xn_R, xn_E]).filter goodWord, w ∈ lw_T := fun w h => lw_in ((by decide +kernel : ∀ w ∈ (vx_atS RX6 134 xn_2 [xn_R, xn_E]).filter goodWord, w ∈ lw_tbl) w h) (List.mem_filter.mp h).2
theorem xw_b2 : ∀ w ∈ (vx_atS RX6 134 xn_2 [xn_R, xn_E]).filter (fun w => !goodWord w), w ∈ [Cond.declares (Bundle.initS xn_R), Cond.declares (Bundle.initS xn_E), Cond.declares (Bundle.initS Bundle.tN), Cond.castable xn_2 xn_2] := by decide +kernel
theorem xw_o2 : ∀ w ∈ Cond.classLink RX6 130 xn_2 :: Cond.initialized xn_2 :: vx_atS RX6 134 xn_2 [xn_R, xn_E], vx_ot w = true := by decide +kernel
theorem xw_k3 : Cond.classLink RX6 146 xn_3 ∈ lw_T := lw_in (by decide +kernel) (by decide +kernel)
theorem xw_i3 : Cond.initialized xn_3 ∈ lw_T := lw_in (by decide +kernel) (by decide +kernel)
theorem xw_g3 : ∀ w ∈ (vx_atS RX6 150 xn_3 [xn_R, xn_E]).filter goodWord, w ∈ lw_T := fun w h => lw_in ((by decide +kernel : ∀ w ∈ (vx_atS RX6 150 xn_3 [xn_R, xn_E]).filter goodWord, w ∈ lw_tbl) w h) (List.mem_filter.mp h).2
theorem xw_b3 : ∀ w ∈ (vx_atS RX6 150 xn_3 [xn_R, xn_E]).filter (fun w => !goodWord w), w ∈ [Cond.declares (Bundle.initS xn_R), Cond.declares (Bundle.initS xn_E), Cond.declares (Bundle.initS Bundle.tN), Cond.castable xn_3 xn_3] := by decide +kernel
theorem xw_o3 : ∀ w ∈ Cond.classLink RX6 146 xn_3 :: Cond.initialized xn_3 :: vx_atS RX6 150 xn_3 [xn_R, xn_E], vx_ot w = true := by decide +kernel
section
variable {p : Program} {l : Launch} {e : Env} {R : Room} {s : State} {m : MethodId} {args : Array Value} {below : List Frame} {meth : Method} {c : Code} {D : va_G} {A : Nat → Prop} {nL : Nat} {cc : ByteArray} {pc : Nat}
theorem so_tx_1_0 {ad0 : Nat → Nat} {cA0 : Nat → ClassId} {μ0 : mm_M} {Q : mm_Q} {free : Addr → Prop} {Qc : Array Value → State → Outcome → State → Prop} (X : mm_cx p R s m args c cc RX6 lw_T A D pcl nL) (hR : 5 < R.frames ∧ 82 ≤ R.locals ∧ 1 ≤ R.cells ∧ 6 ≤ R.slots) (hlt : l.stackTraces = false) (hlk : meth.locks = false) (hfree : ∀ q, A q → free q) (hout : ∀ x ∈ c.exceptionTable.toList, False) (d0 : decode cc pc = .ok (.new 123, 3)) (d3 : decode cc (pc + 3) = .ok (.dup, 1)) (d4 : decode cc (pc + 4) = .ok (.ldc (xm_i 0), 2)) (d6 : decode cc (pc + 6) = .ok (.invokespecial 127, 3)) (d9 : decode cc (pc + 9) = .ok (.athrow, 1)) : mm_SK p l e R s m args below meth c (vx_MQ below Qc (vX D Q ad0 cA0 μ0 A) args s 1 6 free) D pcl A nL (mm_EX XX A s ad0 cA0 (mm_n μ0)) pc (mm_tx 1 Q) :=
  so_tx (j := 0) (cls := xn_1) X hR.1 hR.2.1 hR.2.2.1 hR.2.2.2 hlt hlk hfree hout (by decide) (by simp) (by decide +kernel) xw_k1 xw_i1 xw_g1 xw_b1 xw_o1 d0 d3 d4 d6 d9
theorem so_tx_2_1 {ad0 : Nat → Nat} {cA0 : Nat → ClassId} {μ0 : mm_M} {Q : mm_Q} {free : Addr → Prop} {Qc : Array Value → State → Outcome → State → Prop} (X : mm_cx p R s m args c cc RX6 lw_T A D pcl nL) (hR : 5 < R.frames ∧ 82 ≤ R.locals ∧ 1 ≤ R.cells ∧ 6 ≤ R.slots) (hlt : l.stackTraces = false) (hlk : meth.locks = false) (hfree : ∀ q, A q → free q) (hout : ∀ x ∈ c.exceptionTable.toList, False) (d0 : decode cc pc = .ok (.new 130, 3)) (d3 : decode cc (pc + 3) = .ok (.dup, 1)) (d4 : decode cc (pc + 4) = .ok (.ldc (xm_i 1), 2)) (d6 : decode cc (pc + 6) = .ok (.invokespecial 134, 3)) (d9 : decode cc (pc + 9) = .ok (.athrow, 1)) : mm_SK p l e R s m args below meth c (vx_MQ below Qc (vX D Q ad0 cA0 μ0 A) args s 1 6 free) D pcl A nL (mm_EX XX A s ad0 cA0 (mm_n μ0)) pc (mm_tx 2 Q) :=
  so_tx (j := 1) (cls := xn_2) X hR.1 hR.2.1 hR.2.2.1 hR.2.2.2 hlt hlk hfree hout (by decide) (by simp) (by decide +kernel) xw_k2 xw_i2 xw_g2 xw_b2 xw_o2 d0 d3 d4 d6 d9
theorem so_tx_3_2 {ad0 : Nat → Nat} {cA0 : Nat → ClassId} {μ0 : mm_M} {Q : mm_Q} {free : Addr → Prop} {Qc : Array Value → State → Outcome → State → Prop} (X : mm_cx p R s m args c cc RX6 lw_T A D pcl nL) (hR : 5 < R.frames ∧ 82 ≤ R.locals ∧ 1 ≤ R.cells ∧ 6 ≤ R.slots) (hlt : l.stackTraces = false) (hlk : meth.locks = false) (hfree : ∀ q, A q → free q) (hout : ∀ x ∈ c.exceptionTable.toList, False) (d0 : decode cc pc = .ok (.new 146, 3)) (d3 : decode cc (pc + 3) = .ok (.dup, 1)) (d4 : decode cc (pc + 4) = .ok (.ldc (xm_i 2), 2)) (d6 : decode cc (pc + 6) = .ok (.invokespecial 150, 3)) (d9 : decode cc (pc + 9) = .ok (.athrow, 1)) : mm_SK p l e R s m args below meth c (vx_MQ below Qc (vX D Q ad0 cA0 μ0 A) args s 1 6 free) D pcl A nL (mm_EX XX A s ad0 cA0 (mm_n μ0)) pc (mm_tx 3 Q) :=
  so_tx (j := 2) (cls := xn_3) X hR.1 hR.2.1 hR.2.2.1 hR.2.2.2 hlt hlk hfree hout (by decide) (by simp) (by decide +kernel) xw_k3 xw_i3 xw_g3 xw_b3 xw_o3 d0 d3 d4 d6 d9
theorem so_tx_1_3 {ad0 : Nat → Nat} {cA0 : Nat → ClassId} {μ0 : mm_M} {Q : mm_Q} {free : Addr → Prop} {Qc : Array Value → State → Outcome → State → Prop} (X : mm_cx p R s m args c cc RX6 lw_T A D pcl nL) (hR : 5 < R.frames ∧ 82 ≤ R.locals ∧ 1 ≤ R.cells ∧ 6 ≤ R.slots) (hlt : l.stackTraces = false) (hlk : meth.locks = false) (hfree : ∀ q, A q → free q) (hout : ∀ x ∈ c.exceptionTable.toList, False) (d0 : decode cc pc = .ok (.new 123, 3)) (d3 : decode cc (pc + 3) = .ok (.dup, 1)) (d4 : decode cc (pc + 4) = .ok (.ldc (xm_i 3), 2)) (d6 : decode cc (pc + 6) = .ok (.invokespecial 127, 3)) (d9 : decode cc (pc + 9) = .ok (.athrow, 1)) : mm_SK p l e R s m args below meth c (vx_MQ below Qc (vX D Q ad0 cA0 μ0 A) args s 1 6 free) D pcl A nL (mm_EX XX A s ad0 cA0 (mm_n μ0)) pc (mm_tx 1 Q) :=
  so_tx (j := 3) (cls := xn_1) X hR.1 hR.2.1 hR.2.2.1 hR.2.2.2 hlt hlk hfree hout (by decide) (by simp) (by decide +kernel) xw_k1 xw_i1 xw_g1 xw_b1 xw_o1 d0 d3 d4 d6 d9
theorem so_tx_3_4 {ad0 : Nat → Nat} {cA0 : Nat → ClassId} {μ0 : mm_M} {Q : mm_Q} {free : Addr → Prop} {Qc : Array Value → State → Outcome → State → Prop} (X : mm_cx p R s m args c cc RX6 lw_T A D pcl nL) (hR : 5 < R.frames ∧ 82 ≤ R.locals ∧ 1 ≤ R.cells ∧ 6 ≤ R.slots) (hlt : l.stackTraces = false) (hlk : meth.locks = false) (hfree : ∀ q, A q → free q) (hout : ∀ x ∈ c.exceptionTable.toList, False) (d0 : decode cc pc = .ok (.new 146, 3)) (d3 : decode cc (pc + 3) = .ok (.dup, 1)) (d4 : decode cc (pc + 4) = .ok (.ldc (xm_i 4), 2)) (d6 : decode cc (pc + 6) = .ok (.invokespecial 150, 3)) (d9 : decode cc (pc + 9) = .ok (.athrow, 1)) : mm_SK p l e R s m args below meth c (vx_MQ below Qc (vX D Q ad0 cA0 μ0 A) args s 1 6 free) D pcl A nL (mm_EX XX A s ad0 cA0 (mm_n μ0)) pc (mm_tx 3 Q) :=
  so_tx (j := 4) (cls := xn_3) X hR.1 hR.2.1 hR.2.2.1 hR.2.2.2 hlt hlk hfree hout (by decide) (by simp) (by decide +kernel) xw_k3 xw_i3 xw_g3 xw_b3 xw_o3 d0 d3 d4 d6 d9
end
def vp_value : Nat → Nat
  | 0 => 0
  | 1 => 23
  | 2 => 33
  | 3 => 53
  | 4 => 91
  | 5 => 113
  | _ => 0
set_option maxHeartbeats 4000000 in
set_option maxRecDepth 100000 in
theorem vk_value {l : Launch} (hlt : l.stackTraces = false) {D : va_G} {d : Nat} {C : mm_C} (hC : mm_CS l D pcl lw_T XX px_tab (d + 5) C) {p : Program} {e : Env} {s : State} {m : MethodId} {args : Array Value} {below : List Frame} {meth : Method} {c : Code} {A : Nat → Prop} {ad0 : Nat → Nat} {cA0 : Nat → ClassId} {μ0 : mm_M} {free : Addr → Prop} {Q : mm_Q} {J : mm_J} (X : mm_cx p (mm_rm (d + 6) 1 6) s m args c cX6_value RX6 lw_T A D pcl 5) (hr : meth.sig.returnType = some .int) (hlk : meth.locks = false) (hfree : ∀ q, A q → free q) (hout : ∀ x ∈ c.exceptionTable.toList, False) (hJ : ∀ t, mm_SK p l e (mm_rm (d + 6) 1 6) s m args below meth c (vx_MQ below (mm_Qc D pcl (RQ Q) ad0 cA0 μ0 1 A) (vX D Q ad0 cA0 μ0 A) args s 1 6 free) D pcl A 5 (mm_EX XX A s ad0 cA0 (mm_n μ0)) (vp_value t) (J t)) : ∀ t, mm_SK p l e (mm_rm (d + 6) 1 6) s m args below meth c (vx_MQ below (mm_Qc D pcl (RQ Q) ad0 cA0 μ0 1 A) (vX D Q ad0 cA0 μ0 A) args s 1 6 free) D pcl A 5 (mm_EX XX A s ad0 cA0 (mm_n μ0)) (vp_value t) (vb_value J C Q t) := by
  have hxo := XX_o
  have hxe := XX_e0
  have hE1 : 5 < (mm_rm (d + 6) 1 6).frames ∧ 82 ≤ (mm_rm (d + 6) 1 6).locals ∧ 1 ≤ (mm_rm (d + 6) 1 6).cells ∧ 6 ≤ (mm_rm (d + 6) 1 6).slots := ⟨by show 5 < d + 6; omega, by show 82 ≤ 256 * (d + 6); omega, Nat.le_refl _, Nat.le_refl _⟩
  intro t
  match t with
  | 0 =>
    refine so_aload_n (pc := 0) (i := 0) X (by decide +kernel) ?_
    refine so_iload_n (pc := 1) (i := 1) X (by decide +kernel) ?_
    refine so_cav (pc := 2) (y := 80) (na := 2) (index := 81) (maxL := 2) (nm := yX6_isUser) (bytes := cX6_isUser) (ret := (some .boolean)) (ci := 6) (N := 14) (T := TX6) X hxo (fun _ _ _ _ h => h.1) hC lw_good (Nat.le_refl _) (mm_lo (d + 5)) rfl (by decide) tw_271 tw_272 tw_259 rfl (by decide) tw_273 tw_274 (by decide +kernel) (by decide +kernel) ?_
    refine so_if_eq (pc := 5) (off := 18) (tgt := 23) X (by decide +kernel) (by decide) (hJ 1) ?_
    refine so_aload_n (pc := 8) (i := 0) X (by decide +kernel) ?_
    refine so_iload_n (pc := 9) (i := 2) X (by decide +kernel) ?_
    refine so_cav (pc := 10) (y := 79) (na := 2) (index := 65) (maxL := 2) (nm := yX6_isObject) (bytes := cX6_isObject) (ret := (some .boolean)) (ci := 6) (N := 14) (T := TX6) X hxo (fun _ _ _ _ h => h.1) hC lw_good (Nat.le_refl _) (mm_lo (d + 5)) rfl (by decide) tw_257 tw_258 tw_259 rfl (by decide) tw_260 tw_261 (by decide +kernel) (by decide +kernel) ?_
    refine so_if_eq (pc := 13) (off := 10) (tgt := 23) X (by decide +kernel) (by decide) (hJ 1) ?_
    refine so_iload_n (pc := 16) (i := 3) X (by decide +kernel) ?_
    refine so_cas (pc := 17) (y := 81) (na := 1) (index := 69) (maxL := 1) (nm := yX6_isField) (bytes := cX6_isField) (ret := (some .boolean)) X hxo (fun _ _ _ _ h => h.1) hC lw_good (Nat.le_refl _) (mm_lo (d + 5)) rfl (by decide) tw_262 tw_263 tw_259 tw_264 (by decide +kernel) (by decide +kernel) ?_
    refine so_if_ne (pc := 20) (off := 13) (tgt := 33) X (by decide +kernel) (by decide) (hJ 2) ?_
    exact so_fall X (hJ 1)
  | 1 =>
    exact so_tx_1_0 (pc := 23) X hE1 hlt hlk hfree hout (by decide +kernel) (by decide +kernel) (by decide +kernel) (by decide +kernel) (by decide +kernel)
  | 2 =>
    refine so_aload_n (pc := 33) (i := 0) X (by decide +kernel) ?_
    refine so_getr (pc := 34) (index := 32) (ci := 6) (f := 10) (N := 14) (C := RX6) (T := TX6) X rfl uX6 (by decide) (by decide) tw_237 rfl (by decide +kernel) ?_
    refine so_cav (pc := 37) (y := 1) (na := 1) (index := 108) (maxL := 1) (nm := yX0_isFull) (bytes := cX0_isFull) (ret := (some .boolean)) (ci := 0) (N := 2) (T := TX0) X hxo (fun _ _ _ _ h => h.1) hC lw_good (Nat.le_refl _) (mm_lo (d + 5)) rfl (by decide) tw_6 tw_287 tw_8 rfl (by decide) tw_9 tw_10 (by decide +kernel) (by decide +kernel) ?_
    refine so_if_eq (pc := 40) (off := 13) (tgt := 53) X (by decide +kernel) (by decide) (hJ 3) ?_
    exact so_tx_2_1 (pc := 43) X hE1 hlt hlk hfree hout (by decide +kernel) (by decide +kernel) (by decide +kernel) (by decide +kernel) (by decide +kernel)
  | 3 =>
    refine so_iconst (pc := 53) (n := 1) (v := 1) X (by decide +kernel) (by decide) ?_
    refine so_iload_n (pc := 54) (i := 2) X (by decide +kernel) ?_
    refine so_ishl (pc := 55) X (by decide +kernel) ?_
    refine so_istore (pc := 56) (i := 4) X (by decide +kernel) (by decide) ?_
    refine so_aload_n (pc := 58) (i := 0) X (by decide +kernel) ?_
    refine so_aload_n (pc := 59) (i := 0) X (by decide +kernel) ?_
    refine so_getr (pc := 60) (index := 15) (ci := 6) (f := 2) (N := 14) (C := RX6) (T := TX6) X rfl uX6 (by decide) (by decide) tw_229 rfl (by decide +kernel) ?_
    refine so_iload_n (pc := 63) (i := 1) X (by decide +kernel) ?_
    refine so_rald (pc := 64) (C := "HiddenSums$User") X (by decide +kernel) ?_
    refine so_iload_n (pc := 65) (i := 3) X (by decide +kernel) ?_
    refine so_cav (pc := 66) (y := 90) (na := 3) (index := 135) (maxL := 6) (nm := yX6_hiddenFrom) (bytes := cX6_hiddenFrom) (ret := (some .int)) (ci := 6) (N := 14) (T := TX6) X hxo (fun _ _ _ _ h => h.1) hC lw_good (Nat.le_refl _) (mm_lo (d + 5)) rfl (by decide) tw_369 tw_370 tw_259 rfl (by decide) tw_371 tw_372 (by decide +kernel) (by decide +kernel) ?_
    refine so_iload (pc := 69) (i := 4) X (by decide +kernel) ?_
    refine so_iand (pc := 71) X (by decide +kernel) ?_
    refine so_if_ne (pc := 72) (off := 19) (tgt := 91) X (by decide +kernel) (by decide) (hJ 4) ?_
    refine so_aload_n (pc := 75) (i := 0) X (by decide +kernel) ?_
    refine so_aload_n (pc := 76) (i := 0) X (by decide +kernel) ?_
    refine so_getr (pc := 77) (index := 15) (ci := 6) (f := 2) (N := 14) (C := RX6) (T := TX6) X rfl uX6 (by decide) (by decide) tw_229 rfl (by decide +kernel) ?_
    refine so_iload_n (pc := 80) (i := 1) X (by decide +kernel) ?_
    refine so_rald (pc := 81) (C := "HiddenSums$User") X (by decide +kernel) ?_
    refine so_iload_n (pc := 82) (i := 3) X (by decide +kernel) ?_
    refine so_iload (pc := 83) (i := 4) X (by decide +kernel) ?_
    refine so_cav (pc := 85) (y := 93) (na := 4) (index := 138) (maxL := 6) (nm := yX6_tell) (bytes := cX6_tell) (ret := (some .boolean)) (ci := 6) (N := 14) (T := TX6) X hxo (fun _ _ _ _ h => h.1) hC lw_good (Nat.le_refl _) (mm_lo (d + 5)) rfl (by decide) tw_596 tw_597 tw_259 rfl (by decide) tw_598 tw_599 (by decide +kernel) (by decide +kernel) ?_
    refine so_if_ne (pc := 88) (off := 25) (tgt := 113) X (by decide +kernel) (by decide) (hJ 5) ?_
    exact so_fall X (hJ 4)
  | 4 =>
    refine so_aload_n (pc := 91) (i := 0) X (by decide +kernel) ?_
    refine so_getr (pc := 92) (index := 32) (ci := 6) (f := 10) (N := 14) (C := RX6) (T := TX6) X rfl uX6 (by decide) (by decide) tw_237 rfl (by decide +kernel) ?_
    refine so_iload_n (pc := 95) (i := 1) X (by decide +kernel) ?_
    refine so_iconst (pc := 96) (n := 1) (v := 1) X (by decide +kernel) (by decide) ?_
    refine so_iload_n (pc := 97) (i := 2) X (by decide +kernel) ?_
    refine so_iload_n (pc := 98) (i := 3) X (by decide +kernel) ?_
    refine so_iconst (pc := 99) (n := 1) (v := 1) X (by decide +kernel) (by decide) ?_
    refine so_cav (pc := 100) (y := 2) (na := 6) (index := 142) (maxL := 7) (nm := yX0_enter) (bytes := cX0_enter) (ret := none) (ci := 0) (N := 2) (T := TX0) X hxo (fun _ _ _ _ h => h.1) hC lw_good (Nat.le_refl _) (mm_lo (d + 5)) rfl (by decide) tw_301 tw_302 tw_8 rfl (by decide) tw_303 tw_304 (by decide +kernel) (by decide +kernel) ?_
    exact so_tx_3_2 (pc := 103) X hE1 hlt hlk hfree hout (by decide +kernel) (by decide +kernel) (by decide +kernel) (by decide +kernel) (by decide +kernel)
  | 5 =>
    refine so_aload_n (pc := 113) (i := 0) X (by decide +kernel) ?_
    refine so_getr (pc := 114) (index := 32) (ci := 6) (f := 10) (N := 14) (C := RX6) (T := TX6) X rfl uX6 (by decide) (by decide) tw_237 rfl (by decide +kernel) ?_
    refine so_iload_n (pc := 117) (i := 1) X (by decide +kernel) ?_
    refine so_iconst (pc := 118) (n := 1) (v := 1) X (by decide +kernel) (by decide) ?_
    refine so_iload_n (pc := 119) (i := 2) X (by decide +kernel) ?_
    refine so_iload_n (pc := 120) (i := 3) X (by decide +kernel) ?_
    refine so_iconst (pc := 121) (n := 0) (v := 0) X (by decide +kernel) (by decide) ?_
    refine so_cav (pc := 122) (y := 2) (na := 6) (index := 142) (maxL := 7) (nm := yX0_enter) (bytes := cX0_enter) (ret := none) (ci := 0) (N := 2) (T := TX0) X hxo (fun _ _ _ _ h => h.1) hC lw_good (Nat.le_refl _) (mm_lo (d + 5)) rfl (by decide) tw_301 tw_302 tw_8 rfl (by decide) tw_303 tw_304 (by decide +kernel) (by decide +kernel) ?_
    refine so_aload_n (pc := 125) (i := 0) X (by decide +kernel) ?_
    refine so_getr (pc := 126) (index := 9) (ci := 6) (f := 0) (N := 14) (C := RX6) (T := TX6) X rfl uX6 (by decide) (by decide) tw_227 rfl (by decide +kernel) ?_
    refine so_iload_n (pc := 129) (i := 2) X (by decide +kernel) ?_
    refine so_iconst (pc := 130) (n := 4) (v := 4) X (by decide +kernel) (by decide) ?_
    refine so_imul (pc := 131) X (by decide +kernel) ?_
    refine so_iload_n (pc := 132) (i := 3) X (by decide +kernel) ?_
    refine so_iadd (pc := 133) X (by decide +kernel) ?_
    refine so_iald (pc := 134) X (by decide +kernel) ?_
    exact so_xret (so_ret (pc := 135) X hlk hfree hr (by decide +kernel))
  | n + 6 => exact fun _ _ _ _ h => h.elim
def vp_sum : Nat → Nat
  | 0 => 0
  | 1 => 23
  | 2 => 33
  | 3 => 53
  | 4 => 90
  | _ => 0
set_option maxHeartbeats 4000000 in
set_option maxRecDepth 100000 in
theorem vk_sum {l : Launch} (hlt : l.stackTraces = false) {D : va_G} {d : Nat} {C : mm_C} (hC : mm_CS l D pcl lw_T XX px_tab (d + 5) C) {p : Program} {e : Env} {s : State} {m : MethodId} {args : Array Value} {below : List Frame} {meth : Method} {c : Code} {A : Nat → Prop} {ad0 : Nat → Nat} {cA0 : Nat → ClassId} {μ0 : mm_M} {free : Addr → Prop} {Q : mm_Q} {J : mm_J} (X : mm_cx p (mm_rm (d + 6) 1 6) s m args c cX6_sum RX6 lw_T A D pcl 4) (hr : meth.sig.returnType = some .int) (hlk : meth.locks = false) (hfree : ∀ q, A q → free q) (hout : ∀ x ∈ c.exceptionTable.toList, False) (hJ : ∀ t, mm_SK p l e (mm_rm (d + 6) 1 6) s m args below meth c (vx_MQ below (mm_Qc D pcl (RQ Q) ad0 cA0 μ0 1 A) (vX D Q ad0 cA0 μ0 A) args s 1 6 free) D pcl A 4 (mm_EX XX A s ad0 cA0 (mm_n μ0)) (vp_sum t) (J t)) : ∀ t, mm_SK p l e (mm_rm (d + 6) 1 6) s m args below meth c (vx_MQ below (mm_Qc D pcl (RQ Q) ad0 cA0 μ0 1 A) (vX D Q ad0 cA0 μ0 A) args s 1 6 free) D pcl A 4 (mm_EX XX A s ad0 cA0 (mm_n μ0)) (vp_sum t) (vb_sum J C Q t) := by
  have hxo := XX_o
  have hxe := XX_e0
  have hE1 : 5 < (mm_rm (d + 6) 1 6).frames ∧ 82 ≤ (mm_rm (d + 6) 1 6).locals ∧ 1 ≤ (mm_rm (d + 6) 1 6).cells ∧ 6 ≤ (mm_rm (d + 6) 1 6).slots := ⟨by show 5 < d + 6; omega, by show 82 ≤ 256 * (d + 6); omega, Nat.le_refl _, Nat.le_refl _⟩
  intro t
  match t with
  | 0 =>
    refine so_aload_n (pc := 0) (i := 0) X (by decide +kernel) ?_
    refine so_iload_n (pc := 1) (i := 1) X (by decide +kernel) ?_
    refine so_cav (pc := 2) (y := 80) (na := 2) (index := 81) (maxL := 2) (nm := yX6_isUser) (bytes := cX6_isUser) (ret := (some .boolean)) (ci := 6) (N := 14) (T := TX6) X hxo (fun _ _ _ _ h => h.1) hC lw_good (Nat.le_refl _) (mm_lo (d + 5)) rfl (by decide) tw_271 tw_272 tw_259 rfl (by decide) tw_273 tw_274 (by decide +kernel) (by decide +kernel) ?_
    refine so_if_eq (pc := 5) (off := 18) (tgt := 23) X (by decide +kernel) (by decide) (hJ 1) ?_
    refine so_iload_n (pc := 8) (i := 2) X (by decide +kernel) ?_
    refine so_cas (pc := 9) (y := 81) (na := 1) (index := 69) (maxL := 1) (nm := yX6_isField) (bytes := cX6_isField) (ret := (some .boolean)) X hxo (fun _ _ _ _ h => h.1) hC lw_good (Nat.le_refl _) (mm_lo (d + 5)) rfl (by decide) tw_262 tw_263 tw_259 tw_264 (by decide +kernel) (by decide +kernel) ?_
    refine so_if_eq (pc := 12) (off := 11) (tgt := 23) X (by decide +kernel) (by decide) (hJ 1) ?_
    refine so_aload_n (pc := 15) (i := 0) X (by decide +kernel) ?_
    refine so_iload_n (pc := 16) (i := 3) X (by decide +kernel) ?_
    refine so_cav (pc := 17) (y := 82) (na := 2) (index := 151) (maxL := 2) (nm := yX6_isSet) (bytes := cX6_isSet) (ret := (some .boolean)) (ci := 6) (N := 14) (T := TX6) X hxo (fun _ _ _ _ h => h.1) hC lw_good (Nat.le_refl _) (mm_lo (d + 5)) rfl (by decide) tw_322 tw_323 tw_259 rfl (by decide) tw_324 tw_325 (by decide +kernel) (by decide +kernel) ?_
    refine so_if_ne (pc := 20) (off := 13) (tgt := 33) X (by decide +kernel) (by decide) (hJ 2) ?_
    exact so_fall X (hJ 1)
  | 1 =>
    exact so_tx_1_3 (pc := 23) X hE1 hlt hlk hfree hout (by decide +kernel) (by decide +kernel) (by decide +kernel) (by decide +kernel) (by decide +kernel)
  | 2 =>
    refine so_aload_n (pc := 33) (i := 0) X (by decide +kernel) ?_
    refine so_getr (pc := 34) (index := 32) (ci := 6) (f := 10) (N := 14) (C := RX6) (T := TX6) X rfl uX6 (by decide) (by decide) tw_237 rfl (by decide +kernel) ?_
    refine so_cav (pc := 37) (y := 1) (na := 1) (index := 108) (maxL := 1) (nm := yX0_isFull) (bytes := cX0_isFull) (ret := (some .boolean)) (ci := 0) (N := 2) (T := TX0) X hxo (fun _ _ _ _ h => h.1) hC lw_good (Nat.le_refl _) (mm_lo (d + 5)) rfl (by decide) tw_6 tw_287 tw_8 rfl (by decide) tw_9 tw_10 (by decide +kernel) (by decide +kernel) ?_
    refine so_if_eq (pc := 40) (off := 13) (tgt := 53) X (by decide +kernel) (by decide) (hJ 3) ?_
    exact so_tx_2_1 (pc := 43) X hE1 hlt hlk hfree hout (by decide +kernel) (by decide +kernel) (by decide +kernel) (by decide +kernel) (by decide +kernel)
  | 3 =>
    refine so_aload_n (pc := 53) (i := 0) X (by decide +kernel) ?_
    refine so_aload_n (pc := 54) (i := 0) X (by decide +kernel) ?_
    refine so_getr (pc := 55) (index := 15) (ci := 6) (f := 2) (N := 14) (C := RX6) (T := TX6) X rfl uX6 (by decide) (by decide) tw_229 rfl (by decide +kernel) ?_
    refine so_iload_n (pc := 58) (i := 1) X (by decide +kernel) ?_
    refine so_rald (pc := 59) (C := "HiddenSums$User") X (by decide +kernel) ?_
    refine so_iload_n (pc := 60) (i := 2) X (by decide +kernel) ?_
    refine so_iload_n (pc := 61) (i := 3) X (by decide +kernel) ?_
    refine so_cav (pc := 62) (y := 93) (na := 4) (index := 138) (maxL := 6) (nm := yX6_tell) (bytes := cX6_tell) (ret := (some .boolean)) (ci := 6) (N := 14) (T := TX6) X hxo (fun _ _ _ _ h => h.1) hC lw_good (Nat.le_refl _) (mm_lo (d + 5)) rfl (by decide) tw_596 tw_597 tw_259 rfl (by decide) tw_598 tw_599 (by decide +kernel) (by decide +kernel) ?_
    refine so_if_ne (pc := 65) (off := 25) (tgt := 90) X (by decide +kernel) (by decide) (hJ 4) ?_
    refine so_aload_n (pc := 68) (i := 0) X (by decide +kernel) ?_
    refine so_getr (pc := 69) (index := 32) (ci := 6) (f := 10) (N := 14) (C := RX6) (T := TX6) X rfl uX6 (by decide) (by decide) tw_237 rfl (by decide +kernel) ?_
    refine so_iload_n (pc := 72) (i := 1) X (by decide +kernel) ?_
    refine so_iconst (pc := 73) (n := 2) (v := 2) X (by decide +kernel) (by decide) ?_
    refine so_iload_n (pc := 74) (i := 2) X (by decide +kernel) ?_
    refine so_iload_n (pc := 75) (i := 3) X (by decide +kernel) ?_
    refine so_iconst (pc := 76) (n := 1) (v := 1) X (by decide +kernel) (by decide) ?_
    refine so_cav (pc := 77) (y := 2) (na := 6) (index := 142) (maxL := 7) (nm := yX0_enter) (bytes := cX0_enter) (ret := none) (ci := 0) (N := 2) (T := TX0) X hxo (fun _ _ _ _ h => h.1) hC lw_good (Nat.le_refl _) (mm_lo (d + 5)) rfl (by decide) tw_301 tw_302 tw_8 rfl (by decide) tw_303 tw_304 (by decide +kernel) (by decide +kernel) ?_
    exact so_tx_3_4 (pc := 80) X hE1 hlt hlk hfree hout (by decide +kernel) (by decide +kernel) (by decide +kernel) (by decide +kernel) (by decide +kernel)
  | 4 =>
    refine so_aload_n (pc := 90) (i := 0) X (by decide +kernel) ?_
    refine so_getr (pc := 91) (index := 32) (ci := 6) (f := 10) (N := 14) (C := RX6) (T := TX6) X rfl uX6 (by decide) (by decide) tw_237 rfl (by decide +kernel) ?_
    refine so_iload_n (pc := 94) (i := 1) X (by decide +kernel) ?_
    refine so_iconst (pc := 95) (n := 2) (v := 2) X (by decide +kernel) (by decide) ?_
    refine so_iload_n (pc := 96) (i := 2) X (by decide +kernel) ?_
    refine so_iload_n (pc := 97) (i := 3) X (by decide +kernel) ?_
    refine so_iconst (pc := 98) (n := 0) (v := 0) X (by decide +kernel) (by decide) ?_
    refine so_cav (pc := 99) (y := 2) (na := 6) (index := 142) (maxL := 7) (nm := yX0_enter) (bytes := cX0_enter) (ret := none) (ci := 0) (N := 2) (T := TX0) X hxo (fun _ _ _ _ h => h.1) hC lw_good (Nat.le_refl _) (mm_lo (d + 5)) rfl (by decide) tw_301 tw_302 tw_8 rfl (by decide) tw_303 tw_304 (by decide +kernel) (by decide +kernel) ?_
    refine so_aload_n (pc := 102) (i := 0) X (by decide +kernel) ?_
    refine so_iload_n (pc := 103) (i := 2) X (by decide +kernel) ?_
    refine so_iload_n (pc := 104) (i := 3) X (by decide +kernel) ?_
    refine so_cav (pc := 105) (y := 91) (na := 3) (index := 158) (maxL := 5) (nm := yX6_total) (bytes := cX6_total) (ret := (some .int)) (ci := 6) (N := 14) (T := TX6) X hxo (fun _ _ _ _ h => h.1) hC lw_good (Nat.le_refl _) (mm_lo (d + 5)) rfl (by decide) tw_600 tw_601 tw_259 rfl (by decide) tw_602 tw_603 (by decide +kernel) (by decide +kernel) ?_
    exact so_xret (so_ret (pc := 108) X hlk hfree hr (by decide +kernel))
  | n + 5 => exact fun _ _ _ _ h => h.elim
