set_option maxHeartbeats 4000000 in
set_option maxRecDepth 100000 in
theorem bk_X4_empty {l : Launch} {D : va_G} {EXT : (Nat → Nat) → (Nat → Prop) → State → Heap → Prop} (hxo : mm_xo EXT) (hxe : ∀ ad A U H, EXT ad A U H → px_E0 ad A U H) {d : Nat} {C : mm_C} (hC : mm_CS l D pcl lw_T EXT px_tab d C) {p : Program} {e : Env} {s : State} {m : MethodId} {args : Array Value} {below : List Frame} {meth : Method} {c : Code} {A : Nat → Prop} {ad0 : Nat → Nat} {cA0 : Nat → ClassId} {μ0 : mm_M} {free : Addr → Prop} {Q : mm_Q} {J : mm_J} (X : mm_cx p (mm_rm (d + 1) 0 0) s m args c cX4_empty RX4 lw_T A D pcl 1) (hr : meth.sig.returnType = none) (hlk : meth.locks = false) (hnm : meth.name = "empty") (hfree : ∀ q, A q → free q) (hJ : ∀ t, mm_SK p l e (mm_rm (d + 1) 0 0) s m args below meth c (MQ below (mm_Qc D pcl Q ad0 cA0 μ0 0 A) args s 0 0 free) D pcl A 1 (mm_EX EXT A s ad0 cA0 (mm_n μ0)) (pp_X4_empty t) (J t)) : ∀ t, mm_SK p l e (mm_rm (d + 1) 0 0) s m args below meth c (MQ below (mm_Qc D pcl Q ad0 cA0 μ0 0 A) args s 0 0 free) D pcl A 1 (mm_EX EXT A s ad0 cA0 (mm_n μ0)) (pp_X4_empty t) (pb_X4_empty J C Q t) := by
  intro t
  match t with
  | 0 =>
    refine so_aload_n (pc := 0) (i := 0) X (by decide +kernel) ?_
    refine so_iconst (pc := 1) (n := 0) (v := 0) X (by decide +kernel) (by decide) ?_
    refine so_puti (pc := 2) (index := 18) (ci := 4) (f := 2) (N := 4) (C := RX4) (T := TX4) X rfl uX4 (by decide) (by decide) tw_201 tyX4 tyX4_ok nmX4 rfl (by decide +kernel) rfl (by decide +kernel) ?_
    refine so_aload_n (pc := 5) (i := 0) X (by decide +kernel) ?_
    refine so_iconst (pc := 6) (n := 0) (v := 0) X (by decide +kernel) (by decide) ?_
    refine so_puti (pc := 7) (index := 22) (ci := 4) (f := 3) (N := 4) (C := RX4) (T := TX4) X rfl uX4 (by decide) (by decide) tw_202 tyX4 tyX4_ok nmX4 rfl (by decide +kernel) rfl (by decide +kernel) ?_
    exact so_rtv (pc := 10) X hlk hfree hr (by decide +kernel)
  | n + 1 => exact fun _ _ _ _ h => h.elim
theorem bs_X4_empty {l : Launch} {D : va_G} {EXT : (Nat → Nat) → (Nat → Prop) → State → Heap → Prop} (hxo : mm_xo EXT) (hxe : ∀ ad A U H, EXT ad A U H → px_E0 ad A U H) : mm_BS l D pcl lw_T EXT px_tab 49 pb_X4_empty pp_X4_empty := by
  intro d C hC p e s m args below meth c A ad0 cA0 μ0 free Q J
  rw [tb_49]
  exact fun X hr hlk hnm hfree hJ => bk_X4_empty hxo hxe hC X hr hlk hnm hfree hJ
set_option maxHeartbeats 4000000 in
set_option maxRecDepth 100000 in
theorem bk_X4_append {l : Launch} {D : va_G} {EXT : (Nat → Nat) → (Nat → Prop) → State → Heap → Prop} (hxo : mm_xo EXT) (hxe : ∀ ad A U H, EXT ad A U H → px_E0 ad A U H) {d : Nat} {C : mm_C} (hC : mm_CS l D pcl lw_T EXT px_tab d C) {p : Program} {e : Env} {s : State} {m : MethodId} {args : Array Value} {below : List Frame} {meth : Method} {c : Code} {A : Nat → Prop} {ad0 : Nat → Nat} {cA0 : Nat → ClassId} {μ0 : mm_M} {free : Addr → Prop} {Q : mm_Q} {J : mm_J} (X : mm_cx p (mm_rm (d + 1) 0 0) s m args c cX4_append RX4 lw_T A D pcl 3) (hr : meth.sig.returnType = none) (hlk : meth.locks = false) (hnm : meth.name = "append") (hfree : ∀ q, A q → free q) (hJ : ∀ t, mm_SK p l e (mm_rm (d + 1) 0 0) s m args below meth c (MQ below (mm_Qc D pcl Q ad0 cA0 μ0 0 A) args s 0 0 free) D pcl A 3 (mm_EX EXT A s ad0 cA0 (mm_n μ0)) (pp_X4_append t) (J t)) : ∀ t, mm_SK p l e (mm_rm (d + 1) 0 0) s m args below meth c (MQ below (mm_Qc D pcl Q ad0 cA0 μ0 0 A) args s 0 0 free) D pcl A 3 (mm_EX EXT A s ad0 cA0 (mm_n μ0)) (pp_X4_append t) (pb_X4_append J C Q t) := by
  intro t
  match t with
  | 0 =>
    refine so_aload_n (pc := 0) (i := 0) X (by decide +kernel) ?_
    refine so_geti (pc := 1) (index := 18) (ci := 4) (f := 2) (N := 4) (C := RX4) (T := TX4) X rfl uX4 (by decide) (by decide) tw_201 rfl (by decide) (by decide +kernel) ?_
    refine so_bipush (pc := 4) (n := 60) (v := 60) X (by decide +kernel) (by decide) ?_
    refine so_icmp_lt (pc := 6) (off := 4) (tgt := 10) X (by decide +kernel) (by decide) (hJ 1) ?_
    exact so_rtv (pc := 9) X hlk hfree hr (by decide +kernel)
  | 1 =>
    refine so_aload_n (pc := 10) (i := 0) X (by decide +kernel) ?_
    refine so_getr (pc := 11) (index := 9) (ci := 4) (f := 0) (N := 4) (C := RX4) (T := TX4) X rfl uX4 (by decide) (by decide) tw_199 rfl (by decide +kernel) ?_
    refine so_aload_n (pc := 14) (i := 0) X (by decide +kernel) ?_
    refine so_geti (pc := 15) (index := 18) (ci := 4) (f := 2) (N := 4) (C := RX4) (T := TX4) X rfl uX4 (by decide) (by decide) tw_201 rfl (by decide) (by decide +kernel) ?_
    refine so_iload_n (pc := 18) (i := 1) X (by decide +kernel) ?_
    refine so_iast (pc := 19) X (by decide +kernel) ?_
    refine so_aload_n (pc := 20) (i := 0) X (by decide +kernel) ?_
    refine so_getr (pc := 21) (index := 15) (ci := 4) (f := 1) (N := 4) (C := RX4) (T := TX4) X rfl uX4 (by decide) (by decide) tw_200 rfl (by decide +kernel) ?_
    refine so_aload_n (pc := 24) (i := 0) X (by decide +kernel) ?_
    refine so_geti (pc := 25) (index := 18) (ci := 4) (f := 2) (N := 4) (C := RX4) (T := TX4) X rfl uX4 (by decide) (by decide) tw_201 rfl (by decide) (by decide +kernel) ?_
    refine so_iload_n (pc := 28) (i := 2) X (by decide +kernel) ?_
    refine so_iast (pc := 29) X (by decide +kernel) ?_
    refine so_aload_n (pc := 30) (i := 0) X (by decide +kernel) ?_
    refine so_dup (pc := 31) X (by decide +kernel) ?_
    refine so_geti (pc := 32) (index := 18) (ci := 4) (f := 2) (N := 4) (C := RX4) (T := TX4) X rfl uX4 (by decide) (by decide) tw_201 rfl (by decide) (by decide +kernel) ?_
    refine so_iconst (pc := 35) (n := 1) (v := 1) X (by decide +kernel) (by decide) ?_
    refine so_iadd (pc := 36) X (by decide +kernel) ?_
    refine so_puti (pc := 37) (index := 18) (ci := 4) (f := 2) (N := 4) (C := RX4) (T := TX4) X rfl uX4 (by decide) (by decide) tw_201 tyX4 tyX4_ok nmX4 rfl (by decide +kernel) rfl (by decide +kernel) ?_
    refine so_iload_n (pc := 40) (i := 1) X (by decide +kernel) ?_
    refine so_iconst (pc := 41) (n := 3) (v := 3) X (by decide +kernel) (by decide) ?_
    refine so_icmp_ne (pc := 42) (off := 15) (tgt := 57) X (by decide +kernel) (by decide) (hJ 2) ?_
    refine so_aload_n (pc := 45) (i := 0) X (by decide +kernel) ?_
    refine so_dup (pc := 46) X (by decide +kernel) ?_
    refine so_geti (pc := 47) (index := 22) (ci := 4) (f := 3) (N := 4) (C := RX4) (T := TX4) X rfl uX4 (by decide) (by decide) tw_202 rfl (by decide) (by decide +kernel) ?_
    refine so_iconst (pc := 50) (n := 1) (v := 1) X (by decide +kernel) (by decide) ?_
    refine so_iload_n (pc := 51) (i := 2) X (by decide +kernel) ?_
    refine so_ishl (pc := 52) X (by decide +kernel) ?_
    refine so_ior (pc := 53) X (by decide +kernel) ?_
    refine so_puti (pc := 54) (index := 22) (ci := 4) (f := 3) (N := 4) (C := RX4) (T := TX4) X rfl uX4 (by decide) (by decide) tw_202 tyX4 tyX4_ok nmX4 rfl (by decide +kernel) rfl (by decide +kernel) ?_
    exact so_fall X (hJ 2)
  | 2 =>
    exact so_rtv (pc := 57) X hlk hfree hr (by decide +kernel)
  | n + 3 => exact fun _ _ _ _ h => h.elim
theorem bs_X4_append {l : Launch} {D : va_G} {EXT : (Nat → Nat) → (Nat → Prop) → State → Heap → Prop} (hxo : mm_xo EXT) (hxe : ∀ ad A U H, EXT ad A U H → px_E0 ad A U H) : mm_BS l D pcl lw_T EXT px_tab 50 pb_X4_append pp_X4_append := by
  intro d C hC p e s m args below meth c A ad0 cA0 μ0 free Q J
  rw [tb_50]
  exact fun X hr hlk hnm hfree hJ => bk_X4_append hxo hxe hC X hr hlk hnm hfree hJ
set_option maxHeartbeats 4000000 in
set_option maxRecDepth 100000 in
theorem bk_X4_copyFrom {l : Launch} {D : va_G} {EXT : (Nat → Nat) → (Nat → Prop) → State → Heap → Prop} (hxo : mm_xo EXT) (hxe : ∀ ad A U H, EXT ad A U H → px_E0 ad A U H) {d : Nat} {C : mm_C} (hC : mm_CS l D pcl lw_T EXT px_tab d C) {p : Program} {e : Env} {s : State} {m : MethodId} {args : Array Value} {below : List Frame} {meth : Method} {c : Code} {A : Nat → Prop} {ad0 : Nat → Nat} {cA0 : Nat → ClassId} {μ0 : mm_M} {free : Addr → Prop} {Q : mm_Q} {J : mm_J} (X : mm_cx p (mm_rm (d + 1) 0 0) s m args c cX4_copyFrom RX4 lw_T A D pcl 2) (hr : meth.sig.returnType = none) (hlk : meth.locks = false) (hnm : meth.name = "copyFrom") (hfree : ∀ q, A q → free q) (hJ : ∀ t, mm_SK p l e (mm_rm (d + 1) 0 0) s m args below meth c (MQ below (mm_Qc D pcl Q ad0 cA0 μ0 0 A) args s 0 0 free) D pcl A 2 (mm_EX EXT A s ad0 cA0 (mm_n μ0)) (pp_X4_copyFrom t) (J t)) : ∀ t, mm_SK p l e (mm_rm (d + 1) 0 0) s m args below meth c (MQ below (mm_Qc D pcl Q ad0 cA0 μ0 0 A) args s 0 0 free) D pcl A 2 (mm_EX EXT A s ad0 cA0 (mm_n μ0)) (pp_X4_copyFrom t) (pb_X4_copyFrom J C Q t) := by
  intro t
  match t with
  | 0 =>
    refine so_aload_n (pc := 0) (i := 1) X (by decide +kernel) ?_
    refine so_getr (pc := 1) (index := 9) (ci := 4) (f := 0) (N := 4) (C := RX4) (T := TX4) X rfl uX4 (by decide) (by decide) tw_199 rfl (by decide +kernel) ?_
    refine so_iconst (pc := 4) (n := 0) (v := 0) X (by decide +kernel) (by decide) ?_
    refine so_aload_n (pc := 5) (i := 0) X (by decide +kernel) ?_
    refine so_getr (pc := 6) (index := 9) (ci := 4) (f := 0) (N := 4) (C := RX4) (T := TX4) X rfl uX4 (by decide) (by decide) tw_199 rfl (by decide +kernel) ?_
    refine so_iconst (pc := 9) (n := 0) (v := 0) X (by decide +kernel) (by decide) ?_
    refine so_aload_n (pc := 10) (i := 1) X (by decide +kernel) ?_
    refine so_geti (pc := 11) (index := 18) (ci := 4) (f := 2) (N := 4) (C := RX4) (T := TX4) X rfl uX4 (by decide) (by decide) tw_201 rfl (by decide) (by decide +kernel) ?_
    refine so_cpi (pc := 14) (index := 25) X tw_203 tw_151 tw_152 tw_153 (mm_fr1 d) (mm_lo64 d) (by decide +kernel) ?_
    refine so_aload_n (pc := 17) (i := 1) X (by decide +kernel) ?_
    refine so_getr (pc := 18) (index := 15) (ci := 4) (f := 1) (N := 4) (C := RX4) (T := TX4) X rfl uX4 (by decide) (by decide) tw_200 rfl (by decide +kernel) ?_
    refine so_iconst (pc := 21) (n := 0) (v := 0) X (by decide +kernel) (by decide) ?_
    refine so_aload_n (pc := 22) (i := 0) X (by decide +kernel) ?_
    refine so_getr (pc := 23) (index := 15) (ci := 4) (f := 1) (N := 4) (C := RX4) (T := TX4) X rfl uX4 (by decide) (by decide) tw_200 rfl (by decide +kernel) ?_
    refine so_iconst (pc := 26) (n := 0) (v := 0) X (by decide +kernel) (by decide) ?_
    refine so_aload_n (pc := 27) (i := 1) X (by decide +kernel) ?_
    refine so_geti (pc := 28) (index := 18) (ci := 4) (f := 2) (N := 4) (C := RX4) (T := TX4) X rfl uX4 (by decide) (by decide) tw_201 rfl (by decide) (by decide +kernel) ?_
    refine so_cpi (pc := 31) (index := 25) X tw_203 tw_151 tw_152 tw_153 (mm_fr1 d) (mm_lo64 d) (by decide +kernel) ?_
    refine so_aload_n (pc := 34) (i := 0) X (by decide +kernel) ?_
    refine so_aload_n (pc := 35) (i := 1) X (by decide +kernel) ?_
    refine so_geti (pc := 36) (index := 18) (ci := 4) (f := 2) (N := 4) (C := RX4) (T := TX4) X rfl uX4 (by decide) (by decide) tw_201 rfl (by decide) (by decide +kernel) ?_
    refine so_puti (pc := 39) (index := 18) (ci := 4) (f := 2) (N := 4) (C := RX4) (T := TX4) X rfl uX4 (by decide) (by decide) tw_201 tyX4 tyX4_ok nmX4 rfl (by decide +kernel) rfl (by decide +kernel) ?_
    refine so_aload_n (pc := 42) (i := 0) X (by decide +kernel) ?_
    refine so_aload_n (pc := 43) (i := 1) X (by decide +kernel) ?_
    refine so_geti (pc := 44) (index := 22) (ci := 4) (f := 3) (N := 4) (C := RX4) (T := TX4) X rfl uX4 (by decide) (by decide) tw_202 rfl (by decide) (by decide +kernel) ?_
    refine so_puti (pc := 47) (index := 22) (ci := 4) (f := 3) (N := 4) (C := RX4) (T := TX4) X rfl uX4 (by decide) (by decide) tw_202 tyX4 tyX4_ok nmX4 rfl (by decide +kernel) rfl (by decide +kernel) ?_
    exact so_rtv (pc := 50) X hlk hfree hr (by decide +kernel)
  | n + 1 => exact fun _ _ _ _ h => h.elim
theorem bs_X4_copyFrom {l : Launch} {D : va_G} {EXT : (Nat → Nat) → (Nat → Prop) → State → Heap → Prop} (hxo : mm_xo EXT) (hxe : ∀ ad A U H, EXT ad A U H → px_E0 ad A U H) : mm_BS l D pcl lw_T EXT px_tab 51 pb_X4_copyFrom pp_X4_copyFrom := by
  intro d C hC p e s m args below meth c A ad0 cA0 μ0 free Q J
  rw [tb_51]
  exact fun X hr hlk hnm hfree hJ => bk_X4_copyFrom hxo hxe hC X hr hlk hnm hfree hJ
set_option maxHeartbeats 4000000 in
set_option maxRecDepth 100000 in
theorem bk_X5_init {l : Launch} {D : va_G} {EXT : (Nat → Nat) → (Nat → Prop) → State → Heap → Prop} (hxo : mm_xo EXT) (hxe : ∀ ad A U H, EXT ad A U H → px_E0 ad A U H) {d : Nat} {C : mm_C} (hC : mm_CS l D pcl lw_T EXT px_tab d C) {p : Program} {e : Env} {s : State} {m : MethodId} {args : Array Value} {below : List Frame} {meth : Method} {c : Code} {A : Nat → Prop} {ad0 : Nat → Nat} {cA0 : Nat → ClassId} {μ0 : mm_M} {free : Addr → Prop} {Q : mm_Q} {J : mm_J} (X : mm_cx p (mm_rm (d + 1) 15 880) s m args c cX5_init RX5 lw_T A D pcl 2) (hr : meth.sig.returnType = none) (hlk : meth.locks = false) (hnm : meth.name = "<init>") (hfree : ∀ q, A q → free q) (hJ : ∀ t, mm_SK p l e (mm_rm (d + 1) 15 880) s m args below meth c (MQ below (mm_Qc D pcl Q ad0 cA0 μ0 15 A) args s 15 880 free) D pcl A 2 (mm_EX EXT A s ad0 cA0 (mm_n μ0)) (pp_X5_init t) (J t)) : ∀ t, mm_SK p l e (mm_rm (d + 1) 15 880) s m args below meth c (MQ below (mm_Qc D pcl Q ad0 cA0 μ0 15 A) args s 15 880 free) D pcl A 2 (mm_EX EXT A s ad0 cA0 (mm_n μ0)) (pp_X5_init t) (pb_X5_init J C Q t) := by
  intro t
  match t with
  | 0 =>
    refine so_aload_n (pc := 0) (i := 0) X (by decide +kernel) ?_
    refine so_obi (pc := 1) (index := 3) X tw_204 tw_1 tw_2 (mm_fr1 d) (mm_lo20 d) (by decide +kernel) ?_
    refine so_aload_n (pc := 4) (i := 0) X (by decide +kernel) ?_
    refine so_new (pc := 5) (B := (15, 880)) (index := 9) (ci := 4) (N := 4) (C := RX4) (T := TX4) X (mm_EX_cl hxo) ⟨Nat.le_refl _, Nat.le_refl _⟩ rfl uX4 tyX4 tyX4_ok pdX4 tw_205 tw_13 tw_14 (by decide +kernel) ?_
    refine so_dup (pc := 8) X (by decide +kernel) ?_
    refine so_cni (pc := 9) (B := (15, 880)) (y := 48) (na := 1) (index := 11) (maxL := 1) (nm := yX4_init) (bytes := cX4_init) (mc := 2) (ms := 120) X (mm_EX_cl hxo) ⟨Nat.le_refl _, Nat.le_refl _⟩ hxo (fun _ _ _ _ h => h.1) hC lw_good (Nat.le_refl _) (mm_lo d) rfl (by decide) (by decide) tw_15 tw_14 tw_16 rfl (by decide +kernel) (by decide +kernel) (host := RX6) (fun _ _ _ _ h => px_M (hxe _ _ _ _ h.1) (by decide +kernel)) ?_
    refine so_putr (pc := 12) (index := 12) (ci := 5) (f := 0) (N := 6) (C := RX5) (T := TX5) (ty := tyX5 0) X rfl uX5 (by decide) (by decide) tw_206 tyX5 tyX5_ok nmX5 rfl hnm rfl (tyX5_ok 0 (by decide)) (fun _ => ⟨rfl, rfl⟩) rfl (by decide +kernel) ?_
    refine so_aload_n (pc := 15) (i := 0) X (by decide +kernel) ?_
    refine so_new (pc := 16) (B := (15, 880)) (index := 9) (ci := 4) (N := 4) (C := RX4) (T := TX4) X (mm_EX_cl hxo) ⟨Nat.le_refl _, Nat.le_refl _⟩ rfl uX4 tyX4 tyX4_ok pdX4 tw_205 tw_13 tw_14 (by decide +kernel) ?_
    refine so_dup (pc := 19) X (by decide +kernel) ?_
    refine so_cni (pc := 20) (B := (15, 880)) (y := 48) (na := 1) (index := 11) (maxL := 1) (nm := yX4_init) (bytes := cX4_init) (mc := 2) (ms := 120) X (mm_EX_cl hxo) ⟨Nat.le_refl _, Nat.le_refl _⟩ hxo (fun _ _ _ _ h => h.1) hC lw_good (Nat.le_refl _) (mm_lo d) rfl (by decide) (by decide) tw_15 tw_14 tw_16 rfl (by decide +kernel) (by decide +kernel) (host := RX6) (fun _ _ _ _ h => px_M (hxe _ _ _ _ h.1) (by decide +kernel)) ?_
    refine so_putr (pc := 23) (index := 18) (ci := 5) (f := 1) (N := 6) (C := RX5) (T := TX5) (ty := tyX5 1) X rfl uX5 (by decide) (by decide) tw_207 tyX5 tyX5_ok nmX5 rfl hnm rfl (tyX5_ok 1 (by decide)) (fun _ => ⟨rfl, rfl⟩) rfl (by decide +kernel) ?_
    refine so_aload_n (pc := 26) (i := 0) X (by decide +kernel) ?_
    refine so_iconst (pc := 27) (n := 4) (v := 4) X (by decide +kernel) (by decide) ?_
    refine so_naref (pc := 28) (B := (15, 880)) (C := "HiddenSums$Reduced") (index := 21) X (mm_EX_cl hxo) ⟨Nat.le_refl _, Nat.le_refl _⟩ tw_208 (fun _ _ _ _ h => px_AR (hxe _ _ _ _ h.1)) (by decide +kernel) ?_
    refine so_putr (pc := 31) (index := 23) (ci := 5) (f := 2) (N := 6) (C := RX5) (T := TX5) (ty := tyX5 2) X rfl uX5 (by decide) (by decide) tw_209 tyX5 tyX5_ok nmX5 rfl hnm rfl (tyX5_ok 2 (by decide)) (fun _ => ⟨rfl, rfl⟩) rfl (by decide +kernel) ?_
    refine so_iconst (pc := 34) (n := 0) (v := 0) X (by decide +kernel) (by decide) ?_
    refine so_istore_n (pc := 35) (i := 1) X (by decide +kernel) (by decide) ?_
    exact so_fall X (hJ 1)
  | 1 =>
    refine so_iload_n (pc := 36) (i := 1) X (by decide +kernel) ?_
    refine so_iconst (pc := 37) (n := 4) (v := 4) X (by decide +kernel) (by decide) ?_
    refine so_icmp_ge (pc := 38) (off := 22) (tgt := 60) X (by decide +kernel) (by decide) (hJ 2) ?_
    refine so_aload_n (pc := 41) (i := 0) X (by decide +kernel) ?_
    refine so_getr (pc := 42) (index := 23) (ci := 5) (f := 2) (N := 6) (C := RX5) (T := TX5) X rfl uX5 (by decide) (by decide) tw_209 rfl (by decide +kernel) ?_
    refine so_iload_n (pc := 45) (i := 1) X (by decide +kernel) ?_
    refine so_new (pc := 46) (B := (15, 880)) (index := 21) (ci := 3) (N := 1) (C := RX3) (T := TX3) X (mm_EX_cl hxo) ⟨Nat.le_refl _, Nat.le_refl _⟩ rfl uX3 tyX3 tyX3_ok pdX3 tw_208 tw_210 tw_156 (by decide +kernel) ?_
    refine so_dup (pc := 49) X (by decide +kernel) ?_
    refine so_cni (pc := 50) (B := (15, 880)) (y := 30) (na := 1) (index := 27) (maxL := 1) (nm := yX3_init) (bytes := cX3_init) (mc := 1) (ms := 156) X (mm_EX_cl hxo) ⟨Nat.le_refl _, Nat.le_refl _⟩ hxo (fun _ _ _ _ h => h.1) hC lw_good (Nat.le_refl _) (mm_lo d) rfl (by decide) (by decide) tw_211 tw_156 tw_212 rfl (by decide +kernel) (by decide +kernel) (host := RX6) (fun _ _ _ _ h => px_M (hxe _ _ _ _ h.1) (by decide +kernel)) ?_
    refine so_rast (pc := 53) (C := "HiddenSums$Reduced") (T := TX3) (N := 1) (ci := 3) X rfl (by decide) (by decide +kernel) ?_
    refine so_iinc (pc := 54) (i := 1) (n := 1) (y := 1) X (by decide +kernel) (by decide) (by decide) ?_
    exact so_goto (pc := 57) (off := (-21)) (tgt := 36) X (by decide +kernel) (by decide) (hJ 1)
  | 2 =>
    exact so_rtv (pc := 60) X hlk hfree hr (by decide +kernel)
  | n + 3 => exact fun _ _ _ _ h => h.elim
theorem bs_X5_init {l : Launch} {D : va_G} {EXT : (Nat → Nat) → (Nat → Prop) → State → Heap → Prop} (hxo : mm_xo EXT) (hxe : ∀ ad A U H, EXT ad A U H → px_E0 ad A U H) : mm_BS l D pcl lw_T EXT px_tab 52 pb_X5_init pp_X5_init := by
  intro d C hC p e s m args below meth c A ad0 cA0 μ0 free Q J
  rw [tb_52]
  exact fun X hr hlk hnm hfree hJ => bk_X5_init hxo hxe hC X hr hlk hnm hfree hJ
set_option maxHeartbeats 4000000 in
set_option maxRecDepth 100000 in
theorem bk_X5_begin {l : Launch} {D : va_G} {EXT : (Nat → Nat) → (Nat → Prop) → State → Heap → Prop} (hxo : mm_xo EXT) (hxe : ∀ ad A U H, EXT ad A U H → px_E0 ad A U H) {d : Nat} {C : mm_C} (hC : mm_CS l D pcl lw_T EXT px_tab d C) {p : Program} {e : Env} {s : State} {m : MethodId} {args : Array Value} {below : List Frame} {meth : Method} {c : Code} {A : Nat → Prop} {ad0 : Nat → Nat} {cA0 : Nat → ClassId} {μ0 : mm_M} {free : Addr → Prop} {Q : mm_Q} {J : mm_J} (X : mm_cx p (mm_rm (d + 1) 0 0) s m args c cX5_begin RX5 lw_T A D pcl 2) (hr : meth.sig.returnType = none) (hlk : meth.locks = false) (hnm : meth.name = "begin") (hfree : ∀ q, A q → free q) (hJ : ∀ t, mm_SK p l e (mm_rm (d + 1) 0 0) s m args below meth c (MQ below (mm_Qc D pcl Q ad0 cA0 μ0 0 A) args s 0 0 free) D pcl A 2 (mm_EX EXT A s ad0 cA0 (mm_n μ0)) (pp_X5_begin t) (J t)) : ∀ t, mm_SK p l e (mm_rm (d + 1) 0 0) s m args below meth c (MQ below (mm_Qc D pcl Q ad0 cA0 μ0 0 A) args s 0 0 free) D pcl A 2 (mm_EX EXT A s ad0 cA0 (mm_n μ0)) (pp_X5_begin t) (pb_X5_begin J C Q t) := by
  intro t
  match t with
  | 0 =>
    refine so_aload_n (pc := 0) (i := 0) X (by decide +kernel) ?_
    refine so_getr (pc := 1) (index := 12) (ci := 5) (f := 0) (N := 6) (C := RX5) (T := TX5) X rfl uX5 (by decide) (by decide) tw_206 rfl (by decide +kernel) ?_
    refine so_cav (pc := 4) (y := 49) (na := 1) (index := 28) (maxL := 1) (nm := yX4_empty) (bytes := cX4_empty) (ret := none) (ci := 4) (N := 4) (T := TX4) X hxo (fun _ _ _ _ h => h.1) hC lw_good (Nat.le_refl _) (mm_lo d) rfl (by decide) tw_19 tw_213 tw_14 rfl (by decide) tw_21 tw_22 (by decide +kernel) (by decide +kernel) ?_
    refine so_aload_n (pc := 7) (i := 0) X (by decide +kernel) ?_
    refine so_getr (pc := 8) (index := 12) (ci := 5) (f := 0) (N := 6) (C := RX5) (T := TX5) X rfl uX5 (by decide) (by decide) tw_206 rfl (by decide +kernel) ?_
    refine so_iconst (pc := 11) (n := 5) (v := 5) X (by decide +kernel) (by decide) ?_
    refine so_iconst (pc := 12) (n := 0) (v := 0) X (by decide +kernel) (by decide) ?_
    refine so_cav (pc := 13) (y := 50) (na := 3) (index := 31) (maxL := 3) (nm := yX4_append) (bytes := cX4_append) (ret := none) (ci := 4) (N := 4) (T := TX4) X hxo (fun _ _ _ _ h => h.1) hC lw_good (Nat.le_refl _) (mm_lo d) rfl (by decide) tw_95 tw_214 tw_14 rfl (by decide) tw_97 tw_98 (by decide +kernel) (by decide +kernel) ?_
    refine so_aload_n (pc := 16) (i := 0) X (by decide +kernel) ?_
    refine so_iconst (pc := 17) (n := 0) (v := 0) X (by decide +kernel) (by decide) ?_
    refine so_puti (pc := 18) (index := 35) (ci := 5) (f := 3) (N := 6) (C := RX5) (T := TX5) X rfl uX5 (by decide) (by decide) tw_215 tyX5 tyX5_ok nmX5 rfl (by decide +kernel) rfl (by decide +kernel) ?_
    refine so_aload_n (pc := 21) (i := 0) X (by decide +kernel) ?_
    refine so_iconst (pc := 22) (n := 0) (v := 0) X (by decide +kernel) (by decide) ?_
    refine so_putz (pc := 23) (index := 39) (ci := 5) (f := 4) (N := 6) (C := RX5) (T := TX5) X rfl uX5 (by decide) (by decide) tw_216 tyX5 tyX5_ok nmX5 rfl (by decide +kernel) rfl (by decide +kernel) ?_
    refine so_iconst (pc := 26) (n := 0) (v := 0) X (by decide +kernel) (by decide) ?_
    refine so_istore_n (pc := 27) (i := 1) X (by decide +kernel) (by decide) ?_
    exact so_fall X (hJ 1)
  | 1 =>
    refine so_iload_n (pc := 28) (i := 1) X (by decide +kernel) ?_
    refine so_iconst (pc := 29) (n := 4) (v := 4) X (by decide +kernel) (by decide) ?_
    refine so_icmp_ge (pc := 30) (off := 18) (tgt := 48) X (by decide +kernel) (by decide) (hJ 2) ?_
    refine so_aload_n (pc := 33) (i := 0) X (by decide +kernel) ?_
    refine so_getr (pc := 34) (index := 23) (ci := 5) (f := 2) (N := 6) (C := RX5) (T := TX5) X rfl uX5 (by decide) (by decide) tw_209 rfl (by decide +kernel) ?_
    refine so_iload_n (pc := 37) (i := 1) X (by decide +kernel) ?_
    refine so_rald (pc := 38) (C := "HiddenSums$Reduced") X (by decide +kernel) ?_
    refine so_cav (pc := 39) (y := 31) (na := 1) (index := 43) (maxL := 1) (nm := yX3_forget) (bytes := cX3_forget) (ret := none) (ci := 3) (N := 1) (T := TX3) X hxo (fun _ _ _ _ h => h.1) hC lw_good (Nat.le_refl _) (mm_lo d) rfl (by decide) tw_217 tw_218 tw_156 rfl (by decide) tw_219 tw_220 (by decide +kernel) (by decide +kernel) ?_
    refine so_iinc (pc := 42) (i := 1) (n := 1) (y := 1) X (by decide +kernel) (by decide) (by decide) ?_
    exact so_goto (pc := 45) (off := (-17)) (tgt := 28) X (by decide +kernel) (by decide) (hJ 1)
  | 2 =>
    exact so_rtv (pc := 48) X hlk hfree hr (by decide +kernel)
  | n + 3 => exact fun _ _ _ _ h => h.elim
theorem bs_X5_begin {l : Launch} {D : va_G} {EXT : (Nat → Nat) → (Nat → Prop) → State → Heap → Prop} (hxo : mm_xo EXT) (hxe : ∀ ad A U H, EXT ad A U H → px_E0 ad A U H) : mm_BS l D pcl lw_T EXT px_tab 53 pb_X5_begin pp_X5_begin := by
  intro d C hC p e s m args below meth c A ad0 cA0 μ0 free Q J
  rw [tb_53]
  exact fun X hr hlk hnm hfree hJ => bk_X5_begin hxo hxe hC X hr hlk hnm hfree hJ
set_option maxHeartbeats 4000000 in
set_option maxRecDepth 100000 in
theorem bk_X5_hasClosed {l : Launch} {D : va_G} {EXT : (Nat → Nat) → (Nat → Prop) → State → Heap → Prop} (hxo : mm_xo EXT) (hxe : ∀ ad A U H, EXT ad A U H → px_E0 ad A U H) {d : Nat} {C : mm_C} (hC : mm_CS l D pcl lw_T EXT px_tab d C) {p : Program} {e : Env} {s : State} {m : MethodId} {args : Array Value} {below : List Frame} {meth : Method} {c : Code} {A : Nat → Prop} {ad0 : Nat → Nat} {cA0 : Nat → ClassId} {μ0 : mm_M} {free : Addr → Prop} {Q : mm_Q} {J : mm_J} (X : mm_cx p (mm_rm (d + 1) 0 0) s m args c cX5_hasClosed RX5 lw_T A D pcl 2) (hr : meth.sig.returnType = some .boolean) (hlk : meth.locks = false) (hnm : meth.name = "hasClosed") (hfree : ∀ q, A q → free q) (hJ : ∀ t, mm_SK p l e (mm_rm (d + 1) 0 0) s m args below meth c (MQ below (mm_Qc D pcl Q ad0 cA0 μ0 0 A) args s 0 0 free) D pcl A 2 (mm_EX EXT A s ad0 cA0 (mm_n μ0)) (pp_X5_hasClosed t) (J t)) : ∀ t, mm_SK p l e (mm_rm (d + 1) 0 0) s m args below meth c (MQ below (mm_Qc D pcl Q ad0 cA0 μ0 0 A) args s 0 0 free) D pcl A 2 (mm_EX EXT A s ad0 cA0 (mm_n μ0)) (pp_X5_hasClosed t) (pb_X5_hasClosed J C Q t) := by
  intro t
  match t with
  | 0 =>
    refine so_aload_n (pc := 0) (i := 0) X (by decide +kernel) ?_
    refine so_geti (pc := 1) (index := 35) (ci := 5) (f := 3) (N := 6) (C := RX5) (T := TX5) X rfl uX5 (by decide) (by decide) tw_215 rfl (by decide) (by decide +kernel) ?_
    refine so_iload_n (pc := 4) (i := 1) X (by decide +kernel) ?_
    refine so_iand (pc := 5) X (by decide +kernel) ?_
    refine so_if_eq (pc := 6) (off := 7) (tgt := 13) X (by decide +kernel) (by decide) (hJ 1) ?_
    refine so_iconst (pc := 9) (n := 1) (v := 1) X (by decide +kernel) (by decide) ?_
    exact so_goto (pc := 10) (off := 4) (tgt := 14) X (by decide +kernel) (by decide) (hJ 2)
  | 1 =>
    refine so_iconst (pc := 13) (n := 0) (v := 0) X (by decide +kernel) (by decide) ?_
    exact so_fall X (hJ 2)
  | 2 =>
    exact so_rtz (pc := 14) X hlk hfree hr (by decide +kernel)
  | n + 3 => exact fun _ _ _ _ h => h.elim
theorem bs_X5_hasClosed {l : Launch} {D : va_G} {EXT : (Nat → Nat) → (Nat → Prop) → State → Heap → Prop} (hxo : mm_xo EXT) (hxe : ∀ ad A U H, EXT ad A U H → px_E0 ad A U H) : mm_BS l D pcl lw_T EXT px_tab 54 pb_X5_hasClosed pp_X5_hasClosed := by
  intro d C hC p e s m args below meth c A ad0 cA0 μ0 free Q J
  rw [tb_54]
  exact fun X hr hlk hnm hfree hJ => bk_X5_hasClosed hxo hxe hC X hr hlk hnm hfree hJ
set_option maxHeartbeats 4000000 in
set_option maxRecDepth 100000 in
theorem bk_X5_startCursor {l : Launch} {D : va_G} {EXT : (Nat → Nat) → (Nat → Prop) → State → Heap → Prop} (hxo : mm_xo EXT) (hxe : ∀ ad A U H, EXT ad A U H → px_E0 ad A U H) {d : Nat} {C : mm_C} (hC : mm_CS l D pcl lw_T EXT px_tab d C) {p : Program} {e : Env} {s : State} {m : MethodId} {args : Array Value} {below : List Frame} {meth : Method} {c : Code} {A : Nat → Prop} {ad0 : Nat → Nat} {cA0 : Nat → ClassId} {μ0 : mm_M} {free : Addr → Prop} {Q : mm_Q} {J : mm_J} (X : mm_cx p (mm_rm (d + 1) 0 0) s m args c cX5_startCursor RX5 lw_T A D pcl 2) (hr : meth.sig.returnType = none) (hlk : meth.locks = false) (hnm : meth.name = "startCursor") (hfree : ∀ q, A q → free q) (hJ : ∀ t, mm_SK p l e (mm_rm (d + 1) 0 0) s m args below meth c (MQ below (mm_Qc D pcl Q ad0 cA0 μ0 0 A) args s 0 0 free) D pcl A 2 (mm_EX EXT A s ad0 cA0 (mm_n μ0)) (pp_X5_startCursor t) (J t)) : ∀ t, mm_SK p l e (mm_rm (d + 1) 0 0) s m args below meth c (MQ below (mm_Qc D pcl Q ad0 cA0 μ0 0 A) args s 0 0 free) D pcl A 2 (mm_EX EXT A s ad0 cA0 (mm_n μ0)) (pp_X5_startCursor t) (pb_X5_startCursor J C Q t) := by
  intro t
  match t with
  | 0 =>
    refine so_aload_n (pc := 0) (i := 0) X (by decide +kernel) ?_
    refine so_getr (pc := 1) (index := 18) (ci := 5) (f := 1) (N := 6) (C := RX5) (T := TX5) X rfl uX5 (by decide) (by decide) tw_207 rfl (by decide +kernel) ?_
    refine so_aload_n (pc := 4) (i := 1) X (by decide +kernel) ?_
    refine so_cav (pc := 5) (y := 51) (na := 2) (index := 46) (maxL := 2) (nm := yX4_copyFrom) (bytes := cX4_copyFrom) (ret := none) (ci := 4) (N := 4) (T := TX4) X hxo (fun _ _ _ _ h => h.1) hC lw_good (Nat.le_refl _) (mm_lo d) rfl (by decide) tw_221 tw_222 tw_14 rfl (by decide) tw_223 tw_224 (by decide +kernel) (by decide +kernel) ?_
    refine so_aload_n (pc := 8) (i := 0) X (by decide +kernel) ?_
    refine so_iconst (pc := 9) (n := (-1)) (v := (-1)) X (by decide +kernel) (by decide) ?_
    refine so_puti (pc := 10) (index := 50) (ci := 5) (f := 5) (N := 6) (C := RX5) (T := TX5) X rfl uX5 (by decide) (by decide) tw_225 tyX5 tyX5_ok nmX5 rfl (by decide +kernel) rfl (by decide +kernel) ?_
    refine so_aload_n (pc := 13) (i := 0) X (by decide +kernel) ?_
    refine so_iconst (pc := 14) (n := 1) (v := 1) X (by decide +kernel) (by decide) ?_
    refine so_putz (pc := 15) (index := 39) (ci := 5) (f := 4) (N := 6) (C := RX5) (T := TX5) X rfl uX5 (by decide) (by decide) tw_216 tyX5 tyX5_ok nmX5 rfl (by decide +kernel) rfl (by decide +kernel) ?_
    exact so_rtv (pc := 18) X hlk hfree hr (by decide +kernel)
  | n + 1 => exact fun _ _ _ _ h => h.elim
theorem bs_X5_startCursor {l : Launch} {D : va_G} {EXT : (Nat → Nat) → (Nat → Prop) → State → Heap → Prop} (hxo : mm_xo EXT) (hxe : ∀ ad A U H, EXT ad A U H → px_E0 ad A U H) : mm_BS l D pcl lw_T EXT px_tab 55 pb_X5_startCursor pp_X5_startCursor := by
  intro d C hC p e s m args below meth c A ad0 cA0 μ0 free Q J
  rw [tb_55]
  exact fun X hr hlk hnm hfree hJ => bk_X5_startCursor hxo hxe hC X hr hlk hnm hfree hJ
set_option maxHeartbeats 4000000 in
set_option maxRecDepth 100000 in
theorem bk_X6_init {l : Launch} {D : va_G} {EXT : (Nat → Nat) → (Nat → Prop) → State → Heap → Prop} (hxo : mm_xo EXT) (hxe : ∀ ad A U H, EXT ad A U H → px_E0 ad A U H) {d : Nat} {C : mm_C} (hC : mm_CS l D pcl lw_T EXT px_tab d C) {p : Program} {e : Env} {s : State} {m : MethodId} {args : Array Value} {below : List Frame} {meth : Method} {c : Code} {A : Nat → Prop} {ad0 : Nat → Nat} {cA0 : Nat → ClassId} {μ0 : mm_M} {free : Addr → Prop} {Q : mm_Q} {J : mm_J} (X : mm_cx p (mm_rm (d + 1) 80 5135) s m args c cX6_init RX6 lw_T A D pcl 2) (hr : meth.sig.returnType = none) (hlk : meth.locks = false) (hnm : meth.name = "<init>") (hfree : ∀ q, A q → free q) (hJ : ∀ t, mm_SK p l e (mm_rm (d + 1) 80 5135) s m args below meth c (MQ below (mm_Qc D pcl Q ad0 cA0 μ0 80 A) args s 80 5135 free) D pcl A 2 (mm_EX EXT A s ad0 cA0 (mm_n μ0)) (pp_X6_init t) (J t)) : ∀ t, mm_SK p l e (mm_rm (d + 1) 80 5135) s m args below meth c (MQ below (mm_Qc D pcl Q ad0 cA0 μ0 80 A) args s 80 5135 free) D pcl A 2 (mm_EX EXT A s ad0 cA0 (mm_n μ0)) (pp_X6_init t) (pb_X6_init J C Q t) := by
  intro t
  match t with
  | 0 =>
    refine so_aload_n (pc := 0) (i := 0) X (by decide +kernel) ?_
    refine so_obi (pc := 1) (index := 1) X tw_226 tw_1 tw_2 (mm_fr1 d) (mm_lo20 d) (by decide +kernel) ?_
    refine so_aload_n (pc := 4) (i := 0) X (by decide +kernel) ?_
    refine so_bipush (pc := 5) (n := 48) (v := 48) X (by decide +kernel) (by decide) ?_
    refine so_naint (pc := 7) (B := (80, 5135)) X (mm_EX_cl hxo) ⟨Nat.le_refl _, Nat.le_refl _⟩ tw_3 (by decide +kernel) ?_
    refine so_putr (pc := 9) (index := 9) (ci := 6) (f := 0) (N := 14) (C := RX6) (T := TX6) (ty := tyX6 0) X rfl uX6 (by decide) (by decide) tw_227 tyX6 tyX6_ok nmX6 rfl hnm rfl (tyX6_ok 0 (by decide)) (fun _ => ⟨rfl, rfl⟩) rfl (by decide +kernel) ?_
    refine so_aload_n (pc := 12) (i := 0) X (by decide +kernel) ?_
    refine so_iconst (pc := 13) (n := 4) (v := 4) X (by decide +kernel) (by decide) ?_
    refine so_naref (pc := 14) (B := (80, 5135)) (C := "HiddenSums$User") (index := 13) X (mm_EX_cl hxo) ⟨Nat.le_refl _, Nat.le_refl _⟩ tw_228 (fun _ _ _ _ h => px_AU (hxe _ _ _ _ h.1)) (by decide +kernel) ?_
    refine so_putr (pc := 17) (index := 15) (ci := 6) (f := 2) (N := 14) (C := RX6) (T := TX6) (ty := tyX6 2) X rfl uX6 (by decide) (by decide) tw_229 tyX6 tyX6_ok nmX6 rfl hnm rfl (tyX6_ok 2 (by decide)) (fun _ => ⟨rfl, rfl⟩) rfl (by decide +kernel) ?_
    refine so_aload_n (pc := 20) (i := 0) X (by decide +kernel) ?_
    refine so_sipush (pc := 21) (n := 300) (v := 300) X (by decide +kernel) (by decide) ?_
    refine so_naint (pc := 24) (B := (80, 5135)) X (mm_EX_cl hxo) ⟨Nat.le_refl _, Nat.le_refl _⟩ tw_3 (by decide +kernel) ?_
    refine so_putr (pc := 26) (index := 19) (ci := 6) (f := 4) (N := 14) (C := RX6) (T := TX6) (ty := tyX6 4) X rfl uX6 (by decide) (by decide) tw_230 tyX6 tyX6_ok nmX6 rfl hnm rfl (tyX6_ok 4 (by decide)) (fun _ => ⟨rfl, rfl⟩) rfl (by decide +kernel) ?_
    refine so_aload_n (pc := 29) (i := 0) X (by decide +kernel) ?_
    refine so_iconst (pc := 30) (n := (-1)) (v := (-1)) X (by decide +kernel) (by decide) ?_
    refine so_puti (pc := 31) (index := 22) (ci := 6) (f := 6) (N := 14) (C := RX6) (T := TX6) X rfl uX6 (by decide) (by decide) tw_231 tyX6 tyX6_ok nmX6 rfl (by decide +kernel) rfl (by decide +kernel) ?_
    refine so_aload_n (pc := 34) (i := 0) X (by decide +kernel) ?_
    refine so_bipush (pc := 35) (n := 12) (v := 12) X (by decide +kernel) (by decide) ?_
    refine so_naint (pc := 37) (B := (80, 5135)) X (mm_EX_cl hxo) ⟨Nat.le_refl _, Nat.le_refl _⟩ tw_3 (by decide +kernel) ?_
    refine so_putr (pc := 39) (index := 26) (ci := 6) (f := 7) (N := 14) (C := RX6) (T := TX6) (ty := tyX6 7) X rfl uX6 (by decide) (by decide) tw_232 tyX6 tyX6_ok nmX6 rfl hnm rfl (tyX6_ok 7 (by decide)) (fun _ => ⟨rfl, rfl⟩) rfl (by decide +kernel) ?_
    refine so_aload_n (pc := 42) (i := 0) X (by decide +kernel) ?_
    refine so_new (pc := 43) (B := (80, 5135)) (index := 29) (ci := 0) (N := 2) (C := RX0) (T := TX0) X (mm_EX_cl hxo) ⟨Nat.le_refl _, Nat.le_refl _⟩ rfl uX0 tyX0 tyX0_ok pdX0 tw_233 tw_234 tw_8 (by decide +kernel) ?_
    refine so_dup (pc := 46) X (by decide +kernel) ?_
    refine so_cni (pc := 47) (B := (80, 5135)) (y := 0) (na := 1) (index := 31) (maxL := 1) (nm := yX0_init) (bytes := cX0_init) (mc := 1) (ms := 750) X (mm_EX_cl hxo) ⟨Nat.le_refl _, Nat.le_refl _⟩ hxo (fun _ _ _ _ h => h.1) hC lw_good (Nat.le_refl _) (mm_lo d) rfl (by decide) (by decide) tw_235 tw_8 tw_236 rfl (by decide +kernel) (by decide +kernel) (host := RX6) (fun _ _ _ _ h => px_M (hxe _ _ _ _ h.1) (by decide +kernel)) ?_
    refine so_putr (pc := 50) (index := 32) (ci := 6) (f := 10) (N := 14) (C := RX6) (T := TX6) (ty := tyX6 10) X rfl uX6 (by decide) (by decide) tw_237 tyX6 tyX6_ok nmX6 rfl hnm rfl (tyX6_ok 10 (by decide)) (fun _ => ⟨rfl, rfl⟩) rfl (by decide +kernel) ?_
    refine so_aload_n (pc := 53) (i := 0) X (by decide +kernel) ?_
    refine so_new (pc := 54) (B := (80, 5135)) (index := 36) (ci := 1) (N := 11) (C := RX1) (T := TX1) X (mm_EX_cl hxo) ⟨Nat.le_refl _, Nat.le_refl _⟩ rfl uX1 tyX1 tyX1_ok pdX1 tw_238 tw_239 tw_30 (by decide +kernel) ?_
    refine so_dup (pc := 57) X (by decide +kernel) ?_
    refine so_cni (pc := 58) (B := (80, 5135)) (y := 3) (na := 1) (index := 38) (maxL := 1) (nm := yX1_init) (bytes := cX1_init) (mc := 4) (ms := 184) X (mm_EX_cl hxo) ⟨Nat.le_refl _, Nat.le_refl _⟩ hxo (fun _ _ _ _ h => h.1) hC lw_good (Nat.le_refl _) (mm_lo d) rfl (by decide) (by decide) tw_240 tw_30 tw_241 rfl (by decide +kernel) (by decide +kernel) (host := RX6) (fun _ _ _ _ h => px_M (hxe _ _ _ _ h.1) (by decide +kernel)) ?_
    refine so_putr (pc := 61) (index := 39) (ci := 6) (f := 11) (N := 14) (C := RX6) (T := TX6) (ty := tyX6 11) X rfl uX6 (by decide) (by decide) tw_242 tyX6 tyX6_ok nmX6 rfl hnm rfl (tyX6_ok 11 (by decide)) (fun _ => ⟨rfl, rfl⟩) rfl (by decide +kernel) ?_
    refine so_aload_n (pc := 64) (i := 0) X (by decide +kernel) ?_
    refine so_new (pc := 65) (B := (80, 5135)) (index := 43) (ci := 2) (N := 3) (C := RX2) (T := TX2) X (mm_EX_cl hxo) ⟨Nat.le_refl _, Nat.le_refl _⟩ rfl uX2 tyX2 tyX2_ok pdX2 tw_243 tw_244 tw_122 (by decide +kernel) ?_
    refine so_dup (pc := 68) X (by decide +kernel) ?_
    refine so_cni (pc := 69) (B := (80, 5135)) (y := 22) (na := 1) (index := 45) (maxL := 1) (nm := yX2_init) (bytes := cX2_init) (mc := 2) (ms := 120) X (mm_EX_cl hxo) ⟨Nat.le_refl _, Nat.le_refl _⟩ hxo (fun _ _ _ _ h => h.1) hC lw_good (Nat.le_refl _) (mm_lo d) rfl (by decide) (by decide) tw_245 tw_122 tw_246 rfl (by decide +kernel) (by decide +kernel) (host := RX6) (fun _ _ _ _ h => px_M (hxe _ _ _ _ h.1) (by decide +kernel)) ?_
    refine so_putr (pc := 72) (index := 46) (ci := 6) (f := 12) (N := 14) (C := RX6) (T := TX6) (ty := tyX6 12) X rfl uX6 (by decide) (by decide) tw_247 tyX6 tyX6_ok nmX6 rfl hnm rfl (tyX6_ok 12 (by decide)) (fun _ => ⟨rfl, rfl⟩) rfl (by decide +kernel) ?_
    refine so_aload_n (pc := 75) (i := 0) X (by decide +kernel) ?_
    refine so_new (pc := 76) (B := (80, 5135)) (index := 50) (ci := 3) (N := 1) (C := RX3) (T := TX3) X (mm_EX_cl hxo) ⟨Nat.le_refl _, Nat.le_refl _⟩ rfl uX3 tyX3 tyX3_ok pdX3 tw_248 tw_210 tw_156 (by decide +kernel) ?_
    refine so_dup (pc := 79) X (by decide +kernel) ?_
    refine so_cni (pc := 80) (B := (80, 5135)) (y := 30) (na := 1) (index := 52) (maxL := 1) (nm := yX3_init) (bytes := cX3_init) (mc := 1) (ms := 156) X (mm_EX_cl hxo) ⟨Nat.le_refl _, Nat.le_refl _⟩ hxo (fun _ _ _ _ h => h.1) hC lw_good (Nat.le_refl _) (mm_lo d) rfl (by decide) (by decide) tw_211 tw_156 tw_212 rfl (by decide +kernel) (by decide +kernel) (host := RX6) (fun _ _ _ _ h => px_M (hxe _ _ _ _ h.1) (by decide +kernel)) ?_
    refine so_putr (pc := 83) (index := 53) (ci := 6) (f := 13) (N := 14) (C := RX6) (T := TX6) (ty := tyX6 13) X rfl uX6 (by decide) (by decide) tw_249 tyX6 tyX6_ok nmX6 rfl hnm rfl (tyX6_ok 13 (by decide)) (fun _ => ⟨rfl, rfl⟩) rfl (by decide +kernel) ?_
    refine so_iconst (pc := 86) (n := 0) (v := 0) X (by decide +kernel) (by decide) ?_
    refine so_istore_n (pc := 87) (i := 1) X (by decide +kernel) (by decide) ?_
    exact so_fall X (hJ 1)
  | 1 =>
    refine so_iload_n (pc := 88) (i := 1) X (by decide +kernel) ?_
    refine so_iconst (pc := 89) (n := 4) (v := 4) X (by decide +kernel) (by decide) ?_
    refine so_icmp_ge (pc := 90) (off := 22) (tgt := 112) X (by decide +kernel) (by decide) (hJ 2) ?_
    refine so_aload_n (pc := 93) (i := 0) X (by decide +kernel) ?_
    refine so_getr (pc := 94) (index := 15) (ci := 6) (f := 2) (N := 14) (C := RX6) (T := TX6) X rfl uX6 (by decide) (by decide) tw_229 rfl (by decide +kernel) ?_
    refine so_iload_n (pc := 97) (i := 1) X (by decide +kernel) ?_
    refine so_new (pc := 98) (B := (80, 5135)) (index := 13) (ci := 5) (N := 6) (C := RX5) (T := TX5) X (mm_EX_cl hxo) ⟨Nat.le_refl _, Nat.le_refl _⟩ rfl uX5 tyX5 tyX5_ok pdX5 tw_228 tw_250 tw_251 (by decide +kernel) ?_
    refine so_dup (pc := 101) X (by decide +kernel) ?_
    refine so_cai (pc := 102) (B := (80, 5135)) (y := 52) (na := 1) (index := 57) (maxL := 2) (nm := yX5_init) (bytes := cX5_init) (mc := 15) (ms := 880) X (mm_EX_cl hxo) ⟨Nat.le_refl _, Nat.le_refl _⟩ hxo (fun _ _ _ _ h => h.1) hC lw_good (Nat.le_refl _) (mm_lo d) rfl (by decide) (by decide) tw_253 tw_251 tw_254 rfl (by decide +kernel) (by decide +kernel) tw_252 ?_
    refine so_rast (pc := 105) (C := "HiddenSums$User") (T := TX5) (N := 6) (ci := 5) X rfl (by decide) (by decide +kernel) ?_
    refine so_iinc (pc := 106) (i := 1) (n := 1) (y := 1) X (by decide +kernel) (by decide) (by decide) ?_
    exact so_goto (pc := 109) (off := (-21)) (tgt := 88) X (by decide +kernel) (by decide) (hJ 1)
  | 2 =>
    exact so_rtv (pc := 112) X hlk hfree hr (by decide +kernel)
  | n + 3 => exact fun _ _ _ _ h => h.elim
theorem bs_X6_init {l : Launch} {D : va_G} {EXT : (Nat → Nat) → (Nat → Prop) → State → Heap → Prop} (hxo : mm_xo EXT) (hxe : ∀ ad A U H, EXT ad A U H → px_E0 ad A U H) : mm_BS l D pcl lw_T EXT px_tab 56 pb_X6_init pp_X6_init := by
  intro d C hC p e s m args below meth c A ad0 cA0 μ0 free Q J
  rw [tb_56]
  exact fun X hr hlk hnm hfree hJ => bk_X6_init hxo hxe hC X hr hlk hnm hfree hJ
set_option maxHeartbeats 4000000 in
set_option maxRecDepth 100000 in
theorem bk_X6_object {l : Launch} {D : va_G} {EXT : (Nat → Nat) → (Nat → Prop) → State → Heap → Prop} (hxo : mm_xo EXT) (hxe : ∀ ad A U H, EXT ad A U H → px_E0 ad A U H) {d : Nat} {C : mm_C} (hC : mm_CS l D pcl lw_T EXT px_tab d C) {p : Program} {e : Env} {s : State} {m : MethodId} {args : Array Value} {below : List Frame} {meth : Method} {c : Code} {A : Nat → Prop} {ad0 : Nat → Nat} {cA0 : Nat → ClassId} {μ0 : mm_M} {free : Addr → Prop} {Q : mm_Q} {J : mm_J} (X : mm_cx p (mm_rm (d + 1) 0 0) s m args c cX6_object RX6 lw_T A D pcl 2) (hr : meth.sig.returnType = some .int) (hlk : meth.locks = false) (hnm : meth.name = "object") (hfree : ∀ q, A q → free q) (hJ : ∀ t, mm_SK p l e (mm_rm (d + 1) 0 0) s m args below meth c (MQ below (mm_Qc D pcl Q ad0 cA0 μ0 0 A) args s 0 0 free) D pcl A 2 (mm_EX EXT A s ad0 cA0 (mm_n μ0)) (pp_X6_object t) (J t)) : ∀ t, mm_SK p l e (mm_rm (d + 1) 0 0) s m args below meth c (MQ below (mm_Qc D pcl Q ad0 cA0 μ0 0 A) args s 0 0 free) D pcl A 2 (mm_EX EXT A s ad0 cA0 (mm_n μ0)) (pp_X6_object t) (pb_X6_object J C Q t) := by
  intro t
  match t with
  | 0 =>
    refine so_aload_n (pc := 0) (i := 0) X (by decide +kernel) ?_
    refine so_geti (pc := 1) (index := 58) (ci := 6) (f := 9) (N := 14) (C := RX6) (T := TX6) X rfl uX6 (by decide) (by decide) tw_255 rfl (by decide) (by decide +kernel) ?_
    refine so_if_eq (pc := 4) (off := 6) (tgt := 10) X (by decide +kernel) (by decide) (hJ 1) ?_
    refine so_bipush (pc := 7) (n := (-5)) (v := (-5)) X (by decide +kernel) (by decide) ?_
    exact so_ret (pc := 9) X hlk hfree hr (by decide +kernel)
  | 1 =>
    refine so_aload_n (pc := 10) (i := 0) X (by decide +kernel) ?_
    refine so_geti (pc := 11) (index := 62) (ci := 6) (f := 1) (N := 14) (C := RX6) (T := TX6) X rfl uX6 (by decide) (by decide) tw_256 rfl (by decide) (by decide +kernel) ?_
    refine so_bipush (pc := 14) (n := 12) (v := 12) X (by decide +kernel) (by decide) ?_
    refine so_icmp_lt (pc := 16) (off := 6) (tgt := 22) X (by decide +kernel) (by decide) (hJ 2) ?_
    refine so_bipush (pc := 19) (n := (-4)) (v := (-4)) X (by decide +kernel) (by decide) ?_
    exact so_ret (pc := 21) X hlk hfree hr (by decide +kernel)
  | 2 =>
    refine so_iconst (pc := 22) (n := 0) (v := 0) X (by decide +kernel) (by decide) ?_
    refine so_istore_n (pc := 23) (i := 1) X (by decide +kernel) (by decide) ?_
    exact so_fall X (hJ 3)
  | 3 =>
    refine so_iload_n (pc := 24) (i := 1) X (by decide +kernel) ?_
    refine so_iconst (pc := 25) (n := 4) (v := 4) X (by decide +kernel) (by decide) ?_
    refine so_icmp_ge (pc := 26) (off := 23) (tgt := 49) X (by decide +kernel) (by decide) (hJ 4) ?_
    refine so_aload_n (pc := 29) (i := 0) X (by decide +kernel) ?_
    refine so_getr (pc := 30) (index := 9) (ci := 6) (f := 0) (N := 14) (C := RX6) (T := TX6) X rfl uX6 (by decide) (by decide) tw_227 rfl (by decide +kernel) ?_
    refine so_aload_n (pc := 33) (i := 0) X (by decide +kernel) ?_
    refine so_geti (pc := 34) (index := 62) (ci := 6) (f := 1) (N := 14) (C := RX6) (T := TX6) X rfl uX6 (by decide) (by decide) tw_256 rfl (by decide) (by decide +kernel) ?_
    refine so_iconst (pc := 37) (n := 4) (v := 4) X (by decide +kernel) (by decide) ?_
    refine so_imul (pc := 38) X (by decide +kernel) ?_
    refine so_iload_n (pc := 39) (i := 1) X (by decide +kernel) ?_
    refine so_iadd (pc := 40) X (by decide +kernel) ?_
    refine so_iconst (pc := 41) (n := 0) (v := 0) X (by decide +kernel) (by decide) ?_
    refine so_iast (pc := 42) X (by decide +kernel) ?_
    refine so_iinc (pc := 43) (i := 1) (n := 1) (y := 1) X (by decide +kernel) (by decide) (by decide) ?_
    exact so_goto (pc := 46) (off := (-22)) (tgt := 24) X (by decide +kernel) (by decide) (hJ 3)
  | 4 =>
    refine so_aload_n (pc := 49) (i := 0) X (by decide +kernel) ?_
    refine so_dup (pc := 50) X (by decide +kernel) ?_
    refine so_geti (pc := 51) (index := 62) (ci := 6) (f := 1) (N := 14) (C := RX6) (T := TX6) X rfl uX6 (by decide) (by decide) tw_256 rfl (by decide) (by decide +kernel) ?_
    refine so_iconst (pc := 54) (n := 1) (v := 1) X (by decide +kernel) (by decide) ?_
    refine so_iadd (pc := 55) X (by decide +kernel) ?_
    refine so_puti (pc := 56) (index := 62) (ci := 6) (f := 1) (N := 14) (C := RX6) (T := TX6) X rfl uX6 (by decide) (by decide) tw_256 tyX6 tyX6_ok nmX6 rfl (by decide +kernel) rfl (by decide +kernel) ?_
    refine so_aload_n (pc := 59) (i := 0) X (by decide +kernel) ?_
    refine so_geti (pc := 60) (index := 62) (ci := 6) (f := 1) (N := 14) (C := RX6) (T := TX6) X rfl uX6 (by decide) (by decide) tw_256 rfl (by decide) (by decide +kernel) ?_
    refine so_iconst (pc := 63) (n := 1) (v := 1) X (by decide +kernel) (by decide) ?_
    refine so_isub (pc := 64) X (by decide +kernel) ?_
    exact so_ret (pc := 65) X hlk hfree hr (by decide +kernel)
  | n + 5 => exact fun _ _ _ _ h => h.elim
theorem bs_X6_object {l : Launch} {D : va_G} {EXT : (Nat → Nat) → (Nat → Prop) → State → Heap → Prop} (hxo : mm_xo EXT) (hxe : ∀ ad A U H, EXT ad A U H → px_E0 ad A U H) : mm_BS l D pcl lw_T EXT px_tab 57 pb_X6_object pp_X6_object := by
  intro d C hC p e s m args below meth c A ad0 cA0 μ0 free Q J
  rw [tb_57]
  exact fun X hr hlk hnm hfree hJ => bk_X6_object hxo hxe hC X hr hlk hnm hfree hJ
set_option maxHeartbeats 4000000 in
set_option maxRecDepth 100000 in
theorem bk_X6_set {l : Launch} {D : va_G} {EXT : (Nat → Nat) → (Nat → Prop) → State → Heap → Prop} (hxo : mm_xo EXT) (hxe : ∀ ad A U H, EXT ad A U H → px_E0 ad A U H) {d : Nat} {C : mm_C} (hC : mm_CS l D pcl lw_T EXT px_tab d C) {p : Program} {e : Env} {s : State} {m : MethodId} {args : Array Value} {below : List Frame} {meth : Method} {c : Code} {A : Nat → Prop} {ad0 : Nat → Nat} {cA0 : Nat → ClassId} {μ0 : mm_M} {free : Addr → Prop} {Q : mm_Q} {J : mm_J} (X : mm_cx p (mm_rm (d + 1) 0 0) s m args c cX6_set RX6 lw_T A D pcl 4) (hr : meth.sig.returnType = some .int) (hlk : meth.locks = false) (hnm : meth.name = "set") (hfree : ∀ q, A q → free q) (hJ : ∀ t, mm_SK p l e (mm_rm (d + 1) 0 0) s m args below meth c (MQ below (mm_Qc D pcl Q ad0 cA0 μ0 0 A) args s 0 0 free) D pcl A 4 (mm_EX EXT A s ad0 cA0 (mm_n μ0)) (pp_X6_set t) (J t)) : ∀ t, mm_SK p l e (mm_rm (d + 1) 0 0) s m args below meth c (MQ below (mm_Qc D pcl Q ad0 cA0 μ0 0 A) args s 0 0 free) D pcl A 4 (mm_EX EXT A s ad0 cA0 (mm_n μ0)) (pp_X6_set t) (pb_X6_set J C Q t) := by
  intro t
  match t with
  | 0 =>
    refine so_aload_n (pc := 0) (i := 0) X (by decide +kernel) ?_
    refine so_iload_n (pc := 1) (i := 1) X (by decide +kernel) ?_
    refine so_cav (pc := 2) (y := 79) (na := 2) (index := 65) (maxL := 2) (nm := yX6_isObject) (bytes := cX6_isObject) (ret := (some .boolean)) (ci := 6) (N := 14) (T := TX6) X hxo (fun _ _ _ _ h => h.1) hC lw_good (Nat.le_refl _) (mm_lo d) rfl (by decide) tw_257 tw_258 tw_259 rfl (by decide) tw_260 tw_261 (by decide +kernel) (by decide +kernel) ?_
    refine so_if_eq (pc := 5) (off := 10) (tgt := 15) X (by decide +kernel) (by decide) (hJ 1) ?_
    refine so_iload_n (pc := 8) (i := 2) X (by decide +kernel) ?_
    refine so_cas (pc := 9) (y := 81) (na := 1) (index := 69) (maxL := 1) (nm := yX6_isField) (bytes := cX6_isField) (ret := (some .boolean)) X hxo (fun _ _ _ _ h => h.1) hC lw_good (Nat.le_refl _) (mm_lo d) rfl (by decide) tw_262 tw_263 tw_259 tw_264 (by decide +kernel) (by decide +kernel) ?_
    refine so_if_ne (pc := 12) (off := 5) (tgt := 17) X (by decide +kernel) (by decide) (hJ 2) ?_
    exact so_fall X (hJ 1)
  | 1 =>
    refine so_iconst (pc := 15) (n := (-1)) (v := (-1)) X (by decide +kernel) (by decide) ?_
    exact so_ret (pc := 16) X hlk hfree hr (by decide +kernel)
  | 2 =>
    refine so_iload_n (pc := 17) (i := 3) X (by decide +kernel) ?_
    refine so_sipush (pc := 18) (n := (-1000)) (v := (-1000)) X (by decide +kernel) (by decide) ?_
    refine so_icmp_lt (pc := 21) (off := 10) (tgt := 31) X (by decide +kernel) (by decide) (hJ 3) ?_
    refine so_iload_n (pc := 24) (i := 3) X (by decide +kernel) ?_
    refine so_sipush (pc := 25) (n := 1000) (v := 1000) X (by decide +kernel) (by decide) ?_
    refine so_icmp_le (pc := 28) (off := 6) (tgt := 34) X (by decide +kernel) (by decide) (hJ 4) ?_
    exact so_fall X (hJ 3)
  | 3 =>
    refine so_bipush (pc := 31) (n := (-2)) (v := (-2)) X (by decide +kernel) (by decide) ?_
    exact so_ret (pc := 33) X hlk hfree hr (by decide +kernel)
  | 4 =>
    refine so_aload_n (pc := 34) (i := 0) X (by decide +kernel) ?_
    refine so_geti (pc := 35) (index := 58) (ci := 6) (f := 9) (N := 14) (C := RX6) (T := TX6) X rfl uX6 (by decide) (by decide) tw_255 rfl (by decide) (by decide +kernel) ?_
    refine so_if_eq (pc := 38) (off := 6) (tgt := 44) X (by decide +kernel) (by decide) (hJ 5) ?_
    refine so_bipush (pc := 41) (n := (-5)) (v := (-5)) X (by decide +kernel) (by decide) ?_
    exact so_ret (pc := 43) X hlk hfree hr (by decide +kernel)
  | 5 =>
    refine so_aload_n (pc := 44) (i := 0) X (by decide +kernel) ?_
    refine so_getr (pc := 45) (index := 9) (ci := 6) (f := 0) (N := 14) (C := RX6) (T := TX6) X rfl uX6 (by decide) (by decide) tw_227 rfl (by decide +kernel) ?_
    refine so_iload_n (pc := 48) (i := 1) X (by decide +kernel) ?_
    refine so_iconst (pc := 49) (n := 4) (v := 4) X (by decide +kernel) (by decide) ?_
    refine so_imul (pc := 50) X (by decide +kernel) ?_
    refine so_iload_n (pc := 51) (i := 2) X (by decide +kernel) ?_
    refine so_iadd (pc := 52) X (by decide +kernel) ?_
    refine so_iload_n (pc := 53) (i := 3) X (by decide +kernel) ?_
    refine so_iast (pc := 54) X (by decide +kernel) ?_
    refine so_iconst (pc := 55) (n := 1) (v := 1) X (by decide +kernel) (by decide) ?_
    exact so_ret (pc := 56) X hlk hfree hr (by decide +kernel)
  | n + 6 => exact fun _ _ _ _ h => h.elim
theorem bs_X6_set {l : Launch} {D : va_G} {EXT : (Nat → Nat) → (Nat → Prop) → State → Heap → Prop} (hxo : mm_xo EXT) (hxe : ∀ ad A U H, EXT ad A U H → px_E0 ad A U H) : mm_BS l D pcl lw_T EXT px_tab 58 pb_X6_set pp_X6_set := by
  intro d C hC p e s m args below meth c A ad0 cA0 μ0 free Q J
  rw [tb_58]
  exact fun X hr hlk hnm hfree hJ => bk_X6_set hxo hxe hC X hr hlk hnm hfree hJ
set_option maxHeartbeats 4000000 in
set_option maxRecDepth 100000 in
theorem bk_X6_user {l : Launch} {D : va_G} {EXT : (Nat → Nat) → (Nat → Prop) → State → Heap → Prop} (hxo : mm_xo EXT) (hxe : ∀ ad A U H, EXT ad A U H → px_E0 ad A U H) {d : Nat} {C : mm_C} (hC : mm_CS l D pcl lw_T EXT px_tab d C) {p : Program} {e : Env} {s : State} {m : MethodId} {args : Array Value} {below : List Frame} {meth : Method} {c : Code} {A : Nat → Prop} {ad0 : Nat → Nat} {cA0 : Nat → ClassId} {μ0 : mm_M} {free : Addr → Prop} {Q : mm_Q} {J : mm_J} (X : mm_cx p (mm_rm (d + 1) 0 0) s m args c cX6_user RX6 lw_T A D pcl 1) (hr : meth.sig.returnType = some .int) (hlk : meth.locks = false) (hnm : meth.name = "user") (hfree : ∀ q, A q → free q) (hJ : ∀ t, mm_SK p l e (mm_rm (d + 1) 0 0) s m args below meth c (MQ below (mm_Qc D pcl Q ad0 cA0 μ0 0 A) args s 0 0 free) D pcl A 1 (mm_EX EXT A s ad0 cA0 (mm_n μ0)) (pp_X6_user t) (J t)) : ∀ t, mm_SK p l e (mm_rm (d + 1) 0 0) s m args below meth c (MQ below (mm_Qc D pcl Q ad0 cA0 μ0 0 A) args s 0 0 free) D pcl A 1 (mm_EX EXT A s ad0 cA0 (mm_n μ0)) (pp_X6_user t) (pb_X6_user J C Q t) := by
  intro t
  match t with
  | 0 =>
    refine so_aload_n (pc := 0) (i := 0) X (by decide +kernel) ?_
    refine so_geti (pc := 1) (index := 72) (ci := 6) (f := 3) (N := 14) (C := RX6) (T := TX6) X rfl uX6 (by decide) (by decide) tw_265 rfl (by decide) (by decide +kernel) ?_
    refine so_iconst (pc := 4) (n := 4) (v := 4) X (by decide +kernel) (by decide) ?_
    refine so_icmp_lt (pc := 5) (off := 6) (tgt := 11) X (by decide +kernel) (by decide) (hJ 1) ?_
    refine so_bipush (pc := 8) (n := (-4)) (v := (-4)) X (by decide +kernel) (by decide) ?_
    exact so_ret (pc := 10) X hlk hfree hr (by decide +kernel)
  | 1 =>
    refine so_aload_n (pc := 11) (i := 0) X (by decide +kernel) ?_
    refine so_getr (pc := 12) (index := 15) (ci := 6) (f := 2) (N := 14) (C := RX6) (T := TX6) X rfl uX6 (by decide) (by decide) tw_229 rfl (by decide +kernel) ?_
    refine so_aload_n (pc := 15) (i := 0) X (by decide +kernel) ?_
    refine so_geti (pc := 16) (index := 72) (ci := 6) (f := 3) (N := 14) (C := RX6) (T := TX6) X rfl uX6 (by decide) (by decide) tw_265 rfl (by decide) (by decide +kernel) ?_
    refine so_rald (pc := 19) (C := "HiddenSums$User") X (by decide +kernel) ?_
    refine so_cav (pc := 20) (y := 53) (na := 1) (index := 75) (maxL := 2) (nm := yX5_begin) (bytes := cX5_begin) (ret := none) (ci := 5) (N := 6) (T := TX5) X hxo (fun _ _ _ _ h => h.1) hC lw_good (Nat.le_refl _) (mm_lo d) rfl (by decide) tw_266 tw_267 tw_251 rfl (by decide) tw_268 tw_269 (by decide +kernel) (by decide +kernel) ?_
    refine so_aload_n (pc := 23) (i := 0) X (by decide +kernel) ?_
    refine so_dup (pc := 24) X (by decide +kernel) ?_
    refine so_geti (pc := 25) (index := 72) (ci := 6) (f := 3) (N := 14) (C := RX6) (T := TX6) X rfl uX6 (by decide) (by decide) tw_265 rfl (by decide) (by decide +kernel) ?_
    refine so_iconst (pc := 28) (n := 1) (v := 1) X (by decide +kernel) (by decide) ?_
    refine so_iadd (pc := 29) X (by decide +kernel) ?_
    refine so_puti (pc := 30) (index := 72) (ci := 6) (f := 3) (N := 14) (C := RX6) (T := TX6) X rfl uX6 (by decide) (by decide) tw_265 tyX6 tyX6_ok nmX6 rfl (by decide +kernel) rfl (by decide +kernel) ?_
    refine so_aload_n (pc := 33) (i := 0) X (by decide +kernel) ?_
    refine so_geti (pc := 34) (index := 72) (ci := 6) (f := 3) (N := 14) (C := RX6) (T := TX6) X rfl uX6 (by decide) (by decide) tw_265 rfl (by decide) (by decide +kernel) ?_
    refine so_iconst (pc := 37) (n := 1) (v := 1) X (by decide +kernel) (by decide) ?_
    refine so_isub (pc := 38) X (by decide +kernel) ?_
    exact so_ret (pc := 39) X hlk hfree hr (by decide +kernel)
  | n + 2 => exact fun _ _ _ _ h => h.elim
theorem bs_X6_user {l : Launch} {D : va_G} {EXT : (Nat → Nat) → (Nat → Prop) → State → Heap → Prop} (hxo : mm_xo EXT) (hxe : ∀ ad A U H, EXT ad A U H → px_E0 ad A U H) : mm_BS l D pcl lw_T EXT px_tab 59 pb_X6_user pp_X6_user := by
  intro d C hC p e s m args below meth c A ad0 cA0 μ0 free Q J
  rw [tb_59]
  exact fun X hr hlk hnm hfree hJ => bk_X6_user hxo hxe hC X hr hlk hnm hfree hJ
set_option maxHeartbeats 4000000 in
set_option maxRecDepth 100000 in
theorem bk_X6_type {l : Launch} {D : va_G} {EXT : (Nat → Nat) → (Nat → Prop) → State → Heap → Prop} (hxo : mm_xo EXT) (hxe : ∀ ad A U H, EXT ad A U H → px_E0 ad A U H) {d : Nat} {C : mm_C} (hC : mm_CS l D pcl lw_T EXT px_tab d C) {p : Program} {e : Env} {s : State} {m : MethodId} {args : Array Value} {below : List Frame} {meth : Method} {c : Code} {A : Nat → Prop} {ad0 : Nat → Nat} {cA0 : Nat → ClassId} {μ0 : mm_M} {free : Addr → Prop} {Q : mm_Q} {J : mm_J} (X : mm_cx p (mm_rm (d + 1) 0 0) s m args c cX6_type RX6 lw_T A D pcl 5) (hr : meth.sig.returnType = some .int) (hlk : meth.locks = false) (hnm : meth.name = "type") (hfree : ∀ q, A q → free q) (hJ : ∀ t, mm_SK p l e (mm_rm (d + 1) 0 0) s m args below meth c (MQ below (mm_Qc D pcl Q ad0 cA0 μ0 0 A) args s 0 0 free) D pcl A 5 (mm_EX EXT A s ad0 cA0 (mm_n μ0)) (pp_X6_type t) (J t)) : ∀ t, mm_SK p l e (mm_rm (d + 1) 0 0) s m args below meth c (MQ below (mm_Qc D pcl Q ad0 cA0 μ0 0 A) args s 0 0 free) D pcl A 5 (mm_EX EXT A s ad0 cA0 (mm_n μ0)) (pp_X6_type t) (pb_X6_type J C Q t) := by
  intro t
  match t with
  | 0 =>
    refine so_iload_n (pc := 0) (i := 3) X (by decide +kernel) ?_
    refine so_if_lt (pc := 1) (off := 9) (tgt := 10) X (by decide +kernel) (by decide) (hJ 1) ?_
    refine so_iload_n (pc := 4) (i := 3) X (by decide +kernel) ?_
    refine so_bipush (pc := 5) (n := 8) (v := 8) X (by decide +kernel) (by decide) ?_
    refine so_icmp_le (pc := 7) (off := 6) (tgt := 13) X (by decide +kernel) (by decide) (hJ 2) ?_
    exact so_fall X (hJ 1)
  | 1 =>
    refine so_bipush (pc := 10) (n := (-2)) (v := (-2)) X (by decide +kernel) (by decide) ?_
    exact so_ret (pc := 12) X hlk hfree hr (by decide +kernel)
  | 2 =>
    refine so_iload_n (pc := 13) (i := 3) X (by decide +kernel) ?_
    refine so_if_ne (pc := 14) (off := 10) (tgt := 24) X (by decide +kernel) (by decide) (hJ 3) ?_
    refine so_aload_n (pc := 17) (i := 0) X (by decide +kernel) ?_
    refine so_iconst (pc := 18) (n := 0) (v := 0) X (by decide +kernel) (by decide) ?_
    refine so_puti (pc := 19) (index := 78) (ci := 6) (f := 5) (N := 14) (C := RX6) (T := TX6) X rfl uX6 (by decide) (by decide) tw_270 tyX6 tyX6_ok nmX6 rfl (by decide +kernel) rfl (by decide +kernel) ?_
    refine so_iconst (pc := 22) (n := 0) (v := 0) X (by decide +kernel) (by decide) ?_
    exact so_ret (pc := 23) X hlk hfree hr (by decide +kernel)
  | 3 =>
    refine so_aload_n (pc := 24) (i := 0) X (by decide +kernel) ?_
    refine so_geti (pc := 25) (index := 78) (ci := 6) (f := 5) (N := 14) (C := RX6) (T := TX6) X rfl uX6 (by decide) (by decide) tw_270 rfl (by decide) (by decide +kernel) ?_
    refine so_iload_n (pc := 28) (i := 3) X (by decide +kernel) ?_
    refine so_iadd (pc := 29) X (by decide +kernel) ?_
    refine so_sipush (pc := 30) (n := 300) (v := 300) X (by decide +kernel) (by decide) ?_
    refine so_icmp_le (pc := 33) (off := 6) (tgt := 39) X (by decide +kernel) (by decide) (hJ 4) ?_
    refine so_bipush (pc := 36) (n := (-4)) (v := (-4)) X (by decide +kernel) (by decide) ?_
    exact so_ret (pc := 38) X hlk hfree hr (by decide +kernel)
  | 4 =>
    refine so_iload_n (pc := 39) (i := 3) X (by decide +kernel) ?_
    refine so_iconst (pc := 40) (n := 1) (v := 1) X (by decide +kernel) (by decide) ?_
    refine so_isub (pc := 41) X (by decide +kernel) ?_
    refine so_istore (pc := 42) (i := 4) X (by decide +kernel) (by decide) ?_
    exact so_fall X (hJ 5)
  | 5 =>
    refine so_iload (pc := 44) (i := 4) X (by decide +kernel) ?_
    refine so_if_lt (pc := 46) (off := 40) (tgt := 86) X (by decide +kernel) (by decide) (hJ 6) ?_
    refine so_aload_n (pc := 49) (i := 0) X (by decide +kernel) ?_
    refine so_getr (pc := 50) (index := 19) (ci := 6) (f := 4) (N := 14) (C := RX6) (T := TX6) X rfl uX6 (by decide) (by decide) tw_230 rfl (by decide +kernel) ?_
    refine so_aload_n (pc := 53) (i := 0) X (by decide +kernel) ?_
    refine so_geti (pc := 54) (index := 78) (ci := 6) (f := 5) (N := 14) (C := RX6) (T := TX6) X rfl uX6 (by decide) (by decide) tw_270 rfl (by decide) (by decide +kernel) ?_
    refine so_lload_n (pc := 57) (i := 1) X (by decide +kernel) ?_
    refine so_bipush (pc := 58) (n := 8) (v := 8) X (by decide +kernel) (by decide) ?_
    refine so_iload (pc := 60) (i := 4) X (by decide +kernel) ?_
    refine so_imul (pc := 62) X (by decide +kernel) ?_
    refine so_lushr (pc := 63) X (by decide +kernel) ?_
    refine so_l2i (pc := 64) X (by decide +kernel) ?_
    refine so_sipush (pc := 65) (n := 255) (v := 255) X (by decide +kernel) (by decide) ?_
    refine so_iand (pc := 68) X (by decide +kernel) ?_
    refine so_iast (pc := 69) X (by decide +kernel) ?_
    refine so_aload_n (pc := 70) (i := 0) X (by decide +kernel) ?_
    refine so_dup (pc := 71) X (by decide +kernel) ?_
    refine so_geti (pc := 72) (index := 78) (ci := 6) (f := 5) (N := 14) (C := RX6) (T := TX6) X rfl uX6 (by decide) (by decide) tw_270 rfl (by decide) (by decide +kernel) ?_
    refine so_iconst (pc := 75) (n := 1) (v := 1) X (by decide +kernel) (by decide) ?_
    refine so_iadd (pc := 76) X (by decide +kernel) ?_
    refine so_puti (pc := 77) (index := 78) (ci := 6) (f := 5) (N := 14) (C := RX6) (T := TX6) X rfl uX6 (by decide) (by decide) tw_270 tyX6 tyX6_ok nmX6 rfl (by decide +kernel) rfl (by decide +kernel) ?_
    refine so_iinc (pc := 80) (i := 4) (n := (-1)) (y := (-1)) X (by decide +kernel) (by decide) (by decide) ?_
    exact so_goto (pc := 83) (off := (-39)) (tgt := 44) X (by decide +kernel) (by decide) (hJ 5)
  | 6 =>
    refine so_aload_n (pc := 86) (i := 0) X (by decide +kernel) ?_
    refine so_geti (pc := 87) (index := 78) (ci := 6) (f := 5) (N := 14) (C := RX6) (T := TX6) X rfl uX6 (by decide) (by decide) tw_270 rfl (by decide) (by decide +kernel) ?_
    exact so_ret (pc := 90) X hlk hfree hr (by decide +kernel)
  | n + 7 => exact fun _ _ _ _ h => h.elim
theorem bs_X6_type {l : Launch} {D : va_G} {EXT : (Nat → Nat) → (Nat → Prop) → State → Heap → Prop} (hxo : mm_xo EXT) (hxe : ∀ ad A U H, EXT ad A U H → px_E0 ad A U H) : mm_BS l D pcl lw_T EXT px_tab 60 pb_X6_type pp_X6_type := by
  intro d C hC p e s m args below meth c A ad0 cA0 μ0 free Q J
  rw [tb_60]
  exact fun X hr hlk hnm hfree hJ => bk_X6_type hxo hxe hC X hr hlk hnm hfree hJ
set_option maxHeartbeats 4000000 in
set_option maxRecDepth 100000 in
theorem bk_X6_rule {l : Launch} {D : va_G} {EXT : (Nat → Nat) → (Nat → Prop) → State → Heap → Prop} (hxo : mm_xo EXT) (hxe : ∀ ad A U H, EXT ad A U H → px_E0 ad A U H) {d : Nat} {C : mm_C} (hC : mm_CS l D pcl lw_T EXT px_tab d C) {p : Program} {e : Env} {s : State} {m : MethodId} {args : Array Value} {below : List Frame} {meth : Method} {c : Code} {A : Nat → Prop} {ad0 : Nat → Nat} {cA0 : Nat → ClassId} {μ0 : mm_M} {free : Addr → Prop} {Q : mm_Q} {J : mm_J} (X : mm_cx p (mm_rm (d + 1) 0 0) s m args c cX6_rule RX6 lw_T A D pcl 3) (hr : meth.sig.returnType = some .int) (hlk : meth.locks = false) (hnm : meth.name = "rule") (hfree : ∀ q, A q → free q) (hJ : ∀ t, mm_SK p l e (mm_rm (d + 1) 0 0) s m args below meth c (MQ below (mm_Qc D pcl Q ad0 cA0 μ0 0 A) args s 0 0 free) D pcl A 3 (mm_EX EXT A s ad0 cA0 (mm_n μ0)) (pp_X6_rule t) (J t)) : ∀ t, mm_SK p l e (mm_rm (d + 1) 0 0) s m args below meth c (MQ below (mm_Qc D pcl Q ad0 cA0 μ0 0 A) args s 0 0 free) D pcl A 3 (mm_EX EXT A s ad0 cA0 (mm_n μ0)) (pp_X6_rule t) (pb_X6_rule J C Q t) := by
  intro t
  match t with
  | 0 =>
    refine so_aload_n (pc := 0) (i := 0) X (by decide +kernel) ?_
    refine so_iload_n (pc := 1) (i := 1) X (by decide +kernel) ?_
    refine so_cav (pc := 2) (y := 80) (na := 2) (index := 81) (maxL := 2) (nm := yX6_isUser) (bytes := cX6_isUser) (ret := (some .boolean)) (ci := 6) (N := 14) (T := TX6) X hxo (fun _ _ _ _ h => h.1) hC lw_good (Nat.le_refl _) (mm_lo d) rfl (by decide) tw_271 tw_272 tw_259 rfl (by decide) tw_273 tw_274 (by decide +kernel) (by decide +kernel) ?_
    refine so_if_ne (pc := 5) (off := 5) (tgt := 10) X (by decide +kernel) (by decide) (hJ 1) ?_
    refine so_iconst (pc := 8) (n := (-1)) (v := (-1)) X (by decide +kernel) (by decide) ?_
    exact so_ret (pc := 9) X hlk hfree hr (by decide +kernel)
  | 1 =>
    refine so_aload_n (pc := 10) (i := 0) X (by decide +kernel) ?_
    refine so_cav (pc := 11) (y := 83) (na := 1) (index := 84) (maxL := 1) (nm := yX6_takeTape) (bytes := cX6_takeTape) (ret := (some .int)) (ci := 6) (N := 14) (T := TX6) X hxo (fun _ _ _ _ h => h.1) hC lw_good (Nat.le_refl _) (mm_lo d) rfl (by decide) tw_275 tw_276 tw_259 rfl (by decide) tw_277 tw_278 (by decide +kernel) (by decide +kernel) ?_
    refine so_istore_n (pc := 14) (i := 2) X (by decide +kernel) (by decide) ?_
    refine so_iload_n (pc := 15) (i := 2) X (by decide +kernel) ?_
    refine so_if_eq (pc := 16) (off := 8) (tgt := 24) X (by decide +kernel) (by decide) (hJ 2) ?_
    refine so_bipush (pc := 19) (n := (-10)) (v := (-10)) X (by decide +kernel) (by decide) ?_
    refine so_iload_n (pc := 21) (i := 2) X (by decide +kernel) ?_
    refine so_isub (pc := 22) X (by decide +kernel) ?_
    exact so_ret (pc := 23) X hlk hfree hr (by decide +kernel)
  | 2 =>
    refine so_aload_n (pc := 24) (i := 0) X (by decide +kernel) ?_
    refine so_getr (pc := 25) (index := 15) (ci := 6) (f := 2) (N := 14) (C := RX6) (T := TX6) X rfl uX6 (by decide) (by decide) tw_229 rfl (by decide +kernel) ?_
    refine so_iload_n (pc := 28) (i := 1) X (by decide +kernel) ?_
    refine so_rald (pc := 29) (C := "HiddenSums$User") X (by decide +kernel) ?_
    refine so_getr (pc := 30) (index := 88) (ci := 5) (f := 0) (N := 6) (C := RX5) (T := TX5) X rfl uX5 (by decide) (by decide) tw_279 rfl (by decide +kernel) ?_
    refine so_aload_n (pc := 33) (i := 0) X (by decide +kernel) ?_
    refine so_getr (pc := 34) (index := 39) (ci := 6) (f := 11) (N := 14) (C := RX6) (T := TX6) X rfl uX6 (by decide) (by decide) tw_242 rfl (by decide +kernel) ?_
    refine so_getr (pc := 37) (index := 92) (ci := 1) (f := 0) (N := 11) (C := RX1) (T := TX1) X rfl uX1 (by decide) (by decide) tw_280 rfl (by decide +kernel) ?_
    refine so_cav (pc := 40) (y := 51) (na := 2) (index := 95) (maxL := 2) (nm := yX4_copyFrom) (bytes := cX4_copyFrom) (ret := none) (ci := 4) (N := 4) (T := TX4) X hxo (fun _ _ _ _ h => h.1) hC lw_good (Nat.le_refl _) (mm_lo d) rfl (by decide) tw_221 tw_281 tw_14 rfl (by decide) tw_223 tw_224 (by decide +kernel) (by decide +kernel) ?_
    refine so_aload_n (pc := 43) (i := 0) X (by decide +kernel) ?_
    refine so_aload_n (pc := 44) (i := 0) X (by decide +kernel) ?_
    refine so_getr (pc := 45) (index := 15) (ci := 6) (f := 2) (N := 14) (C := RX6) (T := TX6) X rfl uX6 (by decide) (by decide) tw_229 rfl (by decide +kernel) ?_
    refine so_iload_n (pc := 48) (i := 1) X (by decide +kernel) ?_
    refine so_rald (pc := 49) (C := "HiddenSums$User") X (by decide +kernel) ?_
    refine so_iconst (pc := 50) (n := 1) (v := 1) X (by decide +kernel) (by decide) ?_
    refine so_cav (pc := 51) (y := 87) (na := 3) (index := 101) (maxL := 5) (nm := yX6_countByRule) (bytes := cX6_countByRule) (ret := (some .int)) (ci := 6) (N := 14) (T := TX6) X hxo (fun _ _ _ _ h => h.1) hC lw_good (Nat.le_refl _) (mm_lo d) rfl (by decide) tw_282 tw_283 tw_259 rfl (by decide) tw_284 tw_285 (by decide +kernel) (by decide +kernel) ?_
    exact so_ret (pc := 54) X hlk hfree hr (by decide +kernel)
  | n + 3 => exact fun _ _ _ _ h => h.elim
theorem bs_X6_rule {l : Launch} {D : va_G} {EXT : (Nat → Nat) → (Nat → Prop) → State → Heap → Prop} (hxo : mm_xo EXT) (hxe : ∀ ad A U H, EXT ad A U H → px_E0 ad A U H) : mm_BS l D pcl lw_T EXT px_tab 61 pb_X6_rule pp_X6_rule := by
  intro d C hC p e s m args below meth c A ad0 cA0 μ0 free Q J
  rw [tb_61]
  exact fun X hr hlk hnm hfree hJ => bk_X6_rule hxo hxe hC X hr hlk hnm hfree hJ
set_option maxHeartbeats 4000000 in
set_option maxRecDepth 100000 in
theorem bk_X6_place {l : Launch} {D : va_G} {EXT : (Nat → Nat) → (Nat → Prop) → State → Heap → Prop} (hxo : mm_xo EXT) (hxe : ∀ ad A U H, EXT ad A U H → px_E0 ad A U H) {d : Nat} {C : mm_C} (hC : mm_CS l D pcl lw_T EXT px_tab d C) {p : Program} {e : Env} {s : State} {m : MethodId} {args : Array Value} {below : List Frame} {meth : Method} {c : Code} {A : Nat → Prop} {ad0 : Nat → Nat} {cA0 : Nat → ClassId} {μ0 : mm_M} {free : Addr → Prop} {Q : mm_Q} {J : mm_J} (X : mm_cx p (mm_rm (d + 1) 0 0) s m args c cX6_place RX6 lw_T A D pcl 1) (hr : meth.sig.returnType = some .int) (hlk : meth.locks = false) (hnm : meth.name = "place") (hfree : ∀ q, A q → free q) (hJ : ∀ t, mm_SK p l e (mm_rm (d + 1) 0 0) s m args below meth c (MQ below (mm_Qc D pcl Q ad0 cA0 μ0 0 A) args s 0 0 free) D pcl A 1 (mm_EX EXT A s ad0 cA0 (mm_n μ0)) (pp_X6_place t) (J t)) : ∀ t, mm_SK p l e (mm_rm (d + 1) 0 0) s m args below meth c (MQ below (mm_Qc D pcl Q ad0 cA0 μ0 0 A) args s 0 0 free) D pcl A 1 (mm_EX EXT A s ad0 cA0 (mm_n μ0)) (pp_X6_place t) (pb_X6_place J C Q t) := by
  intro t
  match t with
  | 0 =>
    refine so_aload_n (pc := 0) (i := 0) X (by decide +kernel) ?_
    refine so_geti (pc := 1) (index := 22) (ci := 6) (f := 6) (N := 14) (C := RX6) (T := TX6) X rfl uX6 (by decide) (by decide) tw_231 rfl (by decide) (by decide +kernel) ?_
    exact so_ret (pc := 4) X hlk hfree hr (by decide +kernel)
  | n + 1 => exact fun _ _ _ _ h => h.elim
theorem bs_X6_place {l : Launch} {D : va_G} {EXT : (Nat → Nat) → (Nat → Prop) → State → Heap → Prop} (hxo : mm_xo EXT) (hxe : ∀ ad A U H, EXT ad A U H → px_E0 ad A U H) : mm_BS l D pcl lw_T EXT px_tab 62 pb_X6_place pp_X6_place := by
  intro d C hC p e s m args below meth c A ad0 cA0 μ0 free Q J
  rw [tb_62]
  exact fun X hr hlk hnm hfree hJ => bk_X6_place hxo hxe hC X hr hlk hnm hfree hJ
