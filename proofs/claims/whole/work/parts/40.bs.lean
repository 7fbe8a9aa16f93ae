set_option maxHeartbeats 4000000 in
set_option maxRecDepth 100000 in
theorem bk_X0_init {l : Launch} {D : va_G} {EXT : (Nat → Nat) → (Nat → Prop) → State → Heap → Prop} (hxo : mm_xo EXT) (hxe : ∀ ad A U H, EXT ad A U H → px_E0 ad A U H) {d : Nat} {C : mm_C} (hC : mm_CS l D pcl lw_T EXT px_tab d C) {p : Program} {e : Env} {s : State} {m : MethodId} {args : Array Value} {below : List Frame} {meth : Method} {c : Code} {A : Nat → Prop} {ad0 : Nat → Nat} {cA0 : Nat → ClassId} {μ0 : mm_M} {free : Addr → Prop} {Q : mm_Q} {J : mm_J} (X : mm_cx p (mm_rm (d + 1) 1 750) s m args c cX0_init RX0 lw_T A D pcl 1) (hr : meth.sig.returnType = none) (hlk : meth.locks = false) (hnm : meth.name = "<init>") (hfree : ∀ q, A q → free q) (hJ : ∀ t, mm_SK p l e (mm_rm (d + 1) 1 750) s m args below meth c (MQ below (mm_Qc D pcl Q ad0 cA0 μ0 1 A) args s 1 750 free) D pcl A 1 (mm_EX EXT A s ad0 cA0 (mm_n μ0)) (pp_X0_init t) (J t)) : ∀ t, mm_SK p l e (mm_rm (d + 1) 1 750) s m args below meth c (MQ below (mm_Qc D pcl Q ad0 cA0 μ0 1 A) args s 1 750 free) D pcl A 1 (mm_EX EXT A s ad0 cA0 (mm_n μ0)) (pp_X0_init t) (pb_X0_init J C Q t) := by
  intro t
  match t with
  | 0 =>
    refine so_aload_n (pc := 0) (i := 0) X (by decide +kernel) ?_
    refine so_obi (pc := 1) (index := 3) X tw_0 tw_1 tw_2 (mm_fr1 d) (mm_lo20 d) (by decide +kernel) ?_
    refine so_aload_n (pc := 4) (i := 0) X (by decide +kernel) ?_
    refine so_sipush (pc := 5) (n := 750) (v := 750) X (by decide +kernel) (by decide) ?_
    refine so_naint (pc := 8) (B := (1, 750)) X (mm_EX_cl hxo) ⟨Nat.le_refl _, Nat.le_refl _⟩ tw_3 (by decide +kernel) ?_
    refine so_putr (pc := 10) (index := 9) (ci := 0) (f := 0) (N := 2) (C := RX0) (T := TX0) (ty := tyX0 0) X rfl uX0 (by decide) (by decide) tw_4 tyX0 tyX0_ok nmX0 rfl hnm rfl (tyX0_ok 0 (by decide)) (fun _ => ⟨rfl, rfl⟩) rfl (by decide +kernel) ?_
    exact so_rtv (pc := 13) X hlk hfree hr (by decide +kernel)
  | n + 1 => exact fun _ _ _ _ h => h.elim
theorem bs_X0_init {l : Launch} {D : va_G} {EXT : (Nat → Nat) → (Nat → Prop) → State → Heap → Prop} (hxo : mm_xo EXT) (hxe : ∀ ad A U H, EXT ad A U H → px_E0 ad A U H) : mm_BS l D pcl lw_T EXT px_tab 0 pb_X0_init pp_X0_init := by
  intro d C hC p e s m args below meth c A ad0 cA0 μ0 free Q J
  rw [tb_0]
  exact fun X hr hlk hnm hfree hJ => bk_X0_init hxo hxe hC X hr hlk hnm hfree hJ
set_option maxHeartbeats 4000000 in
set_option maxRecDepth 100000 in
theorem bk_X0_isFull {l : Launch} {D : va_G} {EXT : (Nat → Nat) → (Nat → Prop) → State → Heap → Prop} (hxo : mm_xo EXT) (hxe : ∀ ad A U H, EXT ad A U H → px_E0 ad A U H) {d : Nat} {C : mm_C} (hC : mm_CS l D pcl lw_T EXT px_tab d C) {p : Program} {e : Env} {s : State} {m : MethodId} {args : Array Value} {below : List Frame} {meth : Method} {c : Code} {A : Nat → Prop} {ad0 : Nat → Nat} {cA0 : Nat → ClassId} {μ0 : mm_M} {free : Addr → Prop} {Q : mm_Q} {J : mm_J} (X : mm_cx p (mm_rm (d + 1) 0 0) s m args c cX0_isFull RX0 lw_T A D pcl 1) (hr : meth.sig.returnType = some .boolean) (hlk : meth.locks = false) (hnm : meth.name = "isFull") (hfree : ∀ q, A q → free q) (hJ : ∀ t, mm_SK p l e (mm_rm (d + 1) 0 0) s m args below meth c (MQ below (mm_Qc D pcl Q ad0 cA0 μ0 0 A) args s 0 0 free) D pcl A 1 (mm_EX EXT A s ad0 cA0 (mm_n μ0)) (pp_X0_isFull t) (J t)) : ∀ t, mm_SK p l e (mm_rm (d + 1) 0 0) s m args below meth c (MQ below (mm_Qc D pcl Q ad0 cA0 μ0 0 A) args s 0 0 free) D pcl A 1 (mm_EX EXT A s ad0 cA0 (mm_n μ0)) (pp_X0_isFull t) (pb_X0_isFull J C Q t) := by
  intro t
  match t with
  | 0 =>
    refine so_aload_n (pc := 0) (i := 0) X (by decide +kernel) ?_
    refine so_geti (pc := 1) (index := 15) (ci := 0) (f := 1) (N := 2) (C := RX0) (T := TX0) X rfl uX0 (by decide) (by decide) tw_5 rfl (by decide) (by decide +kernel) ?_
    refine so_sipush (pc := 4) (n := 150) (v := 150) X (by decide +kernel) (by decide) ?_
    refine so_icmp_lt (pc := 7) (off := 7) (tgt := 14) X (by decide +kernel) (by decide) (hJ 1) ?_
    refine so_iconst (pc := 10) (n := 1) (v := 1) X (by decide +kernel) (by decide) ?_
    exact so_goto (pc := 11) (off := 4) (tgt := 15) X (by decide +kernel) (by decide) (hJ 2)
  | 1 =>
    refine so_iconst (pc := 14) (n := 0) (v := 0) X (by decide +kernel) (by decide) ?_
    exact so_fall X (hJ 2)
  | 2 =>
    exact so_rtz (pc := 15) X hlk hfree hr (by decide +kernel)
  | n + 3 => exact fun _ _ _ _ h => h.elim
theorem bs_X0_isFull {l : Launch} {D : va_G} {EXT : (Nat → Nat) → (Nat → Prop) → State → Heap → Prop} (hxo : mm_xo EXT) (hxe : ∀ ad A U H, EXT ad A U H → px_E0 ad A U H) : mm_BS l D pcl lw_T EXT px_tab 1 pb_X0_isFull pp_X0_isFull := by
  intro d C hC p e s m args below meth c A ad0 cA0 μ0 free Q J
  rw [tb_1]
  exact fun X hr hlk hnm hfree hJ => bk_X0_isFull hxo hxe hC X hr hlk hnm hfree hJ
set_option maxHeartbeats 4000000 in
set_option maxRecDepth 100000 in
theorem bk_X0_enter {l : Launch} {D : va_G} {EXT : (Nat → Nat) → (Nat → Prop) → State → Heap → Prop} (hxo : mm_xo EXT) (hxe : ∀ ad A U H, EXT ad A U H → px_E0 ad A U H) {d : Nat} {C : mm_C} (hC : mm_CS l D pcl lw_T EXT px_tab d C) {p : Program} {e : Env} {s : State} {m : MethodId} {args : Array Value} {below : List Frame} {meth : Method} {c : Code} {A : Nat → Prop} {ad0 : Nat → Nat} {cA0 : Nat → ClassId} {μ0 : mm_M} {free : Addr → Prop} {Q : mm_Q} {J : mm_J} (X : mm_cx p (mm_rm (d + 1) 0 0) s m args c cX0_enter RX0 lw_T A D pcl 7) (hr : meth.sig.returnType = none) (hlk : meth.locks = false) (hnm : meth.name = "enter") (hfree : ∀ q, A q → free q) (hJ : ∀ t, mm_SK p l e (mm_rm (d + 1) 0 0) s m args below meth c (MQ below (mm_Qc D pcl Q ad0 cA0 μ0 0 A) args s 0 0 free) D pcl A 7 (mm_EX EXT A s ad0 cA0 (mm_n μ0)) (pp_X0_enter t) (J t)) : ∀ t, mm_SK p l e (mm_rm (d + 1) 0 0) s m args below meth c (MQ below (mm_Qc D pcl Q ad0 cA0 μ0 0 A) args s 0 0 free) D pcl A 7 (mm_EX EXT A s ad0 cA0 (mm_n μ0)) (pp_X0_enter t) (pb_X0_enter J C Q t) := by
  intro t
  match t with
  | 0 =>
    refine so_aload_n (pc := 0) (i := 0) X (by decide +kernel) ?_
    refine so_cav (pc := 1) (y := 1) (na := 1) (index := 19) (maxL := 1) (nm := yX0_isFull) (bytes := cX0_isFull) (ret := (some .boolean)) (ci := 0) (N := 2) (T := TX0) X hxo (fun _ _ _ _ h => h.1) hC lw_good (Nat.le_refl _) (mm_lo d) rfl (by decide) tw_6 tw_7 tw_8 rfl (by decide) tw_9 tw_10 (by decide +kernel) (by decide +kernel) ?_
    refine so_if_eq (pc := 4) (off := 4) (tgt := 8) X (by decide +kernel) (by decide) (hJ 1) ?_
    exact so_rtv (pc := 7) X hlk hfree hr (by decide +kernel)
  | 1 =>
    refine so_aload_n (pc := 8) (i := 0) X (by decide +kernel) ?_
    refine so_geti (pc := 9) (index := 15) (ci := 0) (f := 1) (N := 2) (C := RX0) (T := TX0) X rfl uX0 (by decide) (by decide) tw_5 rfl (by decide) (by decide +kernel) ?_
    refine so_iconst (pc := 12) (n := 5) (v := 5) X (by decide +kernel) (by decide) ?_
    refine so_imul (pc := 13) X (by decide +kernel) ?_
    refine so_istore (pc := 14) (i := 6) X (by decide +kernel) (by decide) ?_
    refine so_aload_n (pc := 16) (i := 0) X (by decide +kernel) ?_
    refine so_getr (pc := 17) (index := 9) (ci := 0) (f := 0) (N := 2) (C := RX0) (T := TX0) X rfl uX0 (by decide) (by decide) tw_4 rfl (by decide +kernel) ?_
    refine so_iload (pc := 20) (i := 6) X (by decide +kernel) ?_
    refine so_iload_n (pc := 22) (i := 1) X (by decide +kernel) ?_
    refine so_iast (pc := 23) X (by decide +kernel) ?_
    refine so_aload_n (pc := 24) (i := 0) X (by decide +kernel) ?_
    refine so_getr (pc := 25) (index := 9) (ci := 0) (f := 0) (N := 2) (C := RX0) (T := TX0) X rfl uX0 (by decide) (by decide) tw_4 rfl (by decide +kernel) ?_
    refine so_iload (pc := 28) (i := 6) X (by decide +kernel) ?_
    refine so_iconst (pc := 30) (n := 1) (v := 1) X (by decide +kernel) (by decide) ?_
    refine so_iadd (pc := 31) X (by decide +kernel) ?_
    refine so_iload_n (pc := 32) (i := 2) X (by decide +kernel) ?_
    refine so_iast (pc := 33) X (by decide +kernel) ?_
    refine so_aload_n (pc := 34) (i := 0) X (by decide +kernel) ?_
    refine so_getr (pc := 35) (index := 9) (ci := 0) (f := 0) (N := 2) (C := RX0) (T := TX0) X rfl uX0 (by decide) (by decide) tw_4 rfl (by decide +kernel) ?_
    refine so_iload (pc := 38) (i := 6) X (by decide +kernel) ?_
    refine so_iconst (pc := 40) (n := 2) (v := 2) X (by decide +kernel) (by decide) ?_
    refine so_iadd (pc := 41) X (by decide +kernel) ?_
    refine so_iload_n (pc := 42) (i := 3) X (by decide +kernel) ?_
    refine so_iast (pc := 43) X (by decide +kernel) ?_
    refine so_aload_n (pc := 44) (i := 0) X (by decide +kernel) ?_
    refine so_getr (pc := 45) (index := 9) (ci := 0) (f := 0) (N := 2) (C := RX0) (T := TX0) X rfl uX0 (by decide) (by decide) tw_4 rfl (by decide +kernel) ?_
    refine so_iload (pc := 48) (i := 6) X (by decide +kernel) ?_
    refine so_iconst (pc := 50) (n := 3) (v := 3) X (by decide +kernel) (by decide) ?_
    refine so_iadd (pc := 51) X (by decide +kernel) ?_
    refine so_iload (pc := 52) (i := 4) X (by decide +kernel) ?_
    refine so_iast (pc := 54) X (by decide +kernel) ?_
    refine so_aload_n (pc := 55) (i := 0) X (by decide +kernel) ?_
    refine so_getr (pc := 56) (index := 9) (ci := 0) (f := 0) (N := 2) (C := RX0) (T := TX0) X rfl uX0 (by decide) (by decide) tw_4 rfl (by decide +kernel) ?_
    refine so_iload (pc := 59) (i := 6) X (by decide +kernel) ?_
    refine so_iconst (pc := 61) (n := 4) (v := 4) X (by decide +kernel) (by decide) ?_
    refine so_iadd (pc := 62) X (by decide +kernel) ?_
    refine so_iload (pc := 63) (i := 5) X (by decide +kernel) ?_
    refine so_iast (pc := 65) X (by decide +kernel) ?_
    refine so_aload_n (pc := 66) (i := 0) X (by decide +kernel) ?_
    refine so_dup (pc := 67) X (by decide +kernel) ?_
    refine so_geti (pc := 68) (index := 15) (ci := 0) (f := 1) (N := 2) (C := RX0) (T := TX0) X rfl uX0 (by decide) (by decide) tw_5 rfl (by decide) (by decide +kernel) ?_
    refine so_iconst (pc := 71) (n := 1) (v := 1) X (by decide +kernel) (by decide) ?_
    refine so_iadd (pc := 72) X (by decide +kernel) ?_
    refine so_puti (pc := 73) (index := 15) (ci := 0) (f := 1) (N := 2) (C := RX0) (T := TX0) X rfl uX0 (by decide) (by decide) tw_5 tyX0 tyX0_ok nmX0 rfl (by decide +kernel) rfl (by decide +kernel) ?_
    exact so_rtv (pc := 76) X hlk hfree hr (by decide +kernel)
  | n + 2 => exact fun _ _ _ _ h => h.elim
theorem bs_X0_enter {l : Launch} {D : va_G} {EXT : (Nat → Nat) → (Nat → Prop) → State → Heap → Prop} (hxo : mm_xo EXT) (hxe : ∀ ad A U H, EXT ad A U H → px_E0 ad A U H) : mm_BS l D pcl lw_T EXT px_tab 2 pb_X0_enter pp_X0_enter := by
  intro d C hC p e s m args below meth c A ad0 cA0 μ0 free Q J
  rw [tb_2]
  exact fun X hr hlk hnm hfree hJ => bk_X0_enter hxo hxe hC X hr hlk hnm hfree hJ
set_option maxHeartbeats 4000000 in
set_option maxRecDepth 100000 in
theorem bk_X1_init {l : Launch} {D : va_G} {EXT : (Nat → Nat) → (Nat → Prop) → State → Heap → Prop} (hxo : mm_xo EXT) (hxe : ∀ ad A U H, EXT ad A U H → px_E0 ad A U H) {d : Nat} {C : mm_C} (hC : mm_CS l D pcl lw_T EXT px_tab d C) {p : Program} {e : Env} {s : State} {m : MethodId} {args : Array Value} {below : List Frame} {meth : Method} {c : Code} {A : Nat → Prop} {ad0 : Nat → Nat} {cA0 : Nat → ClassId} {μ0 : mm_M} {free : Addr → Prop} {Q : mm_Q} {J : mm_J} (X : mm_cx p (mm_rm (d + 1) 4 184) s m args c cX1_init RX1 lw_T A D pcl 1) (hr : meth.sig.returnType = none) (hlk : meth.locks = false) (hnm : meth.name = "<init>") (hfree : ∀ q, A q → free q) (hJ : ∀ t, mm_SK p l e (mm_rm (d + 1) 4 184) s m args below meth c (MQ below (mm_Qc D pcl Q ad0 cA0 μ0 4 A) args s 4 184 free) D pcl A 1 (mm_EX EXT A s ad0 cA0 (mm_n μ0)) (pp_X1_init t) (J t)) : ∀ t, mm_SK p l e (mm_rm (d + 1) 4 184) s m args below meth c (MQ below (mm_Qc D pcl Q ad0 cA0 μ0 4 A) args s 4 184 free) D pcl A 1 (mm_EX EXT A s ad0 cA0 (mm_n μ0)) (pp_X1_init t) (pb_X1_init J C Q t) := by
  intro t
  match t with
  | 0 =>
    refine so_aload_n (pc := 0) (i := 0) X (by decide +kernel) ?_
    refine so_obi (pc := 1) (index := 3) X tw_11 tw_1 tw_2 (mm_fr1 d) (mm_lo20 d) (by decide +kernel) ?_
    refine so_aload_n (pc := 4) (i := 0) X (by decide +kernel) ?_
    refine so_new (pc := 5) (B := (4, 184)) (index := 9) (ci := 4) (N := 4) (C := RX4) (T := TX4) X (mm_EX_cl hxo) ⟨Nat.le_refl _, Nat.le_refl _⟩ rfl uX4 tyX4 tyX4_ok pdX4 tw_12 tw_13 tw_14 (by decide +kernel) ?_
    refine so_dup (pc := 8) X (by decide +kernel) ?_
    refine so_cni (pc := 9) (B := (4, 184)) (y := 48) (na := 1) (index := 11) (maxL := 1) (nm := yX4_init) (bytes := cX4_init) (mc := 2) (ms := 120) X (mm_EX_cl hxo) ⟨Nat.le_refl _, Nat.le_refl _⟩ hxo (fun _ _ _ _ h => h.1) hC lw_good (Nat.le_refl _) (mm_lo d) rfl (by decide) (by decide) tw_15 tw_14 tw_16 rfl (by decide +kernel) (by decide +kernel) (host := RX6) (fun _ _ _ _ h => px_M (hxe _ _ _ _ h.1) (by decide +kernel)) ?_
    refine so_putr (pc := 12) (index := 12) (ci := 1) (f := 0) (N := 11) (C := RX1) (T := TX1) (ty := tyX1 0) X rfl uX1 (by decide) (by decide) tw_17 tyX1 tyX1_ok nmX1 rfl hnm rfl (tyX1_ok 0 (by decide)) (fun _ => ⟨rfl, rfl⟩) rfl (by decide +kernel) ?_
    refine so_aload_n (pc := 15) (i := 0) X (by decide +kernel) ?_
    refine so_bipush (pc := 16) (n := 60) (v := 60) X (by decide +kernel) (by decide) ?_
    refine so_naint (pc := 18) (B := (4, 184)) X (mm_EX_cl hxo) ⟨Nat.le_refl _, Nat.le_refl _⟩ tw_3 (by decide +kernel) ?_
    refine so_putr (pc := 20) (index := 18) (ci := 1) (f := 9) (N := 11) (C := RX1) (T := TX1) (ty := tyX1 9) X rfl uX1 (by decide) (by decide) tw_18 tyX1 tyX1_ok nmX1 rfl hnm rfl (tyX1_ok 9 (by decide)) (fun _ => ⟨rfl, rfl⟩) rfl (by decide +kernel) ?_
    exact so_rtv (pc := 23) X hlk hfree hr (by decide +kernel)
  | n + 1 => exact fun _ _ _ _ h => h.elim
theorem bs_X1_init {l : Launch} {D : va_G} {EXT : (Nat → Nat) → (Nat → Prop) → State → Heap → Prop} (hxo : mm_xo EXT) (hxe : ∀ ad A U H, EXT ad A U H → px_E0 ad A U H) : mm_BS l D pcl lw_T EXT px_tab 3 pb_X1_init pp_X1_init := by
  intro d C hC p e s m args below meth c A ad0 cA0 μ0 free Q J
  rw [tb_3]
  exact fun X hr hlk hnm hfree hJ => bk_X1_init hxo hxe hC X hr hlk hnm hfree hJ
set_option maxHeartbeats 4000000 in
set_option maxRecDepth 100000 in
theorem bk_X1_read {l : Launch} {D : va_G} {EXT : (Nat → Nat) → (Nat → Prop) → State → Heap → Prop} (hxo : mm_xo EXT) (hxe : ∀ ad A U H, EXT ad A U H → px_E0 ad A U H) {d : Nat} {C : mm_C} (hC : mm_CS l D pcl lw_T EXT px_tab d C) {p : Program} {e : Env} {s : State} {m : MethodId} {args : Array Value} {below : List Frame} {meth : Method} {c : Code} {A : Nat → Prop} {ad0 : Nat → Nat} {cA0 : Nat → ClassId} {μ0 : mm_M} {free : Addr → Prop} {Q : mm_Q} {J : mm_J} (X : mm_cx p (mm_rm (d + 1) 0 0) s m args c cX1_read RX1 lw_T A D pcl 5) (hr : meth.sig.returnType = none) (hlk : meth.locks = false) (hnm : meth.name = "read") (hfree : ∀ q, A q → free q) (hJ : ∀ t, mm_SK p l e (mm_rm (d + 1) 0 0) s m args below meth c (MQ below (mm_Qc D pcl Q ad0 cA0 μ0 0 A) args s 0 0 free) D pcl A 5 (mm_EX EXT A s ad0 cA0 (mm_n μ0)) (pp_X1_read t) (J t)) : ∀ t, mm_SK p l e (mm_rm (d + 1) 0 0) s m args below meth c (MQ below (mm_Qc D pcl Q ad0 cA0 μ0 0 A) args s 0 0 free) D pcl A 5 (mm_EX EXT A s ad0 cA0 (mm_n μ0)) (pp_X1_read t) (pb_X1_read J C Q t) := by
  intro t
  match t with
  | 0 =>
    refine so_aload_n (pc := 0) (i := 0) X (by decide +kernel) ?_
    refine so_getr (pc := 1) (index := 12) (ci := 1) (f := 0) (N := 11) (C := RX1) (T := TX1) X rfl uX1 (by decide) (by decide) tw_17 rfl (by decide +kernel) ?_
    refine so_cav (pc := 4) (y := 49) (na := 1) (index := 22) (maxL := 1) (nm := yX4_empty) (bytes := cX4_empty) (ret := none) (ci := 4) (N := 4) (T := TX4) X hxo (fun _ _ _ _ h => h.1) hC lw_good (Nat.le_refl _) (mm_lo d) rfl (by decide) tw_19 tw_20 tw_14 rfl (by decide) tw_21 tw_22 (by decide +kernel) (by decide +kernel) ?_
    refine so_aload_n (pc := 7) (i := 0) X (by decide +kernel) ?_
    refine so_iconst (pc := 8) (n := 0) (v := 0) X (by decide +kernel) (by decide) ?_
    refine so_puti (pc := 9) (index := 25) (ci := 1) (f := 6) (N := 11) (C := RX1) (T := TX1) X rfl uX1 (by decide) (by decide) tw_23 tyX1 tyX1_ok nmX1 rfl (by decide +kernel) rfl (by decide +kernel) ?_
    refine so_aload_n (pc := 12) (i := 0) X (by decide +kernel) ?_
    refine so_iconst (pc := 13) (n := 0) (v := 0) X (by decide +kernel) (by decide) ?_
    refine so_puti (pc := 14) (index := 29) (ci := 1) (f := 7) (N := 11) (C := RX1) (T := TX1) X rfl uX1 (by decide) (by decide) tw_24 tyX1 tyX1_ok nmX1 rfl (by decide +kernel) rfl (by decide +kernel) ?_
    refine so_aload_n (pc := 17) (i := 0) X (by decide +kernel) ?_
    refine so_iconst (pc := 18) (n := 0) (v := 0) X (by decide +kernel) (by decide) ?_
    refine so_puti (pc := 19) (index := 32) (ci := 1) (f := 8) (N := 11) (C := RX1) (T := TX1) X rfl uX1 (by decide) (by decide) tw_25 tyX1 tyX1_ok nmX1 rfl (by decide +kernel) rfl (by decide +kernel) ?_
    refine so_aload_n (pc := 22) (i := 0) X (by decide +kernel) ?_
    refine so_iconst (pc := 23) (n := 0) (v := 0) X (by decide +kernel) (by decide) ?_
    refine so_puti (pc := 24) (index := 35) (ci := 1) (f := 10) (N := 11) (C := RX1) (T := TX1) X rfl uX1 (by decide) (by decide) tw_26 tyX1 tyX1_ok nmX1 rfl (by decide +kernel) rfl (by decide +kernel) ?_
    refine so_aload_n (pc := 27) (i := 0) X (by decide +kernel) ?_
    refine so_iconst (pc := 28) (n := 0) (v := 0) X (by decide +kernel) (by decide) ?_
    refine so_puti (pc := 29) (index := 38) (ci := 1) (f := 3) (N := 11) (C := RX1) (T := TX1) X rfl uX1 (by decide) (by decide) tw_27 tyX1 tyX1_ok nmX1 rfl (by decide +kernel) rfl (by decide +kernel) ?_
    refine so_iconst (pc := 32) (n := 1) (v := 1) X (by decide +kernel) (by decide) ?_
    refine so_istore_n (pc := 33) (i := 3) X (by decide +kernel) (by decide) ?_
    exact so_fall X (hJ 1)
  | 1 =>
    refine so_iload_n (pc := 34) (i := 3) X (by decide +kernel) ?_
    refine so_bipush (pc := 35) (n := 61) (v := 61) X (by decide +kernel) (by decide) ?_
    refine so_icmp_gt (pc := 37) (off := 71) (tgt := 108) X (by decide +kernel) (by decide) (hJ 5) ?_
    refine so_aload_n (pc := 40) (i := 0) X (by decide +kernel) ?_
    refine so_aload_n (pc := 41) (i := 1) X (by decide +kernel) ?_
    refine so_iload_n (pc := 42) (i := 2) X (by decide +kernel) ?_
    refine so_cav (pc := 43) (y := 6) (na := 3) (index := 41) (maxL := 3) (nm := yX1_scan) (bytes := cX1_scan) (ret := none) (ci := 1) (N := 11) (T := TX1) X hxo (fun _ _ _ _ h => h.1) hC lw_good (Nat.le_refl _) (mm_lo d) rfl (by decide) tw_28 tw_29 tw_30 rfl (by decide) tw_31 tw_32 (by decide +kernel) (by decide +kernel) ?_
    refine so_aload_n (pc := 46) (i := 0) X (by decide +kernel) ?_
    refine so_geti (pc := 47) (index := 45) (ci := 1) (f := 4) (N := 11) (C := RX1) (T := TX1) X rfl uX1 (by decide) (by decide) tw_33 rfl (by decide) (by decide +kernel) ?_
    refine so_iconst (pc := 50) (n := 1) (v := 1) X (by decide +kernel) (by decide) ?_
    refine so_icmp_ne (pc := 51) (off := 7) (tgt := 58) X (by decide +kernel) (by decide) (hJ 2) ?_
    refine so_iconst (pc := 54) (n := (-1)) (v := (-1)) X (by decide +kernel) (by decide) ?_
    exact so_goto (pc := 55) (off := 7) (tgt := 62) X (by decide +kernel) (by decide) (hJ 3)
  | 2 =>
    refine so_aload_n (pc := 58) (i := 0) X (by decide +kernel) ?_
    refine so_cav (pc := 59) (y := 13) (na := 1) (index := 48) (maxL := 1) (nm := yX1_stateBehind) (bytes := cX1_stateBehind) (ret := (some .int)) (ci := 1) (N := 11) (T := TX1) X hxo (fun _ _ _ _ h => h.1) hC lw_good (Nat.le_refl _) (mm_lo d) rfl (by decide) tw_34 tw_35 tw_30 rfl (by decide) tw_36 tw_37 (by decide +kernel) (by decide +kernel) ?_
    exact so_fall X (hJ 3)
  | 3 =>
    refine so_istore (pc := 62) (i := 4) X (by decide +kernel) (by decide) ?_
    refine so_aload_n (pc := 64) (i := 0) X (by decide +kernel) ?_
    refine so_aload_n (pc := 65) (i := 0) X (by decide +kernel) ?_
    refine so_iload_n (pc := 66) (i := 3) X (by decide +kernel) ?_
    refine so_iload (pc := 67) (i := 4) X (by decide +kernel) ?_
    refine so_cav (pc := 69) (y := 5) (na := 3) (index := 52) (maxL := 4) (nm := yX1_faultOfToken) (bytes := cX1_faultOfToken) (ret := (some .int)) (ci := 1) (N := 11) (T := TX1) X hxo (fun _ _ _ _ h => h.1) hC lw_good (Nat.le_refl _) (mm_lo d) rfl (by decide) tw_38 tw_39 tw_30 rfl (by decide) tw_40 tw_41 (by decide +kernel) (by decide +kernel) ?_
    refine so_puti (pc := 72) (index := 56) (ci := 1) (f := 1) (N := 11) (C := RX1) (T := TX1) X rfl uX1 (by decide) (by decide) tw_42 tyX1 tyX1_ok nmX1 rfl (by decide +kernel) rfl (by decide +kernel) ?_
    refine so_aload_n (pc := 75) (i := 0) X (by decide +kernel) ?_
    refine so_geti (pc := 76) (index := 56) (ci := 1) (f := 1) (N := 11) (C := RX1) (T := TX1) X rfl uX1 (by decide) (by decide) tw_42 rfl (by decide) (by decide +kernel) ?_
    refine so_if_ne (pc := 79) (off := 29) (tgt := 108) X (by decide +kernel) (by decide) (hJ 5) ?_
    refine so_aload_n (pc := 82) (i := 0) X (by decide +kernel) ?_
    refine so_geti (pc := 83) (index := 45) (ci := 1) (f := 4) (N := 11) (C := RX1) (T := TX1) X rfl uX1 (by decide) (by decide) tw_33 rfl (by decide) (by decide +kernel) ?_
    refine so_if_ne (pc := 86) (off := 6) (tgt := 92) X (by decide +kernel) (by decide) (hJ 4) ?_
    exact so_goto (pc := 89) (off := 19) (tgt := 108) X (by decide +kernel) (by decide) (hJ 5)
  | 4 =>
    refine so_aload_n (pc := 92) (i := 0) X (by decide +kernel) ?_
    refine so_cav (pc := 93) (y := 17) (na := 1) (index := 59) (maxL := 1) (nm := yX1_take) (bytes := cX1_take) (ret := none) (ci := 1) (N := 11) (T := TX1) X hxo (fun _ _ _ _ h => h.1) hC lw_good (Nat.le_refl _) (mm_lo d) rfl (by decide) tw_43 tw_44 tw_30 rfl (by decide) tw_45 tw_46 (by decide +kernel) (by decide +kernel) ?_
    refine so_aload_n (pc := 96) (i := 0) X (by decide +kernel) ?_
    refine so_iload (pc := 97) (i := 4) X (by decide +kernel) ?_
    refine so_puti (pc := 99) (index := 25) (ci := 1) (f := 6) (N := 11) (C := RX1) (T := TX1) X rfl uX1 (by decide) (by decide) tw_23 tyX1 tyX1_ok nmX1 rfl (by decide +kernel) rfl (by decide +kernel) ?_
    refine so_iinc (pc := 102) (i := 3) (n := 1) (y := 1) X (by decide +kernel) (by decide) (by decide) ?_
    exact so_goto (pc := 105) (off := (-71)) (tgt := 34) X (by decide +kernel) (by decide) (hJ 1)
  | 5 =>
    refine so_aload_n (pc := 108) (i := 0) X (by decide +kernel) ?_
    refine so_iconst (pc := 109) (n := 1) (v := 1) X (by decide +kernel) (by decide) ?_
    refine so_cav (pc := 110) (y := 20) (na := 2) (index := 62) (maxL := 2) (nm := yX1_settle) (bytes := cX1_settle) (ret := none) (ci := 1) (N := 11) (T := TX1) X hxo (fun _ _ _ _ h => h.1) hC lw_good (Nat.le_refl _) (mm_lo d) rfl (by decide) tw_47 tw_48 tw_30 rfl (by decide) tw_49 tw_50 (by decide +kernel) (by decide +kernel) ?_
    exact so_rtv (pc := 113) X hlk hfree hr (by decide +kernel)
  | n + 6 => exact fun _ _ _ _ h => h.elim
theorem bs_X1_read {l : Launch} {D : va_G} {EXT : (Nat → Nat) → (Nat → Prop) → State → Heap → Prop} (hxo : mm_xo EXT) (hxe : ∀ ad A U H, EXT ad A U H → px_E0 ad A U H) : mm_BS l D pcl lw_T EXT px_tab 4 pb_X1_read pp_X1_read := by
  intro d C hC p e s m args below meth c A ad0 cA0 μ0 free Q J
  rw [tb_4]
  exact fun X hr hlk hnm hfree hJ => bk_X1_read hxo hxe hC X hr hlk hnm hfree hJ
set_option maxHeartbeats 4000000 in
set_option maxRecDepth 100000 in
theorem bk_X1_faultOfToken {l : Launch} {D : va_G} {EXT : (Nat → Nat) → (Nat → Prop) → State → Heap → Prop} (hxo : mm_xo EXT) (hxe : ∀ ad A U H, EXT ad A U H → px_E0 ad A U H) {d : Nat} {C : mm_C} (hC : mm_CS l D pcl lw_T EXT px_tab d C) {p : Program} {e : Env} {s : State} {m : MethodId} {args : Array Value} {below : List Frame} {meth : Method} {c : Code} {A : Nat → Prop} {ad0 : Nat → Nat} {cA0 : Nat → ClassId} {μ0 : mm_M} {free : Addr → Prop} {Q : mm_Q} {J : mm_J} (X : mm_cx p (mm_rm (d + 1) 0 0) s m args c cX1_faultOfToken RX1 lw_T A D pcl 4) (hr : meth.sig.returnType = some .int) (hlk : meth.locks = false) (hnm : meth.name = "faultOfToken") (hfree : ∀ q, A q → free q) (hJ : ∀ t, mm_SK p l e (mm_rm (d + 1) 0 0) s m args below meth c (MQ below (mm_Qc D pcl Q ad0 cA0 μ0 0 A) args s 0 0 free) D pcl A 4 (mm_EX EXT A s ad0 cA0 (mm_n μ0)) (pp_X1_faultOfToken t) (J t)) : ∀ t, mm_SK p l e (mm_rm (d + 1) 0 0) s m args below meth c (MQ below (mm_Qc D pcl Q ad0 cA0 μ0 0 A) args s 0 0 free) D pcl A 4 (mm_EX EXT A s ad0 cA0 (mm_n μ0)) (pp_X1_faultOfToken t) (pb_X1_faultOfToken J C Q t) := by
  intro t
  match t with
  | 0 =>
    refine so_aload_n (pc := 0) (i := 0) X (by decide +kernel) ?_
    refine so_geti (pc := 1) (index := 45) (ci := 1) (f := 4) (N := 11) (C := RX1) (T := TX1) X rfl uX1 (by decide) (by decide) tw_33 rfl (by decide) (by decide +kernel) ?_
    refine so_iconst (pc := 4) (n := 1) (v := 1) X (by decide +kernel) (by decide) ?_
    refine so_icmp_ne (pc := 5) (off := 5) (tgt := 10) X (by decide +kernel) (by decide) (hJ 1) ?_
    refine so_iconst (pc := 8) (n := 1) (v := 1) X (by decide +kernel) (by decide) ?_
    exact so_ret (pc := 9) X hlk hfree hr (by decide +kernel)
  | 1 =>
    refine so_iload_n (pc := 10) (i := 2) X (by decide +kernel) ?_
    refine so_iconst (pc := 11) (n := (-1)) (v := (-1)) X (by decide +kernel) (by decide) ?_
    refine so_icmp_ne (pc := 12) (off := 5) (tgt := 17) X (by decide +kernel) (by decide) (hJ 2) ?_
    refine so_iconst (pc := 15) (n := 2) (v := 2) X (by decide +kernel) (by decide) ?_
    exact so_ret (pc := 16) X hlk hfree hr (by decide +kernel)
  | 2 =>
    refine so_aload_n (pc := 17) (i := 0) X (by decide +kernel) ?_
    refine so_geti (pc := 18) (index := 45) (ci := 1) (f := 4) (N := 11) (C := RX1) (T := TX1) X rfl uX1 (by decide) (by decide) tw_33 rfl (by decide) (by decide +kernel) ?_
    refine so_bipush (pc := 21) (n := 6) (v := 6) X (by decide +kernel) (by decide) ?_
    refine so_icmp_eq (pc := 23) (off := 12) (tgt := 35) X (by decide +kernel) (by decide) (hJ 3) ?_
    refine so_aload_n (pc := 26) (i := 0) X (by decide +kernel) ?_
    refine so_geti (pc := 27) (index := 45) (ci := 1) (f := 4) (N := 11) (C := RX1) (T := TX1) X rfl uX1 (by decide) (by decide) tw_33 rfl (by decide) (by decide +kernel) ?_
    refine so_bipush (pc := 30) (n := 10) (v := 10) X (by decide +kernel) (by decide) ?_
    refine so_icmp_ne (pc := 32) (off := 16) (tgt := 48) X (by decide +kernel) (by decide) (hJ 4) ?_
    exact so_fall X (hJ 3)
  | 3 =>
    refine so_aload_n (pc := 35) (i := 0) X (by decide +kernel) ?_
    refine so_geti (pc := 36) (index := 29) (ci := 1) (f := 7) (N := 11) (C := RX1) (T := TX1) X rfl uX1 (by decide) (by decide) tw_24 rfl (by decide) (by decide +kernel) ?_
    refine so_bipush (pc := 39) (n := 12) (v := 12) X (by decide +kernel) (by decide) ?_
    refine so_icmp_lt (pc := 41) (off := 7) (tgt := 48) X (by decide +kernel) (by decide) (hJ 4) ?_
    refine so_iconst (pc := 44) (n := 1) (v := 1) X (by decide +kernel) (by decide) ?_
    exact so_goto (pc := 45) (off := 4) (tgt := 49) X (by decide +kernel) (by decide) (hJ 5)
  | 4 =>
    refine so_iconst (pc := 48) (n := 0) (v := 0) X (by decide +kernel) (by decide) ?_
    exact so_fall X (hJ 5)
  | 5 =>
    refine so_istore_n (pc := 49) (i := 3) X (by decide +kernel) (by decide) ?_
    refine so_iload_n (pc := 50) (i := 3) X (by decide +kernel) ?_
    refine so_if_ne (pc := 51) (off := 16) (tgt := 67) X (by decide +kernel) (by decide) (hJ 6) ?_
    refine so_aload_n (pc := 54) (i := 0) X (by decide +kernel) ?_
    refine so_geti (pc := 55) (index := 45) (ci := 1) (f := 4) (N := 11) (C := RX1) (T := TX1) X rfl uX1 (by decide) (by decide) tw_33 rfl (by decide) (by decide +kernel) ?_
    refine so_if_eq (pc := 58) (off := 13) (tgt := 71) X (by decide +kernel) (by decide) (hJ 7) ?_
    refine so_iload_n (pc := 61) (i := 1) X (by decide +kernel) ?_
    refine so_bipush (pc := 62) (n := 60) (v := 60) X (by decide +kernel) (by decide) ?_
    refine so_icmp_le (pc := 64) (off := 7) (tgt := 71) X (by decide +kernel) (by decide) (hJ 7) ?_
    exact so_fall X (hJ 6)
  | 6 =>
    refine so_iconst (pc := 67) (n := 3) (v := 3) X (by decide +kernel) (by decide) ?_
    exact so_goto (pc := 68) (off := 4) (tgt := 72) X (by decide +kernel) (by decide) (hJ 8)
  | 7 =>
    refine so_iconst (pc := 71) (n := 0) (v := 0) X (by decide +kernel) (by decide) ?_
    exact so_fall X (hJ 8)
  | 8 =>
    exact so_ret (pc := 72) X hlk hfree hr (by decide +kernel)
  | n + 9 => exact fun _ _ _ _ h => h.elim
theorem bs_X1_faultOfToken {l : Launch} {D : va_G} {EXT : (Nat → Nat) → (Nat → Prop) → State → Heap → Prop} (hxo : mm_xo EXT) (hxe : ∀ ad A U H, EXT ad A U H → px_E0 ad A U H) : mm_BS l D pcl lw_T EXT px_tab 5 pb_X1_faultOfToken pp_X1_faultOfToken := by
  intro d C hC p e s m args below meth c A ad0 cA0 μ0 free Q J
  rw [tb_5]
  exact fun X hr hlk hnm hfree hJ => bk_X1_faultOfToken hxo hxe hC X hr hlk hnm hfree hJ
set_option maxHeartbeats 4000000 in
set_option maxRecDepth 100000 in
theorem bk_X1_scan {l : Launch} {D : va_G} {EXT : (Nat → Nat) → (Nat → Prop) → State → Heap → Prop} (hxo : mm_xo EXT) (hxe : ∀ ad A U H, EXT ad A U H → px_E0 ad A U H) {d : Nat} {C : mm_C} (hC : mm_CS l D pcl lw_T EXT px_tab d C) {p : Program} {e : Env} {s : State} {m : MethodId} {args : Array Value} {below : List Frame} {meth : Method} {c : Code} {A : Nat → Prop} {ad0 : Nat → Nat} {cA0 : Nat → ClassId} {μ0 : mm_M} {free : Addr → Prop} {Q : mm_Q} {J : mm_J} (X : mm_cx p (mm_rm (d + 1) 0 0) s m args c cX1_scan RX1 lw_T A D pcl 3) (hr : meth.sig.returnType = none) (hlk : meth.locks = false) (hnm : meth.name = "scan") (hfree : ∀ q, A q → free q) (hJ : ∀ t, mm_SK p l e (mm_rm (d + 1) 0 0) s m args below meth c (MQ below (mm_Qc D pcl Q ad0 cA0 μ0 0 A) args s 0 0 free) D pcl A 3 (mm_EX EXT A s ad0 cA0 (mm_n μ0)) (pp_X1_scan t) (J t)) : ∀ t, mm_SK p l e (mm_rm (d + 1) 0 0) s m args below meth c (MQ below (mm_Qc D pcl Q ad0 cA0 μ0 0 A) args s 0 0 free) D pcl A 3 (mm_EX EXT A s ad0 cA0 (mm_n μ0)) (pp_X1_scan t) (pb_X1_scan J C Q t) := by
  intro t
  match t with
  | 0 =>
    refine so_aload_n (pc := 0) (i := 0) X (by decide +kernel) ?_
    refine so_aload_n (pc := 1) (i := 0) X (by decide +kernel) ?_
    refine so_geti (pc := 2) (index := 38) (ci := 1) (f := 3) (N := 11) (C := RX1) (T := TX1) X rfl uX1 (by decide) (by decide) tw_27 rfl (by decide) (by decide +kernel) ?_
    refine so_puti (pc := 5) (index := 66) (ci := 1) (f := 2) (N := 11) (C := RX1) (T := TX1) X rfl uX1 (by decide) (by decide) tw_51 tyX1 tyX1_ok nmX1 rfl (by decide +kernel) rfl (by decide +kernel) ?_
    exact so_fall X (hJ 1)
  | 1 =>
    refine so_aload_n (pc := 8) (i := 0) X (by decide +kernel) ?_
    refine so_geti (pc := 9) (index := 66) (ci := 1) (f := 2) (N := 11) (C := RX1) (T := TX1) X rfl uX1 (by decide) (by decide) tw_51 rfl (by decide) (by decide +kernel) ?_
    refine so_iload_n (pc := 12) (i := 2) X (by decide +kernel) ?_
    refine so_icmp_ge (pc := 13) (off := 27) (tgt := 40) X (by decide +kernel) (by decide) (hJ 2) ?_
    refine so_aload_n (pc := 16) (i := 1) X (by decide +kernel) ?_
    refine so_aload_n (pc := 17) (i := 0) X (by decide +kernel) ?_
    refine so_geti (pc := 18) (index := 66) (ci := 1) (f := 2) (N := 11) (C := RX1) (T := TX1) X rfl uX1 (by decide) (by decide) tw_51 rfl (by decide) (by decide +kernel) ?_
    refine so_iald (pc := 21) X (by decide +kernel) ?_
    refine so_bipush (pc := 22) (n := 32) (v := 32) X (by decide +kernel) (by decide) ?_
    refine so_icmp_ne (pc := 24) (off := 16) (tgt := 40) X (by decide +kernel) (by decide) (hJ 2) ?_
    refine so_aload_n (pc := 27) (i := 0) X (by decide +kernel) ?_
    refine so_dup (pc := 28) X (by decide +kernel) ?_
    refine so_geti (pc := 29) (index := 66) (ci := 1) (f := 2) (N := 11) (C := RX1) (T := TX1) X rfl uX1 (by decide) (by decide) tw_51 rfl (by decide) (by decide +kernel) ?_
    refine so_iconst (pc := 32) (n := 1) (v := 1) X (by decide +kernel) (by decide) ?_
    refine so_iadd (pc := 33) X (by decide +kernel) ?_
    refine so_puti (pc := 34) (index := 66) (ci := 1) (f := 2) (N := 11) (C := RX1) (T := TX1) X rfl uX1 (by decide) (by decide) tw_51 tyX1 tyX1_ok nmX1 rfl (by decide +kernel) rfl (by decide +kernel) ?_
    exact so_goto (pc := 37) (off := (-29)) (tgt := 8) X (by decide +kernel) (by decide) (hJ 1)
  | 2 =>
    refine so_aload_n (pc := 40) (i := 0) X (by decide +kernel) ?_
    refine so_iconst (pc := 41) (n := 0) (v := 0) X (by decide +kernel) (by decide) ?_
    refine so_puti (pc := 42) (index := 69) (ci := 1) (f := 5) (N := 11) (C := RX1) (T := TX1) X rfl uX1 (by decide) (by decide) tw_52 tyX1 tyX1_ok nmX1 rfl (by decide +kernel) rfl (by decide +kernel) ?_
    refine so_aload_n (pc := 45) (i := 0) X (by decide +kernel) ?_
    refine so_aload_n (pc := 46) (i := 0) X (by decide +kernel) ?_
    refine so_geti (pc := 47) (index := 66) (ci := 1) (f := 2) (N := 11) (C := RX1) (T := TX1) X rfl uX1 (by decide) (by decide) tw_51 rfl (by decide) (by decide +kernel) ?_
    refine so_iconst (pc := 50) (n := 1) (v := 1) X (by decide +kernel) (by decide) ?_
    refine so_iadd (pc := 51) X (by decide +kernel) ?_
    refine so_puti (pc := 52) (index := 38) (ci := 1) (f := 3) (N := 11) (C := RX1) (T := TX1) X rfl uX1 (by decide) (by decide) tw_27 tyX1 tyX1_ok nmX1 rfl (by decide +kernel) rfl (by decide +kernel) ?_
    refine so_aload_n (pc := 55) (i := 0) X (by decide +kernel) ?_
    refine so_geti (pc := 56) (index := 66) (ci := 1) (f := 2) (N := 11) (C := RX1) (T := TX1) X rfl uX1 (by decide) (by decide) tw_51 rfl (by decide) (by decide +kernel) ?_
    refine so_iload_n (pc := 59) (i := 2) X (by decide +kernel) ?_
    refine so_icmp_lt (pc := 60) (off := 11) (tgt := 71) X (by decide +kernel) (by decide) (hJ 3) ?_
    refine so_aload_n (pc := 63) (i := 0) X (by decide +kernel) ?_
    refine so_iconst (pc := 64) (n := 0) (v := 0) X (by decide +kernel) (by decide) ?_
    refine so_puti (pc := 65) (index := 45) (ci := 1) (f := 4) (N := 11) (C := RX1) (T := TX1) X rfl uX1 (by decide) (by decide) tw_33 tyX1 tyX1_ok nmX1 rfl (by decide +kernel) rfl (by decide +kernel) ?_
    exact so_goto (pc := 68) (off := 58) (tgt := 126) X (by decide +kernel) (by decide) (hJ 6)
  | 3 =>
    refine so_aload_n (pc := 71) (i := 1) X (by decide +kernel) ?_
    refine so_aload_n (pc := 72) (i := 0) X (by decide +kernel) ?_
    refine so_geti (pc := 73) (index := 66) (ci := 1) (f := 2) (N := 11) (C := RX1) (T := TX1) X rfl uX1 (by decide) (by decide) tw_51 rfl (by decide) (by decide +kernel) ?_
    refine so_iald (pc := 76) X (by decide +kernel) ?_
    refine so_cas (pc := 77) (y := 10) (na := 1) (index := 72) (maxL := 1) (nm := yX1_isLetter) (bytes := cX1_isLetter) (ret := (some .boolean)) X hxo (fun _ _ _ _ h => h.1) hC lw_good (Nat.le_refl _) (mm_lo d) rfl (by decide) tw_53 tw_54 tw_30 tw_55 (by decide +kernel) (by decide +kernel) ?_
    refine so_if_eq (pc := 80) (off := 12) (tgt := 92) X (by decide +kernel) (by decide) (hJ 4) ?_
    refine so_aload_n (pc := 83) (i := 0) X (by decide +kernel) ?_
    refine so_aload_n (pc := 84) (i := 1) X (by decide +kernel) ?_
    refine so_iload_n (pc := 85) (i := 2) X (by decide +kernel) ?_
    refine so_cav (pc := 86) (y := 7) (na := 3) (index := 76) (maxL := 3) (nm := yX1_scanWord) (bytes := cX1_scanWord) (ret := none) (ci := 1) (N := 11) (T := TX1) X hxo (fun _ _ _ _ h => h.1) hC lw_good (Nat.le_refl _) (mm_lo d) rfl (by decide) tw_56 tw_57 tw_30 rfl (by decide) tw_58 tw_59 (by decide +kernel) (by decide +kernel) ?_
    exact so_goto (pc := 89) (off := 37) (tgt := 126) X (by decide +kernel) (by decide) (hJ 6)
  | 4 =>
    refine so_aload_n (pc := 92) (i := 1) X (by decide +kernel) ?_
    refine so_aload_n (pc := 93) (i := 0) X (by decide +kernel) ?_
    refine so_geti (pc := 94) (index := 66) (ci := 1) (f := 2) (N := 11) (C := RX1) (T := TX1) X rfl uX1 (by decide) (by decide) tw_51 rfl (by decide) (by decide +kernel) ?_
    refine so_iald (pc := 97) X (by decide +kernel) ?_
    refine so_cas (pc := 98) (y := 11) (na := 1) (index := 79) (maxL := 1) (nm := yX1_isFigure) (bytes := cX1_isFigure) (ret := (some .boolean)) X hxo (fun _ _ _ _ h => h.1) hC lw_good (Nat.le_refl _) (mm_lo d) rfl (by decide) tw_60 tw_61 tw_30 tw_62 (by decide +kernel) (by decide +kernel) ?_
    refine so_if_eq (pc := 101) (off := 12) (tgt := 113) X (by decide +kernel) (by decide) (hJ 5) ?_
    refine so_aload_n (pc := 104) (i := 0) X (by decide +kernel) ?_
    refine so_aload_n (pc := 105) (i := 1) X (by decide +kernel) ?_
    refine so_iload_n (pc := 106) (i := 2) X (by decide +kernel) ?_
    refine so_cav (pc := 107) (y := 9) (na := 3) (index := 82) (maxL := 3) (nm := yX1_scanNumber) (bytes := cX1_scanNumber) (ret := none) (ci := 1) (N := 11) (T := TX1) X hxo (fun _ _ _ _ h => h.1) hC lw_good (Nat.le_refl _) (mm_lo d) rfl (by decide) tw_63 tw_64 tw_30 rfl (by decide) tw_65 tw_66 (by decide +kernel) (by decide +kernel) ?_
    exact so_goto (pc := 110) (off := 16) (tgt := 126) X (by decide +kernel) (by decide) (hJ 6)
  | 5 =>
    refine so_aload_n (pc := 113) (i := 0) X (by decide +kernel) ?_
    refine so_aload_n (pc := 114) (i := 1) X (by decide +kernel) ?_
    refine so_aload_n (pc := 115) (i := 0) X (by decide +kernel) ?_
    refine so_geti (pc := 116) (index := 66) (ci := 1) (f := 2) (N := 11) (C := RX1) (T := TX1) X rfl uX1 (by decide) (by decide) tw_51 rfl (by decide) (by decide +kernel) ?_
    refine so_iald (pc := 119) X (by decide +kernel) ?_
    refine so_cas (pc := 120) (y := 12) (na := 1) (index := 85) (maxL := 1) (nm := yX1_kindOfSign) (bytes := cX1_kindOfSign) (ret := (some .int)) X hxo (fun _ _ _ _ h => h.1) hC lw_good (Nat.le_refl _) (mm_lo d) rfl (by decide) tw_67 tw_68 tw_30 tw_69 (by decide +kernel) (by decide +kernel) ?_
    refine so_puti (pc := 123) (index := 45) (ci := 1) (f := 4) (N := 11) (C := RX1) (T := TX1) X rfl uX1 (by decide) (by decide) tw_33 tyX1 tyX1_ok nmX1 rfl (by decide +kernel) rfl (by decide +kernel) ?_
    exact so_fall X (hJ 6)
  | 6 =>
    exact so_rtv (pc := 126) X hlk hfree hr (by decide +kernel)
  | n + 7 => exact fun _ _ _ _ h => h.elim
theorem bs_X1_scan {l : Launch} {D : va_G} {EXT : (Nat → Nat) → (Nat → Prop) → State → Heap → Prop} (hxo : mm_xo EXT) (hxe : ∀ ad A U H, EXT ad A U H → px_E0 ad A U H) : mm_BS l D pcl lw_T EXT px_tab 6 pb_X1_scan pp_X1_scan := by
  intro d C hC p e s m args below meth c A ad0 cA0 μ0 free Q J
  rw [tb_6]
  exact fun X hr hlk hnm hfree hJ => bk_X1_scan hxo hxe hC X hr hlk hnm hfree hJ
set_option maxHeartbeats 4000000 in
set_option maxRecDepth 100000 in
theorem bk_X1_scanWord {l : Launch} {D : va_G} {EXT : (Nat → Nat) → (Nat → Prop) → State → Heap → Prop} (hxo : mm_xo EXT) (hxe : ∀ ad A U H, EXT ad A U H → px_E0 ad A U H) {d : Nat} {C : mm_C} (hC : mm_CS l D pcl lw_T EXT px_tab d C) {p : Program} {e : Env} {s : State} {m : MethodId} {args : Array Value} {below : List Frame} {meth : Method} {c : Code} {A : Nat → Prop} {ad0 : Nat → Nat} {cA0 : Nat → ClassId} {μ0 : mm_M} {free : Addr → Prop} {Q : mm_Q} {J : mm_J} (X : mm_cx p (mm_rm (d + 1) 0 0) s m args c cX1_scanWord RX1 lw_T A D pcl 3) (hr : meth.sig.returnType = none) (hlk : meth.locks = false) (hnm : meth.name = "scanWord") (hfree : ∀ q, A q → free q) (hJ : ∀ t, mm_SK p l e (mm_rm (d + 1) 0 0) s m args below meth c (MQ below (mm_Qc D pcl Q ad0 cA0 μ0 0 A) args s 0 0 free) D pcl A 3 (mm_EX EXT A s ad0 cA0 (mm_n μ0)) (pp_X1_scanWord t) (J t)) : ∀ t, mm_SK p l e (mm_rm (d + 1) 0 0) s m args below meth c (MQ below (mm_Qc D pcl Q ad0 cA0 μ0 0 A) args s 0 0 free) D pcl A 3 (mm_EX EXT A s ad0 cA0 (mm_n μ0)) (pp_X1_scanWord t) (pb_X1_scanWord J C Q t) := by
  intro t
  match t with
  | 0 =>
    refine so_aload_n (pc := 0) (i := 0) X (by decide +kernel) ?_
    refine so_geti (pc := 1) (index := 38) (ci := 1) (f := 3) (N := 11) (C := RX1) (T := TX1) X rfl uX1 (by decide) (by decide) tw_27 rfl (by decide) (by decide +kernel) ?_
    refine so_iload_n (pc := 4) (i := 2) X (by decide +kernel) ?_
    refine so_icmp_ge (pc := 5) (off := 28) (tgt := 33) X (by decide +kernel) (by decide) (hJ 1) ?_
    refine so_aload_n (pc := 8) (i := 1) X (by decide +kernel) ?_
    refine so_aload_n (pc := 9) (i := 0) X (by decide +kernel) ?_
    refine so_geti (pc := 10) (index := 38) (ci := 1) (f := 3) (N := 11) (C := RX1) (T := TX1) X rfl uX1 (by decide) (by decide) tw_27 rfl (by decide) (by decide +kernel) ?_
    refine so_iald (pc := 13) X (by decide +kernel) ?_
    refine so_cas (pc := 14) (y := 10) (na := 1) (index := 72) (maxL := 1) (nm := yX1_isLetter) (bytes := cX1_isLetter) (ret := (some .boolean)) X hxo (fun _ _ _ _ h => h.1) hC lw_good (Nat.le_refl _) (mm_lo d) rfl (by decide) tw_53 tw_54 tw_30 tw_55 (by decide +kernel) (by decide +kernel) ?_
    refine so_if_eq (pc := 17) (off := 16) (tgt := 33) X (by decide +kernel) (by decide) (hJ 1) ?_
    refine so_aload_n (pc := 20) (i := 0) X (by decide +kernel) ?_
    refine so_dup (pc := 21) X (by decide +kernel) ?_
    refine so_geti (pc := 22) (index := 38) (ci := 1) (f := 3) (N := 11) (C := RX1) (T := TX1) X rfl uX1 (by decide) (by decide) tw_27 rfl (by decide) (by decide +kernel) ?_
    refine so_iconst (pc := 25) (n := 1) (v := 1) X (by decide +kernel) (by decide) ?_
    refine so_iadd (pc := 26) X (by decide +kernel) ?_
    refine so_puti (pc := 27) (index := 38) (ci := 1) (f := 3) (N := 11) (C := RX1) (T := TX1) X rfl uX1 (by decide) (by decide) tw_27 tyX1 tyX1_ok nmX1 rfl (by decide +kernel) rfl (by decide +kernel) ?_
    exact so_goto (pc := 30) (off := (-30)) (tgt := 0) X (by decide +kernel) (by decide) (hJ 0)
  | 1 =>
    refine so_aload_n (pc := 33) (i := 0) X (by decide +kernel) ?_
    refine so_geti (pc := 34) (index := 38) (ci := 1) (f := 3) (N := 11) (C := RX1) (T := TX1) X rfl uX1 (by decide) (by decide) tw_27 rfl (by decide) (by decide +kernel) ?_
    refine so_aload_n (pc := 37) (i := 0) X (by decide +kernel) ?_
    refine so_geti (pc := 38) (index := 66) (ci := 1) (f := 2) (N := 11) (C := RX1) (T := TX1) X rfl uX1 (by decide) (by decide) tw_51 rfl (by decide) (by decide +kernel) ?_
    refine so_isub (pc := 41) X (by decide +kernel) ?_
    refine so_iconst (pc := 42) (n := 1) (v := 1) X (by decide +kernel) (by decide) ?_
    refine so_icmp_ne (pc := 43) (off := 35) (tgt := 78) X (by decide +kernel) (by decide) (hJ 2) ?_
    refine so_aload_n (pc := 46) (i := 1) X (by decide +kernel) ?_
    refine so_aload_n (pc := 47) (i := 0) X (by decide +kernel) ?_
    refine so_geti (pc := 48) (index := 66) (ci := 1) (f := 2) (N := 11) (C := RX1) (T := TX1) X rfl uX1 (by decide) (by decide) tw_51 rfl (by decide) (by decide +kernel) ?_
    refine so_iald (pc := 51) X (by decide +kernel) ?_
    refine so_bipush (pc := 52) (n := 101) (v := 101) X (by decide +kernel) (by decide) ?_
    refine so_icmp_ge (pc := 54) (off := 24) (tgt := 78) X (by decide +kernel) (by decide) (hJ 2) ?_
    refine so_aload_n (pc := 57) (i := 0) X (by decide +kernel) ?_
    refine so_iconst (pc := 58) (n := 3) (v := 3) X (by decide +kernel) (by decide) ?_
    refine so_puti (pc := 59) (index := 45) (ci := 1) (f := 4) (N := 11) (C := RX1) (T := TX1) X rfl uX1 (by decide) (by decide) tw_33 tyX1 tyX1_ok nmX1 rfl (by decide +kernel) rfl (by decide +kernel) ?_
    refine so_aload_n (pc := 62) (i := 0) X (by decide +kernel) ?_
    refine so_aload_n (pc := 63) (i := 1) X (by decide +kernel) ?_
    refine so_aload_n (pc := 64) (i := 0) X (by decide +kernel) ?_
    refine so_geti (pc := 65) (index := 66) (ci := 1) (f := 2) (N := 11) (C := RX1) (T := TX1) X rfl uX1 (by decide) (by decide) tw_51 rfl (by decide) (by decide +kernel) ?_
    refine so_iald (pc := 68) X (by decide +kernel) ?_
    refine so_bipush (pc := 69) (n := 97) (v := 97) X (by decide +kernel) (by decide) ?_
    refine so_isub (pc := 71) X (by decide +kernel) ?_
    refine so_puti (pc := 72) (index := 69) (ci := 1) (f := 5) (N := 11) (C := RX1) (T := TX1) X rfl uX1 (by decide) (by decide) tw_52 tyX1 tyX1_ok nmX1 rfl (by decide +kernel) rfl (by decide +kernel) ?_
    exact so_goto (pc := 75) (off := 101) (tgt := 176) X (by decide +kernel) (by decide) (hJ 8)
  | 2 =>
    refine so_aload_n (pc := 78) (i := 0) X (by decide +kernel) ?_
    refine so_aload_n (pc := 79) (i := 1) X (by decide +kernel) ?_
    refine so_lds (pc := 80) (index := 89) X (fun _ _ _ _ h => px_S (hxe _ _ _ _ h.1) 0 (by decide)) (by decide +kernel) ?_
    refine so_cav (pc := 82) (y := 8) (na := 3) (index := 91) (maxL := 4) (nm := yX1_isSpelled) (bytes := cX1_isSpelled) (ret := (some .boolean)) (ci := 1) (N := 11) (T := TX1) X hxo (fun _ _ _ _ h => h.1) hC lw_good (Nat.le_refl _) (mm_lo d) rfl (by decide) tw_70 tw_71 tw_30 rfl (by decide) tw_72 tw_73 (by decide +kernel) (by decide +kernel) ?_
    refine so_if_eq (pc := 85) (off := 12) (tgt := 97) X (by decide +kernel) (by decide) (hJ 3) ?_
    refine so_aload_n (pc := 88) (i := 0) X (by decide +kernel) ?_
    refine so_bipush (pc := 89) (n := 9) (v := 9) X (by decide +kernel) (by decide) ?_
    refine so_puti (pc := 91) (index := 45) (ci := 1) (f := 4) (N := 11) (C := RX1) (T := TX1) X rfl uX1 (by decide) (by decide) tw_33 tyX1 tyX1_ok nmX1 rfl (by decide +kernel) rfl (by decide +kernel) ?_
    exact so_goto (pc := 94) (off := 82) (tgt := 176) X (by decide +kernel) (by decide) (hJ 8)
  | 3 =>
    refine so_aload_n (pc := 97) (i := 0) X (by decide +kernel) ?_
    refine so_aload_n (pc := 98) (i := 1) X (by decide +kernel) ?_
    refine so_lds (pc := 99) (index := 95) X (fun _ _ _ _ h => px_S (hxe _ _ _ _ h.1) 1 (by decide)) (by decide +kernel) ?_
    refine so_cav (pc := 101) (y := 8) (na := 3) (index := 91) (maxL := 4) (nm := yX1_isSpelled) (bytes := cX1_isSpelled) (ret := (some .boolean)) (ci := 1) (N := 11) (T := TX1) X hxo (fun _ _ _ _ h => h.1) hC lw_good (Nat.le_refl _) (mm_lo d) rfl (by decide) tw_70 tw_71 tw_30 rfl (by decide) tw_72 tw_73 (by decide +kernel) (by decide +kernel) ?_
    refine so_if_eq (pc := 104) (off := 12) (tgt := 116) X (by decide +kernel) (by decide) (hJ 4) ?_
    refine so_aload_n (pc := 107) (i := 0) X (by decide +kernel) ?_
    refine so_bipush (pc := 108) (n := 8) (v := 8) X (by decide +kernel) (by decide) ?_
    refine so_puti (pc := 110) (index := 45) (ci := 1) (f := 4) (N := 11) (C := RX1) (T := TX1) X rfl uX1 (by decide) (by decide) tw_33 tyX1 tyX1_ok nmX1 rfl (by decide +kernel) rfl (by decide +kernel) ?_
    exact so_goto (pc := 113) (off := 63) (tgt := 176) X (by decide +kernel) (by decide) (hJ 8)
  | 4 =>
    refine so_aload_n (pc := 116) (i := 0) X (by decide +kernel) ?_
    refine so_aload_n (pc := 117) (i := 1) X (by decide +kernel) ?_
    refine so_lds (pc := 118) (index := 97) X (fun _ _ _ _ h => px_S (hxe _ _ _ _ h.1) 2 (by decide)) (by decide +kernel) ?_
    refine so_cav (pc := 120) (y := 8) (na := 3) (index := 91) (maxL := 4) (nm := yX1_isSpelled) (bytes := cX1_isSpelled) (ret := (some .boolean)) (ci := 1) (N := 11) (T := TX1) X hxo (fun _ _ _ _ h => h.1) hC lw_good (Nat.le_refl _) (mm_lo d) rfl (by decide) tw_70 tw_71 tw_30 rfl (by decide) tw_72 tw_73 (by decide +kernel) (by decide +kernel) ?_
    refine so_if_eq (pc := 123) (off := 12) (tgt := 135) X (by decide +kernel) (by decide) (hJ 5) ?_
    refine so_aload_n (pc := 126) (i := 0) X (by decide +kernel) ?_
    refine so_bipush (pc := 127) (n := 10) (v := 10) X (by decide +kernel) (by decide) ?_
    refine so_puti (pc := 129) (index := 45) (ci := 1) (f := 4) (N := 11) (C := RX1) (T := TX1) X rfl uX1 (by decide) (by decide) tw_33 tyX1 tyX1_ok nmX1 rfl (by decide +kernel) rfl (by decide +kernel) ?_
    exact so_goto (pc := 132) (off := 44) (tgt := 176) X (by decide +kernel) (by decide) (hJ 8)
  | 5 =>
    refine so_aload_n (pc := 135) (i := 0) X (by decide +kernel) ?_
    refine so_aload_n (pc := 136) (i := 1) X (by decide +kernel) ?_
    refine so_lds (pc := 137) (index := 99) X (fun _ _ _ _ h => px_S (hxe _ _ _ _ h.1) 3 (by decide)) (by decide +kernel) ?_
    refine so_cav (pc := 139) (y := 8) (na := 3) (index := 91) (maxL := 4) (nm := yX1_isSpelled) (bytes := cX1_isSpelled) (ret := (some .boolean)) (ci := 1) (N := 11) (T := TX1) X hxo (fun _ _ _ _ h => h.1) hC lw_good (Nat.le_refl _) (mm_lo d) rfl (by decide) tw_70 tw_71 tw_30 rfl (by decide) tw_72 tw_73 (by decide +kernel) (by decide +kernel) ?_
    refine so_if_eq (pc := 142) (off := 11) (tgt := 153) X (by decide +kernel) (by decide) (hJ 6) ?_
    refine so_aload_n (pc := 145) (i := 0) X (by decide +kernel) ?_
    refine so_iconst (pc := 146) (n := 4) (v := 4) X (by decide +kernel) (by decide) ?_
    refine so_puti (pc := 147) (index := 45) (ci := 1) (f := 4) (N := 11) (C := RX1) (T := TX1) X rfl uX1 (by decide) (by decide) tw_33 tyX1 tyX1_ok nmX1 rfl (by decide +kernel) rfl (by decide +kernel) ?_
    exact so_goto (pc := 150) (off := 26) (tgt := 176) X (by decide +kernel) (by decide) (hJ 8)
  | 6 =>
    refine so_aload_n (pc := 153) (i := 0) X (by decide +kernel) ?_
    refine so_aload_n (pc := 154) (i := 1) X (by decide +kernel) ?_
    refine so_lds (pc := 155) (index := 101) X (fun _ _ _ _ h => px_S (hxe _ _ _ _ h.1) 4 (by decide)) (by decide +kernel) ?_
    refine so_cav (pc := 157) (y := 8) (na := 3) (index := 91) (maxL := 4) (nm := yX1_isSpelled) (bytes := cX1_isSpelled) (ret := (some .boolean)) (ci := 1) (N := 11) (T := TX1) X hxo (fun _ _ _ _ h => h.1) hC lw_good (Nat.le_refl _) (mm_lo d) rfl (by decide) tw_70 tw_71 tw_30 rfl (by decide) tw_72 tw_73 (by decide +kernel) (by decide +kernel) ?_
    refine so_if_eq (pc := 160) (off := 11) (tgt := 171) X (by decide +kernel) (by decide) (hJ 7) ?_
    refine so_aload_n (pc := 163) (i := 0) X (by decide +kernel) ?_
    refine so_iconst (pc := 164) (n := 5) (v := 5) X (by decide +kernel) (by decide) ?_
    refine so_puti (pc := 165) (index := 45) (ci := 1) (f := 4) (N := 11) (C := RX1) (T := TX1) X rfl uX1 (by decide) (by decide) tw_33 tyX1 tyX1_ok nmX1 rfl (by decide +kernel) rfl (by decide +kernel) ?_
    exact so_goto (pc := 168) (off := 8) (tgt := 176) X (by decide +kernel) (by decide) (hJ 8)
  | 7 =>
    refine so_aload_n (pc := 171) (i := 0) X (by decide +kernel) ?_
    refine so_iconst (pc := 172) (n := 1) (v := 1) X (by decide +kernel) (by decide) ?_
    refine so_puti (pc := 173) (index := 45) (ci := 1) (f := 4) (N := 11) (C := RX1) (T := TX1) X rfl uX1 (by decide) (by decide) tw_33 tyX1 tyX1_ok nmX1 rfl (by decide +kernel) rfl (by decide +kernel) ?_
    exact so_fall X (hJ 8)
  | 8 =>
    exact so_rtv (pc := 176) X hlk hfree hr (by decide +kernel)
  | n + 9 => exact fun _ _ _ _ h => h.elim
theorem bs_X1_scanWord {l : Launch} {D : va_G} {EXT : (Nat → Nat) → (Nat → Prop) → State → Heap → Prop} (hxo : mm_xo EXT) (hxe : ∀ ad A U H, EXT ad A U H → px_E0 ad A U H) : mm_BS l D pcl lw_T EXT px_tab 7 pb_X1_scanWord pp_X1_scanWord := by
  intro d C hC p e s m args below meth c A ad0 cA0 μ0 free Q J
  rw [tb_7]
  exact fun X hr hlk hnm hfree hJ => bk_X1_scanWord hxo hxe hC X hr hlk hnm hfree hJ
set_option maxHeartbeats 4000000 in
set_option maxRecDepth 100000 in
theorem bk_X1_isSpelled {l : Launch} {D : va_G} {EXT : (Nat → Nat) → (Nat → Prop) → State → Heap → Prop} (hxo : mm_xo EXT) (hxe : ∀ ad A U H, EXT ad A U H → px_E0 ad A U H) {d : Nat} {C : mm_C} (hC : mm_CS l D pcl lw_T EXT px_tab d C) {p : Program} {e : Env} {s : State} {m : MethodId} {args : Array Value} {below : List Frame} {meth : Method} {c : Code} {A : Nat → Prop} {ad0 : Nat → Nat} {cA0 : Nat → ClassId} {μ0 : mm_M} {free : Addr → Prop} {Q : mm_Q} {J : mm_J} (X : mm_cx p (mm_rm (d + 1) 0 0) s m args c cX1_isSpelled RX1 lw_T A D pcl 4) (hr : meth.sig.returnType = some .boolean) (hlk : meth.locks = false) (hnm : meth.name = "isSpelled") (hfree : ∀ q, A q → free q) (hJ : ∀ t, mm_SK p l e (mm_rm (d + 1) 0 0) s m args below meth c (MQ below (mm_Qc D pcl Q ad0 cA0 μ0 0 A) args s 0 0 free) D pcl A 4 (mm_EX EXT A s ad0 cA0 (mm_n μ0)) (pp_X1_isSpelled t) (J t)) : ∀ t, mm_SK p l e (mm_rm (d + 1) 0 0) s m args below meth c (MQ below (mm_Qc D pcl Q ad0 cA0 μ0 0 A) args s 0 0 free) D pcl A 4 (mm_EX EXT A s ad0 cA0 (mm_n μ0)) (pp_X1_isSpelled t) (pb_X1_isSpelled J C Q t) := by
  intro t
  match t with
  | 0 =>
    refine so_aload_n (pc := 0) (i := 0) X (by decide +kernel) ?_
    refine so_geti (pc := 1) (index := 38) (ci := 1) (f := 3) (N := 11) (C := RX1) (T := TX1) X rfl uX1 (by decide) (by decide) tw_27 rfl (by decide) (by decide +kernel) ?_
    refine so_aload_n (pc := 4) (i := 0) X (by decide +kernel) ?_
    refine so_geti (pc := 5) (index := 66) (ci := 1) (f := 2) (N := 11) (C := RX1) (T := TX1) X rfl uX1 (by decide) (by decide) tw_51 rfl (by decide) (by decide +kernel) ?_
    refine so_isub (pc := 8) X (by decide +kernel) ?_
    refine so_aload_n (pc := 9) (i := 2) X (by decide +kernel) ?_
    refine so_css (pc := 10) (y := 159) (na := 1) (index := 103) (maxL := 1) (nm := yJ0_length_8abf5) (bytes := cJ0_length_8abf5) (ret := (some .int)) X hxo (fun _ _ _ _ h => h.1) hC lw_good (Nat.le_refl _) (mm_lo d) rfl (by decide) tw_74 tw_75 tw_76 (fun _ _ _ _ h => px_V (hxe _ _ _ _ h.1)) rfl tw_77 tw_78 (by decide +kernel) (by decide +kernel) ?_
    refine so_icmp_eq (pc := 13) (off := 5) (tgt := 18) X (by decide +kernel) (by decide) (hJ 1) ?_
    refine so_iconst (pc := 16) (n := 0) (v := 0) X (by decide +kernel) (by decide) ?_
    exact so_rtz (pc := 17) X hlk hfree hr (by decide +kernel)
  | 1 =>
    refine so_iconst (pc := 18) (n := 0) (v := 0) X (by decide +kernel) (by decide) ?_
    refine so_istore_n (pc := 19) (i := 3) X (by decide +kernel) (by decide) ?_
    exact so_fall X (hJ 2)
  | 2 =>
    refine so_iload_n (pc := 20) (i := 3) X (by decide +kernel) ?_
    refine so_aload_n (pc := 21) (i := 2) X (by decide +kernel) ?_
    refine so_css (pc := 22) (y := 159) (na := 1) (index := 103) (maxL := 1) (nm := yJ0_length_8abf5) (bytes := cJ0_length_8abf5) (ret := (some .int)) X hxo (fun _ _ _ _ h => h.1) hC lw_good (Nat.le_refl _) (mm_lo d) rfl (by decide) tw_74 tw_75 tw_76 (fun _ _ _ _ h => px_V (hxe _ _ _ _ h.1)) rfl tw_77 tw_78 (by decide +kernel) (by decide +kernel) ?_
    refine so_icmp_ge (pc := 25) (off := 27) (tgt := 52) X (by decide +kernel) (by decide) (hJ 4) ?_
    refine so_aload_n (pc := 28) (i := 1) X (by decide +kernel) ?_
    refine so_aload_n (pc := 29) (i := 0) X (by decide +kernel) ?_
    refine so_geti (pc := 30) (index := 66) (ci := 1) (f := 2) (N := 11) (C := RX1) (T := TX1) X rfl uX1 (by decide) (by decide) tw_51 rfl (by decide) (by decide +kernel) ?_
    refine so_iload_n (pc := 33) (i := 3) X (by decide +kernel) ?_
    refine so_iadd (pc := 34) X (by decide +kernel) ?_
    refine so_iald (pc := 35) X (by decide +kernel) ?_
    refine so_aload_n (pc := 36) (i := 2) X (by decide +kernel) ?_
    refine so_iload_n (pc := 37) (i := 3) X (by decide +kernel) ?_
    refine so_css (pc := 38) (y := 162) (na := 2) (index := 108) (maxL := 2) (nm := yJ0_charAt_5068e) (bytes := cJ0_charAt_5068e) (ret := (some .char)) X hxo (fun _ _ _ _ h => h.1) hC lw_good (Nat.le_refl _) (mm_lo d) rfl (by decide) tw_79 tw_80 tw_76 (fun _ _ _ _ h => px_V (hxe _ _ _ _ h.1)) rfl tw_81 tw_82 (by decide +kernel) (by decide +kernel) ?_
    refine so_icmp_eq (pc := 41) (off := 5) (tgt := 46) X (by decide +kernel) (by decide) (hJ 3) ?_
    refine so_iconst (pc := 44) (n := 0) (v := 0) X (by decide +kernel) (by decide) ?_
    exact so_rtz (pc := 45) X hlk hfree hr (by decide +kernel)
  | 3 =>
    refine so_iinc (pc := 46) (i := 3) (n := 1) (y := 1) X (by decide +kernel) (by decide) (by decide) ?_
    exact so_goto (pc := 49) (off := (-29)) (tgt := 20) X (by decide +kernel) (by decide) (hJ 2)
  | 4 =>
    refine so_iconst (pc := 52) (n := 1) (v := 1) X (by decide +kernel) (by decide) ?_
    exact so_rtz (pc := 53) X hlk hfree hr (by decide +kernel)
  | n + 5 => exact fun _ _ _ _ h => h.elim
theorem bs_X1_isSpelled {l : Launch} {D : va_G} {EXT : (Nat → Nat) → (Nat → Prop) → State → Heap → Prop} (hxo : mm_xo EXT) (hxe : ∀ ad A U H, EXT ad A U H → px_E0 ad A U H) : mm_BS l D pcl lw_T EXT px_tab 8 pb_X1_isSpelled pp_X1_isSpelled := by
  intro d C hC p e s m args below meth c A ad0 cA0 μ0 free Q J
  rw [tb_8]
  exact fun X hr hlk hnm hfree hJ => bk_X1_isSpelled hxo hxe hC X hr hlk hnm hfree hJ
