set_option maxHeartbeats 4000000 in
set_option maxRecDepth 100000 in
theorem bk_X7_cursor {l : Launch} {D : va_G} {EXT : (Nat → Nat) → (Nat → Prop) → State → Heap → Prop} (hxo : mm_xo EXT) (hxe : ∀ ad A U H, EXT ad A U H → px_E0 ad A U H) {d : Nat} {C : mm_C} (hC : mm_CS l D pcl lw_T EXT px_tab d C) {p : Program} {e : Env} {s : State} {m : MethodId} {args : Array Value} {below : List Frame} {meth : Method} {c : Code} {A : Nat → Prop} {ad0 : Nat → Nat} {cA0 : Nat → ClassId} {μ0 : mm_M} {free : Addr → Prop} {Q : mm_Q} {J : mm_J} (X : mm_cx p (mm_rm (d + 1) 0 0) s m args c cX7_cursor RX7 lw_T A D pcl 3) (hr : meth.sig.returnType = some .int) (hlk : meth.locks = false) (hnm : meth.name = "cursor") (hfree : ∀ q, A q → free q) (hJ : ∀ t, mm_SK p l e (mm_rm (d + 1) 0 0) s m args below meth c (MQ below (mm_Qc D pcl Q ad0 cA0 μ0 0 A) args s 0 0 free) D pcl A 3 (mm_EX EXT A s ad0 cA0 (mm_n μ0)) (pp_X7_cursor t) (J t)) : ∀ t, mm_SK p l e (mm_rm (d + 1) 0 0) s m args below meth c (MQ below (mm_Qc D pcl Q ad0 cA0 μ0 0 A) args s 0 0 free) D pcl A 3 (mm_EX EXT A s ad0 cA0 (mm_n μ0)) (pp_X7_cursor t) (pb_X7_cursor J C Q t) := by
  intro t
  match t with
  | 0 =>
    refine so_aload_n (pc := 0) (i := 0) X (by decide +kernel) ?_
    refine so_iconst (pc := 1) (n := 0) (v := 0) X (by decide +kernel) (by decide) ?_
    refine so_puti (pc := 2) (index := 62) (ci := 7) (f := 0) (N := 32) (C := RX7) (T := TX7) X rfl uX7 (by decide) (by decide) tw_391 tyX7 tyX7_ok nmX7 rfl (by decide +kernel) rfl (by decide +kernel) ?_
    refine so_aload_n (pc := 5) (i := 0) X (by decide +kernel) ?_
    refine so_iload_n (pc := 6) (i := 1) X (by decide +kernel) ?_
    refine so_cav (pc := 7) (y := 97) (na := 2) (index := 186) (maxL := 2) (nm := yX7_isUser) (bytes := cX7_isUser) (ret := (some .boolean)) (ci := 7) (N := 32) (T := TX7) X hxo (fun _ _ _ _ h => h.1) hC lw_good (Nat.le_refl _) (mm_lo d) rfl (by decide) tw_497 tw_498 tw_397 rfl (by decide) tw_499 tw_500 (by decide +kernel) (by decide +kernel) ?_
    refine so_if_ne (pc := 10) (off := 5) (tgt := 15) X (by decide +kernel) (by decide) (hJ 1) ?_
    refine so_iconst (pc := 13) (n := (-1)) (v := (-1)) X (by decide +kernel) (by decide) ?_
    exact so_ret (pc := 14) X hlk hfree hr (by decide +kernel)
  | 1 =>
    refine so_aload_n (pc := 15) (i := 0) X (by decide +kernel) ?_
    refine so_geti (pc := 16) (index := 199) (ci := 7) (f := 13) (N := 32) (C := RX7) (T := TX7) X rfl uX7 (by decide) (by decide) tw_513 rfl (by decide) (by decide +kernel) ?_
    refine so_sipush (pc := 19) (n := 150) (v := 150) X (by decide +kernel) (by decide) ?_
    refine so_icmp_ne (pc := 22) (off := 6) (tgt := 28) X (by decide +kernel) (by decide) (hJ 2) ?_
    refine so_bipush (pc := 25) (n := (-4)) (v := (-4)) X (by decide +kernel) (by decide) ?_
    exact so_ret (pc := 27) X hlk hfree hr (by decide +kernel)
  | 2 =>
    refine so_aload_n (pc := 28) (i := 0) X (by decide +kernel) ?_
    refine so_iload_n (pc := 29) (i := 1) X (by decide +kernel) ?_
    refine so_iconst (pc := 30) (n := 4) (v := 4) X (by decide +kernel) (by decide) ?_
    refine so_cav (pc := 31) (y := 135) (na := 3) (index := 209) (maxL := 3) (nm := yX7_query) (bytes := cX7_query) (ret := (some .int)) (ci := 7) (N := 32) (T := TX7) X hxo (fun _ _ _ _ h => h.1) hC lw_good (Nat.le_refl _) (mm_lo d) rfl (by decide) tw_522 tw_523 tw_397 rfl (by decide) tw_524 tw_525 (by decide +kernel) (by decide +kernel) ?_
    refine so_istore_n (pc := 34) (i := 2) X (by decide +kernel) (by decide) ?_
    refine so_iload_n (pc := 35) (i := 2) X (by decide +kernel) ?_
    refine so_if_eq (pc := 36) (off := 5) (tgt := 41) X (by decide +kernel) (by decide) (hJ 3) ?_
    refine so_iload_n (pc := 39) (i := 2) X (by decide +kernel) ?_
    exact so_ret (pc := 40) X hlk hfree hr (by decide +kernel)
  | 3 =>
    refine so_aload_n (pc := 41) (i := 0) X (by decide +kernel) ?_
    refine so_iconst (pc := 42) (n := 2) (v := 2) X (by decide +kernel) (by decide) ?_
    refine so_iload_n (pc := 43) (i := 1) X (by decide +kernel) ?_
    refine so_imul (pc := 44) X (by decide +kernel) ?_
    refine so_iconst (pc := 45) (n := 1) (v := 1) X (by decide +kernel) (by decide) ?_
    refine so_iadd (pc := 46) X (by decide +kernel) ?_
    refine so_cav (pc := 47) (y := 121) (na := 2) (index := 193) (maxL := 3) (nm := yX7_keep) (bytes := cX7_keep) (ret := none) (ci := 7) (N := 32) (T := TX7) X hxo (fun _ _ _ _ h => h.1) hC lw_good (Nat.le_refl _) (mm_lo d) rfl (by decide) tw_505 tw_506 tw_397 rfl (by decide) tw_507 tw_508 (by decide +kernel) (by decide +kernel) ?_
    refine so_aload_n (pc := 50) (i := 0) X (by decide +kernel) ?_
    refine so_getr (pc := 51) (index := 30) (ci := 7) (f := 10) (N := 32) (C := RX7) (T := TX7) X rfl uX7 (by decide) (by decide) tw_381 rfl (by decide +kernel) ?_
    refine so_iload_n (pc := 54) (i := 1) X (by decide +kernel) ?_
    refine so_iconst (pc := 55) (n := 1) (v := 1) X (by decide +kernel) (by decide) ?_
    refine so_zast (pc := 56) X (by decide +kernel) ?_
    refine so_aload_n (pc := 57) (i := 0) X (by decide +kernel) ?_
    refine so_getr (pc := 58) (index := 34) (ci := 7) (f := 11) (N := 32) (C := RX7) (T := TX7) X rfl uX7 (by decide) (by decide) tw_382 rfl (by decide +kernel) ?_
    refine so_iload_n (pc := 61) (i := 1) X (by decide +kernel) ?_
    refine so_iconst (pc := 62) (n := 0) (v := 0) X (by decide +kernel) (by decide) ?_
    refine so_iast (pc := 63) X (by decide +kernel) ?_
    refine so_iconst (pc := 64) (n := 1) (v := 1) X (by decide +kernel) (by decide) ?_
    exact so_ret (pc := 65) X hlk hfree hr (by decide +kernel)
  | n + 4 => exact fun _ _ _ _ h => h.elim
theorem bs_X7_cursor {l : Launch} {D : va_G} {EXT : (Nat → Nat) → (Nat → Prop) → State → Heap → Prop} (hxo : mm_xo EXT) (hxe : ∀ ad A U H, EXT ad A U H → px_E0 ad A U H) : mm_BS l D pcl lw_T EXT px_tab 139 pb_X7_cursor pp_X7_cursor := by
  intro d C hC p e s m args below meth c A ad0 cA0 μ0 free Q J
  rw [tb_139]
  exact fun X hr hlk hnm hfree hJ => bk_X7_cursor hxo hxe hC X hr hlk hnm hfree hJ
set_option maxHeartbeats 4000000 in
set_option maxRecDepth 100000 in
theorem bk_X7_step {l : Launch} {D : va_G} {EXT : (Nat → Nat) → (Nat → Prop) → State → Heap → Prop} (hxo : mm_xo EXT) (hxe : ∀ ad A U H, EXT ad A U H → px_E0 ad A U H) {d : Nat} {C : mm_C} (hC : mm_CS l D pcl lw_T EXT px_tab d C) {p : Program} {e : Env} {s : State} {m : MethodId} {args : Array Value} {below : List Frame} {meth : Method} {c : Code} {A : Nat → Prop} {ad0 : Nat → Nat} {cA0 : Nat → ClassId} {μ0 : mm_M} {free : Addr → Prop} {Q : mm_Q} {J : mm_J} (X : mm_cx p (mm_rm (d + 1) 0 0) s m args c cX7_step RX7 lw_T A D pcl 3) (hr : meth.sig.returnType = some .int) (hlk : meth.locks = false) (hnm : meth.name = "step") (hfree : ∀ q, A q → free q) (hJ : ∀ t, mm_SK p l e (mm_rm (d + 1) 0 0) s m args below meth c (MQ below (mm_Qc D pcl Q ad0 cA0 μ0 0 A) args s 0 0 free) D pcl A 3 (mm_EX EXT A s ad0 cA0 (mm_n μ0)) (pp_X7_step t) (J t)) : ∀ t, mm_SK p l e (mm_rm (d + 1) 0 0) s m args below meth c (MQ below (mm_Qc D pcl Q ad0 cA0 μ0 0 A) args s 0 0 free) D pcl A 3 (mm_EX EXT A s ad0 cA0 (mm_n μ0)) (pp_X7_step t) (pb_X7_step J C Q t) := by
  intro t
  match t with
  | 0 =>
    refine so_aload_n (pc := 0) (i := 0) X (by decide +kernel) ?_
    refine so_iconst (pc := 1) (n := 0) (v := 0) X (by decide +kernel) (by decide) ?_
    refine so_puti (pc := 2) (index := 62) (ci := 7) (f := 0) (N := 32) (C := RX7) (T := TX7) X rfl uX7 (by decide) (by decide) tw_391 tyX7 tyX7_ok nmX7 rfl (by decide +kernel) rfl (by decide +kernel) ?_
    refine so_aload_n (pc := 5) (i := 0) X (by decide +kernel) ?_
    refine so_iload_n (pc := 6) (i := 1) X (by decide +kernel) ?_
    refine so_cav (pc := 7) (y := 97) (na := 2) (index := 186) (maxL := 2) (nm := yX7_isUser) (bytes := cX7_isUser) (ret := (some .boolean)) (ci := 7) (N := 32) (T := TX7) X hxo (fun _ _ _ _ h => h.1) hC lw_good (Nat.le_refl _) (mm_lo d) rfl (by decide) tw_497 tw_498 tw_397 rfl (by decide) tw_499 tw_500 (by decide +kernel) (by decide +kernel) ?_
    refine so_if_ne (pc := 10) (off := 5) (tgt := 15) X (by decide +kernel) (by decide) (hJ 1) ?_
    refine so_iconst (pc := 13) (n := (-1)) (v := (-1)) X (by decide +kernel) (by decide) ?_
    exact so_ret (pc := 14) X hlk hfree hr (by decide +kernel)
  | 1 =>
    refine so_aload_n (pc := 15) (i := 0) X (by decide +kernel) ?_
    refine so_getr (pc := 16) (index := 30) (ci := 7) (f := 10) (N := 32) (C := RX7) (T := TX7) X rfl uX7 (by decide) (by decide) tw_381 rfl (by decide +kernel) ?_
    refine so_iload_n (pc := 19) (i := 1) X (by decide +kernel) ?_
    refine so_zald (pc := 20) X (by decide +kernel) ?_
    refine so_if_ne (pc := 21) (off := 6) (tgt := 27) X (by decide +kernel) (by decide) (hJ 2) ?_
    refine so_bipush (pc := 24) (n := (-5)) (v := (-5)) X (by decide +kernel) (by decide) ?_
    exact so_ret (pc := 26) X hlk hfree hr (by decide +kernel)
  | 2 =>
    refine so_aload_n (pc := 27) (i := 0) X (by decide +kernel) ?_
    refine so_geti (pc := 28) (index := 199) (ci := 7) (f := 13) (N := 32) (C := RX7) (T := TX7) X rfl uX7 (by decide) (by decide) tw_513 rfl (by decide) (by decide +kernel) ?_
    refine so_sipush (pc := 31) (n := 150) (v := 150) X (by decide +kernel) (by decide) ?_
    refine so_icmp_ne (pc := 34) (off := 6) (tgt := 40) X (by decide +kernel) (by decide) (hJ 3) ?_
    refine so_bipush (pc := 37) (n := (-4)) (v := (-4)) X (by decide +kernel) (by decide) ?_
    exact so_ret (pc := 39) X hlk hfree hr (by decide +kernel)
  | 3 =>
    refine so_aload_n (pc := 40) (i := 0) X (by decide +kernel) ?_
    refine so_iload_n (pc := 41) (i := 1) X (by decide +kernel) ?_
    refine so_iconst (pc := 42) (n := 2) (v := 2) X (by decide +kernel) (by decide) ?_
    refine so_iload_n (pc := 43) (i := 1) X (by decide +kernel) ?_
    refine so_imul (pc := 44) X (by decide +kernel) ?_
    refine so_iconst (pc := 45) (n := 1) (v := 1) X (by decide +kernel) (by decide) ?_
    refine so_iadd (pc := 46) X (by decide +kernel) ?_
    refine so_cav (pc := 47) (y := 128) (na := 3) (index := 206) (maxL := 5) (nm := yX7_isBarred) (bytes := cX7_isBarred) (ret := (some .boolean)) (ci := 7) (N := 32) (T := TX7) X hxo (fun _ _ _ _ h => h.1) hC lw_good (Nat.le_refl _) (mm_lo d) rfl (by decide) tw_518 tw_519 tw_397 rfl (by decide) tw_520 tw_521 (by decide +kernel) (by decide +kernel) ?_
    refine so_if_eq (pc := 50) (off := 15) (tgt := 65) X (by decide +kernel) (by decide) (hJ 4) ?_
    refine so_aload_n (pc := 53) (i := 0) X (by decide +kernel) ?_
    refine so_iload_n (pc := 54) (i := 1) X (by decide +kernel) ?_
    refine so_iconst (pc := 55) (n := 5) (v := 5) X (by decide +kernel) (by decide) ?_
    refine so_iconst (pc := 56) (n := 0) (v := 0) X (by decide +kernel) (by decide) ?_
    refine so_iconst (pc := 57) (n := 0) (v := 0) X (by decide +kernel) (by decide) ?_
    refine so_iconst (pc := 58) (n := 2) (v := 2) X (by decide +kernel) (by decide) ?_
    refine so_cav (pc := 59) (y := 134) (na := 6) (index := 202) (maxL := 6) (nm := yX7_note) (bytes := cX7_note) (ret := none) (ci := 7) (N := 32) (T := TX7) X hxo (fun _ _ _ _ h => h.1) hC lw_good (Nat.le_refl _) (mm_lo d) rfl (by decide) tw_514 tw_515 tw_397 rfl (by decide) tw_516 tw_517 (by decide +kernel) (by decide +kernel) ?_
    refine so_bipush (pc := 62) (n := (-6)) (v := (-6)) X (by decide +kernel) (by decide) ?_
    exact so_ret (pc := 64) X hlk hfree hr (by decide +kernel)
  | 4 =>
    refine so_aload_n (pc := 65) (i := 0) X (by decide +kernel) ?_
    refine so_iload_n (pc := 66) (i := 1) X (by decide +kernel) ?_
    refine so_iconst (pc := 67) (n := 5) (v := 5) X (by decide +kernel) (by decide) ?_
    refine so_iconst (pc := 68) (n := 0) (v := 0) X (by decide +kernel) (by decide) ?_
    refine so_iconst (pc := 69) (n := 0) (v := 0) X (by decide +kernel) (by decide) ?_
    refine so_iconst (pc := 70) (n := 0) (v := 0) X (by decide +kernel) (by decide) ?_
    refine so_cav (pc := 71) (y := 134) (na := 6) (index := 202) (maxL := 6) (nm := yX7_note) (bytes := cX7_note) (ret := none) (ci := 7) (N := 32) (T := TX7) X hxo (fun _ _ _ _ h => h.1) hC lw_good (Nat.le_refl _) (mm_lo d) rfl (by decide) tw_514 tw_515 tw_397 rfl (by decide) tw_516 tw_517 (by decide +kernel) (by decide +kernel) ?_
    refine so_aload_n (pc := 74) (i := 0) X (by decide +kernel) ?_
    refine so_getr (pc := 75) (index := 34) (ci := 7) (f := 11) (N := 32) (C := RX7) (T := TX7) X rfl uX7 (by decide) (by decide) tw_382 rfl (by decide +kernel) ?_
    refine so_iload_n (pc := 78) (i := 1) X (by decide +kernel) ?_
    refine so_iald (pc := 79) X (by decide +kernel) ?_
    refine so_istore_n (pc := 80) (i := 2) X (by decide +kernel) (by decide) ?_
    exact so_fall X (hJ 5)
  | 5 =>
    refine so_iload_n (pc := 81) (i := 2) X (by decide +kernel) ?_
    refine so_aload_n (pc := 82) (i := 0) X (by decide +kernel) ?_
    refine so_geti (pc := 83) (index := 65) (ci := 7) (f := 1) (N := 32) (C := RX7) (T := TX7) X rfl uX7 (by decide) (by decide) tw_392 rfl (by decide) (by decide +kernel) ?_
    refine so_icmp_ge (pc := 86) (off := 34) (tgt := 120) X (by decide +kernel) (by decide) (hJ 7) ?_
    refine so_aload_n (pc := 89) (i := 0) X (by decide +kernel) ?_
    refine so_iload_n (pc := 90) (i := 1) X (by decide +kernel) ?_
    refine so_iconst (pc := 91) (n := 2) (v := 2) X (by decide +kernel) (by decide) ?_
    refine so_iload_n (pc := 92) (i := 1) X (by decide +kernel) ?_
    refine so_imul (pc := 93) X (by decide +kernel) ?_
    refine so_iconst (pc := 94) (n := 1) (v := 1) X (by decide +kernel) (by decide) ?_
    refine so_iadd (pc := 95) X (by decide +kernel) ?_
    refine so_iload_n (pc := 96) (i := 2) X (by decide +kernel) ?_
    refine so_cav (pc := 97) (y := 129) (na := 4) (index := 215) (maxL := 4) (nm := yX7_matches) (bytes := cX7_matches) (ret := (some .boolean)) (ci := 7) (N := 32) (T := TX7) X hxo (fun _ _ _ _ h => h.1) hC lw_good (Nat.le_refl _) (mm_lo d) rfl (by decide) tw_527 tw_528 tw_397 rfl (by decide) tw_529 tw_530 (by decide +kernel) (by decide +kernel) ?_
    refine so_if_eq (pc := 100) (off := 14) (tgt := 114) X (by decide +kernel) (by decide) (hJ 6) ?_
    refine so_aload_n (pc := 103) (i := 0) X (by decide +kernel) ?_
    refine so_getr (pc := 104) (index := 34) (ci := 7) (f := 11) (N := 32) (C := RX7) (T := TX7) X rfl uX7 (by decide) (by decide) tw_382 rfl (by decide +kernel) ?_
    refine so_iload_n (pc := 107) (i := 1) X (by decide +kernel) ?_
    refine so_iload_n (pc := 108) (i := 2) X (by decide +kernel) ?_
    refine so_iconst (pc := 109) (n := 1) (v := 1) X (by decide +kernel) (by decide) ?_
    refine so_iadd (pc := 110) X (by decide +kernel) ?_
    refine so_iast (pc := 111) X (by decide +kernel) ?_
    refine so_iload_n (pc := 112) (i := 2) X (by decide +kernel) ?_
    exact so_ret (pc := 113) X hlk hfree hr (by decide +kernel)
  | 6 =>
    refine so_iinc (pc := 114) (i := 2) (n := 1) (y := 1) X (by decide +kernel) (by decide) (by decide) ?_
    exact so_goto (pc := 117) (off := (-36)) (tgt := 81) X (by decide +kernel) (by decide) (hJ 5)
  | 7 =>
    refine so_aload_n (pc := 120) (i := 0) X (by decide +kernel) ?_
    refine so_getr (pc := 121) (index := 34) (ci := 7) (f := 11) (N := 32) (C := RX7) (T := TX7) X rfl uX7 (by decide) (by decide) tw_382 rfl (by decide +kernel) ?_
    refine so_iload_n (pc := 124) (i := 1) X (by decide +kernel) ?_
    refine so_aload_n (pc := 125) (i := 0) X (by decide +kernel) ?_
    refine so_geti (pc := 126) (index := 65) (ci := 7) (f := 1) (N := 32) (C := RX7) (T := TX7) X rfl uX7 (by decide) (by decide) tw_392 rfl (by decide) (by decide +kernel) ?_
    refine so_iast (pc := 129) X (by decide +kernel) ?_
    refine so_bipush (pc := 130) (n := (-3)) (v := (-3)) X (by decide +kernel) (by decide) ?_
    exact so_ret (pc := 132) X hlk hfree hr (by decide +kernel)
  | n + 8 => exact fun _ _ _ _ h => h.elim
theorem bs_X7_step {l : Launch} {D : va_G} {EXT : (Nat → Nat) → (Nat → Prop) → State → Heap → Prop} (hxo : mm_xo EXT) (hxe : ∀ ad A U H, EXT ad A U H → px_E0 ad A U H) : mm_BS l D pcl lw_T EXT px_tab 140 pb_X7_step pp_X7_step := by
  intro d C hC p e s m args below meth c A ad0 cA0 μ0 free Q J
  rw [tb_140]
  exact fun X hr hlk hnm hfree hJ => bk_X7_step hxo hxe hC X hr hlk hnm hfree hJ
set_option maxHeartbeats 4000000 in
set_option maxRecDepth 100000 in
theorem bk_X7_divisor {l : Launch} {D : va_G} {EXT : (Nat → Nat) → (Nat → Prop) → State → Heap → Prop} (hxo : mm_xo EXT) (hxe : ∀ ad A U H, EXT ad A U H → px_E0 ad A U H) {d : Nat} {C : mm_C} (hC : mm_CS l D pcl lw_T EXT px_tab d C) {p : Program} {e : Env} {s : State} {m : MethodId} {args : Array Value} {below : List Frame} {meth : Method} {c : Code} {A : Nat → Prop} {ad0 : Nat → Nat} {cA0 : Nat → ClassId} {μ0 : mm_M} {free : Addr → Prop} {Q : mm_Q} {J : mm_J} (X : mm_cx p (mm_rm (d + 1) 0 0) s m args c cX7_divisor RX7 lw_T A D pcl 10) (hr : meth.sig.returnType = some .long) (hlk : meth.locks = false) (hnm : meth.name = "divisor") (hfree : ∀ q, A q → free q) (hJ : ∀ t, mm_SK p l e (mm_rm (d + 1) 0 0) s m args below meth c (MQ below (mm_Qc D pcl Q ad0 cA0 μ0 0 A) args s 0 0 free) D pcl A 10 (mm_EX EXT A s ad0 cA0 (mm_n μ0)) (pp_X7_divisor t) (J t)) : ∀ t, mm_SK p l e (mm_rm (d + 1) 0 0) s m args below meth c (MQ below (mm_Qc D pcl Q ad0 cA0 μ0 0 A) args s 0 0 free) D pcl A 10 (mm_EX EXT A s ad0 cA0 (mm_n μ0)) (pp_X7_divisor t) (pb_X7_divisor J C Q t) := by
  intro t
  match t with
  | 0 =>
    refine so_lload_n (pc := 0) (i := 0) X (by decide +kernel) ?_
    refine so_lconst (pc := 1) (n := 0) (v := 0) X (by decide +kernel) (by decide) ?_
    refine so_lcmp (pc := 2) X (by decide +kernel) ?_
    refine so_if_ge (pc := 3) (off := 8) (tgt := 11) X (by decide +kernel) (by decide) (hJ 1) ?_
    refine so_lload_n (pc := 6) (i := 0) X (by decide +kernel) ?_
    refine so_lneg (pc := 7) X (by decide +kernel) ?_
    exact so_goto (pc := 8) (off := 4) (tgt := 12) X (by decide +kernel) (by decide) (hJ 2)
  | 1 =>
    refine so_lload_n (pc := 11) (i := 0) X (by decide +kernel) ?_
    exact so_fall X (hJ 2)
  | 2 =>
    refine so_lstore (pc := 12) (i := 4) X (by decide +kernel) (by decide) ?_
    refine so_lload_n (pc := 14) (i := 2) X (by decide +kernel) ?_
    refine so_lconst (pc := 15) (n := 0) (v := 0) X (by decide +kernel) (by decide) ?_
    refine so_lcmp (pc := 16) X (by decide +kernel) ?_
    refine so_if_ge (pc := 17) (off := 8) (tgt := 25) X (by decide +kernel) (by decide) (hJ 3) ?_
    refine so_lload_n (pc := 20) (i := 2) X (by decide +kernel) ?_
    refine so_lneg (pc := 21) X (by decide +kernel) ?_
    exact so_goto (pc := 22) (off := 4) (tgt := 26) X (by decide +kernel) (by decide) (hJ 4)
  | 3 =>
    refine so_lload_n (pc := 25) (i := 2) X (by decide +kernel) ?_
    exact so_fall X (hJ 4)
  | 4 =>
    refine so_lstore (pc := 26) (i := 6) X (by decide +kernel) (by decide) ?_
    exact so_fall X (hJ 5)
  | 5 =>
    refine so_lload (pc := 28) (i := 6) X (by decide +kernel) ?_
    refine so_lconst (pc := 30) (n := 0) (v := 0) X (by decide +kernel) (by decide) ?_
    refine so_lcmp (pc := 31) X (by decide +kernel) ?_
    refine so_if_eq (pc := 32) (off := 21) (tgt := 53) X (by decide +kernel) (by decide) (hJ 6) ?_
    refine so_lload (pc := 35) (i := 4) X (by decide +kernel) ?_
    refine so_lload (pc := 37) (i := 6) X (by decide +kernel) ?_
    refine so_lrem (pc := 39) X (by decide +kernel) ?_
    refine so_lstore (pc := 40) (i := 8) X (by decide +kernel) (by decide) ?_
    refine so_lload (pc := 42) (i := 6) X (by decide +kernel) ?_
    refine so_lstore (pc := 44) (i := 4) X (by decide +kernel) (by decide) ?_
    refine so_lload (pc := 46) (i := 8) X (by decide +kernel) ?_
    refine so_lstore (pc := 48) (i := 6) X (by decide +kernel) (by decide) ?_
    exact so_goto (pc := 50) (off := (-22)) (tgt := 28) X (by decide +kernel) (by decide) (hJ 5)
  | 6 =>
    refine so_lload (pc := 53) (i := 4) X (by decide +kernel) ?_
    exact so_rtl (pc := 55) X hlk hfree hr (by decide +kernel)
  | n + 7 => exact fun _ _ _ _ h => h.elim
theorem bs_X7_divisor {l : Launch} {D : va_G} {EXT : (Nat → Nat) → (Nat → Prop) → State → Heap → Prop} (hxo : mm_xo EXT) (hxe : ∀ ad A U H, EXT ad A U H → px_E0 ad A U H) : mm_BS l D pcl lw_T EXT px_tab 141 pb_X7_divisor pp_X7_divisor := by
  intro d C hC p e s m args below meth c A ad0 cA0 μ0 free Q J
  rw [tb_141]
  exact fun X hr hlk hnm hfree hJ => bk_X7_divisor hxo hxe hC X hr hlk hnm hfree hJ
set_option maxHeartbeats 4000000 in
set_option maxRecDepth 100000 in
theorem bk_X7_mix {l : Launch} {D : va_G} {EXT : (Nat → Nat) → (Nat → Prop) → State → Heap → Prop} (hxo : mm_xo EXT) (hxe : ∀ ad A U H, EXT ad A U H → px_E0 ad A U H) {d : Nat} {C : mm_C} (hC : mm_CS l D pcl lw_T EXT px_tab d C) {p : Program} {e : Env} {s : State} {m : MethodId} {args : Array Value} {below : List Frame} {meth : Method} {c : Code} {A : Nat → Prop} {ad0 : Nat → Nat} {cA0 : Nat → ClassId} {μ0 : mm_M} {free : Addr → Prop} {Q : mm_Q} {J : mm_J} (X : mm_cx p (mm_rm (d + 1) 0 0) s m args c cX7_mix RX7 lw_T A D pcl 10) (hr : meth.sig.returnType = none) (hlk : meth.locks = false) (hnm : meth.name = "mix") (hfree : ∀ q, A q → free q) (hJ : ∀ t, mm_SK p l e (mm_rm (d + 1) 0 0) s m args below meth c (MQ below (mm_Qc D pcl Q ad0 cA0 μ0 0 A) args s 0 0 free) D pcl A 10 (mm_EX EXT A s ad0 cA0 (mm_n μ0)) (pp_X7_mix t) (J t)) : ∀ t, mm_SK p l e (mm_rm (d + 1) 0 0) s m args below meth c (MQ below (mm_Qc D pcl Q ad0 cA0 μ0 0 A) args s 0 0 free) D pcl A 10 (mm_EX EXT A s ad0 cA0 (mm_n μ0)) (pp_X7_mix t) (pb_X7_mix J C Q t) := by
  intro t
  match t with
  | 0 =>
    refine so_lconst (pc := 0) (n := 0) (v := 0) X (by decide +kernel) (by decide) ?_
    refine so_lstore (pc := 1) (i := 7) X (by decide +kernel) (by decide) ?_
    refine so_iconst (pc := 3) (n := 0) (v := 0) X (by decide +kernel) (by decide) ?_
    refine so_istore (pc := 4) (i := 9) X (by decide +kernel) (by decide) ?_
    exact so_fall X (hJ 1)
  | 1 =>
    refine so_iload (pc := 6) (i := 9) X (by decide +kernel) ?_
    refine so_aload_n (pc := 8) (i := 0) X (by decide +kernel) ?_
    refine so_geti (pc := 9) (index := 65) (ci := 7) (f := 1) (N := 32) (C := RX7) (T := TX7) X rfl uX7 (by decide) (by decide) tw_392 rfl (by decide) (by decide +kernel) ?_
    refine so_icmp_ge (pc := 12) (off := 71) (tgt := 83) X (by decide +kernel) (by decide) (hJ 2) ?_
    refine so_aload_n (pc := 15) (i := 0) X (by decide +kernel) ?_
    refine so_getr (pc := 16) (index := 56) (ci := 7) (f := 29) (N := 32) (C := RX7) (T := TX7) X rfl uX7 (by decide) (by decide) tw_389 rfl (by decide +kernel) ?_
    refine so_bipush (pc := 19) (n := 12) (v := 12) X (by decide +kernel) (by decide) ?_
    refine so_iload_n (pc := 21) (i := 1) X (by decide +kernel) ?_
    refine so_imul (pc := 22) X (by decide +kernel) ?_
    refine so_iload (pc := 23) (i := 9) X (by decide +kernel) ?_
    refine so_iadd (pc := 25) X (by decide +kernel) ?_
    refine so_aload_n (pc := 26) (i := 0) X (by decide +kernel) ?_
    refine so_getr (pc := 27) (index := 56) (ci := 7) (f := 29) (N := 32) (C := RX7) (T := TX7) X rfl uX7 (by decide) (by decide) tw_389 rfl (by decide +kernel) ?_
    refine so_bipush (pc := 30) (n := 12) (v := 12) X (by decide +kernel) (by decide) ?_
    refine so_iload_n (pc := 32) (i := 1) X (by decide +kernel) ?_
    refine so_imul (pc := 33) X (by decide +kernel) ?_
    refine so_iload (pc := 34) (i := 9) X (by decide +kernel) ?_
    refine so_iadd (pc := 36) X (by decide +kernel) ?_
    refine so_lald (pc := 37) X (by decide +kernel) ?_
    refine so_lload_n (pc := 38) (i := 2) X (by decide +kernel) ?_
    refine so_lmul (pc := 39) X (by decide +kernel) ?_
    refine so_aload_n (pc := 40) (i := 0) X (by decide +kernel) ?_
    refine so_getr (pc := 41) (index := 56) (ci := 7) (f := 29) (N := 32) (C := RX7) (T := TX7) X rfl uX7 (by decide) (by decide) tw_389 rfl (by decide +kernel) ?_
    refine so_bipush (pc := 44) (n := 12) (v := 12) X (by decide +kernel) (by decide) ?_
    refine so_iload (pc := 46) (i := 4) X (by decide +kernel) ?_
    refine so_imul (pc := 48) X (by decide +kernel) ?_
    refine so_iload (pc := 49) (i := 9) X (by decide +kernel) ?_
    refine so_iadd (pc := 51) X (by decide +kernel) ?_
    refine so_lald (pc := 52) X (by decide +kernel) ?_
    refine so_lload (pc := 53) (i := 5) X (by decide +kernel) ?_
    refine so_lmul (pc := 55) X (by decide +kernel) ?_
    refine so_lsub (pc := 56) X (by decide +kernel) ?_
    refine so_last (pc := 57) X (by decide +kernel) ?_
    refine so_lload (pc := 58) (i := 7) X (by decide +kernel) ?_
    refine so_aload_n (pc := 60) (i := 0) X (by decide +kernel) ?_
    refine so_getr (pc := 61) (index := 56) (ci := 7) (f := 29) (N := 32) (C := RX7) (T := TX7) X rfl uX7 (by decide) (by decide) tw_389 rfl (by decide +kernel) ?_
    refine so_bipush (pc := 64) (n := 12) (v := 12) X (by decide +kernel) (by decide) ?_
    refine so_iload_n (pc := 66) (i := 1) X (by decide +kernel) ?_
    refine so_imul (pc := 67) X (by decide +kernel) ?_
    refine so_iload (pc := 68) (i := 9) X (by decide +kernel) ?_
    refine so_iadd (pc := 70) X (by decide +kernel) ?_
    refine so_lald (pc := 71) X (by decide +kernel) ?_
    refine so_cas (pc := 72) (y := 141) (na := 2) (index := 219) (maxL := 10) (nm := yX7_divisor) (bytes := cX7_divisor) (ret := (some .long)) X hxo (fun _ _ _ _ h => h.1) hC lw_good (Nat.le_refl _) (mm_lo d) rfl (by decide) tw_531 tw_532 tw_397 tw_533 (by decide +kernel) (by decide +kernel) ?_
    refine so_lstore (pc := 75) (i := 7) X (by decide +kernel) (by decide) ?_
    refine so_iinc (pc := 77) (i := 9) (n := 1) (y := 1) X (by decide +kernel) (by decide) (by decide) ?_
    exact so_goto (pc := 80) (off := (-74)) (tgt := 6) X (by decide +kernel) (by decide) (hJ 1)
  | 2 =>
    refine so_iconst (pc := 83) (n := 0) (v := 0) X (by decide +kernel) (by decide) ?_
    refine so_istore (pc := 84) (i := 9) X (by decide +kernel) (by decide) ?_
    exact so_fall X (hJ 3)
  | 3 =>
    refine so_iload (pc := 86) (i := 9) X (by decide +kernel) ?_
    refine so_aload_n (pc := 88) (i := 0) X (by decide +kernel) ?_
    refine so_geti (pc := 89) (index := 65) (ci := 7) (f := 1) (N := 32) (C := RX7) (T := TX7) X rfl uX7 (by decide) (by decide) tw_392 rfl (by decide) (by decide +kernel) ?_
    refine so_icmp_ge (pc := 92) (off := 33) (tgt := 125) X (by decide +kernel) (by decide) (hJ 4) ?_
    refine so_lload (pc := 95) (i := 7) X (by decide +kernel) ?_
    refine so_lconst (pc := 97) (n := 1) (v := 1) X (by decide +kernel) (by decide) ?_
    refine so_lcmp (pc := 98) X (by decide +kernel) ?_
    refine so_if_le (pc := 99) (off := 26) (tgt := 125) X (by decide +kernel) (by decide) (hJ 4) ?_
    refine so_aload_n (pc := 102) (i := 0) X (by decide +kernel) ?_
    refine so_getr (pc := 103) (index := 56) (ci := 7) (f := 29) (N := 32) (C := RX7) (T := TX7) X rfl uX7 (by decide) (by decide) tw_389 rfl (by decide +kernel) ?_
    refine so_bipush (pc := 106) (n := 12) (v := 12) X (by decide +kernel) (by decide) ?_
    refine so_iload_n (pc := 108) (i := 1) X (by decide +kernel) ?_
    refine so_imul (pc := 109) X (by decide +kernel) ?_
    refine so_iload (pc := 110) (i := 9) X (by decide +kernel) ?_
    refine so_iadd (pc := 112) X (by decide +kernel) ?_
    refine so_dup2 (pc := 113) X (by decide +kernel) ?_
    refine so_lald (pc := 114) X (by decide +kernel) ?_
    refine so_lload (pc := 115) (i := 7) X (by decide +kernel) ?_
    refine so_ldiv (pc := 117) X (by decide +kernel) ?_
    refine so_last (pc := 118) X (by decide +kernel) ?_
    refine so_iinc (pc := 119) (i := 9) (n := 1) (y := 1) X (by decide +kernel) (by decide) (by decide) ?_
    exact so_goto (pc := 122) (off := (-36)) (tgt := 86) X (by decide +kernel) (by decide) (hJ 3)
  | 4 =>
    exact so_rtv (pc := 125) X hlk hfree hr (by decide +kernel)
  | n + 5 => exact fun _ _ _ _ h => h.elim
theorem bs_X7_mix {l : Launch} {D : va_G} {EXT : (Nat → Nat) → (Nat → Prop) → State → Heap → Prop} (hxo : mm_xo EXT) (hxe : ∀ ad A U H, EXT ad A U H → px_E0 ad A U H) : mm_BS l D pcl lw_T EXT px_tab 142 pb_X7_mix pp_X7_mix := by
  intro d C hC p e s m args below meth c A ad0 cA0 μ0 free Q J
  rw [tb_142]
  exact fun X hr hlk hnm hfree hJ => bk_X7_mix hxo hxe hC X hr hlk hnm hfree hJ
set_option maxHeartbeats 4000000 in
set_option maxRecDepth 100000 in
theorem bk_X7_swap {l : Launch} {D : va_G} {EXT : (Nat → Nat) → (Nat → Prop) → State → Heap → Prop} (hxo : mm_xo EXT) (hxe : ∀ ad A U H, EXT ad A U H → px_E0 ad A U H) {d : Nat} {C : mm_C} (hC : mm_CS l D pcl lw_T EXT px_tab d C) {p : Program} {e : Env} {s : State} {m : MethodId} {args : Array Value} {below : List Frame} {meth : Method} {c : Code} {A : Nat → Prop} {ad0 : Nat → Nat} {cA0 : Nat → ClassId} {μ0 : mm_M} {free : Addr → Prop} {Q : mm_Q} {J : mm_J} (X : mm_cx p (mm_rm (d + 1) 0 0) s m args c cX7_swap RX7 lw_T A D pcl 6) (hr : meth.sig.returnType = none) (hlk : meth.locks = false) (hnm : meth.name = "swap") (hfree : ∀ q, A q → free q) (hJ : ∀ t, mm_SK p l e (mm_rm (d + 1) 0 0) s m args below meth c (MQ below (mm_Qc D pcl Q ad0 cA0 μ0 0 A) args s 0 0 free) D pcl A 6 (mm_EX EXT A s ad0 cA0 (mm_n μ0)) (pp_X7_swap t) (J t)) : ∀ t, mm_SK p l e (mm_rm (d + 1) 0 0) s m args below meth c (MQ below (mm_Qc D pcl Q ad0 cA0 μ0 0 A) args s 0 0 free) D pcl A 6 (mm_EX EXT A s ad0 cA0 (mm_n μ0)) (pp_X7_swap t) (pb_X7_swap J C Q t) := by
  intro t
  match t with
  | 0 =>
    refine so_iconst (pc := 0) (n := 0) (v := 0) X (by decide +kernel) (by decide) ?_
    refine so_istore_n (pc := 1) (i := 3) X (by decide +kernel) (by decide) ?_
    exact so_fall X (hJ 1)
  | 1 =>
    refine so_iload_n (pc := 2) (i := 3) X (by decide +kernel) ?_
    refine so_aload_n (pc := 3) (i := 0) X (by decide +kernel) ?_
    refine so_geti (pc := 4) (index := 65) (ci := 7) (f := 1) (N := 32) (C := RX7) (T := TX7) X rfl uX7 (by decide) (by decide) tw_392 rfl (by decide) (by decide +kernel) ?_
    refine so_icmp_ge (pc := 7) (off := 57) (tgt := 64) X (by decide +kernel) (by decide) (hJ 2) ?_
    refine so_aload_n (pc := 10) (i := 0) X (by decide +kernel) ?_
    refine so_getr (pc := 11) (index := 56) (ci := 7) (f := 29) (N := 32) (C := RX7) (T := TX7) X rfl uX7 (by decide) (by decide) tw_389 rfl (by decide +kernel) ?_
    refine so_bipush (pc := 14) (n := 12) (v := 12) X (by decide +kernel) (by decide) ?_
    refine so_iload_n (pc := 16) (i := 1) X (by decide +kernel) ?_
    refine so_imul (pc := 17) X (by decide +kernel) ?_
    refine so_iload_n (pc := 18) (i := 3) X (by decide +kernel) ?_
    refine so_iadd (pc := 19) X (by decide +kernel) ?_
    refine so_lald (pc := 20) X (by decide +kernel) ?_
    refine so_lstore (pc := 21) (i := 4) X (by decide +kernel) (by decide) ?_
    refine so_aload_n (pc := 23) (i := 0) X (by decide +kernel) ?_
    refine so_getr (pc := 24) (index := 56) (ci := 7) (f := 29) (N := 32) (C := RX7) (T := TX7) X rfl uX7 (by decide) (by decide) tw_389 rfl (by decide +kernel) ?_
    refine so_bipush (pc := 27) (n := 12) (v := 12) X (by decide +kernel) (by decide) ?_
    refine so_iload_n (pc := 29) (i := 1) X (by decide +kernel) ?_
    refine so_imul (pc := 30) X (by decide +kernel) ?_
    refine so_iload_n (pc := 31) (i := 3) X (by decide +kernel) ?_
    refine so_iadd (pc := 32) X (by decide +kernel) ?_
    refine so_aload_n (pc := 33) (i := 0) X (by decide +kernel) ?_
    refine so_getr (pc := 34) (index := 56) (ci := 7) (f := 29) (N := 32) (C := RX7) (T := TX7) X rfl uX7 (by decide) (by decide) tw_389 rfl (by decide +kernel) ?_
    refine so_bipush (pc := 37) (n := 12) (v := 12) X (by decide +kernel) (by decide) ?_
    refine so_iload_n (pc := 39) (i := 2) X (by decide +kernel) ?_
    refine so_imul (pc := 40) X (by decide +kernel) ?_
    refine so_iload_n (pc := 41) (i := 3) X (by decide +kernel) ?_
    refine so_iadd (pc := 42) X (by decide +kernel) ?_
    refine so_lald (pc := 43) X (by decide +kernel) ?_
    refine so_last (pc := 44) X (by decide +kernel) ?_
    refine so_aload_n (pc := 45) (i := 0) X (by decide +kernel) ?_
    refine so_getr (pc := 46) (index := 56) (ci := 7) (f := 29) (N := 32) (C := RX7) (T := TX7) X rfl uX7 (by decide) (by decide) tw_389 rfl (by decide +kernel) ?_
    refine so_bipush (pc := 49) (n := 12) (v := 12) X (by decide +kernel) (by decide) ?_
    refine so_iload_n (pc := 51) (i := 2) X (by decide +kernel) ?_
    refine so_imul (pc := 52) X (by decide +kernel) ?_
    refine so_iload_n (pc := 53) (i := 3) X (by decide +kernel) ?_
    refine so_iadd (pc := 54) X (by decide +kernel) ?_
    refine so_lload (pc := 55) (i := 4) X (by decide +kernel) ?_
    refine so_last (pc := 57) X (by decide +kernel) ?_
    refine so_iinc (pc := 58) (i := 3) (n := 1) (y := 1) X (by decide +kernel) (by decide) (by decide) ?_
    exact so_goto (pc := 61) (off := (-59)) (tgt := 2) X (by decide +kernel) (by decide) (hJ 1)
  | 2 =>
    exact so_rtv (pc := 64) X hlk hfree hr (by decide +kernel)
  | n + 3 => exact fun _ _ _ _ h => h.elim
theorem bs_X7_swap {l : Launch} {D : va_G} {EXT : (Nat → Nat) → (Nat → Prop) → State → Heap → Prop} (hxo : mm_xo EXT) (hxe : ∀ ad A U H, EXT ad A U H → px_E0 ad A U H) : mm_BS l D pcl lw_T EXT px_tab 143 pb_X7_swap pp_X7_swap := by
  intro d C hC p e s m args below meth c A ad0 cA0 μ0 free Q J
  rw [tb_143]
  exact fun X hr hlk hnm hfree hJ => bk_X7_swap hxo hxe hC X hr hlk hnm hfree hJ
