set_option maxHeartbeats 4000000 in
set_option maxRecDepth 100000 in
theorem bk_X7_wordFrom {l : Launch} {D : va_G} {EXT : (Nat → Nat) → (Nat → Prop) → State → Heap → Prop} (hxo : mm_xo EXT) (hxe : ∀ ad A U H, EXT ad A U H → px_E0 ad A U H) {d : Nat} {C : mm_C} (hC : mm_CS l D pcl lw_T EXT px_tab d C) {p : Program} {e : Env} {s : State} {m : MethodId} {args : Array Value} {below : List Frame} {meth : Method} {c : Code} {A : Nat → Prop} {ad0 : Nat → Nat} {cA0 : Nat → ClassId} {μ0 : mm_M} {free : Addr → Prop} {Q : mm_Q} {J : mm_J} (X : mm_cx p (mm_rm (d + 1) 0 0) s m args c cX7_wordFrom RX7 lw_T A D pcl 6) (hr : meth.sig.returnType = some .int) (hlk : meth.locks = false) (hnm : meth.name = "wordFrom") (hfree : ∀ q, A q → free q) (hJ : ∀ t, mm_SK p l e (mm_rm (d + 1) 0 0) s m args below meth c (MQ below (mm_Qc D pcl Q ad0 cA0 μ0 0 A) args s 0 0 free) D pcl A 6 (mm_EX EXT A s ad0 cA0 (mm_n μ0)) (pp_X7_wordFrom t) (J t)) : ∀ t, mm_SK p l e (mm_rm (d + 1) 0 0) s m args below meth c (MQ below (mm_Qc D pcl Q ad0 cA0 μ0 0 A) args s 0 0 free) D pcl A 6 (mm_EX EXT A s ad0 cA0 (mm_n μ0)) (pp_X7_wordFrom t) (pb_X7_wordFrom J C Q t) := by
  intro t
  match t with
  | 0 =>
    refine so_lconst (pc := 0) (n := 0) (v := 0) X (by decide +kernel) (by decide) ?_
    refine so_lstore_n (pc := 1) (i := 3) X (by decide +kernel) (by decide) ?_
    refine so_iconst (pc := 2) (n := 0) (v := 0) X (by decide +kernel) (by decide) ?_
    refine so_istore (pc := 3) (i := 5) X (by decide +kernel) (by decide) ?_
    exact so_fall X (hJ 1)
  | 1 =>
    refine so_iload (pc := 5) (i := 5) X (by decide +kernel) ?_
    refine so_iload_n (pc := 7) (i := 2) X (by decide +kernel) ?_
    refine so_icmp_ge (pc := 8) (off := 30) (tgt := 38) X (by decide +kernel) (by decide) (hJ 2) ?_
    refine so_iload_n (pc := 11) (i := 2) X (by decide +kernel) ?_
    refine so_iconst (pc := 12) (n := 5) (v := 5) X (by decide +kernel) (by decide) ?_
    refine so_icmp_gt (pc := 13) (off := 25) (tgt := 38) X (by decide +kernel) (by decide) (hJ 2) ?_
    refine so_lload_n (pc := 16) (i := 3) X (by decide +kernel) ?_
    refine so_bipush (pc := 17) (n := 8) (v := 8) X (by decide +kernel) (by decide) ?_
    refine so_lshl (pc := 19) X (by decide +kernel) ?_
    refine so_aload_n (pc := 20) (i := 0) X (by decide +kernel) ?_
    refine so_getr (pc := 21) (index := 13) (ci := 7) (f := 4) (N := 32) (C := RX7) (T := TX7) X rfl uX7 (by decide) (by decide) tw_376 rfl (by decide +kernel) ?_
    refine so_iload_n (pc := 24) (i := 1) X (by decide +kernel) ?_
    refine so_iload (pc := 25) (i := 5) X (by decide +kernel) ?_
    refine so_iadd (pc := 27) X (by decide +kernel) ?_
    refine so_bald (pc := 28) X (by decide +kernel) ?_
    refine so_i2l (pc := 29) X (by decide +kernel) ?_
    refine so_lor (pc := 30) X (by decide +kernel) ?_
    refine so_lstore_n (pc := 31) (i := 3) X (by decide +kernel) (by decide) ?_
    refine so_iinc (pc := 32) (i := 5) (n := 1) (y := 1) X (by decide +kernel) (by decide) (by decide) ?_
    exact so_goto (pc := 35) (off := (-30)) (tgt := 5) X (by decide +kernel) (by decide) (hJ 1)
  | 2 =>
    refine so_iload_n (pc := 38) (i := 2) X (by decide +kernel) ?_
    refine so_iconst (pc := 39) (n := 1) (v := 1) X (by decide +kernel) (by decide) ?_
    refine so_icmp_ne (pc := 40) (off := 34) (tgt := 74) X (by decide +kernel) (by decide) (hJ 5) ?_
    refine so_lload_n (pc := 43) (i := 3) X (by decide +kernel) ?_
    refine so_ldc2 (pc := 44) (index := 84) (v := 97) X (by decide +kernel) tw_404 ?_
    refine so_lcmp (pc := 47) X (by decide +kernel) ?_
    refine so_if_lt (pc := 48) (off := 23) (tgt := 71) X (by decide +kernel) (by decide) (hJ 3) ?_
    refine so_lload_n (pc := 51) (i := 3) X (by decide +kernel) ?_
    refine so_ldc2 (pc := 52) (index := 86) (v := 100) X (by decide +kernel) tw_405 ?_
    refine so_lcmp (pc := 55) X (by decide +kernel) ?_
    refine so_if_gt (pc := 56) (off := 15) (tgt := 71) X (by decide +kernel) (by decide) (hJ 3) ?_
    refine so_bipush (pc := 59) (n := (-20)) (v := (-20)) X (by decide +kernel) (by decide) ?_
    refine so_lload_n (pc := 61) (i := 3) X (by decide +kernel) ?_
    refine so_ldc2 (pc := 62) (index := 84) (v := 97) X (by decide +kernel) tw_404 ?_
    refine so_lsub (pc := 65) X (by decide +kernel) ?_
    refine so_l2i (pc := 66) X (by decide +kernel) ?_
    refine so_isub (pc := 67) X (by decide +kernel) ?_
    exact so_goto (pc := 68) (off := 5) (tgt := 73) X (by decide +kernel) (by decide) (hJ 4)
  | 3 =>
    refine so_bipush (pc := 71) (n := (-2)) (v := (-2)) X (by decide +kernel) (by decide) ?_
    exact so_fall X (hJ 4)
  | 4 =>
    exact so_ret (pc := 73) X hlk hfree hr (by decide +kernel)
  | 5 =>
    refine so_lload_n (pc := 74) (i := 3) X (by decide +kernel) ?_
    refine so_ldc2 (pc := 75) (index := 88) (v := 6385252) X (by decide +kernel) tw_406 ?_
    refine so_lcmp (pc := 78) X (by decide +kernel) ?_
    refine so_if_ne (pc := 79) (off := 8) (tgt := 87) X (by decide +kernel) (by decide) (hJ 6) ?_
    refine so_bipush (pc := 82) (n := (-3)) (v := (-3)) X (by decide +kernel) (by decide) ?_
    exact so_goto (pc := 84) (off := 57) (tgt := 141) X (by decide +kernel) (by decide) (hJ 11)
  | 6 =>
    refine so_lload_n (pc := 87) (i := 3) X (by decide +kernel) ?_
    refine so_ldc2 (pc := 88) (index := 90) (v := 28530) X (by decide +kernel) tw_407 ?_
    refine so_lcmp (pc := 91) X (by decide +kernel) ?_
    refine so_if_ne (pc := 92) (off := 8) (tgt := 100) X (by decide +kernel) (by decide) (hJ 7) ?_
    refine so_bipush (pc := 95) (n := (-4)) (v := (-4)) X (by decide +kernel) (by decide) ?_
    exact so_goto (pc := 97) (off := 44) (tgt := 141) X (by decide +kernel) (by decide) (hJ 11)
  | 7 =>
    refine so_lload_n (pc := 100) (i := 3) X (by decide +kernel) ?_
    refine so_ldc2 (pc := 101) (index := 92) (v := 7237492) X (by decide +kernel) tw_408 ?_
    refine so_lcmp (pc := 104) X (by decide +kernel) ?_
    refine so_if_ne (pc := 105) (off := 8) (tgt := 113) X (by decide +kernel) (by decide) (hJ 8) ?_
    refine so_bipush (pc := 108) (n := (-5)) (v := (-5)) X (by decide +kernel) (by decide) ?_
    exact so_goto (pc := 110) (off := 31) (tgt := 141) X (by decide +kernel) (by decide) (hJ 11)
  | 8 =>
    refine so_lload_n (pc := 113) (i := 3) X (by decide +kernel) ?_
    refine so_ldc2 (pc := 114) (index := 94) (v := 1953658213) X (by decide +kernel) tw_409 ?_
    refine so_lcmp (pc := 117) X (by decide +kernel) ?_
    refine so_if_ne (pc := 118) (off := 8) (tgt := 126) X (by decide +kernel) (by decide) (hJ 9) ?_
    refine so_bipush (pc := 121) (n := (-6)) (v := (-6)) X (by decide +kernel) (by decide) ?_
    exact so_goto (pc := 123) (off := 18) (tgt := 141) X (by decide +kernel) (by decide) (hJ 11)
  | 9 =>
    refine so_lload_n (pc := 126) (i := 3) X (by decide +kernel) ?_
    refine so_ldc2 (pc := 127) (index := 96) (v := 439721161573) X (by decide +kernel) tw_410 ?_
    refine so_lcmp (pc := 130) X (by decide +kernel) ?_
    refine so_if_ne (pc := 131) (off := 8) (tgt := 139) X (by decide +kernel) (by decide) (hJ 10) ?_
    refine so_bipush (pc := 134) (n := (-7)) (v := (-7)) X (by decide +kernel) (by decide) ?_
    exact so_goto (pc := 136) (off := 5) (tgt := 141) X (by decide +kernel) (by decide) (hJ 11)
  | 10 =>
    refine so_bipush (pc := 139) (n := (-2)) (v := (-2)) X (by decide +kernel) (by decide) ?_
    exact so_fall X (hJ 11)
  | 11 =>
    exact so_ret (pc := 141) X hlk hfree hr (by decide +kernel)
  | n + 12 => exact fun _ _ _ _ h => h.elim
theorem bs_X7_wordFrom {l : Launch} {D : va_G} {EXT : (Nat → Nat) → (Nat → Prop) → State → Heap → Prop} (hxo : mm_xo EXT) (hxe : ∀ ad A U H, EXT ad A U H → px_E0 ad A U H) : mm_BS l D pcl lw_T EXT px_tab 106 pb_X7_wordFrom pp_X7_wordFrom := by
  intro d C hC p e s m args below meth c A ad0 cA0 μ0 free Q J
  rw [tb_106]
  exact fun X hr hlk hnm hfree hJ => bk_X7_wordFrom hxo hxe hC X hr hlk hnm hfree hJ
set_option maxHeartbeats 4000000 in
set_option maxRecDepth 100000 in
theorem bk_X7_next {l : Launch} {D : va_G} {EXT : (Nat → Nat) → (Nat → Prop) → State → Heap → Prop} (hxo : mm_xo EXT) (hxe : ∀ ad A U H, EXT ad A U H → px_E0 ad A U H) {d : Nat} {C : mm_C} (hC : mm_CS l D pcl lw_T EXT px_tab d C) {p : Program} {e : Env} {s : State} {m : MethodId} {args : Array Value} {below : List Frame} {meth : Method} {c : Code} {A : Nat → Prop} {ad0 : Nat → Nat} {cA0 : Nat → ClassId} {μ0 : mm_M} {free : Addr → Prop} {Q : mm_Q} {J : mm_J} (X : mm_cx p (mm_rm (d + 1) 0 0) s m args c cX7_next RX7 lw_T A D pcl 4) (hr : meth.sig.returnType = none) (hlk : meth.locks = false) (hnm : meth.name = "next") (hfree : ∀ q, A q → free q) (hJ : ∀ t, mm_SK p l e (mm_rm (d + 1) 0 0) s m args below meth c (MQ below (mm_Qc D pcl Q ad0 cA0 μ0 0 A) args s 0 0 free) D pcl A 4 (mm_EX EXT A s ad0 cA0 (mm_n μ0)) (pp_X7_next t) (J t)) : ∀ t, mm_SK p l e (mm_rm (d + 1) 0 0) s m args below meth c (MQ below (mm_Qc D pcl Q ad0 cA0 μ0 0 A) args s 0 0 free) D pcl A 4 (mm_EX EXT A s ad0 cA0 (mm_n μ0)) (pp_X7_next t) (pb_X7_next J C Q t) := by
  intro t
  match t with
  | 0 =>
    refine so_aload_n (pc := 0) (i := 0) X (by decide +kernel) ?_
    refine so_geti (pc := 1) (index := 98) (ci := 7) (f := 19) (N := 32) (C := RX7) (T := TX7) X rfl uX7 (by decide) (by decide) tw_411 rfl (by decide) (by decide +kernel) ?_
    refine so_aload_n (pc := 4) (i := 0) X (by decide +kernel) ?_
    refine so_geti (pc := 5) (index := 81) (ci := 7) (f := 5) (N := 32) (C := RX7) (T := TX7) X rfl uX7 (by decide) (by decide) tw_403 rfl (by decide) (by decide +kernel) ?_
    refine so_icmp_ge (pc := 8) (off := 30) (tgt := 38) X (by decide +kernel) (by decide) (hJ 1) ?_
    refine so_aload_n (pc := 11) (i := 0) X (by decide +kernel) ?_
    refine so_getr (pc := 12) (index := 13) (ci := 7) (f := 4) (N := 32) (C := RX7) (T := TX7) X rfl uX7 (by decide) (by decide) tw_376 rfl (by decide +kernel) ?_
    refine so_aload_n (pc := 15) (i := 0) X (by decide +kernel) ?_
    refine so_geti (pc := 16) (index := 98) (ci := 7) (f := 19) (N := 32) (C := RX7) (T := TX7) X rfl uX7 (by decide) (by decide) tw_411 rfl (by decide) (by decide +kernel) ?_
    refine so_bald (pc := 19) X (by decide +kernel) ?_
    refine so_bipush (pc := 20) (n := 32) (v := 32) X (by decide +kernel) (by decide) ?_
    refine so_icmp_ne (pc := 22) (off := 16) (tgt := 38) X (by decide +kernel) (by decide) (hJ 1) ?_
    refine so_aload_n (pc := 25) (i := 0) X (by decide +kernel) ?_
    refine so_dup (pc := 26) X (by decide +kernel) ?_
    refine so_geti (pc := 27) (index := 98) (ci := 7) (f := 19) (N := 32) (C := RX7) (T := TX7) X rfl uX7 (by decide) (by decide) tw_411 rfl (by decide) (by decide +kernel) ?_
    refine so_iconst (pc := 30) (n := 1) (v := 1) X (by decide +kernel) (by decide) ?_
    refine so_iadd (pc := 31) X (by decide +kernel) ?_
    refine so_puti (pc := 32) (index := 98) (ci := 7) (f := 19) (N := 32) (C := RX7) (T := TX7) X rfl uX7 (by decide) (by decide) tw_411 tyX7 tyX7_ok nmX7 rfl (by decide +kernel) rfl (by decide +kernel) ?_
    exact so_goto (pc := 35) (off := (-35)) (tgt := 0) X (by decide +kernel) (by decide) (hJ 0)
  | 1 =>
    refine so_aload_n (pc := 38) (i := 0) X (by decide +kernel) ?_
    refine so_aload_n (pc := 39) (i := 0) X (by decide +kernel) ?_
    refine so_geti (pc := 40) (index := 98) (ci := 7) (f := 19) (N := 32) (C := RX7) (T := TX7) X rfl uX7 (by decide) (by decide) tw_411 rfl (by decide) (by decide +kernel) ?_
    refine so_puti (pc := 43) (index := 101) (ci := 7) (f := 21) (N := 32) (C := RX7) (T := TX7) X rfl uX7 (by decide) (by decide) tw_412 tyX7 tyX7_ok nmX7 rfl (by decide +kernel) rfl (by decide +kernel) ?_
    refine so_aload_n (pc := 46) (i := 0) X (by decide +kernel) ?_
    refine so_geti (pc := 47) (index := 98) (ci := 7) (f := 19) (N := 32) (C := RX7) (T := TX7) X rfl uX7 (by decide) (by decide) tw_411 rfl (by decide) (by decide +kernel) ?_
    refine so_aload_n (pc := 50) (i := 0) X (by decide +kernel) ?_
    refine so_geti (pc := 51) (index := 81) (ci := 7) (f := 5) (N := 32) (C := RX7) (T := TX7) X rfl uX7 (by decide) (by decide) tw_403 rfl (by decide) (by decide +kernel) ?_
    refine so_icmp_ne (pc := 54) (off := 9) (tgt := 63) X (by decide +kernel) (by decide) (hJ 2) ?_
    refine so_aload_n (pc := 57) (i := 0) X (by decide +kernel) ?_
    refine so_iconst (pc := 58) (n := (-1)) (v := (-1)) X (by decide +kernel) (by decide) ?_
    refine so_puti (pc := 59) (index := 104) (ci := 7) (f := 20) (N := 32) (C := RX7) (T := TX7) X rfl uX7 (by decide) (by decide) tw_413 tyX7 tyX7_ok nmX7 rfl (by decide +kernel) rfl (by decide +kernel) ?_
    exact so_rtv (pc := 62) X hlk hfree hr (by decide +kernel)
  | 2 =>
    refine so_aload_n (pc := 63) (i := 0) X (by decide +kernel) ?_
    refine so_getr (pc := 64) (index := 13) (ci := 7) (f := 4) (N := 32) (C := RX7) (T := TX7) X rfl uX7 (by decide) (by decide) tw_376 rfl (by decide +kernel) ?_
    refine so_aload_n (pc := 67) (i := 0) X (by decide +kernel) ?_
    refine so_geti (pc := 68) (index := 98) (ci := 7) (f := 19) (N := 32) (C := RX7) (T := TX7) X rfl uX7 (by decide) (by decide) tw_411 rfl (by decide) (by decide +kernel) ?_
    refine so_bald (pc := 71) X (by decide +kernel) ?_
    refine so_istore_n (pc := 72) (i := 1) X (by decide +kernel) (by decide) ?_
    refine so_aload_n (pc := 73) (i := 0) X (by decide +kernel) ?_
    refine so_geti (pc := 74) (index := 98) (ci := 7) (f := 19) (N := 32) (C := RX7) (T := TX7) X rfl uX7 (by decide) (by decide) tw_411 rfl (by decide) (by decide +kernel) ?_
    refine so_istore_n (pc := 77) (i := 2) X (by decide +kernel) (by decide) ?_
    refine so_aload_n (pc := 78) (i := 0) X (by decide +kernel) ?_
    refine so_dup (pc := 79) X (by decide +kernel) ?_
    refine so_geti (pc := 80) (index := 98) (ci := 7) (f := 19) (N := 32) (C := RX7) (T := TX7) X rfl uX7 (by decide) (by decide) tw_411 rfl (by decide) (by decide +kernel) ?_
    refine so_iconst (pc := 83) (n := 1) (v := 1) X (by decide +kernel) (by decide) ?_
    refine so_iadd (pc := 84) X (by decide +kernel) ?_
    refine so_puti (pc := 85) (index := 98) (ci := 7) (f := 19) (N := 32) (C := RX7) (T := TX7) X rfl uX7 (by decide) (by decide) tw_411 tyX7 tyX7_ok nmX7 rfl (by decide +kernel) rfl (by decide +kernel) ?_
    refine so_iload_n (pc := 88) (i := 1) X (by decide +kernel) ?_
    refine so_cas (pc := 89) (y := 104) (na := 1) (index := 107) (maxL := 1) (nm := yX7_isLetter) (bytes := cX7_isLetter) (ret := (some .boolean)) X hxo (fun _ _ _ _ h => h.1) hC lw_good (Nat.le_refl _) (mm_lo d) rfl (by decide) tw_414 tw_415 tw_397 tw_416 (by decide +kernel) (by decide +kernel) ?_
    refine so_if_eq (pc := 92) (off := 60) (tgt := 152) X (by decide +kernel) (by decide) (hJ 5) ?_
    exact so_fall X (hJ 3)
  | 3 =>
    refine so_aload_n (pc := 95) (i := 0) X (by decide +kernel) ?_
    refine so_geti (pc := 96) (index := 98) (ci := 7) (f := 19) (N := 32) (C := RX7) (T := TX7) X rfl uX7 (by decide) (by decide) tw_411 rfl (by decide) (by decide +kernel) ?_
    refine so_aload_n (pc := 99) (i := 0) X (by decide +kernel) ?_
    refine so_geti (pc := 100) (index := 81) (ci := 7) (f := 5) (N := 32) (C := RX7) (T := TX7) X rfl uX7 (by decide) (by decide) tw_403 rfl (by decide) (by decide +kernel) ?_
    refine so_icmp_ge (pc := 103) (off := 31) (tgt := 134) X (by decide +kernel) (by decide) (hJ 4) ?_
    refine so_aload_n (pc := 106) (i := 0) X (by decide +kernel) ?_
    refine so_getr (pc := 107) (index := 13) (ci := 7) (f := 4) (N := 32) (C := RX7) (T := TX7) X rfl uX7 (by decide) (by decide) tw_376 rfl (by decide +kernel) ?_
    refine so_aload_n (pc := 110) (i := 0) X (by decide +kernel) ?_
    refine so_geti (pc := 111) (index := 98) (ci := 7) (f := 19) (N := 32) (C := RX7) (T := TX7) X rfl uX7 (by decide) (by decide) tw_411 rfl (by decide) (by decide +kernel) ?_
    refine so_bald (pc := 114) X (by decide +kernel) ?_
    refine so_cas (pc := 115) (y := 104) (na := 1) (index := 107) (maxL := 1) (nm := yX7_isLetter) (bytes := cX7_isLetter) (ret := (some .boolean)) X hxo (fun _ _ _ _ h => h.1) hC lw_good (Nat.le_refl _) (mm_lo d) rfl (by decide) tw_414 tw_415 tw_397 tw_416 (by decide +kernel) (by decide +kernel) ?_
    refine so_if_eq (pc := 118) (off := 16) (tgt := 134) X (by decide +kernel) (by decide) (hJ 4) ?_
    refine so_aload_n (pc := 121) (i := 0) X (by decide +kernel) ?_
    refine so_dup (pc := 122) X (by decide +kernel) ?_
    refine so_geti (pc := 123) (index := 98) (ci := 7) (f := 19) (N := 32) (C := RX7) (T := TX7) X rfl uX7 (by decide) (by decide) tw_411 rfl (by decide) (by decide +kernel) ?_
    refine so_iconst (pc := 126) (n := 1) (v := 1) X (by decide +kernel) (by decide) ?_
    refine so_iadd (pc := 127) X (by decide +kernel) ?_
    refine so_puti (pc := 128) (index := 98) (ci := 7) (f := 19) (N := 32) (C := RX7) (T := TX7) X rfl uX7 (by decide) (by decide) tw_411 tyX7 tyX7_ok nmX7 rfl (by decide +kernel) rfl (by decide +kernel) ?_
    exact so_goto (pc := 131) (off := (-36)) (tgt := 95) X (by decide +kernel) (by decide) (hJ 3)
  | 4 =>
    refine so_aload_n (pc := 134) (i := 0) X (by decide +kernel) ?_
    refine so_aload_n (pc := 135) (i := 0) X (by decide +kernel) ?_
    refine so_iload_n (pc := 136) (i := 2) X (by decide +kernel) ?_
    refine so_aload_n (pc := 137) (i := 0) X (by decide +kernel) ?_
    refine so_geti (pc := 138) (index := 98) (ci := 7) (f := 19) (N := 32) (C := RX7) (T := TX7) X rfl uX7 (by decide) (by decide) tw_411 rfl (by decide) (by decide +kernel) ?_
    refine so_iload_n (pc := 141) (i := 2) X (by decide +kernel) ?_
    refine so_isub (pc := 142) X (by decide +kernel) ?_
    refine so_cav (pc := 143) (y := 106) (na := 3) (index := 110) (maxL := 6) (nm := yX7_wordFrom) (bytes := cX7_wordFrom) (ret := (some .int)) (ci := 7) (N := 32) (T := TX7) X hxo (fun _ _ _ _ h => h.1) hC lw_good (Nat.le_refl _) (mm_lo d) rfl (by decide) tw_417 tw_418 tw_397 rfl (by decide) tw_419 tw_420 (by decide +kernel) (by decide +kernel) ?_
    refine so_puti (pc := 146) (index := 104) (ci := 7) (f := 20) (N := 32) (C := RX7) (T := TX7) X rfl uX7 (by decide) (by decide) tw_413 tyX7 tyX7_ok nmX7 rfl (by decide +kernel) rfl (by decide +kernel) ?_
    exact so_goto (pc := 149) (off := 186) (tgt := 335) X (by decide +kernel) (by decide) (hJ 18)
  | 5 =>
    refine so_iload_n (pc := 152) (i := 1) X (by decide +kernel) ?_
    refine so_cas (pc := 153) (y := 105) (na := 1) (index := 114) (maxL := 1) (nm := yX7_isFigure) (bytes := cX7_isFigure) (ret := (some .boolean)) X hxo (fun _ _ _ _ h => h.1) hC lw_good (Nat.le_refl _) (mm_lo d) rfl (by decide) tw_421 tw_422 tw_397 tw_423 (by decide +kernel) (by decide +kernel) ?_
    refine so_if_eq (pc := 156) (off := 102) (tgt := 258) X (by decide +kernel) (by decide) (hJ 12) ?_
    refine so_iload_n (pc := 159) (i := 1) X (by decide +kernel) ?_
    refine so_bipush (pc := 160) (n := 48) (v := 48) X (by decide +kernel) (by decide) ?_
    refine so_isub (pc := 162) X (by decide +kernel) ?_
    refine so_istore_n (pc := 163) (i := 3) X (by decide +kernel) (by decide) ?_
    exact so_fall X (hJ 6)
  | 6 =>
    refine so_aload_n (pc := 164) (i := 0) X (by decide +kernel) ?_
    refine so_geti (pc := 165) (index := 98) (ci := 7) (f := 19) (N := 32) (C := RX7) (T := TX7) X rfl uX7 (by decide) (by decide) tw_411 rfl (by decide) (by decide +kernel) ?_
    refine so_aload_n (pc := 168) (i := 0) X (by decide +kernel) ?_
    refine so_geti (pc := 169) (index := 81) (ci := 7) (f := 5) (N := 32) (C := RX7) (T := TX7) X rfl uX7 (by decide) (by decide) tw_403 rfl (by decide) (by decide +kernel) ?_
    refine so_icmp_ge (pc := 172) (off := 63) (tgt := 235) X (by decide +kernel) (by decide) (hJ 9) ?_
    refine so_aload_n (pc := 175) (i := 0) X (by decide +kernel) ?_
    refine so_getr (pc := 176) (index := 13) (ci := 7) (f := 4) (N := 32) (C := RX7) (T := TX7) X rfl uX7 (by decide) (by decide) tw_376 rfl (by decide +kernel) ?_
    refine so_aload_n (pc := 179) (i := 0) X (by decide +kernel) ?_
    refine so_geti (pc := 180) (index := 98) (ci := 7) (f := 19) (N := 32) (C := RX7) (T := TX7) X rfl uX7 (by decide) (by decide) tw_411 rfl (by decide) (by decide +kernel) ?_
    refine so_bald (pc := 183) X (by decide +kernel) ?_
    refine so_cas (pc := 184) (y := 105) (na := 1) (index := 114) (maxL := 1) (nm := yX7_isFigure) (bytes := cX7_isFigure) (ret := (some .boolean)) X hxo (fun _ _ _ _ h => h.1) hC lw_good (Nat.le_refl _) (mm_lo d) rfl (by decide) tw_421 tw_422 tw_397 tw_423 (by decide +kernel) (by decide +kernel) ?_
    refine so_if_eq (pc := 187) (off := 48) (tgt := 235) X (by decide +kernel) (by decide) (hJ 9) ?_
    refine so_aload_n (pc := 190) (i := 0) X (by decide +kernel) ?_
    refine so_geti (pc := 191) (index := 98) (ci := 7) (f := 19) (N := 32) (C := RX7) (T := TX7) X rfl uX7 (by decide) (by decide) tw_411 rfl (by decide) (by decide +kernel) ?_
    refine so_iload_n (pc := 194) (i := 2) X (by decide +kernel) ?_
    refine so_isub (pc := 195) X (by decide +kernel) ?_
    refine so_iconst (pc := 196) (n := 4) (v := 4) X (by decide +kernel) (by decide) ?_
    refine so_icmp_ge (pc := 197) (off := 23) (tgt := 220) X (by decide +kernel) (by decide) (hJ 7) ?_
    refine so_bipush (pc := 200) (n := 10) (v := 10) X (by decide +kernel) (by decide) ?_
    refine so_iload_n (pc := 202) (i := 3) X (by decide +kernel) ?_
    refine so_imul (pc := 203) X (by decide +kernel) ?_
    refine so_aload_n (pc := 204) (i := 0) X (by decide +kernel) ?_
    refine so_getr (pc := 205) (index := 13) (ci := 7) (f := 4) (N := 32) (C := RX7) (T := TX7) X rfl uX7 (by decide) (by decide) tw_376 rfl (by decide +kernel) ?_
    refine so_aload_n (pc := 208) (i := 0) X (by decide +kernel) ?_
    refine so_geti (pc := 209) (index := 98) (ci := 7) (f := 19) (N := 32) (C := RX7) (T := TX7) X rfl uX7 (by decide) (by decide) tw_411 rfl (by decide) (by decide +kernel) ?_
    refine so_bald (pc := 212) X (by decide +kernel) ?_
    refine so_iadd (pc := 213) X (by decide +kernel) ?_
    refine so_bipush (pc := 214) (n := 48) (v := 48) X (by decide +kernel) (by decide) ?_
    refine so_isub (pc := 216) X (by decide +kernel) ?_
    exact so_goto (pc := 217) (off := 4) (tgt := 221) X (by decide +kernel) (by decide) (hJ 8)
  | 7 =>
    refine so_iload_n (pc := 220) (i := 3) X (by decide +kernel) ?_
    exact so_fall X (hJ 8)
  | 8 =>
    refine so_istore_n (pc := 221) (i := 3) X (by decide +kernel) (by decide) ?_
    refine so_aload_n (pc := 222) (i := 0) X (by decide +kernel) ?_
    refine so_dup (pc := 223) X (by decide +kernel) ?_
    refine so_geti (pc := 224) (index := 98) (ci := 7) (f := 19) (N := 32) (C := RX7) (T := TX7) X rfl uX7 (by decide) (by decide) tw_411 rfl (by decide) (by decide +kernel) ?_
    refine so_iconst (pc := 227) (n := 1) (v := 1) X (by decide +kernel) (by decide) ?_
    refine so_iadd (pc := 228) X (by decide +kernel) ?_
    refine so_puti (pc := 229) (index := 98) (ci := 7) (f := 19) (N := 32) (C := RX7) (T := TX7) X rfl uX7 (by decide) (by decide) tw_411 tyX7 tyX7_ok nmX7 rfl (by decide +kernel) rfl (by decide +kernel) ?_
    exact so_goto (pc := 232) (off := (-68)) (tgt := 164) X (by decide +kernel) (by decide) (hJ 6)
  | 9 =>
    refine so_aload_n (pc := 235) (i := 0) X (by decide +kernel) ?_
    refine so_aload_n (pc := 236) (i := 0) X (by decide +kernel) ?_
    refine so_geti (pc := 237) (index := 98) (ci := 7) (f := 19) (N := 32) (C := RX7) (T := TX7) X rfl uX7 (by decide) (by decide) tw_411 rfl (by decide) (by decide +kernel) ?_
    refine so_iload_n (pc := 240) (i := 2) X (by decide +kernel) ?_
    refine so_isub (pc := 241) X (by decide +kernel) ?_
    refine so_iconst (pc := 242) (n := 4) (v := 4) X (by decide +kernel) (by decide) ?_
    refine so_icmp_le (pc := 243) (off := 8) (tgt := 251) X (by decide +kernel) (by decide) (hJ 10) ?_
    refine so_bipush (pc := 246) (n := (-2)) (v := (-2)) X (by decide +kernel) (by decide) ?_
    exact so_goto (pc := 248) (off := 4) (tgt := 252) X (by decide +kernel) (by decide) (hJ 11)
  | 10 =>
    refine so_iload_n (pc := 251) (i := 3) X (by decide +kernel) ?_
    exact so_fall X (hJ 11)
  | 11 =>
    refine so_puti (pc := 252) (index := 104) (ci := 7) (f := 20) (N := 32) (C := RX7) (T := TX7) X rfl uX7 (by decide) (by decide) tw_413 tyX7 tyX7_ok nmX7 rfl (by decide +kernel) rfl (by decide +kernel) ?_
    exact so_goto (pc := 255) (off := 80) (tgt := 335) X (by decide +kernel) (by decide) (hJ 18)
  | 12 =>
    refine so_iload_n (pc := 258) (i := 1) X (by decide +kernel) ?_
    refine so_bipush (pc := 259) (n := 40) (v := 40) X (by decide +kernel) (by decide) ?_
    refine so_icmp_eq (pc := 261) (off := 51) (tgt := 312) X (by decide +kernel) (by decide) (hJ 13) ?_
    refine so_iload_n (pc := 264) (i := 1) X (by decide +kernel) ?_
    refine so_bipush (pc := 265) (n := 41) (v := 41) X (by decide +kernel) (by decide) ?_
    refine so_icmp_eq (pc := 267) (off := 45) (tgt := 312) X (by decide +kernel) (by decide) (hJ 13) ?_
    refine so_iload_n (pc := 270) (i := 1) X (by decide +kernel) ?_
    refine so_bipush (pc := 271) (n := 43) (v := 43) X (by decide +kernel) (by decide) ?_
    refine so_icmp_eq (pc := 273) (off := 39) (tgt := 312) X (by decide +kernel) (by decide) (hJ 13) ?_
    refine so_iload_n (pc := 276) (i := 1) X (by decide +kernel) ?_
    refine so_bipush (pc := 277) (n := 45) (v := 45) X (by decide +kernel) (by decide) ?_
    refine so_icmp_eq (pc := 279) (off := 33) (tgt := 312) X (by decide +kernel) (by decide) (hJ 13) ?_
    refine so_iload_n (pc := 282) (i := 1) X (by decide +kernel) ?_
    refine so_bipush (pc := 283) (n := 42) (v := 42) X (by decide +kernel) (by decide) ?_
    refine so_icmp_eq (pc := 285) (off := 27) (tgt := 312) X (by decide +kernel) (by decide) (hJ 13) ?_
    refine so_iload_n (pc := 288) (i := 1) X (by decide +kernel) ?_
    refine so_bipush (pc := 289) (n := 47) (v := 47) X (by decide +kernel) (by decide) ?_
    refine so_icmp_eq (pc := 291) (off := 21) (tgt := 312) X (by decide +kernel) (by decide) (hJ 13) ?_
    refine so_iload_n (pc := 294) (i := 1) X (by decide +kernel) ?_
    refine so_bipush (pc := 295) (n := 60) (v := 60) X (by decide +kernel) (by decide) ?_
    refine so_icmp_eq (pc := 297) (off := 15) (tgt := 312) X (by decide +kernel) (by decide) (hJ 13) ?_
    refine so_iload_n (pc := 300) (i := 1) X (by decide +kernel) ?_
    refine so_bipush (pc := 301) (n := 61) (v := 61) X (by decide +kernel) (by decide) ?_
    refine so_icmp_eq (pc := 303) (off := 9) (tgt := 312) X (by decide +kernel) (by decide) (hJ 13) ?_
    refine so_iload_n (pc := 306) (i := 1) X (by decide +kernel) ?_
    refine so_bipush (pc := 307) (n := 62) (v := 62) X (by decide +kernel) (by decide) ?_
    refine so_icmp_ne (pc := 309) (off := 7) (tgt := 316) X (by decide +kernel) (by decide) (hJ 14) ?_
    exact so_fall X (hJ 13)
  | 13 =>
    refine so_iconst (pc := 312) (n := 1) (v := 1) X (by decide +kernel) (by decide) ?_
    exact so_goto (pc := 313) (off := 4) (tgt := 317) X (by decide +kernel) (by decide) (hJ 15)
  | 14 =>
    refine so_iconst (pc := 316) (n := 0) (v := 0) X (by decide +kernel) (by decide) ?_
    exact so_fall X (hJ 15)
  | 15 =>
    refine so_istore_n (pc := 317) (i := 3) X (by decide +kernel) (by decide) ?_
    refine so_aload_n (pc := 318) (i := 0) X (by decide +kernel) ?_
    refine so_iload_n (pc := 319) (i := 3) X (by decide +kernel) ?_
    refine so_if_eq (pc := 320) (off := 10) (tgt := 330) X (by decide +kernel) (by decide) (hJ 16) ?_
    refine so_bipush (pc := 323) (n := (-100)) (v := (-100)) X (by decide +kernel) (by decide) ?_
    refine so_iload_n (pc := 325) (i := 1) X (by decide +kernel) ?_
    refine so_isub (pc := 326) X (by decide +kernel) ?_
    exact so_goto (pc := 327) (off := 5) (tgt := 332) X (by decide +kernel) (by decide) (hJ 17)
  | 16 =>
    refine so_bipush (pc := 330) (n := (-2)) (v := (-2)) X (by decide +kernel) (by decide) ?_
    exact so_fall X (hJ 17)
  | 17 =>
    refine so_puti (pc := 332) (index := 104) (ci := 7) (f := 20) (N := 32) (C := RX7) (T := TX7) X rfl uX7 (by decide) (by decide) tw_413 tyX7 tyX7_ok nmX7 rfl (by decide +kernel) rfl (by decide +kernel) ?_
    exact so_fall X (hJ 18)
  | 18 =>
    exact so_rtv (pc := 335) X hlk hfree hr (by decide +kernel)
  | n + 19 => exact fun _ _ _ _ h => h.elim
theorem bs_X7_next {l : Launch} {D : va_G} {EXT : (Nat → Nat) → (Nat → Prop) → State → Heap → Prop} (hxo : mm_xo EXT) (hxe : ∀ ad A U H, EXT ad A U H → px_E0 ad A U H) : mm_BS l D pcl lw_T EXT px_tab 107 pb_X7_next pp_X7_next := by
  intro d C hC p e s m args below meth c A ad0 cA0 μ0 free Q J
  rw [tb_107]
  exact fun X hr hlk hnm hfree hJ => bk_X7_next hxo hxe hC X hr hlk hnm hfree hJ
set_option maxHeartbeats 4000000 in
set_option maxRecDepth 100000 in
theorem bk_X7_fail {l : Launch} {D : va_G} {EXT : (Nat → Nat) → (Nat → Prop) → State → Heap → Prop} (hxo : mm_xo EXT) (hxe : ∀ ad A U H, EXT ad A U H → px_E0 ad A U H) {d : Nat} {C : mm_C} (hC : mm_CS l D pcl lw_T EXT px_tab d C) {p : Program} {e : Env} {s : State} {m : MethodId} {args : Array Value} {below : List Frame} {meth : Method} {c : Code} {A : Nat → Prop} {ad0 : Nat → Nat} {cA0 : Nat → ClassId} {μ0 : mm_M} {free : Addr → Prop} {Q : mm_Q} {J : mm_J} (X : mm_cx p (mm_rm (d + 1) 0 0) s m args c cX7_fail RX7 lw_T A D pcl 2) (hr : meth.sig.returnType = none) (hlk : meth.locks = false) (hnm : meth.name = "fail") (hfree : ∀ q, A q → free q) (hJ : ∀ t, mm_SK p l e (mm_rm (d + 1) 0 0) s m args below meth c (MQ below (mm_Qc D pcl Q ad0 cA0 μ0 0 A) args s 0 0 free) D pcl A 2 (mm_EX EXT A s ad0 cA0 (mm_n μ0)) (pp_X7_fail t) (J t)) : ∀ t, mm_SK p l e (mm_rm (d + 1) 0 0) s m args below meth c (MQ below (mm_Qc D pcl Q ad0 cA0 μ0 0 A) args s 0 0 free) D pcl A 2 (mm_EX EXT A s ad0 cA0 (mm_n μ0)) (pp_X7_fail t) (pb_X7_fail J C Q t) := by
  intro t
  match t with
  | 0 =>
    refine so_aload_n (pc := 0) (i := 0) X (by decide +kernel) ?_
    refine so_geti (pc := 1) (index := 117) (ci := 7) (f := 23) (N := 32) (C := RX7) (T := TX7) X rfl uX7 (by decide) (by decide) tw_424 rfl (by decide) (by decide +kernel) ?_
    refine so_if_ne (pc := 4) (off := 16) (tgt := 20) X (by decide +kernel) (by decide) (hJ 1) ?_
    refine so_aload_n (pc := 7) (i := 0) X (by decide +kernel) ?_
    refine so_iload_n (pc := 8) (i := 1) X (by decide +kernel) ?_
    refine so_puti (pc := 9) (index := 117) (ci := 7) (f := 23) (N := 32) (C := RX7) (T := TX7) X rfl uX7 (by decide) (by decide) tw_424 tyX7 tyX7_ok nmX7 rfl (by decide +kernel) rfl (by decide +kernel) ?_
    refine so_aload_n (pc := 12) (i := 0) X (by decide +kernel) ?_
    refine so_aload_n (pc := 13) (i := 0) X (by decide +kernel) ?_
    refine so_geti (pc := 14) (index := 101) (ci := 7) (f := 21) (N := 32) (C := RX7) (T := TX7) X rfl uX7 (by decide) (by decide) tw_412 rfl (by decide) (by decide +kernel) ?_
    refine so_puti (pc := 17) (index := 120) (ci := 7) (f := 24) (N := 32) (C := RX7) (T := TX7) X rfl uX7 (by decide) (by decide) tw_425 tyX7 tyX7_ok nmX7 rfl (by decide +kernel) rfl (by decide +kernel) ?_
    exact so_fall X (hJ 1)
  | 1 =>
    exact so_rtv (pc := 20) X hlk hfree hr (by decide +kernel)
  | n + 2 => exact fun _ _ _ _ h => h.elim
theorem bs_X7_fail {l : Launch} {D : va_G} {EXT : (Nat → Nat) → (Nat → Prop) → State → Heap → Prop} (hxo : mm_xo EXT) (hxe : ∀ ad A U H, EXT ad A U H → px_E0 ad A U H) : mm_BS l D pcl lw_T EXT px_tab 108 pb_X7_fail pp_X7_fail := by
  intro d C hC p e s m args below meth c A ad0 cA0 μ0 free Q J
  rw [tb_108]
  exact fun X hr hlk hnm hfree hJ => bk_X7_fail hxo hxe hC X hr hlk hnm hfree hJ
set_option maxHeartbeats 4000000 in
set_option maxRecDepth 100000 in
theorem bk_X7_odd {l : Launch} {D : va_G} {EXT : (Nat → Nat) → (Nat → Prop) → State → Heap → Prop} (hxo : mm_xo EXT) (hxe : ∀ ad A U H, EXT ad A U H → px_E0 ad A U H) {d : Nat} {C : mm_C} (hC : mm_CS l D pcl lw_T EXT px_tab d C) {p : Program} {e : Env} {s : State} {m : MethodId} {args : Array Value} {below : List Frame} {meth : Method} {c : Code} {A : Nat → Prop} {ad0 : Nat → Nat} {cA0 : Nat → ClassId} {μ0 : mm_M} {free : Addr → Prop} {Q : mm_Q} {J : mm_J} (X : mm_cx p (mm_rm (d + 1) 0 0) s m args c cX7_odd RX7 lw_T A D pcl 1) (hr : meth.sig.returnType = none) (hlk : meth.locks = false) (hnm : meth.name = "odd") (hfree : ∀ q, A q → free q) (hJ : ∀ t, mm_SK p l e (mm_rm (d + 1) 0 0) s m args below meth c (MQ below (mm_Qc D pcl Q ad0 cA0 μ0 0 A) args s 0 0 free) D pcl A 1 (mm_EX EXT A s ad0 cA0 (mm_n μ0)) (pp_X7_odd t) (J t)) : ∀ t, mm_SK p l e (mm_rm (d + 1) 0 0) s m args below meth c (MQ below (mm_Qc D pcl Q ad0 cA0 μ0 0 A) args s 0 0 free) D pcl A 1 (mm_EX EXT A s ad0 cA0 (mm_n μ0)) (pp_X7_odd t) (pb_X7_odd J C Q t) := by
  intro t
  match t with
  | 0 =>
    refine so_aload_n (pc := 0) (i := 0) X (by decide +kernel) ?_
    refine so_aload_n (pc := 1) (i := 0) X (by decide +kernel) ?_
    refine so_geti (pc := 2) (index := 104) (ci := 7) (f := 20) (N := 32) (C := RX7) (T := TX7) X rfl uX7 (by decide) (by decide) tw_413 rfl (by decide) (by decide +kernel) ?_
    refine so_bipush (pc := 5) (n := (-2)) (v := (-2)) X (by decide +kernel) (by decide) ?_
    refine so_icmp_ne (pc := 7) (off := 7) (tgt := 14) X (by decide +kernel) (by decide) (hJ 1) ?_
    refine so_iconst (pc := 10) (n := 1) (v := 1) X (by decide +kernel) (by decide) ?_
    exact so_goto (pc := 11) (off := 4) (tgt := 15) X (by decide +kernel) (by decide) (hJ 2)
  | 1 =>
    refine so_iconst (pc := 14) (n := 2) (v := 2) X (by decide +kernel) (by decide) ?_
    exact so_fall X (hJ 2)
  | 2 =>
    refine so_cav (pc := 15) (y := 108) (na := 2) (index := 123) (maxL := 2) (nm := yX7_fail) (bytes := cX7_fail) (ret := none) (ci := 7) (N := 32) (T := TX7) X hxo (fun _ _ _ _ h => h.1) hC lw_good (Nat.le_refl _) (mm_lo d) rfl (by decide) tw_426 tw_427 tw_397 rfl (by decide) tw_428 tw_429 (by decide +kernel) (by decide +kernel) ?_
    exact so_rtv (pc := 18) X hlk hfree hr (by decide +kernel)
  | n + 3 => exact fun _ _ _ _ h => h.elim
theorem bs_X7_odd {l : Launch} {D : va_G} {EXT : (Nat → Nat) → (Nat → Prop) → State → Heap → Prop} (hxo : mm_xo EXT) (hxe : ∀ ad A U H, EXT ad A U H → px_E0 ad A U H) : mm_BS l D pcl lw_T EXT px_tab 109 pb_X7_odd pp_X7_odd := by
  intro d C hC p e s m args below meth c A ad0 cA0 μ0 free Q J
  rw [tb_109]
  exact fun X hr hlk hnm hfree hJ => bk_X7_odd hxo hxe hC X hr hlk hnm hfree hJ
set_option maxHeartbeats 4000000 in
set_option maxRecDepth 100000 in
theorem bk_X7_take {l : Launch} {D : va_G} {EXT : (Nat → Nat) → (Nat → Prop) → State → Heap → Prop} (hxo : mm_xo EXT) (hxe : ∀ ad A U H, EXT ad A U H → px_E0 ad A U H) {d : Nat} {C : mm_C} (hC : mm_CS l D pcl lw_T EXT px_tab d C) {p : Program} {e : Env} {s : State} {m : MethodId} {args : Array Value} {below : List Frame} {meth : Method} {c : Code} {A : Nat → Prop} {ad0 : Nat → Nat} {cA0 : Nat → ClassId} {μ0 : mm_M} {free : Addr → Prop} {Q : mm_Q} {J : mm_J} (X : mm_cx p (mm_rm (d + 1) 0 0) s m args c cX7_take RX7 lw_T A D pcl 1) (hr : meth.sig.returnType = none) (hlk : meth.locks = false) (hnm : meth.name = "take") (hfree : ∀ q, A q → free q) (hJ : ∀ t, mm_SK p l e (mm_rm (d + 1) 0 0) s m args below meth c (MQ below (mm_Qc D pcl Q ad0 cA0 μ0 0 A) args s 0 0 free) D pcl A 1 (mm_EX EXT A s ad0 cA0 (mm_n μ0)) (pp_X7_take t) (J t)) : ∀ t, mm_SK p l e (mm_rm (d + 1) 0 0) s m args below meth c (MQ below (mm_Qc D pcl Q ad0 cA0 μ0 0 A) args s 0 0 free) D pcl A 1 (mm_EX EXT A s ad0 cA0 (mm_n μ0)) (pp_X7_take t) (pb_X7_take J C Q t) := by
  intro t
  match t with
  | 0 =>
    refine so_aload_n (pc := 0) (i := 0) X (by decide +kernel) ?_
    refine so_dup (pc := 1) X (by decide +kernel) ?_
    refine so_geti (pc := 2) (index := 127) (ci := 7) (f := 22) (N := 32) (C := RX7) (T := TX7) X rfl uX7 (by decide) (by decide) tw_430 rfl (by decide) (by decide +kernel) ?_
    refine so_iconst (pc := 5) (n := 1) (v := 1) X (by decide +kernel) (by decide) ?_
    refine so_iadd (pc := 6) X (by decide +kernel) ?_
    refine so_puti (pc := 7) (index := 127) (ci := 7) (f := 22) (N := 32) (C := RX7) (T := TX7) X rfl uX7 (by decide) (by decide) tw_430 tyX7 tyX7_ok nmX7 rfl (by decide +kernel) rfl (by decide +kernel) ?_
    refine so_aload_n (pc := 10) (i := 0) X (by decide +kernel) ?_
    refine so_geti (pc := 11) (index := 127) (ci := 7) (f := 22) (N := 32) (C := RX7) (T := TX7) X rfl uX7 (by decide) (by decide) tw_430 rfl (by decide) (by decide +kernel) ?_
    refine so_bipush (pc := 14) (n := 60) (v := 60) X (by decide +kernel) (by decide) ?_
    refine so_icmp_le (pc := 16) (off := 8) (tgt := 24) X (by decide +kernel) (by decide) (hJ 1) ?_
    refine so_aload_n (pc := 19) (i := 0) X (by decide +kernel) ?_
    refine so_iconst (pc := 20) (n := 3) (v := 3) X (by decide +kernel) (by decide) ?_
    refine so_cav (pc := 21) (y := 108) (na := 2) (index := 123) (maxL := 2) (nm := yX7_fail) (bytes := cX7_fail) (ret := none) (ci := 7) (N := 32) (T := TX7) X hxo (fun _ _ _ _ h => h.1) hC lw_good (Nat.le_refl _) (mm_lo d) rfl (by decide) tw_426 tw_427 tw_397 rfl (by decide) tw_428 tw_429 (by decide +kernel) (by decide +kernel) ?_
    exact so_fall X (hJ 1)
  | 1 =>
    refine so_aload_n (pc := 24) (i := 0) X (by decide +kernel) ?_
    refine so_geti (pc := 25) (index := 117) (ci := 7) (f := 23) (N := 32) (C := RX7) (T := TX7) X rfl uX7 (by decide) (by decide) tw_424 rfl (by decide) (by decide +kernel) ?_
    refine so_if_ne (pc := 28) (off := 7) (tgt := 35) X (by decide +kernel) (by decide) (hJ 2) ?_
    refine so_aload_n (pc := 31) (i := 0) X (by decide +kernel) ?_
    refine so_cav (pc := 32) (y := 107) (na := 1) (index := 130) (maxL := 4) (nm := yX7_next) (bytes := cX7_next) (ret := none) (ci := 7) (N := 32) (T := TX7) X hxo (fun _ _ _ _ h => h.1) hC lw_good (Nat.le_refl _) (mm_lo d) rfl (by decide) tw_431 tw_432 tw_397 rfl (by decide) tw_433 tw_434 (by decide +kernel) (by decide +kernel) ?_
    exact so_fall X (hJ 2)
  | 2 =>
    exact so_rtv (pc := 35) X hlk hfree hr (by decide +kernel)
  | n + 3 => exact fun _ _ _ _ h => h.elim
theorem bs_X7_take {l : Launch} {D : va_G} {EXT : (Nat → Nat) → (Nat → Prop) → State → Heap → Prop} (hxo : mm_xo EXT) (hxe : ∀ ad A U H, EXT ad A U H → px_E0 ad A U H) : mm_BS l D pcl lw_T EXT px_tab 110 pb_X7_take pp_X7_take := by
  intro d C hC p e s m args below meth c A ad0 cA0 μ0 free Q J
  rw [tb_110]
  exact fun X hr hlk hnm hfree hJ => bk_X7_take hxo hxe hC X hr hlk hnm hfree hJ
set_option maxHeartbeats 4000000 in
set_option maxRecDepth 100000 in
theorem bk_X7_isSign {l : Launch} {D : va_G} {EXT : (Nat → Nat) → (Nat → Prop) → State → Heap → Prop} (hxo : mm_xo EXT) (hxe : ∀ ad A U H, EXT ad A U H → px_E0 ad A U H) {d : Nat} {C : mm_C} (hC : mm_CS l D pcl lw_T EXT px_tab d C) {p : Program} {e : Env} {s : State} {m : MethodId} {args : Array Value} {below : List Frame} {meth : Method} {c : Code} {A : Nat → Prop} {ad0 : Nat → Nat} {cA0 : Nat → ClassId} {μ0 : mm_M} {free : Addr → Prop} {Q : mm_Q} {J : mm_J} (X : mm_cx p (mm_rm (d + 1) 0 0) s m args c cX7_isSign RX7 lw_T A D pcl 2) (hr : meth.sig.returnType = some .boolean) (hlk : meth.locks = false) (hnm : meth.name = "isSign") (hfree : ∀ q, A q → free q) (hJ : ∀ t, mm_SK p l e (mm_rm (d + 1) 0 0) s m args below meth c (MQ below (mm_Qc D pcl Q ad0 cA0 μ0 0 A) args s 0 0 free) D pcl A 2 (mm_EX EXT A s ad0 cA0 (mm_n μ0)) (pp_X7_isSign t) (J t)) : ∀ t, mm_SK p l e (mm_rm (d + 1) 0 0) s m args below meth c (MQ below (mm_Qc D pcl Q ad0 cA0 μ0 0 A) args s 0 0 free) D pcl A 2 (mm_EX EXT A s ad0 cA0 (mm_n μ0)) (pp_X7_isSign t) (pb_X7_isSign J C Q t) := by
  intro t
  match t with
  | 0 =>
    refine so_aload_n (pc := 0) (i := 0) X (by decide +kernel) ?_
    refine so_geti (pc := 1) (index := 117) (ci := 7) (f := 23) (N := 32) (C := RX7) (T := TX7) X rfl uX7 (by decide) (by decide) tw_424 rfl (by decide) (by decide +kernel) ?_
    refine so_if_ne (pc := 4) (off := 18) (tgt := 22) X (by decide +kernel) (by decide) (hJ 1) ?_
    refine so_aload_n (pc := 7) (i := 0) X (by decide +kernel) ?_
    refine so_geti (pc := 8) (index := 104) (ci := 7) (f := 20) (N := 32) (C := RX7) (T := TX7) X rfl uX7 (by decide) (by decide) tw_413 rfl (by decide) (by decide +kernel) ?_
    refine so_bipush (pc := 11) (n := (-100)) (v := (-100)) X (by decide +kernel) (by decide) ?_
    refine so_iload_n (pc := 13) (i := 1) X (by decide +kernel) ?_
    refine so_isub (pc := 14) X (by decide +kernel) ?_
    refine so_icmp_ne (pc := 15) (off := 7) (tgt := 22) X (by decide +kernel) (by decide) (hJ 1) ?_
    refine so_iconst (pc := 18) (n := 1) (v := 1) X (by decide +kernel) (by decide) ?_
    exact so_goto (pc := 19) (off := 4) (tgt := 23) X (by decide +kernel) (by decide) (hJ 2)
  | 1 =>
    refine so_iconst (pc := 22) (n := 0) (v := 0) X (by decide +kernel) (by decide) ?_
    exact so_fall X (hJ 2)
  | 2 =>
    exact so_rtz (pc := 23) X hlk hfree hr (by decide +kernel)
  | n + 3 => exact fun _ _ _ _ h => h.elim
theorem bs_X7_isSign {l : Launch} {D : va_G} {EXT : (Nat → Nat) → (Nat → Prop) → State → Heap → Prop} (hxo : mm_xo EXT) (hxe : ∀ ad A U H, EXT ad A U H → px_E0 ad A U H) : mm_BS l D pcl lw_T EXT px_tab 111 pb_X7_isSign pp_X7_isSign := by
  intro d C hC p e s m args below meth c A ad0 cA0 μ0 free Q J
  rw [tb_111]
  exact fun X hr hlk hnm hfree hJ => bk_X7_isSign hxo hxe hC X hr hlk hnm hfree hJ
set_option maxHeartbeats 4000000 in
set_option maxRecDepth 100000 in
theorem bk_X7_put {l : Launch} {D : va_G} {EXT : (Nat → Nat) → (Nat → Prop) → State → Heap → Prop} (hxo : mm_xo EXT) (hxe : ∀ ad A U H, EXT ad A U H → px_E0 ad A U H) {d : Nat} {C : mm_C} (hC : mm_CS l D pcl lw_T EXT px_tab d C) {p : Program} {e : Env} {s : State} {m : MethodId} {args : Array Value} {below : List Frame} {meth : Method} {c : Code} {A : Nat → Prop} {ad0 : Nat → Nat} {cA0 : Nat → ClassId} {μ0 : mm_M} {free : Addr → Prop} {Q : mm_Q} {J : mm_J} (X : mm_cx p (mm_rm (d + 1) 0 0) s m args c cX7_put RX7 lw_T A D pcl 2) (hr : meth.sig.returnType = none) (hlk : meth.locks = false) (hnm : meth.name = "put") (hfree : ∀ q, A q → free q) (hJ : ∀ t, mm_SK p l e (mm_rm (d + 1) 0 0) s m args below meth c (MQ below (mm_Qc D pcl Q ad0 cA0 μ0 0 A) args s 0 0 free) D pcl A 2 (mm_EX EXT A s ad0 cA0 (mm_n μ0)) (pp_X7_put t) (J t)) : ∀ t, mm_SK p l e (mm_rm (d + 1) 0 0) s m args below meth c (MQ below (mm_Qc D pcl Q ad0 cA0 μ0 0 A) args s 0 0 free) D pcl A 2 (mm_EX EXT A s ad0 cA0 (mm_n μ0)) (pp_X7_put t) (pb_X7_put J C Q t) := by
  intro t
  match t with
  | 0 =>
    refine so_aload_n (pc := 0) (i := 0) X (by decide +kernel) ?_
    refine so_geti (pc := 1) (index := 117) (ci := 7) (f := 23) (N := 32) (C := RX7) (T := TX7) X rfl uX7 (by decide) (by decide) tw_424 rfl (by decide) (by decide +kernel) ?_
    refine so_if_ne (pc := 4) (off := 27) (tgt := 31) X (by decide +kernel) (by decide) (hJ 1) ?_
    refine so_aload_n (pc := 7) (i := 0) X (by decide +kernel) ?_
    refine so_getr (pc := 8) (index := 21) (ci := 7) (f := 7) (N := 32) (C := RX7) (T := TX7) X rfl uX7 (by decide) (by decide) tw_378 rfl (by decide +kernel) ?_
    refine so_sipush (pc := 11) (n := 576) (v := 576) X (by decide +kernel) (by decide) ?_
    refine so_aload_n (pc := 14) (i := 0) X (by decide +kernel) ?_
    refine so_geti (pc := 15) (index := 133) (ci := 7) (f := 26) (N := 32) (C := RX7) (T := TX7) X rfl uX7 (by decide) (by decide) tw_435 rfl (by decide) (by decide +kernel) ?_
    refine so_iadd (pc := 18) X (by decide +kernel) ?_
    refine so_iload_n (pc := 19) (i := 1) X (by decide +kernel) ?_
    refine so_iast (pc := 20) X (by decide +kernel) ?_
    refine so_aload_n (pc := 21) (i := 0) X (by decide +kernel) ?_
    refine so_dup (pc := 22) X (by decide +kernel) ?_
    refine so_geti (pc := 23) (index := 133) (ci := 7) (f := 26) (N := 32) (C := RX7) (T := TX7) X rfl uX7 (by decide) (by decide) tw_435 rfl (by decide) (by decide +kernel) ?_
    refine so_iconst (pc := 26) (n := 1) (v := 1) X (by decide +kernel) (by decide) ?_
    refine so_iadd (pc := 27) X (by decide +kernel) ?_
    refine so_puti (pc := 28) (index := 133) (ci := 7) (f := 26) (N := 32) (C := RX7) (T := TX7) X rfl uX7 (by decide) (by decide) tw_435 tyX7 tyX7_ok nmX7 rfl (by decide +kernel) rfl (by decide +kernel) ?_
    exact so_fall X (hJ 1)
  | 1 =>
    exact so_rtv (pc := 31) X hlk hfree hr (by decide +kernel)
  | n + 2 => exact fun _ _ _ _ h => h.elim
theorem bs_X7_put {l : Launch} {D : va_G} {EXT : (Nat → Nat) → (Nat → Prop) → State → Heap → Prop} (hxo : mm_xo EXT) (hxe : ∀ ad A U H, EXT ad A U H → px_E0 ad A U H) : mm_BS l D pcl lw_T EXT px_tab 112 pb_X7_put pp_X7_put := by
  intro d C hC p e s m args below meth c A ad0 cA0 μ0 free Q J
  rw [tb_112]
  exact fun X hr hlk hnm hfree hJ => bk_X7_put hxo hxe hC X hr hlk hnm hfree hJ
set_option maxHeartbeats 4000000 in
set_option maxRecDepth 100000 in
theorem bk_X7_opens {l : Launch} {D : va_G} {EXT : (Nat → Nat) → (Nat → Prop) → State → Heap → Prop} (hxo : mm_xo EXT) (hxe : ∀ ad A U H, EXT ad A U H → px_E0 ad A U H) {d : Nat} {C : mm_C} (hC : mm_CS l D pcl lw_T EXT px_tab d C) {p : Program} {e : Env} {s : State} {m : MethodId} {args : Array Value} {below : List Frame} {meth : Method} {c : Code} {A : Nat → Prop} {ad0 : Nat → Nat} {cA0 : Nat → ClassId} {μ0 : mm_M} {free : Addr → Prop} {Q : mm_Q} {J : mm_J} (X : mm_cx p (mm_rm (d + 1) 0 0) s m args c cX7_opens RX7 lw_T A D pcl 1) (hr : meth.sig.returnType = none) (hlk : meth.locks = false) (hnm : meth.name = "opens") (hfree : ∀ q, A q → free q) (hJ : ∀ t, mm_SK p l e (mm_rm (d + 1) 0 0) s m args below meth c (MQ below (mm_Qc D pcl Q ad0 cA0 μ0 0 A) args s 0 0 free) D pcl A 1 (mm_EX EXT A s ad0 cA0 (mm_n μ0)) (pp_X7_opens t) (J t)) : ∀ t, mm_SK p l e (mm_rm (d + 1) 0 0) s m args below meth c (MQ below (mm_Qc D pcl Q ad0 cA0 μ0 0 A) args s 0 0 free) D pcl A 1 (mm_EX EXT A s ad0 cA0 (mm_n μ0)) (pp_X7_opens t) (pb_X7_opens J C Q t) := by
  intro t
  match t with
  | 0 =>
    refine so_aload_n (pc := 0) (i := 0) X (by decide +kernel) ?_
    refine so_geti (pc := 1) (index := 136) (ci := 7) (f := 25) (N := 32) (C := RX7) (T := TX7) X rfl uX7 (by decide) (by decide) tw_436 rfl (by decide) (by decide +kernel) ?_
    refine so_bipush (pc := 4) (n := 12) (v := 12) X (by decide +kernel) (by decide) ?_
    refine so_icmp_ne (pc := 6) (off := 8) (tgt := 14) X (by decide +kernel) (by decide) (hJ 1) ?_
    refine so_aload_n (pc := 9) (i := 0) X (by decide +kernel) ?_
    refine so_iconst (pc := 10) (n := 3) (v := 3) X (by decide +kernel) (by decide) ?_
    refine so_cav (pc := 11) (y := 108) (na := 2) (index := 123) (maxL := 2) (nm := yX7_fail) (bytes := cX7_fail) (ret := none) (ci := 7) (N := 32) (T := TX7) X hxo (fun _ _ _ _ h => h.1) hC lw_good (Nat.le_refl _) (mm_lo d) rfl (by decide) tw_426 tw_427 tw_397 rfl (by decide) tw_428 tw_429 (by decide +kernel) (by decide +kernel) ?_
    exact so_fall X (hJ 1)
  | 1 =>
    refine so_aload_n (pc := 14) (i := 0) X (by decide +kernel) ?_
    refine so_dup (pc := 15) X (by decide +kernel) ?_
    refine so_geti (pc := 16) (index := 136) (ci := 7) (f := 25) (N := 32) (C := RX7) (T := TX7) X rfl uX7 (by decide) (by decide) tw_436 rfl (by decide) (by decide +kernel) ?_
    refine so_iconst (pc := 19) (n := 1) (v := 1) X (by decide +kernel) (by decide) ?_
    refine so_iadd (pc := 20) X (by decide +kernel) ?_
    refine so_puti (pc := 21) (index := 136) (ci := 7) (f := 25) (N := 32) (C := RX7) (T := TX7) X rfl uX7 (by decide) (by decide) tw_436 tyX7 tyX7_ok nmX7 rfl (by decide +kernel) rfl (by decide +kernel) ?_
    exact so_rtv (pc := 24) X hlk hfree hr (by decide +kernel)
  | n + 2 => exact fun _ _ _ _ h => h.elim
theorem bs_X7_opens {l : Launch} {D : va_G} {EXT : (Nat → Nat) → (Nat → Prop) → State → Heap → Prop} (hxo : mm_xo EXT) (hxe : ∀ ad A U H, EXT ad A U H → px_E0 ad A U H) : mm_BS l D pcl lw_T EXT px_tab 113 pb_X7_opens pp_X7_opens := by
  intro d C hC p e s m args below meth c A ad0 cA0 μ0 free Q J
  rw [tb_113]
  exact fun X hr hlk hnm hfree hJ => bk_X7_opens hxo hxe hC X hr hlk hnm hfree hJ
set_option maxHeartbeats 4000000 in
set_option maxRecDepth 100000 in
theorem bk_X7_any {l : Launch} {D : va_G} {EXT : (Nat → Nat) → (Nat → Prop) → State → Heap → Prop} (hxo : mm_xo EXT) (hxe : ∀ ad A U H, EXT ad A U H → px_E0 ad A U H) {d : Nat} {C : mm_C} (hC : mm_CS l D pcl lw_T EXT px_tab d C) {p : Program} {e : Env} {s : State} {m : MethodId} {args : Array Value} {below : List Frame} {meth : Method} {c : Code} {A : Nat → Prop} {ad0 : Nat → Nat} {cA0 : Nat → ClassId} {μ0 : mm_M} {free : Addr → Prop} {Q : mm_Q} {J : mm_J} (X : mm_cx p (mm_rm (d + 1) 0 0) s m args c cX7_any RX7 lw_T A D pcl 1) (hr : meth.sig.returnType = none) (hlk : meth.locks = false) (hnm : meth.name = "any") (hfree : ∀ q, A q → free q) (hJ : ∀ t, mm_SK p l e (mm_rm (d + 1) 0 0) s m args below meth c (MQ below (mm_Qc D pcl Q ad0 cA0 μ0 0 A) args s 0 0 free) D pcl A 1 (mm_EX EXT A s ad0 cA0 (mm_n μ0)) (pp_X7_any t) (J t)) : ∀ t, mm_SK p l e (mm_rm (d + 1) 0 0) s m args below meth c (MQ below (mm_Qc D pcl Q ad0 cA0 μ0 0 A) args s 0 0 free) D pcl A 1 (mm_EX EXT A s ad0 cA0 (mm_n μ0)) (pp_X7_any t) (pb_X7_any J C Q t) := by
  intro t
  match t with
  | 0 =>
    refine so_aload_n (pc := 0) (i := 0) X (by decide +kernel) ?_
    refine so_cav (pc := 1) (y := 115) (na := 1) (index := 139) (maxL := 1) (nm := yX7_all) (bytes := cX7_all) (ret := none) (ci := 7) (N := 32) (T := TX7) X hxo (fun _ _ _ _ h => h.1) hC lw_good (Nat.le_refl _) (mm_lo d) rfl (by decide) tw_437 tw_438 tw_397 rfl (by decide) tw_439 tw_440 (by decide +kernel) (by decide +kernel) ?_
    exact so_fall X (hJ 1)
  | 1 =>
    refine so_aload_n (pc := 4) (i := 0) X (by decide +kernel) ?_
    refine so_geti (pc := 5) (index := 117) (ci := 7) (f := 23) (N := 32) (C := RX7) (T := TX7) X rfl uX7 (by decide) (by decide) tw_424 rfl (by decide) (by decide +kernel) ?_
    refine so_if_ne (pc := 8) (off := 29) (tgt := 37) X (by decide +kernel) (by decide) (hJ 2) ?_
    refine so_aload_n (pc := 11) (i := 0) X (by decide +kernel) ?_
    refine so_geti (pc := 12) (index := 104) (ci := 7) (f := 20) (N := 32) (C := RX7) (T := TX7) X rfl uX7 (by decide) (by decide) tw_413 rfl (by decide) (by decide +kernel) ?_
    refine so_bipush (pc := 15) (n := (-4)) (v := (-4)) X (by decide +kernel) (by decide) ?_
    refine so_icmp_ne (pc := 17) (off := 20) (tgt := 37) X (by decide +kernel) (by decide) (hJ 2) ?_
    refine so_aload_n (pc := 20) (i := 0) X (by decide +kernel) ?_
    refine so_cav (pc := 21) (y := 110) (na := 1) (index := 142) (maxL := 1) (nm := yX7_take) (bytes := cX7_take) (ret := none) (ci := 7) (N := 32) (T := TX7) X hxo (fun _ _ _ _ h => h.1) hC lw_good (Nat.le_refl _) (mm_lo d) rfl (by decide) tw_441 tw_442 tw_397 rfl (by decide) tw_443 tw_444 (by decide +kernel) (by decide +kernel) ?_
    refine so_aload_n (pc := 24) (i := 0) X (by decide +kernel) ?_
    refine so_cav (pc := 25) (y := 115) (na := 1) (index := 139) (maxL := 1) (nm := yX7_all) (bytes := cX7_all) (ret := none) (ci := 7) (N := 32) (T := TX7) X hxo (fun _ _ _ _ h => h.1) hC lw_good (Nat.le_refl _) (mm_lo d) rfl (by decide) tw_437 tw_438 tw_397 rfl (by decide) tw_439 tw_440 (by decide +kernel) (by decide +kernel) ?_
    refine so_aload_n (pc := 28) (i := 0) X (by decide +kernel) ?_
    refine so_bipush (pc := 29) (n := (-4)) (v := (-4)) X (by decide +kernel) (by decide) ?_
    refine so_cav (pc := 31) (y := 112) (na := 2) (index := 145) (maxL := 2) (nm := yX7_put) (bytes := cX7_put) (ret := none) (ci := 7) (N := 32) (T := TX7) X hxo (fun _ _ _ _ h => h.1) hC lw_good (Nat.le_refl _) (mm_lo d) rfl (by decide) tw_445 tw_446 tw_397 rfl (by decide) tw_447 tw_448 (by decide +kernel) (by decide +kernel) ?_
    exact so_goto (pc := 34) (off := (-30)) (tgt := 4) X (by decide +kernel) (by decide) (hJ 1)
  | 2 =>
    exact so_rtv (pc := 37) X hlk hfree hr (by decide +kernel)
  | n + 3 => exact fun _ _ _ _ h => h.elim
theorem bs_X7_any {l : Launch} {D : va_G} {EXT : (Nat → Nat) → (Nat → Prop) → State → Heap → Prop} (hxo : mm_xo EXT) (hxe : ∀ ad A U H, EXT ad A U H → px_E0 ad A U H) : mm_BS l D pcl lw_T EXT px_tab 114 pb_X7_any pp_X7_any := by
  intro d C hC p e s m args below meth c A ad0 cA0 μ0 free Q J
  rw [tb_114]
  exact fun X hr hlk hnm hfree hJ => bk_X7_any hxo hxe hC X hr hlk hnm hfree hJ
set_option maxHeartbeats 4000000 in
set_option maxRecDepth 100000 in
theorem bk_X7_all {l : Launch} {D : va_G} {EXT : (Nat → Nat) → (Nat → Prop) → State → Heap → Prop} (hxo : mm_xo EXT) (hxe : ∀ ad A U H, EXT ad A U H → px_E0 ad A U H) {d : Nat} {C : mm_C} (hC : mm_CS l D pcl lw_T EXT px_tab d C) {p : Program} {e : Env} {s : State} {m : MethodId} {args : Array Value} {below : List Frame} {meth : Method} {c : Code} {A : Nat → Prop} {ad0 : Nat → Nat} {cA0 : Nat → ClassId} {μ0 : mm_M} {free : Addr → Prop} {Q : mm_Q} {J : mm_J} (X : mm_cx p (mm_rm (d + 1) 0 0) s m args c cX7_all RX7 lw_T A D pcl 1) (hr : meth.sig.returnType = none) (hlk : meth.locks = false) (hnm : meth.name = "all") (hfree : ∀ q, A q → free q) (hJ : ∀ t, mm_SK p l e (mm_rm (d + 1) 0 0) s m args below meth c (MQ below (mm_Qc D pcl Q ad0 cA0 μ0 0 A) args s 0 0 free) D pcl A 1 (mm_EX EXT A s ad0 cA0 (mm_n μ0)) (pp_X7_all t) (J t)) : ∀ t, mm_SK p l e (mm_rm (d + 1) 0 0) s m args below meth c (MQ below (mm_Qc D pcl Q ad0 cA0 μ0 0 A) args s 0 0 free) D pcl A 1 (mm_EX EXT A s ad0 cA0 (mm_n μ0)) (pp_X7_all t) (pb_X7_all J C Q t) := by
  intro t
  match t with
  | 0 =>
    refine so_aload_n (pc := 0) (i := 0) X (by decide +kernel) ?_
    refine so_cav (pc := 1) (y := 116) (na := 1) (index := 148) (maxL := 2) (nm := yX7_one) (bytes := cX7_one) (ret := none) (ci := 7) (N := 32) (T := TX7) X hxo (fun _ _ _ _ h => h.1) hC lw_good (Nat.le_refl _) (mm_lo d) rfl (by decide) tw_449 tw_450 tw_397 rfl (by decide) tw_451 tw_452 (by decide +kernel) (by decide +kernel) ?_
    exact so_fall X (hJ 1)
  | 1 =>
    refine so_aload_n (pc := 4) (i := 0) X (by decide +kernel) ?_
    refine so_geti (pc := 5) (index := 117) (ci := 7) (f := 23) (N := 32) (C := RX7) (T := TX7) X rfl uX7 (by decide) (by decide) tw_424 rfl (by decide) (by decide +kernel) ?_
    refine so_if_ne (pc := 8) (off := 29) (tgt := 37) X (by decide +kernel) (by decide) (hJ 2) ?_
    refine so_aload_n (pc := 11) (i := 0) X (by decide +kernel) ?_
    refine so_geti (pc := 12) (index := 104) (ci := 7) (f := 20) (N := 32) (C := RX7) (T := TX7) X rfl uX7 (by decide) (by decide) tw_413 rfl (by decide) (by decide +kernel) ?_
    refine so_bipush (pc := 15) (n := (-3)) (v := (-3)) X (by decide +kernel) (by decide) ?_
    refine so_icmp_ne (pc := 17) (off := 20) (tgt := 37) X (by decide +kernel) (by decide) (hJ 2) ?_
    refine so_aload_n (pc := 20) (i := 0) X (by decide +kernel) ?_
    refine so_cav (pc := 21) (y := 110) (na := 1) (index := 142) (maxL := 1) (nm := yX7_take) (bytes := cX7_take) (ret := none) (ci := 7) (N := 32) (T := TX7) X hxo (fun _ _ _ _ h => h.1) hC lw_good (Nat.le_refl _) (mm_lo d) rfl (by decide) tw_441 tw_442 tw_397 rfl (by decide) tw_443 tw_444 (by decide +kernel) (by decide +kernel) ?_
    refine so_aload_n (pc := 24) (i := 0) X (by decide +kernel) ?_
    refine so_cav (pc := 25) (y := 116) (na := 1) (index := 148) (maxL := 2) (nm := yX7_one) (bytes := cX7_one) (ret := none) (ci := 7) (N := 32) (T := TX7) X hxo (fun _ _ _ _ h => h.1) hC lw_good (Nat.le_refl _) (mm_lo d) rfl (by decide) tw_449 tw_450 tw_397 rfl (by decide) tw_451 tw_452 (by decide +kernel) (by decide +kernel) ?_
    refine so_aload_n (pc := 28) (i := 0) X (by decide +kernel) ?_
    refine so_bipush (pc := 29) (n := (-3)) (v := (-3)) X (by decide +kernel) (by decide) ?_
    refine so_cav (pc := 31) (y := 112) (na := 2) (index := 145) (maxL := 2) (nm := yX7_put) (bytes := cX7_put) (ret := none) (ci := 7) (N := 32) (T := TX7) X hxo (fun _ _ _ _ h => h.1) hC lw_good (Nat.le_refl _) (mm_lo d) rfl (by decide) tw_445 tw_446 tw_397 rfl (by decide) tw_447 tw_448 (by decide +kernel) (by decide +kernel) ?_
    exact so_goto (pc := 34) (off := (-30)) (tgt := 4) X (by decide +kernel) (by decide) (hJ 1)
  | 2 =>
    exact so_rtv (pc := 37) X hlk hfree hr (by decide +kernel)
  | n + 3 => exact fun _ _ _ _ h => h.elim
theorem bs_X7_all {l : Launch} {D : va_G} {EXT : (Nat → Nat) → (Nat → Prop) → State → Heap → Prop} (hxo : mm_xo EXT) (hxe : ∀ ad A U H, EXT ad A U H → px_E0 ad A U H) : mm_BS l D pcl lw_T EXT px_tab 115 pb_X7_all pp_X7_all := by
  intro d C hC p e s m args below meth c A ad0 cA0 μ0 free Q J
  rw [tb_115]
  exact fun X hr hlk hnm hfree hJ => bk_X7_all hxo hxe hC X hr hlk hnm hfree hJ
