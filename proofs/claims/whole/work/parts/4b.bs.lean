set_option maxHeartbeats 4000000 in
set_option maxRecDepth 100000 in
theorem bk_X7_matches {l : Launch} {D : va_G} {EXT : (Nat → Nat) → (Nat → Prop) → State → Heap → Prop} (hxo : mm_xo EXT) (hxe : ∀ ad A U H, EXT ad A U H → px_E0 ad A U H) {d : Nat} {C : mm_C} (hC : mm_CS l D pcl lw_T EXT px_tab d C) {p : Program} {e : Env} {s : State} {m : MethodId} {args : Array Value} {below : List Frame} {meth : Method} {c : Code} {A : Nat → Prop} {ad0 : Nat → Nat} {cA0 : Nat → ClassId} {μ0 : mm_M} {free : Addr → Prop} {Q : mm_Q} {J : mm_J} (X : mm_cx p (mm_rm (d + 1) 0 0) s m args c cX7_matches RX7 lw_T A D pcl 4) (hr : meth.sig.returnType = some .boolean) (hlk : meth.locks = false) (hnm : meth.name = "matches") (hfree : ∀ q, A q → free q) (hJ : ∀ t, mm_SK p l e (mm_rm (d + 1) 0 0) s m args below meth c (MQ below (mm_Qc D pcl Q ad0 cA0 μ0 0 A) args s 0 0 free) D pcl A 4 (mm_EX EXT A s ad0 cA0 (mm_n μ0)) (pp_X7_matches t) (J t)) : ∀ t, mm_SK p l e (mm_rm (d + 1) 0 0) s m args below meth c (MQ below (mm_Qc D pcl Q ad0 cA0 μ0 0 A) args s 0 0 free) D pcl A 4 (mm_EX EXT A s ad0 cA0 (mm_n μ0)) (pp_X7_matches t) (pb_X7_matches J C Q t) := by
  intro t
  match t with
  | 0 =>
    refine so_aload_n (pc := 0) (i := 0) X (by decide +kernel) ?_
    refine so_iload_n (pc := 1) (i := 1) X (by decide +kernel) ?_
    refine so_iload_n (pc := 2) (i := 3) X (by decide +kernel) ?_
    refine so_cav (pc := 3) (y := 125) (na := 3) (index := 183) (maxL := 3) (nm := yX7_isSeen) (bytes := cX7_isSeen) (ret := (some .boolean)) (ci := 7) (N := 32) (T := TX7) X hxo (fun _ _ _ _ h => h.1) hC lw_good (Nat.le_refl _) (mm_lo d) rfl (by decide) tw_493 tw_494 tw_397 rfl (by decide) tw_495 tw_496 (by decide +kernel) (by decide +kernel) ?_
    refine so_if_eq (pc := 6) (off := 17) (tgt := 23) X (by decide +kernel) (by decide) (hJ 1) ?_
    refine so_aload_n (pc := 9) (i := 0) X (by decide +kernel) ?_
    refine so_iload_n (pc := 10) (i := 2) X (by decide +kernel) ?_
    refine so_iload_n (pc := 11) (i := 3) X (by decide +kernel) ?_
    refine so_cav (pc := 12) (y := 123) (na := 3) (index := 176) (maxL := 6) (nm := yX7_what) (bytes := cX7_what) (ret := (some .int)) (ci := 7) (N := 32) (T := TX7) X hxo (fun _ _ _ _ h => h.1) hC lw_good (Nat.le_refl _) (mm_lo d) rfl (by decide) tw_485 tw_486 tw_397 rfl (by decide) tw_487 tw_488 (by decide +kernel) (by decide +kernel) ?_
    refine so_iconst (pc := 15) (n := 1) (v := 1) X (by decide +kernel) (by decide) ?_
    refine so_icmp_ne (pc := 16) (off := 7) (tgt := 23) X (by decide +kernel) (by decide) (hJ 1) ?_
    refine so_iconst (pc := 19) (n := 1) (v := 1) X (by decide +kernel) (by decide) ?_
    exact so_goto (pc := 20) (off := 4) (tgt := 24) X (by decide +kernel) (by decide) (hJ 2)
  | 1 =>
    refine so_iconst (pc := 23) (n := 0) (v := 0) X (by decide +kernel) (by decide) ?_
    exact so_fall X (hJ 2)
  | 2 =>
    exact so_rtz (pc := 24) X hlk hfree hr (by decide +kernel)
  | n + 3 => exact fun _ _ _ _ h => h.elim
theorem bs_X7_matches {l : Launch} {D : va_G} {EXT : (Nat → Nat) → (Nat → Prop) → State → Heap → Prop} (hxo : mm_xo EXT) (hxe : ∀ ad A U H, EXT ad A U H → px_E0 ad A U H) : mm_BS l D pcl lw_T EXT px_tab 129 pb_X7_matches pp_X7_matches := by
  intro d C hC p e s m args below meth c A ad0 cA0 μ0 free Q J
  rw [tb_129]
  exact fun X hr hlk hnm hfree hJ => bk_X7_matches hxo hxe hC X hr hlk hnm hfree hJ
set_option maxHeartbeats 4000000 in
set_option maxRecDepth 100000 in
theorem bk_X7_count {l : Launch} {D : va_G} {EXT : (Nat → Nat) → (Nat → Prop) → State → Heap → Prop} (hxo : mm_xo EXT) (hxe : ∀ ad A U H, EXT ad A U H → px_E0 ad A U H) {d : Nat} {C : mm_C} (hC : mm_CS l D pcl lw_T EXT px_tab d C) {p : Program} {e : Env} {s : State} {m : MethodId} {args : Array Value} {below : List Frame} {meth : Method} {c : Code} {A : Nat → Prop} {ad0 : Nat → Nat} {cA0 : Nat → ClassId} {μ0 : mm_M} {free : Addr → Prop} {Q : mm_Q} {J : mm_J} (X : mm_cx p (mm_rm (d + 1) 0 0) s m args c cX7_count RX7 lw_T A D pcl 6) (hr : meth.sig.returnType = some .int) (hlk : meth.locks = false) (hnm : meth.name = "count") (hfree : ∀ q, A q → free q) (hJ : ∀ t, mm_SK p l e (mm_rm (d + 1) 0 0) s m args below meth c (MQ below (mm_Qc D pcl Q ad0 cA0 μ0 0 A) args s 0 0 free) D pcl A 6 (mm_EX EXT A s ad0 cA0 (mm_n μ0)) (pp_X7_count t) (J t)) : ∀ t, mm_SK p l e (mm_rm (d + 1) 0 0) s m args below meth c (MQ below (mm_Qc D pcl Q ad0 cA0 μ0 0 A) args s 0 0 free) D pcl A 6 (mm_EX EXT A s ad0 cA0 (mm_n μ0)) (pp_X7_count t) (pb_X7_count J C Q t) := by
  intro t
  match t with
  | 0 =>
    refine so_iconst (pc := 0) (n := 0) (v := 0) X (by decide +kernel) (by decide) ?_
    refine so_istore_n (pc := 1) (i := 3) X (by decide +kernel) (by decide) ?_
    refine so_iconst (pc := 2) (n := 0) (v := 0) X (by decide +kernel) (by decide) ?_
    refine so_istore (pc := 3) (i := 4) X (by decide +kernel) (by decide) ?_
    exact so_fall X (hJ 1)
  | 1 =>
    refine so_iload (pc := 5) (i := 4) X (by decide +kernel) ?_
    refine so_aload_n (pc := 7) (i := 0) X (by decide +kernel) ?_
    refine so_geti (pc := 8) (index := 65) (ci := 7) (f := 1) (N := 32) (C := RX7) (T := TX7) X rfl uX7 (by decide) (by decide) tw_392 rfl (by decide) (by decide +kernel) ?_
    refine so_icmp_ge (pc := 11) (off := 71) (tgt := 82) X (by decide +kernel) (by decide) (hJ 8) ?_
    refine so_aload_n (pc := 14) (i := 0) X (by decide +kernel) ?_
    refine so_iconst (pc := 15) (n := 2) (v := 2) X (by decide +kernel) (by decide) ?_
    refine so_iload_n (pc := 16) (i := 1) X (by decide +kernel) ?_
    refine so_imul (pc := 17) X (by decide +kernel) ?_
    refine so_iload (pc := 18) (i := 4) X (by decide +kernel) ?_
    refine so_cav (pc := 20) (y := 123) (na := 3) (index := 176) (maxL := 6) (nm := yX7_what) (bytes := cX7_what) (ret := (some .int)) (ci := 7) (N := 32) (T := TX7) X hxo (fun _ _ _ _ h => h.1) hC lw_good (Nat.le_refl _) (mm_lo d) rfl (by decide) tw_485 tw_486 tw_397 rfl (by decide) tw_487 tw_488 (by decide +kernel) (by decide +kernel) ?_
    refine so_istore (pc := 23) (i := 5) X (by decide +kernel) (by decide) ?_
    refine so_iload_n (pc := 25) (i := 3) X (by decide +kernel) ?_
    refine so_iload_n (pc := 26) (i := 2) X (by decide +kernel) ?_
    refine so_if_ne (pc := 27) (off := 17) (tgt := 44) X (by decide +kernel) (by decide) (hJ 3) ?_
    refine so_iload (pc := 30) (i := 5) X (by decide +kernel) ?_
    refine so_iconst (pc := 32) (n := 1) (v := 1) X (by decide +kernel) (by decide) ?_
    refine so_icmp_ne (pc := 33) (off := 7) (tgt := 40) X (by decide +kernel) (by decide) (hJ 2) ?_
    refine so_iconst (pc := 36) (n := 1) (v := 1) X (by decide +kernel) (by decide) ?_
    exact so_goto (pc := 37) (off := 37) (tgt := 74) X (by decide +kernel) (by decide) (hJ 7)
  | 2 =>
    refine so_iconst (pc := 40) (n := 0) (v := 0) X (by decide +kernel) (by decide) ?_
    exact so_goto (pc := 41) (off := 33) (tgt := 74) X (by decide +kernel) (by decide) (hJ 7)
  | 3 =>
    refine so_iload_n (pc := 44) (i := 2) X (by decide +kernel) ?_
    refine so_iconst (pc := 45) (n := 1) (v := 1) X (by decide +kernel) (by decide) ?_
    refine so_icmp_ne (pc := 46) (off := 17) (tgt := 63) X (by decide +kernel) (by decide) (hJ 5) ?_
    refine so_iload (pc := 49) (i := 5) X (by decide +kernel) ?_
    refine so_iconst (pc := 51) (n := 1) (v := 1) X (by decide +kernel) (by decide) ?_
    refine so_icmp_eq (pc := 52) (off := 7) (tgt := 59) X (by decide +kernel) (by decide) (hJ 4) ?_
    refine so_iconst (pc := 55) (n := 1) (v := 1) X (by decide +kernel) (by decide) ?_
    exact so_goto (pc := 56) (off := 18) (tgt := 74) X (by decide +kernel) (by decide) (hJ 7)
  | 4 =>
    refine so_iconst (pc := 59) (n := 0) (v := 0) X (by decide +kernel) (by decide) ?_
    exact so_goto (pc := 60) (off := 14) (tgt := 74) X (by decide +kernel) (by decide) (hJ 7)
  | 5 =>
    refine so_iload (pc := 63) (i := 5) X (by decide +kernel) ?_
    refine so_iconst (pc := 65) (n := 2) (v := 2) X (by decide +kernel) (by decide) ?_
    refine so_icmp_ne (pc := 66) (off := 7) (tgt := 73) X (by decide +kernel) (by decide) (hJ 6) ?_
    refine so_iconst (pc := 69) (n := 1) (v := 1) X (by decide +kernel) (by decide) ?_
    exact so_goto (pc := 70) (off := 4) (tgt := 74) X (by decide +kernel) (by decide) (hJ 7)
  | 6 =>
    refine so_iconst (pc := 73) (n := 0) (v := 0) X (by decide +kernel) (by decide) ?_
    exact so_fall X (hJ 7)
  | 7 =>
    refine so_iadd (pc := 74) X (by decide +kernel) ?_
    refine so_istore_n (pc := 75) (i := 3) X (by decide +kernel) (by decide) ?_
    refine so_iinc (pc := 76) (i := 4) (n := 1) (y := 1) X (by decide +kernel) (by decide) (by decide) ?_
    exact so_goto (pc := 79) (off := (-74)) (tgt := 5) X (by decide +kernel) (by decide) (hJ 1)
  | 8 =>
    refine so_iload_n (pc := 82) (i := 3) X (by decide +kernel) ?_
    exact so_ret (pc := 83) X hlk hfree hr (by decide +kernel)
  | n + 9 => exact fun _ _ _ _ h => h.elim
theorem bs_X7_count {l : Launch} {D : va_G} {EXT : (Nat → Nat) → (Nat → Prop) → State → Heap → Prop} (hxo : mm_xo EXT) (hxe : ∀ ad A U H, EXT ad A U H → px_E0 ad A U H) : mm_BS l D pcl lw_T EXT px_tab 130 pb_X7_count pp_X7_count := by
  intro d C hC p e s m args below meth c A ad0 cA0 μ0 free Q J
  rw [tb_130]
  exact fun X hr hlk hnm hfree hJ => bk_X7_count hxo hxe hC X hr hlk hnm hfree hJ
set_option maxHeartbeats 4000000 in
set_option maxRecDepth 100000 in
theorem bk_X7_rule {l : Launch} {D : va_G} {EXT : (Nat → Nat) → (Nat → Prop) → State → Heap → Prop} (hxo : mm_xo EXT) (hxe : ∀ ad A U H, EXT ad A U H → px_E0 ad A U H) {d : Nat} {C : mm_C} (hC : mm_CS l D pcl lw_T EXT px_tab d C) {p : Program} {e : Env} {s : State} {m : MethodId} {args : Array Value} {below : List Frame} {meth : Method} {c : Code} {A : Nat → Prop} {ad0 : Nat → Nat} {cA0 : Nat → ClassId} {μ0 : mm_M} {free : Addr → Prop} {Q : mm_Q} {J : mm_J} (X : mm_cx p (mm_rm (d + 1) 0 0) s m args c cX7_rule RX7 lw_T A D pcl 2) (hr : meth.sig.returnType = some .int) (hlk : meth.locks = false) (hnm : meth.name = "rule") (hfree : ∀ q, A q → free q) (hJ : ∀ t, mm_SK p l e (mm_rm (d + 1) 0 0) s m args below meth c (MQ below (mm_Qc D pcl Q ad0 cA0 μ0 0 A) args s 0 0 free) D pcl A 2 (mm_EX EXT A s ad0 cA0 (mm_n μ0)) (pp_X7_rule t) (J t)) : ∀ t, mm_SK p l e (mm_rm (d + 1) 0 0) s m args below meth c (MQ below (mm_Qc D pcl Q ad0 cA0 μ0 0 A) args s 0 0 free) D pcl A 2 (mm_EX EXT A s ad0 cA0 (mm_n μ0)) (pp_X7_rule t) (pb_X7_rule J C Q t) := by
  intro t
  match t with
  | 0 =>
    refine so_aload_n (pc := 0) (i := 0) X (by decide +kernel) ?_
    refine so_iconst (pc := 1) (n := 0) (v := 0) X (by decide +kernel) (by decide) ?_
    refine so_puti (pc := 2) (index := 62) (ci := 7) (f := 0) (N := 32) (C := RX7) (T := TX7) X rfl uX7 (by decide) (by decide) tw_391 tyX7 tyX7_ok nmX7 rfl (by decide +kernel) rfl (by decide +kernel) ?_
    refine so_aload_n (pc := 5) (i := 0) X (by decide +kernel) ?_
    refine so_iload_n (pc := 6) (i := 1) X (by decide +kernel) ?_
    refine so_cav (pc := 7) (y := 97) (na := 2) (index := 186) (maxL := 2) (nm := yX7_isUser) (bytes := cX7_isUser) (ret := (some .boolean)) (ci := 7) (N := 32) (T := TX7) X hxo (fun _ _ _ _ h => h.1) hC lw_good (Nat.le_refl _) (mm_lo d) rfl (by decide) tw_497 tw_498 tw_397 rfl (by decide) tw_499 tw_500 (by decide +kernel) (by decide +kernel) ?_
    refine so_if_ne (pc := 10) (off := 5) (tgt := 15) X (by decide +kernel) (by decide) (hJ 1) ?_
    refine so_iconst (pc := 13) (n := (-1)) (v := (-1)) X (by decide +kernel) (by decide) ?_
    exact so_ret (pc := 14) X hlk hfree hr (by decide +kernel)
  | 1 =>
    refine so_aload_n (pc := 15) (i := 0) X (by decide +kernel) ?_
    refine so_cav (pc := 16) (y := 120) (na := 1) (index := 189) (maxL := 1) (nm := yX7_reads) (bytes := cX7_reads) (ret := (some .boolean)) (ci := 7) (N := 32) (T := TX7) X hxo (fun _ _ _ _ h => h.1) hC lw_good (Nat.le_refl _) (mm_lo d) rfl (by decide) tw_501 tw_502 tw_397 rfl (by decide) tw_503 tw_504 (by decide +kernel) (by decide +kernel) ?_
    refine so_if_ne (pc := 19) (off := 11) (tgt := 30) X (by decide +kernel) (by decide) (hJ 2) ?_
    refine so_bipush (pc := 22) (n := (-10)) (v := (-10)) X (by decide +kernel) (by decide) ?_
    refine so_aload_n (pc := 24) (i := 0) X (by decide +kernel) ?_
    refine so_geti (pc := 25) (index := 117) (ci := 7) (f := 23) (N := 32) (C := RX7) (T := TX7) X rfl uX7 (by decide) (by decide) tw_424 rfl (by decide) (by decide +kernel) ?_
    refine so_isub (pc := 28) X (by decide +kernel) ?_
    exact so_ret (pc := 29) X hlk hfree hr (by decide +kernel)
  | 2 =>
    refine so_aload_n (pc := 30) (i := 0) X (by decide +kernel) ?_
    refine so_iconst (pc := 31) (n := 2) (v := 2) X (by decide +kernel) (by decide) ?_
    refine so_iload_n (pc := 32) (i := 1) X (by decide +kernel) ?_
    refine so_imul (pc := 33) X (by decide +kernel) ?_
    refine so_cav (pc := 34) (y := 121) (na := 2) (index := 193) (maxL := 3) (nm := yX7_keep) (bytes := cX7_keep) (ret := none) (ci := 7) (N := 32) (T := TX7) X hxo (fun _ _ _ _ h => h.1) hC lw_good (Nat.le_refl _) (mm_lo d) rfl (by decide) tw_505 tw_506 tw_397 rfl (by decide) tw_507 tw_508 (by decide +kernel) (by decide +kernel) ?_
    refine so_aload_n (pc := 37) (i := 0) X (by decide +kernel) ?_
    refine so_iload_n (pc := 38) (i := 1) X (by decide +kernel) ?_
    refine so_iconst (pc := 39) (n := 0) (v := 0) X (by decide +kernel) (by decide) ?_
    refine so_cav (pc := 40) (y := 130) (na := 3) (index := 196) (maxL := 6) (nm := yX7_count) (bytes := cX7_count) (ret := (some .int)) (ci := 7) (N := 32) (T := TX7) X hxo (fun _ _ _ _ h => h.1) hC lw_good (Nat.le_refl _) (mm_lo d) rfl (by decide) tw_509 tw_510 tw_397 rfl (by decide) tw_511 tw_512 (by decide +kernel) (by decide +kernel) ?_
    exact so_ret (pc := 43) X hlk hfree hr (by decide +kernel)
  | n + 3 => exact fun _ _ _ _ h => h.elim
theorem bs_X7_rule {l : Launch} {D : va_G} {EXT : (Nat → Nat) → (Nat → Prop) → State → Heap → Prop} (hxo : mm_xo EXT) (hxe : ∀ ad A U H, EXT ad A U H → px_E0 ad A U H) : mm_BS l D pcl lw_T EXT px_tab 131 pb_X7_rule pp_X7_rule := by
  intro d C hC p e s m args below meth c A ad0 cA0 μ0 free Q J
  rw [tb_131]
  exact fun X hr hlk hnm hfree hJ => bk_X7_rule hxo hxe hC X hr hlk hnm hfree hJ
set_option maxHeartbeats 4000000 in
set_option maxRecDepth 100000 in
theorem bk_X7_close {l : Launch} {D : va_G} {EXT : (Nat → Nat) → (Nat → Prop) → State → Heap → Prop} (hxo : mm_xo EXT) (hxe : ∀ ad A U H, EXT ad A U H → px_E0 ad A U H) {d : Nat} {C : mm_C} (hC : mm_CS l D pcl lw_T EXT px_tab d C) {p : Program} {e : Env} {s : State} {m : MethodId} {args : Array Value} {below : List Frame} {meth : Method} {c : Code} {A : Nat → Prop} {ad0 : Nat → Nat} {cA0 : Nat → ClassId} {μ0 : mm_M} {free : Addr → Prop} {Q : mm_Q} {J : mm_J} (X : mm_cx p (mm_rm (d + 1) 0 0) s m args c cX7_close RX7 lw_T A D pcl 4) (hr : meth.sig.returnType = some .int) (hlk : meth.locks = false) (hnm : meth.name = "close") (hfree : ∀ q, A q → free q) (hJ : ∀ t, mm_SK p l e (mm_rm (d + 1) 0 0) s m args below meth c (MQ below (mm_Qc D pcl Q ad0 cA0 μ0 0 A) args s 0 0 free) D pcl A 4 (mm_EX EXT A s ad0 cA0 (mm_n μ0)) (pp_X7_close t) (J t)) : ∀ t, mm_SK p l e (mm_rm (d + 1) 0 0) s m args below meth c (MQ below (mm_Qc D pcl Q ad0 cA0 μ0 0 A) args s 0 0 free) D pcl A 4 (mm_EX EXT A s ad0 cA0 (mm_n μ0)) (pp_X7_close t) (pb_X7_close J C Q t) := by
  intro t
  match t with
  | 0 =>
    refine so_aload_n (pc := 0) (i := 0) X (by decide +kernel) ?_
    refine so_iconst (pc := 1) (n := 0) (v := 0) X (by decide +kernel) (by decide) ?_
    refine so_puti (pc := 2) (index := 62) (ci := 7) (f := 0) (N := 32) (C := RX7) (T := TX7) X rfl uX7 (by decide) (by decide) tw_391 tyX7 tyX7_ok nmX7 rfl (by decide +kernel) rfl (by decide +kernel) ?_
    refine so_aload_n (pc := 5) (i := 0) X (by decide +kernel) ?_
    refine so_iload_n (pc := 6) (i := 1) X (by decide +kernel) ?_
    refine so_cav (pc := 7) (y := 97) (na := 2) (index := 186) (maxL := 2) (nm := yX7_isUser) (bytes := cX7_isUser) (ret := (some .boolean)) (ci := 7) (N := 32) (T := TX7) X hxo (fun _ _ _ _ h => h.1) hC lw_good (Nat.le_refl _) (mm_lo d) rfl (by decide) tw_497 tw_498 tw_397 rfl (by decide) tw_499 tw_500 (by decide +kernel) (by decide +kernel) ?_
    refine so_if_ne (pc := 10) (off := 5) (tgt := 15) X (by decide +kernel) (by decide) (hJ 1) ?_
    refine so_iconst (pc := 13) (n := (-1)) (v := (-1)) X (by decide +kernel) (by decide) ?_
    exact so_ret (pc := 14) X hlk hfree hr (by decide +kernel)
  | 1 =>
    refine so_iload_n (pc := 15) (i := 2) X (by decide +kernel) ?_
    refine so_if_lt (pc := 16) (off := 9) (tgt := 25) X (by decide +kernel) (by decide) (hJ 2) ?_
    refine so_iload_n (pc := 19) (i := 2) X (by decide +kernel) ?_
    refine so_bipush (pc := 20) (n := 15) (v := 15) X (by decide +kernel) (by decide) ?_
    refine so_icmp_le (pc := 22) (off := 6) (tgt := 28) X (by decide +kernel) (by decide) (hJ 3) ?_
    exact so_fall X (hJ 2)
  | 2 =>
    refine so_bipush (pc := 25) (n := (-2)) (v := (-2)) X (by decide +kernel) (by decide) ?_
    exact so_ret (pc := 27) X hlk hfree hr (by decide +kernel)
  | 3 =>
    refine so_aload_n (pc := 28) (i := 0) X (by decide +kernel) ?_
    refine so_getr (pc := 29) (index := 27) (ci := 7) (f := 9) (N := 32) (C := RX7) (T := TX7) X rfl uX7 (by decide) (by decide) tw_380 rfl (by decide +kernel) ?_
    refine so_iload_n (pc := 32) (i := 1) X (by decide +kernel) ?_
    refine so_iald (pc := 33) X (by decide +kernel) ?_
    refine so_istore_n (pc := 34) (i := 3) X (by decide +kernel) (by decide) ?_
    refine so_aload_n (pc := 35) (i := 0) X (by decide +kernel) ?_
    refine so_getr (pc := 36) (index := 27) (ci := 7) (f := 9) (N := 32) (C := RX7) (T := TX7) X rfl uX7 (by decide) (by decide) tw_380 rfl (by decide +kernel) ?_
    refine so_iload_n (pc := 39) (i := 1) X (by decide +kernel) ?_
    refine so_iload_n (pc := 40) (i := 2) X (by decide +kernel) ?_
    refine so_iast (pc := 41) X (by decide +kernel) ?_
    refine so_iload_n (pc := 42) (i := 3) X (by decide +kernel) ?_
    exact so_ret (pc := 43) X hlk hfree hr (by decide +kernel)
  | n + 4 => exact fun _ _ _ _ h => h.elim
theorem bs_X7_close {l : Launch} {D : va_G} {EXT : (Nat → Nat) → (Nat → Prop) → State → Heap → Prop} (hxo : mm_xo EXT) (hxe : ∀ ad A U H, EXT ad A U H → px_E0 ad A U H) : mm_BS l D pcl lw_T EXT px_tab 132 pb_X7_close pp_X7_close := by
  intro d C hC p e s m args below meth c A ad0 cA0 μ0 free Q J
  rw [tb_132]
  exact fun X hr hlk hnm hfree hJ => bk_X7_close hxo hxe hC X hr hlk hnm hfree hJ
set_option maxHeartbeats 4000000 in
set_option maxRecDepth 100000 in
theorem bk_X7_seen {l : Launch} {D : va_G} {EXT : (Nat → Nat) → (Nat → Prop) → State → Heap → Prop} (hxo : mm_xo EXT) (hxe : ∀ ad A U H, EXT ad A U H → px_E0 ad A U H) {d : Nat} {C : mm_C} (hC : mm_CS l D pcl lw_T EXT px_tab d C) {p : Program} {e : Env} {s : State} {m : MethodId} {args : Array Value} {below : List Frame} {meth : Method} {c : Code} {A : Nat → Prop} {ad0 : Nat → Nat} {cA0 : Nat → ClassId} {μ0 : mm_M} {free : Addr → Prop} {Q : mm_Q} {J : mm_J} (X : mm_cx p (mm_rm (d + 1) 0 0) s m args c cX7_seen RX7 lw_T A D pcl 3) (hr : meth.sig.returnType = some .int) (hlk : meth.locks = false) (hnm : meth.name = "seen") (hfree : ∀ q, A q → free q) (hJ : ∀ t, mm_SK p l e (mm_rm (d + 1) 0 0) s m args below meth c (MQ below (mm_Qc D pcl Q ad0 cA0 μ0 0 A) args s 0 0 free) D pcl A 3 (mm_EX EXT A s ad0 cA0 (mm_n μ0)) (pp_X7_seen t) (J t)) : ∀ t, mm_SK p l e (mm_rm (d + 1) 0 0) s m args below meth c (MQ below (mm_Qc D pcl Q ad0 cA0 μ0 0 A) args s 0 0 free) D pcl A 3 (mm_EX EXT A s ad0 cA0 (mm_n μ0)) (pp_X7_seen t) (pb_X7_seen J C Q t) := by
  intro t
  match t with
  | 0 =>
    refine so_aload_n (pc := 0) (i := 0) X (by decide +kernel) ?_
    refine so_iconst (pc := 1) (n := 0) (v := 0) X (by decide +kernel) (by decide) ?_
    refine so_puti (pc := 2) (index := 62) (ci := 7) (f := 0) (N := 32) (C := RX7) (T := TX7) X rfl uX7 (by decide) (by decide) tw_391 tyX7 tyX7_ok nmX7 rfl (by decide +kernel) rfl (by decide +kernel) ?_
    refine so_aload_n (pc := 5) (i := 0) X (by decide +kernel) ?_
    refine so_iload_n (pc := 6) (i := 1) X (by decide +kernel) ?_
    refine so_cav (pc := 7) (y := 97) (na := 2) (index := 186) (maxL := 2) (nm := yX7_isUser) (bytes := cX7_isUser) (ret := (some .boolean)) (ci := 7) (N := 32) (T := TX7) X hxo (fun _ _ _ _ h => h.1) hC lw_good (Nat.le_refl _) (mm_lo d) rfl (by decide) tw_497 tw_498 tw_397 rfl (by decide) tw_499 tw_500 (by decide +kernel) (by decide +kernel) ?_
    refine so_if_ne (pc := 10) (off := 5) (tgt := 15) X (by decide +kernel) (by decide) (hJ 1) ?_
    refine so_iconst (pc := 13) (n := (-1)) (v := (-1)) X (by decide +kernel) (by decide) ?_
    exact so_ret (pc := 14) X hlk hfree hr (by decide +kernel)
  | 1 =>
    refine so_iload_n (pc := 15) (i := 2) X (by decide +kernel) ?_
    refine so_if_lt (pc := 16) (off := 8) (tgt := 24) X (by decide +kernel) (by decide) (hJ 2) ?_
    refine so_iload_n (pc := 19) (i := 2) X (by decide +kernel) ?_
    refine so_iconst (pc := 20) (n := 2) (v := 2) X (by decide +kernel) (by decide) ?_
    refine so_icmp_le (pc := 21) (off := 8) (tgt := 29) X (by decide +kernel) (by decide) (hJ 3) ?_
    exact so_fall X (hJ 2)
  | 2 =>
    refine so_bipush (pc := 24) (n := (-2)) (v := (-2)) X (by decide +kernel) (by decide) ?_
    exact so_goto (pc := 26) (off := 9) (tgt := 35) X (by decide +kernel) (by decide) (hJ 4)
  | 3 =>
    refine so_aload_n (pc := 29) (i := 0) X (by decide +kernel) ?_
    refine so_iload_n (pc := 30) (i := 1) X (by decide +kernel) ?_
    refine so_iload_n (pc := 31) (i := 2) X (by decide +kernel) ?_
    refine so_cav (pc := 32) (y := 130) (na := 3) (index := 196) (maxL := 6) (nm := yX7_count) (bytes := cX7_count) (ret := (some .int)) (ci := 7) (N := 32) (T := TX7) X hxo (fun _ _ _ _ h => h.1) hC lw_good (Nat.le_refl _) (mm_lo d) rfl (by decide) tw_509 tw_510 tw_397 rfl (by decide) tw_511 tw_512 (by decide +kernel) (by decide +kernel) ?_
    exact so_fall X (hJ 4)
  | 4 =>
    exact so_ret (pc := 35) X hlk hfree hr (by decide +kernel)
  | n + 5 => exact fun _ _ _ _ h => h.elim
theorem bs_X7_seen {l : Launch} {D : va_G} {EXT : (Nat → Nat) → (Nat → Prop) → State → Heap → Prop} (hxo : mm_xo EXT) (hxe : ∀ ad A U H, EXT ad A U H → px_E0 ad A U H) : mm_BS l D pcl lw_T EXT px_tab 133 pb_X7_seen pp_X7_seen := by
  intro d C hC p e s m args below meth c A ad0 cA0 μ0 free Q J
  rw [tb_133]
  exact fun X hr hlk hnm hfree hJ => bk_X7_seen hxo hxe hC X hr hlk hnm hfree hJ
set_option maxHeartbeats 4000000 in
set_option maxRecDepth 100000 in
theorem bk_X7_note {l : Launch} {D : va_G} {EXT : (Nat → Nat) → (Nat → Prop) → State → Heap → Prop} (hxo : mm_xo EXT) (hxe : ∀ ad A U H, EXT ad A U H → px_E0 ad A U H) {d : Nat} {C : mm_C} (hC : mm_CS l D pcl lw_T EXT px_tab d C) {p : Program} {e : Env} {s : State} {m : MethodId} {args : Array Value} {below : List Frame} {meth : Method} {c : Code} {A : Nat → Prop} {ad0 : Nat → Nat} {cA0 : Nat → ClassId} {μ0 : mm_M} {free : Addr → Prop} {Q : mm_Q} {J : mm_J} (X : mm_cx p (mm_rm (d + 1) 0 0) s m args c cX7_note RX7 lw_T A D pcl 6) (hr : meth.sig.returnType = none) (hlk : meth.locks = false) (hnm : meth.name = "note") (hfree : ∀ q, A q → free q) (hJ : ∀ t, mm_SK p l e (mm_rm (d + 1) 0 0) s m args below meth c (MQ below (mm_Qc D pcl Q ad0 cA0 μ0 0 A) args s 0 0 free) D pcl A 6 (mm_EX EXT A s ad0 cA0 (mm_n μ0)) (pp_X7_note t) (J t)) : ∀ t, mm_SK p l e (mm_rm (d + 1) 0 0) s m args below meth c (MQ below (mm_Qc D pcl Q ad0 cA0 μ0 0 A) args s 0 0 free) D pcl A 6 (mm_EX EXT A s ad0 cA0 (mm_n μ0)) (pp_X7_note t) (pb_X7_note J C Q t) := by
  intro t
  match t with
  | 0 =>
    refine so_aload_n (pc := 0) (i := 0) X (by decide +kernel) ?_
    refine so_getr (pc := 1) (index := 37) (ci := 7) (f := 12) (N := 32) (C := RX7) (T := TX7) X rfl uX7 (by decide) (by decide) tw_383 rfl (by decide +kernel) ?_
    refine so_iconst (pc := 4) (n := 5) (v := 5) X (by decide +kernel) (by decide) ?_
    refine so_aload_n (pc := 5) (i := 0) X (by decide +kernel) ?_
    refine so_geti (pc := 6) (index := 199) (ci := 7) (f := 13) (N := 32) (C := RX7) (T := TX7) X rfl uX7 (by decide) (by decide) tw_513 rfl (by decide) (by decide +kernel) ?_
    refine so_imul (pc := 9) X (by decide +kernel) ?_
    refine so_iload_n (pc := 10) (i := 1) X (by decide +kernel) ?_
    refine so_iast (pc := 11) X (by decide +kernel) ?_
    refine so_aload_n (pc := 12) (i := 0) X (by decide +kernel) ?_
    refine so_getr (pc := 13) (index := 37) (ci := 7) (f := 12) (N := 32) (C := RX7) (T := TX7) X rfl uX7 (by decide) (by decide) tw_383 rfl (by decide +kernel) ?_
    refine so_iconst (pc := 16) (n := 5) (v := 5) X (by decide +kernel) (by decide) ?_
    refine so_aload_n (pc := 17) (i := 0) X (by decide +kernel) ?_
    refine so_geti (pc := 18) (index := 199) (ci := 7) (f := 13) (N := 32) (C := RX7) (T := TX7) X rfl uX7 (by decide) (by decide) tw_513 rfl (by decide) (by decide +kernel) ?_
    refine so_imul (pc := 21) X (by decide +kernel) ?_
    refine so_iconst (pc := 22) (n := 1) (v := 1) X (by decide +kernel) (by decide) ?_
    refine so_iadd (pc := 23) X (by decide +kernel) ?_
    refine so_iload_n (pc := 24) (i := 2) X (by decide +kernel) ?_
    refine so_iast (pc := 25) X (by decide +kernel) ?_
    refine so_aload_n (pc := 26) (i := 0) X (by decide +kernel) ?_
    refine so_getr (pc := 27) (index := 37) (ci := 7) (f := 12) (N := 32) (C := RX7) (T := TX7) X rfl uX7 (by decide) (by decide) tw_383 rfl (by decide +kernel) ?_
    refine so_iconst (pc := 30) (n := 5) (v := 5) X (by decide +kernel) (by decide) ?_
    refine so_aload_n (pc := 31) (i := 0) X (by decide +kernel) ?_
    refine so_geti (pc := 32) (index := 199) (ci := 7) (f := 13) (N := 32) (C := RX7) (T := TX7) X rfl uX7 (by decide) (by decide) tw_513 rfl (by decide) (by decide +kernel) ?_
    refine so_imul (pc := 35) X (by decide +kernel) ?_
    refine so_iconst (pc := 36) (n := 2) (v := 2) X (by decide +kernel) (by decide) ?_
    refine so_iadd (pc := 37) X (by decide +kernel) ?_
    refine so_iload_n (pc := 38) (i := 3) X (by decide +kernel) ?_
    refine so_iast (pc := 39) X (by decide +kernel) ?_
    refine so_aload_n (pc := 40) (i := 0) X (by decide +kernel) ?_
    refine so_getr (pc := 41) (index := 37) (ci := 7) (f := 12) (N := 32) (C := RX7) (T := TX7) X rfl uX7 (by decide) (by decide) tw_383 rfl (by decide +kernel) ?_
    refine so_iconst (pc := 44) (n := 5) (v := 5) X (by decide +kernel) (by decide) ?_
    refine so_aload_n (pc := 45) (i := 0) X (by decide +kernel) ?_
    refine so_geti (pc := 46) (index := 199) (ci := 7) (f := 13) (N := 32) (C := RX7) (T := TX7) X rfl uX7 (by decide) (by decide) tw_513 rfl (by decide) (by decide +kernel) ?_
    refine so_imul (pc := 49) X (by decide +kernel) ?_
    refine so_iconst (pc := 50) (n := 3) (v := 3) X (by decide +kernel) (by decide) ?_
    refine so_iadd (pc := 51) X (by decide +kernel) ?_
    refine so_iload (pc := 52) (i := 4) X (by decide +kernel) ?_
    refine so_iast (pc := 54) X (by decide +kernel) ?_
    refine so_aload_n (pc := 55) (i := 0) X (by decide +kernel) ?_
    refine so_getr (pc := 56) (index := 37) (ci := 7) (f := 12) (N := 32) (C := RX7) (T := TX7) X rfl uX7 (by decide) (by decide) tw_383 rfl (by decide +kernel) ?_
    refine so_iconst (pc := 59) (n := 5) (v := 5) X (by decide +kernel) (by decide) ?_
    refine so_aload_n (pc := 60) (i := 0) X (by decide +kernel) ?_
    refine so_geti (pc := 61) (index := 199) (ci := 7) (f := 13) (N := 32) (C := RX7) (T := TX7) X rfl uX7 (by decide) (by decide) tw_513 rfl (by decide) (by decide +kernel) ?_
    refine so_imul (pc := 64) X (by decide +kernel) ?_
    refine so_iconst (pc := 65) (n := 4) (v := 4) X (by decide +kernel) (by decide) ?_
    refine so_iadd (pc := 66) X (by decide +kernel) ?_
    refine so_iload (pc := 67) (i := 5) X (by decide +kernel) ?_
    refine so_iast (pc := 69) X (by decide +kernel) ?_
    refine so_aload_n (pc := 70) (i := 0) X (by decide +kernel) ?_
    refine so_dup (pc := 71) X (by decide +kernel) ?_
    refine so_geti (pc := 72) (index := 199) (ci := 7) (f := 13) (N := 32) (C := RX7) (T := TX7) X rfl uX7 (by decide) (by decide) tw_513 rfl (by decide) (by decide +kernel) ?_
    refine so_iconst (pc := 75) (n := 1) (v := 1) X (by decide +kernel) (by decide) ?_
    refine so_iadd (pc := 76) X (by decide +kernel) ?_
    refine so_puti (pc := 77) (index := 199) (ci := 7) (f := 13) (N := 32) (C := RX7) (T := TX7) X rfl uX7 (by decide) (by decide) tw_513 tyX7 tyX7_ok nmX7 rfl (by decide +kernel) rfl (by decide +kernel) ?_
    exact so_rtv (pc := 80) X hlk hfree hr (by decide +kernel)
  | n + 1 => exact fun _ _ _ _ h => h.elim
theorem bs_X7_note {l : Launch} {D : va_G} {EXT : (Nat → Nat) → (Nat → Prop) → State → Heap → Prop} (hxo : mm_xo EXT) (hxe : ∀ ad A U H, EXT ad A U H → px_E0 ad A U H) : mm_BS l D pcl lw_T EXT px_tab 134 pb_X7_note pp_X7_note := by
  intro d C hC p e s m args below meth c A ad0 cA0 μ0 free Q J
  rw [tb_134]
  exact fun X hr hlk hnm hfree hJ => bk_X7_note hxo hxe hC X hr hlk hnm hfree hJ
set_option maxHeartbeats 4000000 in
set_option maxRecDepth 100000 in
theorem bk_X7_query {l : Launch} {D : va_G} {EXT : (Nat → Nat) → (Nat → Prop) → State → Heap → Prop} (hxo : mm_xo EXT) (hxe : ∀ ad A U H, EXT ad A U H → px_E0 ad A U H) {d : Nat} {C : mm_C} (hC : mm_CS l D pcl lw_T EXT px_tab d C) {p : Program} {e : Env} {s : State} {m : MethodId} {args : Array Value} {below : List Frame} {meth : Method} {c : Code} {A : Nat → Prop} {ad0 : Nat → Nat} {cA0 : Nat → ClassId} {μ0 : mm_M} {free : Addr → Prop} {Q : mm_Q} {J : mm_J} (X : mm_cx p (mm_rm (d + 1) 0 0) s m args c cX7_query RX7 lw_T A D pcl 3) (hr : meth.sig.returnType = some .int) (hlk : meth.locks = false) (hnm : meth.name = "query") (hfree : ∀ q, A q → free q) (hJ : ∀ t, mm_SK p l e (mm_rm (d + 1) 0 0) s m args below meth c (MQ below (mm_Qc D pcl Q ad0 cA0 μ0 0 A) args s 0 0 free) D pcl A 3 (mm_EX EXT A s ad0 cA0 (mm_n μ0)) (pp_X7_query t) (J t)) : ∀ t, mm_SK p l e (mm_rm (d + 1) 0 0) s m args below meth c (MQ below (mm_Qc D pcl Q ad0 cA0 μ0 0 A) args s 0 0 free) D pcl A 3 (mm_EX EXT A s ad0 cA0 (mm_n μ0)) (pp_X7_query t) (pb_X7_query J C Q t) := by
  intro t
  match t with
  | 0 =>
    refine so_aload_n (pc := 0) (i := 0) X (by decide +kernel) ?_
    refine so_cav (pc := 1) (y := 120) (na := 1) (index := 189) (maxL := 1) (nm := yX7_reads) (bytes := cX7_reads) (ret := (some .boolean)) (ci := 7) (N := 32) (T := TX7) X hxo (fun _ _ _ _ h => h.1) hC lw_good (Nat.le_refl _) (mm_lo d) rfl (by decide) tw_501 tw_502 tw_397 rfl (by decide) tw_503 tw_504 (by decide +kernel) (by decide +kernel) ?_
    refine so_if_ne (pc := 4) (off := 20) (tgt := 24) X (by decide +kernel) (by decide) (hJ 1) ?_
    refine so_aload_n (pc := 7) (i := 0) X (by decide +kernel) ?_
    refine so_iload_n (pc := 8) (i := 1) X (by decide +kernel) ?_
    refine so_iload_n (pc := 9) (i := 2) X (by decide +kernel) ?_
    refine so_iconst (pc := 10) (n := 0) (v := 0) X (by decide +kernel) (by decide) ?_
    refine so_iconst (pc := 11) (n := 0) (v := 0) X (by decide +kernel) (by decide) ?_
    refine so_iconst (pc := 12) (n := 3) (v := 3) X (by decide +kernel) (by decide) ?_
    refine so_cav (pc := 13) (y := 134) (na := 6) (index := 202) (maxL := 6) (nm := yX7_note) (bytes := cX7_note) (ret := none) (ci := 7) (N := 32) (T := TX7) X hxo (fun _ _ _ _ h => h.1) hC lw_good (Nat.le_refl _) (mm_lo d) rfl (by decide) tw_514 tw_515 tw_397 rfl (by decide) tw_516 tw_517 (by decide +kernel) (by decide +kernel) ?_
    refine so_bipush (pc := 16) (n := (-10)) (v := (-10)) X (by decide +kernel) (by decide) ?_
    refine so_aload_n (pc := 18) (i := 0) X (by decide +kernel) ?_
    refine so_geti (pc := 19) (index := 117) (ci := 7) (f := 23) (N := 32) (C := RX7) (T := TX7) X rfl uX7 (by decide) (by decide) tw_424 rfl (by decide) (by decide +kernel) ?_
    refine so_isub (pc := 22) X (by decide +kernel) ?_
    exact so_ret (pc := 23) X hlk hfree hr (by decide +kernel)
  | 1 =>
    refine so_aload_n (pc := 24) (i := 0) X (by decide +kernel) ?_
    refine so_iload_n (pc := 25) (i := 1) X (by decide +kernel) ?_
    refine so_bipush (pc := 26) (n := 9) (v := 9) X (by decide +kernel) (by decide) ?_
    refine so_cav (pc := 28) (y := 128) (na := 3) (index := 206) (maxL := 5) (nm := yX7_isBarred) (bytes := cX7_isBarred) (ret := (some .boolean)) (ci := 7) (N := 32) (T := TX7) X hxo (fun _ _ _ _ h => h.1) hC lw_good (Nat.le_refl _) (mm_lo d) rfl (by decide) tw_518 tw_519 tw_397 rfl (by decide) tw_520 tw_521 (by decide +kernel) (by decide +kernel) ?_
    refine so_if_eq (pc := 31) (off := 15) (tgt := 46) X (by decide +kernel) (by decide) (hJ 2) ?_
    refine so_aload_n (pc := 34) (i := 0) X (by decide +kernel) ?_
    refine so_iload_n (pc := 35) (i := 1) X (by decide +kernel) ?_
    refine so_iload_n (pc := 36) (i := 2) X (by decide +kernel) ?_
    refine so_iconst (pc := 37) (n := 0) (v := 0) X (by decide +kernel) (by decide) ?_
    refine so_iconst (pc := 38) (n := 0) (v := 0) X (by decide +kernel) (by decide) ?_
    refine so_iconst (pc := 39) (n := 2) (v := 2) X (by decide +kernel) (by decide) ?_
    refine so_cav (pc := 40) (y := 134) (na := 6) (index := 202) (maxL := 6) (nm := yX7_note) (bytes := cX7_note) (ret := none) (ci := 7) (N := 32) (T := TX7) X hxo (fun _ _ _ _ h => h.1) hC lw_good (Nat.le_refl _) (mm_lo d) rfl (by decide) tw_514 tw_515 tw_397 rfl (by decide) tw_516 tw_517 (by decide +kernel) (by decide +kernel) ?_
    refine so_bipush (pc := 43) (n := (-6)) (v := (-6)) X (by decide +kernel) (by decide) ?_
    exact so_ret (pc := 45) X hlk hfree hr (by decide +kernel)
  | 2 =>
    refine so_aload_n (pc := 46) (i := 0) X (by decide +kernel) ?_
    refine so_iload_n (pc := 47) (i := 1) X (by decide +kernel) ?_
    refine so_iload_n (pc := 48) (i := 2) X (by decide +kernel) ?_
    refine so_iconst (pc := 49) (n := 0) (v := 0) X (by decide +kernel) (by decide) ?_
    refine so_iconst (pc := 50) (n := 0) (v := 0) X (by decide +kernel) (by decide) ?_
    refine so_iconst (pc := 51) (n := 0) (v := 0) X (by decide +kernel) (by decide) ?_
    refine so_cav (pc := 52) (y := 134) (na := 6) (index := 202) (maxL := 6) (nm := yX7_note) (bytes := cX7_note) (ret := none) (ci := 7) (N := 32) (T := TX7) X hxo (fun _ _ _ _ h => h.1) hC lw_good (Nat.le_refl _) (mm_lo d) rfl (by decide) tw_514 tw_515 tw_397 rfl (by decide) tw_516 tw_517 (by decide +kernel) (by decide +kernel) ?_
    refine so_iconst (pc := 55) (n := 0) (v := 0) X (by decide +kernel) (by decide) ?_
    exact so_ret (pc := 56) X hlk hfree hr (by decide +kernel)
  | n + 3 => exact fun _ _ _ _ h => h.elim
theorem bs_X7_query {l : Launch} {D : va_G} {EXT : (Nat → Nat) → (Nat → Prop) → State → Heap → Prop} (hxo : mm_xo EXT) (hxe : ∀ ad A U H, EXT ad A U H → px_E0 ad A U H) : mm_BS l D pcl lw_T EXT px_tab 135 pb_X7_query pp_X7_query := by
  intro d C hC p e s m args below meth c A ad0 cA0 μ0 free Q J
  rw [tb_135]
  exact fun X hr hlk hnm hfree hJ => bk_X7_query hxo hxe hC X hr hlk hnm hfree hJ
set_option maxHeartbeats 4000000 in
set_option maxRecDepth 100000 in
theorem bk_X7_ask {l : Launch} {D : va_G} {EXT : (Nat → Nat) → (Nat → Prop) → State → Heap → Prop} (hxo : mm_xo EXT) (hxe : ∀ ad A U H, EXT ad A U H → px_E0 ad A U H) {d : Nat} {C : mm_C} (hC : mm_CS l D pcl lw_T EXT px_tab d C) {p : Program} {e : Env} {s : State} {m : MethodId} {args : Array Value} {below : List Frame} {meth : Method} {c : Code} {A : Nat → Prop} {ad0 : Nat → Nat} {cA0 : Nat → ClassId} {μ0 : mm_M} {free : Addr → Prop} {Q : mm_Q} {J : mm_J} (X : mm_cx p (mm_rm (d + 1) 0 0) s m args c cX7_ask RX7 lw_T A D pcl 4) (hr : meth.sig.returnType = some .int) (hlk : meth.locks = false) (hnm : meth.name = "ask") (hfree : ∀ q, A q → free q) (hJ : ∀ t, mm_SK p l e (mm_rm (d + 1) 0 0) s m args below meth c (MQ below (mm_Qc D pcl Q ad0 cA0 μ0 0 A) args s 0 0 free) D pcl A 4 (mm_EX EXT A s ad0 cA0 (mm_n μ0)) (pp_X7_ask t) (J t)) : ∀ t, mm_SK p l e (mm_rm (d + 1) 0 0) s m args below meth c (MQ below (mm_Qc D pcl Q ad0 cA0 μ0 0 A) args s 0 0 free) D pcl A 4 (mm_EX EXT A s ad0 cA0 (mm_n μ0)) (pp_X7_ask t) (pb_X7_ask J C Q t) := by
  intro t
  match t with
  | 0 =>
    refine so_aload_n (pc := 0) (i := 0) X (by decide +kernel) ?_
    refine so_iconst (pc := 1) (n := 0) (v := 0) X (by decide +kernel) (by decide) ?_
    refine so_puti (pc := 2) (index := 62) (ci := 7) (f := 0) (N := 32) (C := RX7) (T := TX7) X rfl uX7 (by decide) (by decide) tw_391 tyX7 tyX7_ok nmX7 rfl (by decide +kernel) rfl (by decide +kernel) ?_
    refine so_aload_n (pc := 5) (i := 0) X (by decide +kernel) ?_
    refine so_iload_n (pc := 6) (i := 1) X (by decide +kernel) ?_
    refine so_cav (pc := 7) (y := 97) (na := 2) (index := 186) (maxL := 2) (nm := yX7_isUser) (bytes := cX7_isUser) (ret := (some .boolean)) (ci := 7) (N := 32) (T := TX7) X hxo (fun _ _ _ _ h => h.1) hC lw_good (Nat.le_refl _) (mm_lo d) rfl (by decide) tw_497 tw_498 tw_397 rfl (by decide) tw_499 tw_500 (by decide +kernel) (by decide +kernel) ?_
    refine so_if_ne (pc := 10) (off := 5) (tgt := 15) X (by decide +kernel) (by decide) (hJ 1) ?_
    refine so_iconst (pc := 13) (n := (-1)) (v := (-1)) X (by decide +kernel) (by decide) ?_
    exact so_ret (pc := 14) X hlk hfree hr (by decide +kernel)
  | 1 =>
    refine so_aload_n (pc := 15) (i := 0) X (by decide +kernel) ?_
    refine so_geti (pc := 16) (index := 199) (ci := 7) (f := 13) (N := 32) (C := RX7) (T := TX7) X rfl uX7 (by decide) (by decide) tw_513 rfl (by decide) (by decide +kernel) ?_
    refine so_sipush (pc := 19) (n := 150) (v := 150) X (by decide +kernel) (by decide) ?_
    refine so_icmp_ne (pc := 22) (off := 6) (tgt := 28) X (by decide +kernel) (by decide) (hJ 2) ?_
    refine so_bipush (pc := 25) (n := (-4)) (v := (-4)) X (by decide +kernel) (by decide) ?_
    exact so_ret (pc := 27) X hlk hfree hr (by decide +kernel)
  | 2 =>
    refine so_aload_n (pc := 28) (i := 0) X (by decide +kernel) ?_
    refine so_iload_n (pc := 29) (i := 1) X (by decide +kernel) ?_
    refine so_iconst (pc := 30) (n := 0) (v := 0) X (by decide +kernel) (by decide) ?_
    refine so_cav (pc := 31) (y := 135) (na := 3) (index := 209) (maxL := 3) (nm := yX7_query) (bytes := cX7_query) (ret := (some .int)) (ci := 7) (N := 32) (T := TX7) X hxo (fun _ _ _ _ h => h.1) hC lw_good (Nat.le_refl _) (mm_lo d) rfl (by decide) tw_522 tw_523 tw_397 rfl (by decide) tw_524 tw_525 (by decide +kernel) (by decide +kernel) ?_
    refine so_istore_n (pc := 34) (i := 2) X (by decide +kernel) (by decide) ?_
    refine so_iload_n (pc := 35) (i := 2) X (by decide +kernel) ?_
    refine so_if_eq (pc := 36) (off := 5) (tgt := 41) X (by decide +kernel) (by decide) (hJ 3) ?_
    refine so_iload_n (pc := 39) (i := 2) X (by decide +kernel) ?_
    exact so_ret (pc := 40) X hlk hfree hr (by decide +kernel)
  | 3 =>
    refine so_aload_n (pc := 41) (i := 0) X (by decide +kernel) ?_
    refine so_iconst (pc := 42) (n := 0) (v := 0) X (by decide +kernel) (by decide) ?_
    refine so_puti (pc := 43) (index := 212) (ci := 7) (f := 15) (N := 32) (C := RX7) (T := TX7) X rfl uX7 (by decide) (by decide) tw_526 tyX7 tyX7_ok nmX7 rfl (by decide +kernel) rfl (by decide +kernel) ?_
    refine so_iconst (pc := 46) (n := 0) (v := 0) X (by decide +kernel) (by decide) ?_
    refine so_istore_n (pc := 47) (i := 3) X (by decide +kernel) (by decide) ?_
    exact so_fall X (hJ 4)
  | 4 =>
    refine so_iload_n (pc := 48) (i := 3) X (by decide +kernel) ?_
    refine so_aload_n (pc := 49) (i := 0) X (by decide +kernel) ?_
    refine so_geti (pc := 50) (index := 65) (ci := 7) (f := 1) (N := 32) (C := RX7) (T := TX7) X rfl uX7 (by decide) (by decide) tw_392 rfl (by decide) (by decide +kernel) ?_
    refine so_icmp_ge (pc := 53) (off := 40) (tgt := 93) X (by decide +kernel) (by decide) (hJ 6) ?_
    refine so_aload_n (pc := 56) (i := 0) X (by decide +kernel) ?_
    refine so_iload_n (pc := 57) (i := 1) X (by decide +kernel) ?_
    refine so_bipush (pc := 58) (n := 9) (v := 9) X (by decide +kernel) (by decide) ?_
    refine so_iload_n (pc := 60) (i := 3) X (by decide +kernel) ?_
    refine so_cav (pc := 61) (y := 129) (na := 4) (index := 215) (maxL := 4) (nm := yX7_matches) (bytes := cX7_matches) (ret := (some .boolean)) (ci := 7) (N := 32) (T := TX7) X hxo (fun _ _ _ _ h => h.1) hC lw_good (Nat.le_refl _) (mm_lo d) rfl (by decide) tw_527 tw_528 tw_397 rfl (by decide) tw_529 tw_530 (by decide +kernel) (by decide +kernel) ?_
    refine so_if_eq (pc := 64) (off := 23) (tgt := 87) X (by decide +kernel) (by decide) (hJ 5) ?_
    refine so_aload_n (pc := 67) (i := 0) X (by decide +kernel) ?_
    refine so_getr (pc := 68) (index := 40) (ci := 7) (f := 14) (N := 32) (C := RX7) (T := TX7) X rfl uX7 (by decide) (by decide) tw_384 rfl (by decide +kernel) ?_
    refine so_aload_n (pc := 71) (i := 0) X (by decide +kernel) ?_
    refine so_geti (pc := 72) (index := 212) (ci := 7) (f := 15) (N := 32) (C := RX7) (T := TX7) X rfl uX7 (by decide) (by decide) tw_526 rfl (by decide) (by decide +kernel) ?_
    refine so_iload_n (pc := 75) (i := 3) X (by decide +kernel) ?_
    refine so_iast (pc := 76) X (by decide +kernel) ?_
    refine so_aload_n (pc := 77) (i := 0) X (by decide +kernel) ?_
    refine so_dup (pc := 78) X (by decide +kernel) ?_
    refine so_geti (pc := 79) (index := 212) (ci := 7) (f := 15) (N := 32) (C := RX7) (T := TX7) X rfl uX7 (by decide) (by decide) tw_526 rfl (by decide) (by decide +kernel) ?_
    refine so_iconst (pc := 82) (n := 1) (v := 1) X (by decide +kernel) (by decide) ?_
    refine so_iadd (pc := 83) X (by decide +kernel) ?_
    refine so_puti (pc := 84) (index := 212) (ci := 7) (f := 15) (N := 32) (C := RX7) (T := TX7) X rfl uX7 (by decide) (by decide) tw_526 tyX7 tyX7_ok nmX7 rfl (by decide +kernel) rfl (by decide +kernel) ?_
    exact so_fall X (hJ 5)
  | 5 =>
    refine so_iinc (pc := 87) (i := 3) (n := 1) (y := 1) X (by decide +kernel) (by decide) (by decide) ?_
    exact so_goto (pc := 90) (off := (-42)) (tgt := 48) X (by decide +kernel) (by decide) (hJ 4)
  | 6 =>
    refine so_aload_n (pc := 93) (i := 0) X (by decide +kernel) ?_
    refine so_geti (pc := 94) (index := 212) (ci := 7) (f := 15) (N := 32) (C := RX7) (T := TX7) X rfl uX7 (by decide) (by decide) tw_526 rfl (by decide) (by decide +kernel) ?_
    exact so_ret (pc := 97) X hlk hfree hr (by decide +kernel)
  | n + 7 => exact fun _ _ _ _ h => h.elim
theorem bs_X7_ask {l : Launch} {D : va_G} {EXT : (Nat → Nat) → (Nat → Prop) → State → Heap → Prop} (hxo : mm_xo EXT) (hxe : ∀ ad A U H, EXT ad A U H → px_E0 ad A U H) : mm_BS l D pcl lw_T EXT px_tab 136 pb_X7_ask pp_X7_ask := by
  intro d C hC p e s m args below meth c A ad0 cA0 μ0 free Q J
  rw [tb_136]
  exact fun X hr hlk hnm hfree hJ => bk_X7_ask hxo hxe hC X hr hlk hnm hfree hJ
set_option maxHeartbeats 4000000 in
set_option maxRecDepth 100000 in
theorem bk_X7_found {l : Launch} {D : va_G} {EXT : (Nat → Nat) → (Nat → Prop) → State → Heap → Prop} (hxo : mm_xo EXT) (hxe : ∀ ad A U H, EXT ad A U H → px_E0 ad A U H) {d : Nat} {C : mm_C} (hC : mm_CS l D pcl lw_T EXT px_tab d C) {p : Program} {e : Env} {s : State} {m : MethodId} {args : Array Value} {below : List Frame} {meth : Method} {c : Code} {A : Nat → Prop} {ad0 : Nat → Nat} {cA0 : Nat → ClassId} {μ0 : mm_M} {free : Addr → Prop} {Q : mm_Q} {J : mm_J} (X : mm_cx p (mm_rm (d + 1) 0 0) s m args c cX7_found RX7 lw_T A D pcl 2) (hr : meth.sig.returnType = some .int) (hlk : meth.locks = false) (hnm : meth.name = "found") (hfree : ∀ q, A q → free q) (hJ : ∀ t, mm_SK p l e (mm_rm (d + 1) 0 0) s m args below meth c (MQ below (mm_Qc D pcl Q ad0 cA0 μ0 0 A) args s 0 0 free) D pcl A 2 (mm_EX EXT A s ad0 cA0 (mm_n μ0)) (pp_X7_found t) (J t)) : ∀ t, mm_SK p l e (mm_rm (d + 1) 0 0) s m args below meth c (MQ below (mm_Qc D pcl Q ad0 cA0 μ0 0 A) args s 0 0 free) D pcl A 2 (mm_EX EXT A s ad0 cA0 (mm_n μ0)) (pp_X7_found t) (pb_X7_found J C Q t) := by
  intro t
  match t with
  | 0 =>
    refine so_aload_n (pc := 0) (i := 0) X (by decide +kernel) ?_
    refine so_iconst (pc := 1) (n := 0) (v := 0) X (by decide +kernel) (by decide) ?_
    refine so_puti (pc := 2) (index := 62) (ci := 7) (f := 0) (N := 32) (C := RX7) (T := TX7) X rfl uX7 (by decide) (by decide) tw_391 tyX7 tyX7_ok nmX7 rfl (by decide +kernel) rfl (by decide +kernel) ?_
    refine so_iload_n (pc := 5) (i := 1) X (by decide +kernel) ?_
    refine so_if_lt (pc := 6) (off := 11) (tgt := 17) X (by decide +kernel) (by decide) (hJ 1) ?_
    refine so_iload_n (pc := 9) (i := 1) X (by decide +kernel) ?_
    refine so_aload_n (pc := 10) (i := 0) X (by decide +kernel) ?_
    refine so_geti (pc := 11) (index := 212) (ci := 7) (f := 15) (N := 32) (C := RX7) (T := TX7) X rfl uX7 (by decide) (by decide) tw_526 rfl (by decide) (by decide +kernel) ?_
    refine so_icmp_lt (pc := 14) (off := 7) (tgt := 21) X (by decide +kernel) (by decide) (hJ 2) ?_
    exact so_fall X (hJ 1)
  | 1 =>
    refine so_iconst (pc := 17) (n := (-1)) (v := (-1)) X (by decide +kernel) (by decide) ?_
    exact so_goto (pc := 18) (off := 9) (tgt := 27) X (by decide +kernel) (by decide) (hJ 3)
  | 2 =>
    refine so_aload_n (pc := 21) (i := 0) X (by decide +kernel) ?_
    refine so_getr (pc := 22) (index := 40) (ci := 7) (f := 14) (N := 32) (C := RX7) (T := TX7) X rfl uX7 (by decide) (by decide) tw_384 rfl (by decide +kernel) ?_
    refine so_iload_n (pc := 25) (i := 1) X (by decide +kernel) ?_
    refine so_iald (pc := 26) X (by decide +kernel) ?_
    exact so_fall X (hJ 3)
  | 3 =>
    exact so_ret (pc := 27) X hlk hfree hr (by decide +kernel)
  | n + 4 => exact fun _ _ _ _ h => h.elim
theorem bs_X7_found {l : Launch} {D : va_G} {EXT : (Nat → Nat) → (Nat → Prop) → State → Heap → Prop} (hxo : mm_xo EXT) (hxe : ∀ ad A U H, EXT ad A U H → px_E0 ad A U H) : mm_BS l D pcl lw_T EXT px_tab 137 pb_X7_found pp_X7_found := by
  intro d C hC p e s m args below meth c A ad0 cA0 μ0 free Q J
  rw [tb_137]
  exact fun X hr hlk hnm hfree hJ => bk_X7_found hxo hxe hC X hr hlk hnm hfree hJ
set_option maxHeartbeats 4000000 in
set_option maxRecDepth 100000 in
theorem bk_X7_cell {l : Launch} {D : va_G} {EXT : (Nat → Nat) → (Nat → Prop) → State → Heap → Prop} (hxo : mm_xo EXT) (hxe : ∀ ad A U H, EXT ad A U H → px_E0 ad A U H) {d : Nat} {C : mm_C} (hC : mm_CS l D pcl lw_T EXT px_tab d C) {p : Program} {e : Env} {s : State} {m : MethodId} {args : Array Value} {below : List Frame} {meth : Method} {c : Code} {A : Nat → Prop} {ad0 : Nat → Nat} {cA0 : Nat → ClassId} {μ0 : mm_M} {free : Addr → Prop} {Q : mm_Q} {J : mm_J} (X : mm_cx p (mm_rm (d + 1) 0 0) s m args c cX7_cell RX7 lw_T A D pcl 8) (hr : meth.sig.returnType = some .int) (hlk : meth.locks = false) (hnm : meth.name = "cell") (hfree : ∀ q, A q → free q) (hJ : ∀ t, mm_SK p l e (mm_rm (d + 1) 0 0) s m args below meth c (MQ below (mm_Qc D pcl Q ad0 cA0 μ0 0 A) args s 0 0 free) D pcl A 8 (mm_EX EXT A s ad0 cA0 (mm_n μ0)) (pp_X7_cell t) (J t)) : ∀ t, mm_SK p l e (mm_rm (d + 1) 0 0) s m args below meth c (MQ below (mm_Qc D pcl Q ad0 cA0 μ0 0 A) args s 0 0 free) D pcl A 8 (mm_EX EXT A s ad0 cA0 (mm_n μ0)) (pp_X7_cell t) (pb_X7_cell J C Q t) := by
  intro t
  match t with
  | 0 =>
    refine so_aload_n (pc := 0) (i := 0) X (by decide +kernel) ?_
    refine so_iconst (pc := 1) (n := 0) (v := 0) X (by decide +kernel) (by decide) ?_
    refine so_puti (pc := 2) (index := 62) (ci := 7) (f := 0) (N := 32) (C := RX7) (T := TX7) X rfl uX7 (by decide) (by decide) tw_391 tyX7 tyX7_ok nmX7 rfl (by decide +kernel) rfl (by decide +kernel) ?_
    refine so_aload_n (pc := 5) (i := 0) X (by decide +kernel) ?_
    refine so_iload_n (pc := 6) (i := 1) X (by decide +kernel) ?_
    refine so_cav (pc := 7) (y := 97) (na := 2) (index := 186) (maxL := 2) (nm := yX7_isUser) (bytes := cX7_isUser) (ret := (some .boolean)) (ci := 7) (N := 32) (T := TX7) X hxo (fun _ _ _ _ h => h.1) hC lw_good (Nat.le_refl _) (mm_lo d) rfl (by decide) tw_497 tw_498 tw_397 rfl (by decide) tw_499 tw_500 (by decide +kernel) (by decide +kernel) ?_
    refine so_if_eq (pc := 10) (off := 10) (tgt := 20) X (by decide +kernel) (by decide) (hJ 1) ?_
    refine so_iload_n (pc := 13) (i := 2) X (by decide +kernel) ?_
    refine so_cas (pc := 14) (y := 98) (na := 1) (index := 78) (maxL := 1) (nm := yX7_isField) (bytes := cX7_isField) (ret := (some .boolean)) X hxo (fun _ _ _ _ h => h.1) hC lw_good (Nat.le_refl _) (mm_lo d) rfl (by decide) tw_400 tw_401 tw_397 tw_402 (by decide +kernel) (by decide +kernel) ?_
    refine so_if_ne (pc := 17) (off := 5) (tgt := 22) X (by decide +kernel) (by decide) (hJ 2) ?_
    exact so_fall X (hJ 1)
  | 1 =>
    refine so_iconst (pc := 20) (n := (-1)) (v := (-1)) X (by decide +kernel) (by decide) ?_
    exact so_ret (pc := 21) X hlk hfree hr (by decide +kernel)
  | 2 =>
    refine so_iload (pc := 22) (i := 4) X (by decide +kernel) ?_
    refine so_iload_n (pc := 24) (i := 3) X (by decide +kernel) ?_
    refine so_icmp_ge (pc := 25) (off := 6) (tgt := 31) X (by decide +kernel) (by decide) (hJ 3) ?_
    refine so_bipush (pc := 28) (n := (-2)) (v := (-2)) X (by decide +kernel) (by decide) ?_
    exact so_ret (pc := 30) X hlk hfree hr (by decide +kernel)
  | 3 =>
    refine so_aload_n (pc := 31) (i := 0) X (by decide +kernel) ?_
    refine so_geti (pc := 32) (index := 199) (ci := 7) (f := 13) (N := 32) (C := RX7) (T := TX7) X rfl uX7 (by decide) (by decide) tw_513 rfl (by decide) (by decide +kernel) ?_
    refine so_sipush (pc := 35) (n := 150) (v := 150) X (by decide +kernel) (by decide) ?_
    refine so_icmp_ne (pc := 38) (off := 6) (tgt := 44) X (by decide +kernel) (by decide) (hJ 4) ?_
    refine so_bipush (pc := 41) (n := (-4)) (v := (-4)) X (by decide +kernel) (by decide) ?_
    exact so_ret (pc := 43) X hlk hfree hr (by decide +kernel)
  | 4 =>
    refine so_aload_n (pc := 44) (i := 0) X (by decide +kernel) ?_
    refine so_iload_n (pc := 45) (i := 1) X (by decide +kernel) ?_
    refine so_iload_n (pc := 46) (i := 2) X (by decide +kernel) ?_
    refine so_cav (pc := 47) (y := 126) (na := 3) (index := 179) (maxL := 3) (nm := yX7_isClosed) (bytes := cX7_isClosed) (ret := (some .boolean)) (ci := 7) (N := 32) (T := TX7) X hxo (fun _ _ _ _ h => h.1) hC lw_good (Nat.le_refl _) (mm_lo d) rfl (by decide) tw_489 tw_490 tw_397 rfl (by decide) tw_491 tw_492 (by decide +kernel) (by decide +kernel) ?_
    refine so_if_eq (pc := 50) (off := 15) (tgt := 65) X (by decide +kernel) (by decide) (hJ 5) ?_
    refine so_aload_n (pc := 53) (i := 0) X (by decide +kernel) ?_
    refine so_iload_n (pc := 54) (i := 1) X (by decide +kernel) ?_
    refine so_iconst (pc := 55) (n := 3) (v := 3) X (by decide +kernel) (by decide) ?_
    refine so_iload_n (pc := 56) (i := 2) X (by decide +kernel) ?_
    refine so_iload_n (pc := 57) (i := 3) X (by decide +kernel) ?_
    refine so_iconst (pc := 58) (n := 2) (v := 2) X (by decide +kernel) (by decide) ?_
    refine so_cav (pc := 59) (y := 134) (na := 6) (index := 202) (maxL := 6) (nm := yX7_note) (bytes := cX7_note) (ret := none) (ci := 7) (N := 32) (T := TX7) X hxo (fun _ _ _ _ h => h.1) hC lw_good (Nat.le_refl _) (mm_lo d) rfl (by decide) tw_514 tw_515 tw_397 rfl (by decide) tw_516 tw_517 (by decide +kernel) (by decide +kernel) ?_
    refine so_bipush (pc := 62) (n := (-6)) (v := (-6)) X (by decide +kernel) (by decide) ?_
    exact so_ret (pc := 64) X hlk hfree hr (by decide +kernel)
  | 5 =>
    refine so_iconst (pc := 65) (n := 0) (v := 0) X (by decide +kernel) (by decide) ?_
    refine so_istore (pc := 66) (i := 5) X (by decide +kernel) (by decide) ?_
    refine so_iconst (pc := 68) (n := 0) (v := 0) X (by decide +kernel) (by decide) ?_
    refine so_istore (pc := 69) (i := 6) X (by decide +kernel) (by decide) ?_
    exact so_fall X (hJ 6)
  | 6 =>
    refine so_iload (pc := 71) (i := 6) X (by decide +kernel) ?_
    refine so_aload_n (pc := 73) (i := 0) X (by decide +kernel) ?_
    refine so_geti (pc := 74) (index := 65) (ci := 7) (f := 1) (N := 32) (C := RX7) (T := TX7) X rfl uX7 (by decide) (by decide) tw_392 rfl (by decide) (by decide +kernel) ?_
    refine so_icmp_ge (pc := 77) (off := 55) (tgt := 132) X (by decide +kernel) (by decide) (hJ 9) ?_
    refine so_aload_n (pc := 80) (i := 0) X (by decide +kernel) ?_
    refine so_getr (pc := 81) (index := 7) (ci := 7) (f := 3) (N := 32) (C := RX7) (T := TX7) X rfl uX7 (by decide) (by decide) tw_374 rfl (by decide +kernel) ?_
    refine so_iconst (pc := 84) (n := 4) (v := 4) X (by decide +kernel) (by decide) ?_
    refine so_iload (pc := 85) (i := 6) X (by decide +kernel) ?_
    refine so_imul (pc := 87) X (by decide +kernel) ?_
    refine so_iload_n (pc := 88) (i := 2) X (by decide +kernel) ?_
    refine so_iadd (pc := 89) X (by decide +kernel) ?_
    refine so_iald (pc := 90) X (by decide +kernel) ?_
    refine so_istore (pc := 91) (i := 7) X (by decide +kernel) (by decide) ?_
    refine so_iload (pc := 93) (i := 5) X (by decide +kernel) ?_
    refine so_iload (pc := 95) (i := 7) X (by decide +kernel) ?_
    refine so_iload_n (pc := 97) (i := 3) X (by decide +kernel) ?_
    refine so_icmp_lt (pc := 98) (off := 24) (tgt := 122) X (by decide +kernel) (by decide) (hJ 7) ?_
    refine so_iload (pc := 101) (i := 7) X (by decide +kernel) ?_
    refine so_iload (pc := 103) (i := 4) X (by decide +kernel) ?_
    refine so_icmp_gt (pc := 105) (off := 17) (tgt := 122) X (by decide +kernel) (by decide) (hJ 7) ?_
    refine so_aload_n (pc := 108) (i := 0) X (by decide +kernel) ?_
    refine so_iload_n (pc := 109) (i := 1) X (by decide +kernel) ?_
    refine so_iload (pc := 110) (i := 6) X (by decide +kernel) ?_
    refine so_cav (pc := 112) (y := 125) (na := 3) (index := 183) (maxL := 3) (nm := yX7_isSeen) (bytes := cX7_isSeen) (ret := (some .boolean)) (ci := 7) (N := 32) (T := TX7) X hxo (fun _ _ _ _ h => h.1) hC lw_good (Nat.le_refl _) (mm_lo d) rfl (by decide) tw_493 tw_494 tw_397 rfl (by decide) tw_495 tw_496 (by decide +kernel) (by decide +kernel) ?_
    refine so_if_eq (pc := 115) (off := 7) (tgt := 122) X (by decide +kernel) (by decide) (hJ 7) ?_
    refine so_iconst (pc := 118) (n := 1) (v := 1) X (by decide +kernel) (by decide) ?_
    exact so_goto (pc := 119) (off := 4) (tgt := 123) X (by decide +kernel) (by decide) (hJ 8)
  | 7 =>
    refine so_iconst (pc := 122) (n := 0) (v := 0) X (by decide +kernel) (by decide) ?_
    exact so_fall X (hJ 8)
  | 8 =>
    refine so_iadd (pc := 123) X (by decide +kernel) ?_
    refine so_istore (pc := 124) (i := 5) X (by decide +kernel) (by decide) ?_
    refine so_iinc (pc := 126) (i := 6) (n := 1) (y := 1) X (by decide +kernel) (by decide) (by decide) ?_
    exact so_goto (pc := 129) (off := (-58)) (tgt := 71) X (by decide +kernel) (by decide) (hJ 6)
  | 9 =>
    refine so_aload_n (pc := 132) (i := 0) X (by decide +kernel) ?_
    refine so_iload_n (pc := 133) (i := 1) X (by decide +kernel) ?_
    refine so_iconst (pc := 134) (n := 3) (v := 3) X (by decide +kernel) (by decide) ?_
    refine so_iload_n (pc := 135) (i := 2) X (by decide +kernel) ?_
    refine so_iload_n (pc := 136) (i := 3) X (by decide +kernel) ?_
    refine so_iconst (pc := 137) (n := 0) (v := 0) X (by decide +kernel) (by decide) ?_
    refine so_cav (pc := 138) (y := 134) (na := 6) (index := 202) (maxL := 6) (nm := yX7_note) (bytes := cX7_note) (ret := none) (ci := 7) (N := 32) (T := TX7) X hxo (fun _ _ _ _ h => h.1) hC lw_good (Nat.le_refl _) (mm_lo d) rfl (by decide) tw_514 tw_515 tw_397 rfl (by decide) tw_516 tw_517 (by decide +kernel) (by decide +kernel) ?_
    refine so_iload (pc := 141) (i := 5) X (by decide +kernel) ?_
    exact so_ret (pc := 143) X hlk hfree hr (by decide +kernel)
  | n + 10 => exact fun _ _ _ _ h => h.elim
theorem bs_X7_cell {l : Launch} {D : va_G} {EXT : (Nat → Nat) → (Nat → Prop) → State → Heap → Prop} (hxo : mm_xo EXT) (hxe : ∀ ad A U H, EXT ad A U H → px_E0 ad A U H) : mm_BS l D pcl lw_T EXT px_tab 138 pb_X7_cell pp_X7_cell := by
  intro d C hC p e s m args below meth c A ad0 cA0 μ0 free Q J
  rw [tb_138]
  exact fun X hr hlk hnm hfree hJ => bk_X7_cell hxo hxe hC X hr hlk hnm hfree hJ
