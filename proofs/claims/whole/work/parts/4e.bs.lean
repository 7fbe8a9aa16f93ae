set_option maxHeartbeats 4000000 in
set_option maxRecDepth 100000 in
theorem bk_X7_sum_ {l : Launch} {D : va_G} {EXT : (Nat → Nat) → (Nat → Prop) → State → Heap → Prop} (hxo : mm_xo EXT) (hxe : ∀ ad A U H, EXT ad A U H → px_E0 ad A U H) {d : Nat} {C : mm_C} (hC : mm_CS l D pcl lw_T EXT px_tab d C) {p : Program} {e : Env} {s : State} {m : MethodId} {args : Array Value} {below : List Frame} {meth : Method} {c : Code} {A : Nat → Prop} {ad0 : Nat → Nat} {cA0 : Nat → ClassId} {μ0 : mm_M} {free : Addr → Prop} {Q : mm_Q} {J : mm_J} (X : mm_cx p (mm_rm (d + 1) 0 0) s m args c cX7_sum_ RX7 lw_T A D pcl 6) (hr : meth.sig.returnType = some .int) (hlk : meth.locks = false) (hnm : meth.name = "sum") (hfree : ∀ q, A q → free q) (hJ : ∀ t, mm_SK p l e (mm_rm (d + 1) 0 0) s m args below meth c (MQ below (mm_Qc D pcl Q ad0 cA0 μ0 0 A) args s 0 0 free) D pcl A 6 (mm_EX EXT A s ad0 cA0 (mm_n μ0)) (pp_X7_sum_ t) (J t)) : ∀ t, mm_SK p l e (mm_rm (d + 1) 0 0) s m args below meth c (MQ below (mm_Qc D pcl Q ad0 cA0 μ0 0 A) args s 0 0 free) D pcl A 6 (mm_EX EXT A s ad0 cA0 (mm_n μ0)) (pp_X7_sum_ t) (pb_X7_sum_ J C Q t) := by
  intro t
  match t with
  | 0 =>
    refine so_aload_n (pc := 0) (i := 0) X (by decide +kernel) ?_
    refine so_iconst (pc := 1) (n := 0) (v := 0) X (by decide +kernel) (by decide) ?_
    refine so_puti (pc := 2) (index := 62) (ci := 7) (f := 0) (N := 32) (C := RX7) (T := TX7) X rfl uX7 (by decide) (by decide) tw_391 tyX7 tyX7_ok nmX7 rfl (by decide +kernel) rfl (by decide +kernel) ?_
    refine so_aload_n (pc := 5) (i := 0) X (by decide +kernel) ?_
    refine so_iload_n (pc := 6) (i := 1) X (by decide +kernel) ?_
    refine so_cav (pc := 7) (y := 97) (na := 2) (index := 186) (maxL := 2) (nm := yX7_isUser) (bytes := cX7_isUser) (ret := (some .boolean)) (ci := 7) (N := 32) (T := TX7) X hxo (fun _ _ _ _ h => h.1) hC lw_good (Nat.le_refl _) (mm_lo d) rfl (by decide) tw_497 tw_498 tw_397 rfl (by decide) tw_499 tw_500 (by decide +kernel) (by decide +kernel) ?_
    refine so_if_eq (pc := 10) (off := 18) (tgt := 28) X (by decide +kernel) (by decide) (hJ 1) ?_
    refine so_iload_n (pc := 13) (i := 2) X (by decide +kernel) ?_
    refine so_cas (pc := 14) (y := 98) (na := 1) (index := 78) (maxL := 1) (nm := yX7_isField) (bytes := cX7_isField) (ret := (some .boolean)) X hxo (fun _ _ _ _ h => h.1) hC lw_good (Nat.le_refl _) (mm_lo d) rfl (by decide) tw_400 tw_401 tw_397 tw_402 (by decide +kernel) (by decide +kernel) ?_
    refine so_if_eq (pc := 17) (off := 11) (tgt := 28) X (by decide +kernel) (by decide) (hJ 1) ?_
    refine so_aload_n (pc := 20) (i := 0) X (by decide +kernel) ?_
    refine so_iload_n (pc := 21) (i := 3) X (by decide +kernel) ?_
    refine so_cav (pc := 22) (y := 99) (na := 2) (index := 253) (maxL := 2) (nm := yX7_isSet) (bytes := cX7_isSet) (ret := (some .boolean)) (ci := 7) (N := 32) (T := TX7) X hxo (fun _ _ _ _ h => h.1) hC lw_good (Nat.le_refl _) (mm_lo d) rfl (by decide) tw_567 tw_568 tw_397 rfl (by decide) tw_569 tw_570 (by decide +kernel) (by decide +kernel) ?_
    refine so_if_ne (pc := 25) (off := 10) (tgt := 35) X (by decide +kernel) (by decide) (hJ 2) ?_
    exact so_fall X (hJ 1)
  | 1 =>
    refine so_aload_n (pc := 28) (i := 0) X (by decide +kernel) ?_
    refine so_iconst (pc := 29) (n := 1) (v := 1) X (by decide +kernel) (by decide) ?_
    refine so_puti (pc := 30) (index := 62) (ci := 7) (f := 0) (N := 32) (C := RX7) (T := TX7) X rfl uX7 (by decide) (by decide) tw_391 tyX7 tyX7_ok nmX7 rfl (by decide +kernel) rfl (by decide +kernel) ?_
    refine so_iconst (pc := 33) (n := 0) (v := 0) X (by decide +kernel) (by decide) ?_
    exact so_ret (pc := 34) X hlk hfree hr (by decide +kernel)
  | 2 =>
    refine so_aload_n (pc := 35) (i := 0) X (by decide +kernel) ?_
    refine so_geti (pc := 36) (index := 199) (ci := 7) (f := 13) (N := 32) (C := RX7) (T := TX7) X rfl uX7 (by decide) (by decide) tw_513 rfl (by decide) (by decide +kernel) ?_
    refine so_sipush (pc := 39) (n := 150) (v := 150) X (by decide +kernel) (by decide) ?_
    refine so_icmp_ne (pc := 42) (off := 10) (tgt := 52) X (by decide +kernel) (by decide) (hJ 3) ?_
    refine so_aload_n (pc := 45) (i := 0) X (by decide +kernel) ?_
    refine so_iconst (pc := 46) (n := 2) (v := 2) X (by decide +kernel) (by decide) ?_
    refine so_puti (pc := 47) (index := 62) (ci := 7) (f := 0) (N := 32) (C := RX7) (T := TX7) X rfl uX7 (by decide) (by decide) tw_391 tyX7 tyX7_ok nmX7 rfl (by decide +kernel) rfl (by decide +kernel) ?_
    refine so_iconst (pc := 50) (n := 0) (v := 0) X (by decide +kernel) (by decide) ?_
    exact so_ret (pc := 51) X hlk hfree hr (by decide +kernel)
  | 3 =>
    refine so_aload_n (pc := 52) (i := 0) X (by decide +kernel) ?_
    refine so_iload_n (pc := 53) (i := 1) X (by decide +kernel) ?_
    refine so_iload_n (pc := 54) (i := 2) X (by decide +kernel) ?_
    refine so_iload_n (pc := 55) (i := 3) X (by decide +kernel) ?_
    refine so_cav (pc := 56) (y := 147) (na := 4) (index := 247) (maxL := 6) (nm := yX7_isKeptBack) (bytes := cX7_isKeptBack) (ret := (some .boolean)) (ci := 7) (N := 32) (T := TX7) X hxo (fun _ _ _ _ h => h.1) hC lw_good (Nat.le_refl _) (mm_lo d) rfl (by decide) tw_559 tw_560 tw_397 rfl (by decide) tw_561 tw_562 (by decide +kernel) (by decide +kernel) ?_
    refine so_if_eq (pc := 59) (off := 19) (tgt := 78) X (by decide +kernel) (by decide) (hJ 4) ?_
    refine so_aload_n (pc := 62) (i := 0) X (by decide +kernel) ?_
    refine so_iload_n (pc := 63) (i := 1) X (by decide +kernel) ?_
    refine so_iconst (pc := 64) (n := 2) (v := 2) X (by decide +kernel) (by decide) ?_
    refine so_iload_n (pc := 65) (i := 2) X (by decide +kernel) ?_
    refine so_iload_n (pc := 66) (i := 3) X (by decide +kernel) ?_
    refine so_iconst (pc := 67) (n := 1) (v := 1) X (by decide +kernel) (by decide) ?_
    refine so_cav (pc := 68) (y := 134) (na := 6) (index := 202) (maxL := 6) (nm := yX7_note) (bytes := cX7_note) (ret := none) (ci := 7) (N := 32) (T := TX7) X hxo (fun _ _ _ _ h => h.1) hC lw_good (Nat.le_refl _) (mm_lo d) rfl (by decide) tw_514 tw_515 tw_397 rfl (by decide) tw_516 tw_517 (by decide +kernel) (by decide +kernel) ?_
    refine so_aload_n (pc := 71) (i := 0) X (by decide +kernel) ?_
    refine so_iconst (pc := 72) (n := 3) (v := 3) X (by decide +kernel) (by decide) ?_
    refine so_puti (pc := 73) (index := 62) (ci := 7) (f := 0) (N := 32) (C := RX7) (T := TX7) X rfl uX7 (by decide) (by decide) tw_391 tyX7 tyX7_ok nmX7 rfl (by decide +kernel) rfl (by decide +kernel) ?_
    refine so_iconst (pc := 76) (n := 0) (v := 0) X (by decide +kernel) (by decide) ?_
    exact so_ret (pc := 77) X hlk hfree hr (by decide +kernel)
  | 4 =>
    refine so_aload_n (pc := 78) (i := 0) X (by decide +kernel) ?_
    refine so_iload_n (pc := 79) (i := 1) X (by decide +kernel) ?_
    refine so_iconst (pc := 80) (n := 2) (v := 2) X (by decide +kernel) (by decide) ?_
    refine so_iload_n (pc := 81) (i := 2) X (by decide +kernel) ?_
    refine so_iload_n (pc := 82) (i := 3) X (by decide +kernel) ?_
    refine so_iconst (pc := 83) (n := 0) (v := 0) X (by decide +kernel) (by decide) ?_
    refine so_cav (pc := 84) (y := 134) (na := 6) (index := 202) (maxL := 6) (nm := yX7_note) (bytes := cX7_note) (ret := none) (ci := 7) (N := 32) (T := TX7) X hxo (fun _ _ _ _ h => h.1) hC lw_good (Nat.le_refl _) (mm_lo d) rfl (by decide) tw_514 tw_515 tw_397 rfl (by decide) tw_516 tw_517 (by decide +kernel) (by decide +kernel) ?_
    refine so_aload_n (pc := 87) (i := 0) X (by decide +kernel) ?_
    refine so_iload_n (pc := 88) (i := 1) X (by decide +kernel) ?_
    refine so_iload_n (pc := 89) (i := 2) X (by decide +kernel) ?_
    refine so_iload_n (pc := 90) (i := 3) X (by decide +kernel) ?_
    refine so_cav (pc := 91) (y := 148) (na := 4) (index := 250) (maxL := 4) (nm := yX7_tell) (bytes := cX7_tell) (ret := none) (ci := 7) (N := 32) (T := TX7) X hxo (fun _ _ _ _ h => h.1) hC lw_good (Nat.le_refl _) (mm_lo d) rfl (by decide) tw_563 tw_564 tw_397 rfl (by decide) tw_565 tw_566 (by decide +kernel) (by decide +kernel) ?_
    refine so_iconst (pc := 94) (n := 0) (v := 0) X (by decide +kernel) (by decide) ?_
    refine so_istore (pc := 95) (i := 4) X (by decide +kernel) (by decide) ?_
    refine so_iconst (pc := 97) (n := 0) (v := 0) X (by decide +kernel) (by decide) ?_
    refine so_istore (pc := 98) (i := 5) X (by decide +kernel) (by decide) ?_
    exact so_fall X (hJ 5)
  | 5 =>
    refine so_iload (pc := 100) (i := 5) X (by decide +kernel) ?_
    refine so_aload_n (pc := 102) (i := 0) X (by decide +kernel) ?_
    refine so_geti (pc := 103) (index := 65) (ci := 7) (f := 1) (N := 32) (C := RX7) (T := TX7) X rfl uX7 (by decide) (by decide) tw_392 rfl (by decide) (by decide +kernel) ?_
    refine so_icmp_ge (pc := 106) (off := 39) (tgt := 145) X (by decide +kernel) (by decide) (hJ 8) ?_
    refine so_iload (pc := 109) (i := 4) X (by decide +kernel) ?_
    refine so_iload_n (pc := 111) (i := 3) X (by decide +kernel) ?_
    refine so_iload (pc := 112) (i := 5) X (by decide +kernel) ?_
    refine so_ishr (pc := 114) X (by decide +kernel) ?_
    refine so_iconst (pc := 115) (n := 1) (v := 1) X (by decide +kernel) (by decide) ?_
    refine so_iand (pc := 116) X (by decide +kernel) ?_
    refine so_iconst (pc := 117) (n := 1) (v := 1) X (by decide +kernel) (by decide) ?_
    refine so_icmp_ne (pc := 118) (off := 17) (tgt := 135) X (by decide +kernel) (by decide) (hJ 6) ?_
    refine so_aload_n (pc := 121) (i := 0) X (by decide +kernel) ?_
    refine so_getr (pc := 122) (index := 7) (ci := 7) (f := 3) (N := 32) (C := RX7) (T := TX7) X rfl uX7 (by decide) (by decide) tw_374 rfl (by decide +kernel) ?_
    refine so_iconst (pc := 125) (n := 4) (v := 4) X (by decide +kernel) (by decide) ?_
    refine so_iload (pc := 126) (i := 5) X (by decide +kernel) ?_
    refine so_imul (pc := 128) X (by decide +kernel) ?_
    refine so_iload_n (pc := 129) (i := 2) X (by decide +kernel) ?_
    refine so_iadd (pc := 130) X (by decide +kernel) ?_
    refine so_iald (pc := 131) X (by decide +kernel) ?_
    exact so_goto (pc := 132) (off := 4) (tgt := 136) X (by decide +kernel) (by decide) (hJ 7)
  | 6 =>
    refine so_iconst (pc := 135) (n := 0) (v := 0) X (by decide +kernel) (by decide) ?_
    exact so_fall X (hJ 7)
  | 7 =>
    refine so_iadd (pc := 136) X (by decide +kernel) ?_
    refine so_istore (pc := 137) (i := 4) X (by decide +kernel) (by decide) ?_
    refine so_iinc (pc := 139) (i := 5) (n := 1) (y := 1) X (by decide +kernel) (by decide) (by decide) ?_
    exact so_goto (pc := 142) (off := (-42)) (tgt := 100) X (by decide +kernel) (by decide) (hJ 5)
  | 8 =>
    refine so_iload (pc := 145) (i := 4) X (by decide +kernel) ?_
    exact so_ret (pc := 147) X hlk hfree hr (by decide +kernel)
  | n + 9 => exact fun _ _ _ _ h => h.elim
theorem bs_X7_sum_ {l : Launch} {D : va_G} {EXT : (Nat → Nat) → (Nat → Prop) → State → Heap → Prop} (hxo : mm_xo EXT) (hxe : ∀ ad A U H, EXT ad A U H → px_E0 ad A U H) : mm_BS l D pcl lw_T EXT px_tab 150 pb_X7_sum_ pp_X7_sum_ := by
  intro d C hC p e s m args below meth c A ad0 cA0 μ0 free Q J
  rw [tb_150]
  exact fun X hr hlk hnm hfree hJ => bk_X7_sum_ hxo hxe hC X hr hlk hnm hfree hJ
set_option maxHeartbeats 4000000 in
set_option maxRecDepth 100000 in
theorem bk_X7_solved {l : Launch} {D : va_G} {EXT : (Nat → Nat) → (Nat → Prop) → State → Heap → Prop} (hxo : mm_xo EXT) (hxe : ∀ ad A U H, EXT ad A U H → px_E0 ad A U H) {d : Nat} {C : mm_C} (hC : mm_CS l D pcl lw_T EXT px_tab d C) {p : Program} {e : Env} {s : State} {m : MethodId} {args : Array Value} {below : List Frame} {meth : Method} {c : Code} {A : Nat → Prop} {ad0 : Nat → Nat} {cA0 : Nat → ClassId} {μ0 : mm_M} {free : Addr → Prop} {Q : mm_Q} {J : mm_J} (X : mm_cx p (mm_rm (d + 1) 0 0) s m args c cX7_solved RX7 lw_T A D pcl 4) (hr : meth.sig.returnType = some .int) (hlk : meth.locks = false) (hnm : meth.name = "solved") (hfree : ∀ q, A q → free q) (hJ : ∀ t, mm_SK p l e (mm_rm (d + 1) 0 0) s m args below meth c (MQ below (mm_Qc D pcl Q ad0 cA0 μ0 0 A) args s 0 0 free) D pcl A 4 (mm_EX EXT A s ad0 cA0 (mm_n μ0)) (pp_X7_solved t) (J t)) : ∀ t, mm_SK p l e (mm_rm (d + 1) 0 0) s m args below meth c (MQ below (mm_Qc D pcl Q ad0 cA0 μ0 0 A) args s 0 0 free) D pcl A 4 (mm_EX EXT A s ad0 cA0 (mm_n μ0)) (pp_X7_solved t) (pb_X7_solved J C Q t) := by
  intro t
  match t with
  | 0 =>
    refine so_aload_n (pc := 0) (i := 0) X (by decide +kernel) ?_
    refine so_iconst (pc := 1) (n := 0) (v := 0) X (by decide +kernel) (by decide) ?_
    refine so_puti (pc := 2) (index := 62) (ci := 7) (f := 0) (N := 32) (C := RX7) (T := TX7) X rfl uX7 (by decide) (by decide) tw_391 tyX7 tyX7_ok nmX7 rfl (by decide +kernel) rfl (by decide +kernel) ?_
    refine so_aload_n (pc := 5) (i := 0) X (by decide +kernel) ?_
    refine so_iload_n (pc := 6) (i := 1) X (by decide +kernel) ?_
    refine so_cav (pc := 7) (y := 97) (na := 2) (index := 186) (maxL := 2) (nm := yX7_isUser) (bytes := cX7_isUser) (ret := (some .boolean)) (ci := 7) (N := 32) (T := TX7) X hxo (fun _ _ _ _ h => h.1) hC lw_good (Nat.le_refl _) (mm_lo d) rfl (by decide) tw_497 tw_498 tw_397 rfl (by decide) tw_499 tw_500 (by decide +kernel) (by decide +kernel) ?_
    refine so_if_eq (pc := 10) (off := 18) (tgt := 28) X (by decide +kernel) (by decide) (hJ 1) ?_
    refine so_iload_n (pc := 13) (i := 2) X (by decide +kernel) ?_
    refine so_cas (pc := 14) (y := 98) (na := 1) (index := 78) (maxL := 1) (nm := yX7_isField) (bytes := cX7_isField) (ret := (some .boolean)) X hxo (fun _ _ _ _ h => h.1) hC lw_good (Nat.le_refl _) (mm_lo d) rfl (by decide) tw_400 tw_401 tw_397 tw_402 (by decide +kernel) (by decide +kernel) ?_
    refine so_if_eq (pc := 17) (off := 11) (tgt := 28) X (by decide +kernel) (by decide) (hJ 1) ?_
    refine so_aload_n (pc := 20) (i := 0) X (by decide +kernel) ?_
    refine so_iload_n (pc := 21) (i := 3) X (by decide +kernel) ?_
    refine so_cav (pc := 22) (y := 96) (na := 2) (index := 74) (maxL := 2) (nm := yX7_isObject) (bytes := cX7_isObject) (ret := (some .boolean)) (ci := 7) (N := 32) (T := TX7) X hxo (fun _ _ _ _ h => h.1) hC lw_good (Nat.le_refl _) (mm_lo d) rfl (by decide) tw_395 tw_396 tw_397 rfl (by decide) tw_398 tw_399 (by decide +kernel) (by decide +kernel) ?_
    refine so_if_ne (pc := 25) (off := 5) (tgt := 30) X (by decide +kernel) (by decide) (hJ 2) ?_
    exact so_fall X (hJ 1)
  | 1 =>
    refine so_iconst (pc := 28) (n := (-1)) (v := (-1)) X (by decide +kernel) (by decide) ?_
    exact so_ret (pc := 29) X hlk hfree hr (by decide +kernel)
  | 2 =>
    refine so_aload_n (pc := 30) (i := 0) X (by decide +kernel) ?_
    refine so_iload_n (pc := 31) (i := 1) X (by decide +kernel) ?_
    refine so_iload_n (pc := 32) (i := 2) X (by decide +kernel) ?_
    refine so_iconst (pc := 33) (n := 0) (v := 0) X (by decide +kernel) (by decide) ?_
    refine so_cav (pc := 34) (y := 144) (na := 4) (index := 237) (maxL := 8) (nm := yX7_reduce) (bytes := cX7_reduce) (ret := none) (ci := 7) (N := 32) (T := TX7) X hxo (fun _ _ _ _ h => h.1) hC lw_good (Nat.le_refl _) (mm_lo d) rfl (by decide) tw_547 tw_548 tw_397 rfl (by decide) tw_549 tw_550 (by decide +kernel) (by decide +kernel) ?_
    refine so_aload_n (pc := 37) (i := 0) X (by decide +kernel) ?_
    refine so_iload_n (pc := 38) (i := 3) X (by decide +kernel) ?_
    refine so_cav (pc := 39) (y := 146) (na := 2) (index := 241) (maxL := 4) (nm := yX7_isSolved) (bytes := cX7_isSolved) (ret := (some .boolean)) (ci := 7) (N := 32) (T := TX7) X hxo (fun _ _ _ _ h => h.1) hC lw_good (Nat.le_refl _) (mm_lo d) rfl (by decide) tw_551 tw_552 tw_397 rfl (by decide) tw_553 tw_554 (by decide +kernel) (by decide +kernel) ?_
    refine so_if_eq (pc := 42) (off := 7) (tgt := 49) X (by decide +kernel) (by decide) (hJ 3) ?_
    refine so_iconst (pc := 45) (n := 1) (v := 1) X (by decide +kernel) (by decide) ?_
    exact so_goto (pc := 46) (off := 4) (tgt := 50) X (by decide +kernel) (by decide) (hJ 4)
  | 3 =>
    refine so_iconst (pc := 49) (n := 0) (v := 0) X (by decide +kernel) (by decide) ?_
    exact so_fall X (hJ 4)
  | 4 =>
    exact so_ret (pc := 50) X hlk hfree hr (by decide +kernel)
  | n + 5 => exact fun _ _ _ _ h => h.elim
theorem bs_X7_solved {l : Launch} {D : va_G} {EXT : (Nat → Nat) → (Nat → Prop) → State → Heap → Prop} (hxo : mm_xo EXT) (hxe : ∀ ad A U H, EXT ad A U H → px_E0 ad A U H) : mm_BS l D pcl lw_T EXT px_tab 151 pb_X7_solved pp_X7_solved := by
  intro d C hC p e s m args below meth c A ad0 cA0 μ0 free Q J
  rw [tb_151]
  exact fun X hr hlk hnm hfree hJ => bk_X7_solved hxo hxe hC X hr hlk hnm hfree hJ
set_option maxHeartbeats 4000000 in
set_option maxRecDepth 100000 in
theorem bk_X7_would {l : Launch} {D : va_G} {EXT : (Nat → Nat) → (Nat → Prop) → State → Heap → Prop} (hxo : mm_xo EXT) (hxe : ∀ ad A U H, EXT ad A U H → px_E0 ad A U H) {d : Nat} {C : mm_C} (hC : mm_CS l D pcl lw_T EXT px_tab d C) {p : Program} {e : Env} {s : State} {m : MethodId} {args : Array Value} {below : List Frame} {meth : Method} {c : Code} {A : Nat → Prop} {ad0 : Nat → Nat} {cA0 : Nat → ClassId} {μ0 : mm_M} {free : Addr → Prop} {Q : mm_Q} {J : mm_J} (X : mm_cx p (mm_rm (d + 1) 0 0) s m args c cX7_would RX7 lw_T A D pcl 5) (hr : meth.sig.returnType = some .int) (hlk : meth.locks = false) (hnm : meth.name = "would") (hfree : ∀ q, A q → free q) (hJ : ∀ t, mm_SK p l e (mm_rm (d + 1) 0 0) s m args below meth c (MQ below (mm_Qc D pcl Q ad0 cA0 μ0 0 A) args s 0 0 free) D pcl A 5 (mm_EX EXT A s ad0 cA0 (mm_n μ0)) (pp_X7_would t) (J t)) : ∀ t, mm_SK p l e (mm_rm (d + 1) 0 0) s m args below meth c (MQ below (mm_Qc D pcl Q ad0 cA0 μ0 0 A) args s 0 0 free) D pcl A 5 (mm_EX EXT A s ad0 cA0 (mm_n μ0)) (pp_X7_would t) (pb_X7_would J C Q t) := by
  intro t
  match t with
  | 0 =>
    refine so_aload_n (pc := 0) (i := 0) X (by decide +kernel) ?_
    refine so_iconst (pc := 1) (n := 0) (v := 0) X (by decide +kernel) (by decide) ?_
    refine so_puti (pc := 2) (index := 62) (ci := 7) (f := 0) (N := 32) (C := RX7) (T := TX7) X rfl uX7 (by decide) (by decide) tw_391 tyX7 tyX7_ok nmX7 rfl (by decide +kernel) rfl (by decide +kernel) ?_
    refine so_aload_n (pc := 5) (i := 0) X (by decide +kernel) ?_
    refine so_iload_n (pc := 6) (i := 1) X (by decide +kernel) ?_
    refine so_cav (pc := 7) (y := 97) (na := 2) (index := 186) (maxL := 2) (nm := yX7_isUser) (bytes := cX7_isUser) (ret := (some .boolean)) (ci := 7) (N := 32) (T := TX7) X hxo (fun _ _ _ _ h => h.1) hC lw_good (Nat.le_refl _) (mm_lo d) rfl (by decide) tw_497 tw_498 tw_397 rfl (by decide) tw_499 tw_500 (by decide +kernel) (by decide +kernel) ?_
    refine so_if_eq (pc := 10) (off := 18) (tgt := 28) X (by decide +kernel) (by decide) (hJ 1) ?_
    refine so_iload_n (pc := 13) (i := 2) X (by decide +kernel) ?_
    refine so_cas (pc := 14) (y := 98) (na := 1) (index := 78) (maxL := 1) (nm := yX7_isField) (bytes := cX7_isField) (ret := (some .boolean)) X hxo (fun _ _ _ _ h => h.1) hC lw_good (Nat.le_refl _) (mm_lo d) rfl (by decide) tw_400 tw_401 tw_397 tw_402 (by decide +kernel) (by decide +kernel) ?_
    refine so_if_eq (pc := 17) (off := 11) (tgt := 28) X (by decide +kernel) (by decide) (hJ 1) ?_
    refine so_aload_n (pc := 20) (i := 0) X (by decide +kernel) ?_
    refine so_iload_n (pc := 21) (i := 3) X (by decide +kernel) ?_
    refine so_cav (pc := 22) (y := 96) (na := 2) (index := 74) (maxL := 2) (nm := yX7_isObject) (bytes := cX7_isObject) (ret := (some .boolean)) (ci := 7) (N := 32) (T := TX7) X hxo (fun _ _ _ _ h => h.1) hC lw_good (Nat.le_refl _) (mm_lo d) rfl (by decide) tw_395 tw_396 tw_397 rfl (by decide) tw_398 tw_399 (by decide +kernel) (by decide +kernel) ?_
    refine so_if_ne (pc := 25) (off := 5) (tgt := 30) X (by decide +kernel) (by decide) (hJ 2) ?_
    exact so_fall X (hJ 1)
  | 1 =>
    refine so_iconst (pc := 28) (n := (-1)) (v := (-1)) X (by decide +kernel) (by decide) ?_
    exact so_ret (pc := 29) X hlk hfree hr (by decide +kernel)
  | 2 =>
    refine so_aload_n (pc := 30) (i := 0) X (by decide +kernel) ?_
    refine so_iload (pc := 31) (i := 4) X (by decide +kernel) ?_
    refine so_cav (pc := 33) (y := 99) (na := 2) (index := 253) (maxL := 2) (nm := yX7_isSet) (bytes := cX7_isSet) (ret := (some .boolean)) (ci := 7) (N := 32) (T := TX7) X hxo (fun _ _ _ _ h => h.1) hC lw_good (Nat.le_refl _) (mm_lo d) rfl (by decide) tw_567 tw_568 tw_397 rfl (by decide) tw_569 tw_570 (by decide +kernel) (by decide +kernel) ?_
    refine so_if_ne (pc := 36) (off := 6) (tgt := 42) X (by decide +kernel) (by decide) (hJ 3) ?_
    refine so_bipush (pc := 39) (n := (-2)) (v := (-2)) X (by decide +kernel) (by decide) ?_
    exact so_ret (pc := 41) X hlk hfree hr (by decide +kernel)
  | 3 =>
    refine so_aload_n (pc := 42) (i := 0) X (by decide +kernel) ?_
    refine so_iload_n (pc := 43) (i := 1) X (by decide +kernel) ?_
    refine so_iload_n (pc := 44) (i := 2) X (by decide +kernel) ?_
    refine so_iload (pc := 45) (i := 4) X (by decide +kernel) ?_
    refine so_cav (pc := 47) (y := 144) (na := 4) (index := 237) (maxL := 8) (nm := yX7_reduce) (bytes := cX7_reduce) (ret := none) (ci := 7) (N := 32) (T := TX7) X hxo (fun _ _ _ _ h => h.1) hC lw_good (Nat.le_refl _) (mm_lo d) rfl (by decide) tw_547 tw_548 tw_397 rfl (by decide) tw_549 tw_550 (by decide +kernel) (by decide +kernel) ?_
    refine so_aload_n (pc := 50) (i := 0) X (by decide +kernel) ?_
    refine so_iload_n (pc := 51) (i := 3) X (by decide +kernel) ?_
    refine so_cav (pc := 52) (y := 146) (na := 2) (index := 241) (maxL := 4) (nm := yX7_isSolved) (bytes := cX7_isSolved) (ret := (some .boolean)) (ci := 7) (N := 32) (T := TX7) X hxo (fun _ _ _ _ h => h.1) hC lw_good (Nat.le_refl _) (mm_lo d) rfl (by decide) tw_551 tw_552 tw_397 rfl (by decide) tw_553 tw_554 (by decide +kernel) (by decide +kernel) ?_
    refine so_if_eq (pc := 55) (off := 7) (tgt := 62) X (by decide +kernel) (by decide) (hJ 4) ?_
    refine so_iconst (pc := 58) (n := 1) (v := 1) X (by decide +kernel) (by decide) ?_
    exact so_goto (pc := 59) (off := 4) (tgt := 63) X (by decide +kernel) (by decide) (hJ 5)
  | 4 =>
    refine so_iconst (pc := 62) (n := 0) (v := 0) X (by decide +kernel) (by decide) ?_
    exact so_fall X (hJ 5)
  | 5 =>
    exact so_ret (pc := 63) X hlk hfree hr (by decide +kernel)
  | n + 6 => exact fun _ _ _ _ h => h.elim
theorem bs_X7_would {l : Launch} {D : va_G} {EXT : (Nat → Nat) → (Nat → Prop) → State → Heap → Prop} (hxo : mm_xo EXT) (hxe : ∀ ad A U H, EXT ad A U H → px_E0 ad A U H) : mm_BS l D pcl lw_T EXT px_tab 152 pb_X7_would pp_X7_would := by
  intro d C hC p e s m args below meth c A ad0 cA0 μ0 free Q J
  rw [tb_152]
  exact fun X hr hlk hnm hfree hJ => bk_X7_would hxo hxe hC X hr hlk hnm hfree hJ
set_option maxHeartbeats 4000000 in
set_option maxRecDepth 100000 in
theorem bk_X7_world {l : Launch} {D : va_G} {EXT : (Nat → Nat) → (Nat → Prop) → State → Heap → Prop} (hxo : mm_xo EXT) (hxe : ∀ ad A U H, EXT ad A U H → px_E0 ad A U H) {d : Nat} {C : mm_C} (hC : mm_CS l D pcl lw_T EXT px_tab d C) {p : Program} {e : Env} {s : State} {m : MethodId} {args : Array Value} {below : List Frame} {meth : Method} {c : Code} {A : Nat → Prop} {ad0 : Nat → Nat} {cA0 : Nat → ClassId} {μ0 : mm_M} {free : Addr → Prop} {Q : mm_Q} {J : mm_J} (X : mm_cx p (mm_rm (d + 1) 0 0) s m args c cX7_world RX7 lw_T A D pcl 16) (hr : meth.sig.returnType = some .long) (hlk : meth.locks = false) (hnm : meth.name = "world") (hfree : ∀ q, A q → free q) (hJ : ∀ t, mm_SK p l e (mm_rm (d + 1) 0 0) s m args below meth c (MQ below (mm_Qc D pcl Q ad0 cA0 μ0 0 A) args s 0 0 free) D pcl A 16 (mm_EX EXT A s ad0 cA0 (mm_n μ0)) (pp_X7_world t) (J t)) : ∀ t, mm_SK p l e (mm_rm (d + 1) 0 0) s m args below meth c (MQ below (mm_Qc D pcl Q ad0 cA0 μ0 0 A) args s 0 0 free) D pcl A 16 (mm_EX EXT A s ad0 cA0 (mm_n μ0)) (pp_X7_world t) (pb_X7_world J C Q t) := by
  intro t
  match t with
  | 0 =>
    refine so_aload_n (pc := 0) (i := 0) X (by decide +kernel) ?_
    refine so_iconst (pc := 1) (n := 0) (v := 0) X (by decide +kernel) (by decide) ?_
    refine so_puti (pc := 2) (index := 62) (ci := 7) (f := 0) (N := 32) (C := RX7) (T := TX7) X rfl uX7 (by decide) (by decide) tw_391 tyX7 tyX7_ok nmX7 rfl (by decide +kernel) rfl (by decide +kernel) ?_
    refine so_aload_n (pc := 5) (i := 0) X (by decide +kernel) ?_
    refine so_iload_n (pc := 6) (i := 1) X (by decide +kernel) ?_
    refine so_cav (pc := 7) (y := 97) (na := 2) (index := 186) (maxL := 2) (nm := yX7_isUser) (bytes := cX7_isUser) (ret := (some .boolean)) (ci := 7) (N := 32) (T := TX7) X hxo (fun _ _ _ _ h => h.1) hC lw_good (Nat.le_refl _) (mm_lo d) rfl (by decide) tw_497 tw_498 tw_397 rfl (by decide) tw_499 tw_500 (by decide +kernel) (by decide +kernel) ?_
    refine so_if_eq (pc := 10) (off := 27) (tgt := 37) X (by decide +kernel) (by decide) (hJ 1) ?_
    refine so_iload_n (pc := 13) (i := 2) X (by decide +kernel) ?_
    refine so_cas (pc := 14) (y := 98) (na := 1) (index := 78) (maxL := 1) (nm := yX7_isField) (bytes := cX7_isField) (ret := (some .boolean)) X hxo (fun _ _ _ _ h => h.1) hC lw_good (Nat.le_refl _) (mm_lo d) rfl (by decide) tw_400 tw_401 tw_397 tw_402 (by decide +kernel) (by decide +kernel) ?_
    refine so_if_eq (pc := 17) (off := 20) (tgt := 37) X (by decide +kernel) (by decide) (hJ 1) ?_
    refine so_aload_n (pc := 20) (i := 0) X (by decide +kernel) ?_
    refine so_iload_n (pc := 21) (i := 3) X (by decide +kernel) ?_
    refine so_cav (pc := 22) (y := 96) (na := 2) (index := 74) (maxL := 2) (nm := yX7_isObject) (bytes := cX7_isObject) (ret := (some .boolean)) (ci := 7) (N := 32) (T := TX7) X hxo (fun _ _ _ _ h => h.1) hC lw_good (Nat.le_refl _) (mm_lo d) rfl (by decide) tw_395 tw_396 tw_397 rfl (by decide) tw_398 tw_399 (by decide +kernel) (by decide +kernel) ?_
    refine so_if_eq (pc := 25) (off := 12) (tgt := 37) X (by decide +kernel) (by decide) (hJ 1) ?_
    refine so_aload_n (pc := 28) (i := 0) X (by decide +kernel) ?_
    refine so_iload (pc := 29) (i := 4) X (by decide +kernel) ?_
    refine so_cav (pc := 31) (y := 96) (na := 2) (index := 74) (maxL := 2) (nm := yX7_isObject) (bytes := cX7_isObject) (ret := (some .boolean)) (ci := 7) (N := 32) (T := TX7) X hxo (fun _ _ _ _ h => h.1) hC lw_good (Nat.le_refl _) (mm_lo d) rfl (by decide) tw_395 tw_396 tw_397 rfl (by decide) tw_398 tw_399 (by decide +kernel) (by decide +kernel) ?_
    refine so_if_ne (pc := 34) (off := 7) (tgt := 41) X (by decide +kernel) (by decide) (hJ 2) ?_
    exact so_fall X (hJ 1)
  | 1 =>
    refine so_ldc2 (pc := 37) (index := 256) (v := (-1)) X (by decide +kernel) tw_571 ?_
    exact so_rtl (pc := 40) X hlk hfree hr (by decide +kernel)
  | 2 =>
    refine so_aload_n (pc := 41) (i := 0) X (by decide +kernel) ?_
    refine so_iload_n (pc := 42) (i := 1) X (by decide +kernel) ?_
    refine so_iload_n (pc := 43) (i := 2) X (by decide +kernel) ?_
    refine so_iconst (pc := 44) (n := 0) (v := 0) X (by decide +kernel) (by decide) ?_
    refine so_cav (pc := 45) (y := 144) (na := 4) (index := 237) (maxL := 8) (nm := yX7_reduce) (bytes := cX7_reduce) (ret := none) (ci := 7) (N := 32) (T := TX7) X hxo (fun _ _ _ _ h => h.1) hC lw_good (Nat.le_refl _) (mm_lo d) rfl (by decide) tw_547 tw_548 tw_397 rfl (by decide) tw_549 tw_550 (by decide +kernel) (by decide +kernel) ?_
    refine so_aload_n (pc := 48) (i := 0) X (by decide +kernel) ?_
    refine so_iload_n (pc := 49) (i := 3) X (by decide +kernel) ?_
    refine so_cav (pc := 50) (y := 146) (na := 2) (index := 241) (maxL := 4) (nm := yX7_isSolved) (bytes := cX7_isSolved) (ret := (some .boolean)) (ci := 7) (N := 32) (T := TX7) X hxo (fun _ _ _ _ h => h.1) hC lw_good (Nat.le_refl _) (mm_lo d) rfl (by decide) tw_551 tw_552 tw_397 rfl (by decide) tw_553 tw_554 (by decide +kernel) (by decide +kernel) ?_
    refine so_if_eq (pc := 53) (off := 7) (tgt := 60) X (by decide +kernel) (by decide) (hJ 3) ?_
    refine so_ldc2 (pc := 56) (index := 258) (v := (-5)) X (by decide +kernel) tw_572 ?_
    exact so_rtl (pc := 59) X hlk hfree hr (by decide +kernel)
  | 3 =>
    refine so_iload_n (pc := 60) (i := 3) X (by decide +kernel) ?_
    refine so_istore (pc := 61) (i := 5) X (by decide +kernel) (by decide) ?_
    refine so_aload_n (pc := 63) (i := 0) X (by decide +kernel) ?_
    refine so_iload_n (pc := 64) (i := 3) X (by decide +kernel) ?_
    refine so_cav (pc := 65) (y := 145) (na := 2) (index := 233) (maxL := 3) (nm := yX7_rowOf) (bytes := cX7_rowOf) (ret := (some .int)) (ci := 7) (N := 32) (T := TX7) X hxo (fun _ _ _ _ h => h.1) hC lw_good (Nat.le_refl _) (mm_lo d) rfl (by decide) tw_543 tw_544 tw_397 rfl (by decide) tw_545 tw_546 (by decide +kernel) (by decide +kernel) ?_
    refine so_istore (pc := 68) (i := 6) X (by decide +kernel) (by decide) ?_
    refine so_iload (pc := 70) (i := 6) X (by decide +kernel) ?_
    refine so_iconst (pc := 72) (n := (-1)) (v := (-1)) X (by decide +kernel) (by decide) ?_
    refine so_icmp_eq (pc := 73) (off := 32) (tgt := 105) X (by decide +kernel) (by decide) (hJ 5) ?_
    refine so_iload_n (pc := 76) (i := 3) X (by decide +kernel) ?_
    refine so_iconst (pc := 77) (n := 1) (v := 1) X (by decide +kernel) (by decide) ?_
    refine so_iadd (pc := 78) X (by decide +kernel) ?_
    refine so_istore (pc := 79) (i := 5) X (by decide +kernel) (by decide) ?_
    exact so_fall X (hJ 4)
  | 4 =>
    refine so_aload_n (pc := 81) (i := 0) X (by decide +kernel) ?_
    refine so_getr (pc := 82) (index := 56) (ci := 7) (f := 29) (N := 32) (C := RX7) (T := TX7) X rfl uX7 (by decide) (by decide) tw_389 rfl (by decide +kernel) ?_
    refine so_bipush (pc := 85) (n := 12) (v := 12) X (by decide +kernel) (by decide) ?_
    refine so_iload (pc := 87) (i := 6) X (by decide +kernel) ?_
    refine so_imul (pc := 89) X (by decide +kernel) ?_
    refine so_iload (pc := 90) (i := 5) X (by decide +kernel) ?_
    refine so_iadd (pc := 92) X (by decide +kernel) ?_
    refine so_lald (pc := 93) X (by decide +kernel) ?_
    refine so_lconst (pc := 94) (n := 0) (v := 0) X (by decide +kernel) (by decide) ?_
    refine so_lcmp (pc := 95) X (by decide +kernel) ?_
    refine so_if_ne (pc := 96) (off := 9) (tgt := 105) X (by decide +kernel) (by decide) (hJ 5) ?_
    refine so_iinc (pc := 99) (i := 5) (n := 1) (y := 1) X (by decide +kernel) (by decide) (by decide) ?_
    exact so_goto (pc := 102) (off := (-21)) (tgt := 81) X (by decide +kernel) (by decide) (hJ 4)
  | 5 =>
    refine so_lconst (pc := 105) (n := 1) (v := 1) X (by decide +kernel) (by decide) ?_
    refine so_lstore (pc := 106) (i := 7) X (by decide +kernel) (by decide) ?_
    refine so_iconst (pc := 108) (n := 0) (v := 0) X (by decide +kernel) (by decide) ?_
    refine so_istore (pc := 109) (i := 9) X (by decide +kernel) (by decide) ?_
    exact so_fall X (hJ 6)
  | 6 =>
    refine so_iload (pc := 111) (i := 9) X (by decide +kernel) ?_
    refine so_aload_n (pc := 113) (i := 0) X (by decide +kernel) ?_
    refine so_geti (pc := 114) (index := 223) (ci := 7) (f := 31) (N := 32) (C := RX7) (T := TX7) X rfl uX7 (by decide) (by decide) tw_534 rfl (by decide) (by decide +kernel) ?_
    refine so_icmp_ge (pc := 117) (off := 88) (tgt := 205) X (by decide +kernel) (by decide) (hJ 9) ?_
    refine so_aload_n (pc := 120) (i := 0) X (by decide +kernel) ?_
    refine so_getr (pc := 121) (index := 56) (ci := 7) (f := 29) (N := 32) (C := RX7) (T := TX7) X rfl uX7 (by decide) (by decide) tw_389 rfl (by decide +kernel) ?_
    refine so_bipush (pc := 124) (n := 12) (v := 12) X (by decide +kernel) (by decide) ?_
    refine so_iload (pc := 126) (i := 9) X (by decide +kernel) ?_
    refine so_imul (pc := 128) X (by decide +kernel) ?_
    refine so_aload_n (pc := 129) (i := 0) X (by decide +kernel) ?_
    refine so_getr (pc := 130) (index := 59) (ci := 7) (f := 30) (N := 32) (C := RX7) (T := TX7) X rfl uX7 (by decide) (by decide) tw_390 rfl (by decide +kernel) ?_
    refine so_iload (pc := 133) (i := 9) X (by decide +kernel) ?_
    refine so_iald (pc := 135) X (by decide +kernel) ?_
    refine so_iadd (pc := 136) X (by decide +kernel) ?_
    refine so_lald (pc := 137) X (by decide +kernel) ?_
    refine so_lstore (pc := 138) (i := 10) X (by decide +kernel) (by decide) ?_
    refine so_aload_n (pc := 140) (i := 0) X (by decide +kernel) ?_
    refine so_getr (pc := 141) (index := 56) (ci := 7) (f := 29) (N := 32) (C := RX7) (T := TX7) X rfl uX7 (by decide) (by decide) tw_389 rfl (by decide +kernel) ?_
    refine so_bipush (pc := 144) (n := 12) (v := 12) X (by decide +kernel) (by decide) ?_
    refine so_iload (pc := 146) (i := 9) X (by decide +kernel) ?_
    refine so_imul (pc := 148) X (by decide +kernel) ?_
    refine so_iload (pc := 149) (i := 5) X (by decide +kernel) ?_
    refine so_iadd (pc := 151) X (by decide +kernel) ?_
    refine so_lald (pc := 152) X (by decide +kernel) ?_
    refine so_lstore (pc := 153) (i := 12) X (by decide +kernel) (by decide) ?_
    refine so_lload (pc := 155) (i := 10) X (by decide +kernel) ?_
    refine so_lload (pc := 157) (i := 10) X (by decide +kernel) ?_
    refine so_lload (pc := 159) (i := 12) X (by decide +kernel) ?_
    refine so_cas (pc := 161) (y := 141) (na := 2) (index := 219) (maxL := 10) (nm := yX7_divisor) (bytes := cX7_divisor) (ret := (some .long)) X hxo (fun _ _ _ _ h => h.1) hC lw_good (Nat.le_refl _) (mm_lo d) rfl (by decide) tw_531 tw_532 tw_397 tw_533 (by decide +kernel) (by decide +kernel) ?_
    refine so_ldiv (pc := 164) X (by decide +kernel) ?_
    refine so_lstore (pc := 165) (i := 14) X (by decide +kernel) (by decide) ?_
    refine so_lload (pc := 167) (i := 14) X (by decide +kernel) ?_
    refine so_lconst (pc := 169) (n := 0) (v := 0) X (by decide +kernel) (by decide) ?_
    refine so_lcmp (pc := 170) X (by decide +kernel) ?_
    refine so_if_ge (pc := 171) (off := 9) (tgt := 180) X (by decide +kernel) (by decide) (hJ 7) ?_
    refine so_lload (pc := 174) (i := 14) X (by decide +kernel) ?_
    refine so_lneg (pc := 176) X (by decide +kernel) ?_
    exact so_goto (pc := 177) (off := 5) (tgt := 182) X (by decide +kernel) (by decide) (hJ 8)
  | 7 =>
    refine so_lload (pc := 180) (i := 14) X (by decide +kernel) ?_
    exact so_fall X (hJ 8)
  | 8 =>
    refine so_lstore (pc := 182) (i := 14) X (by decide +kernel) (by decide) ?_
    refine so_lload (pc := 184) (i := 7) X (by decide +kernel) ?_
    refine so_lload (pc := 186) (i := 7) X (by decide +kernel) ?_
    refine so_lload (pc := 188) (i := 14) X (by decide +kernel) ?_
    refine so_cas (pc := 190) (y := 141) (na := 2) (index := 219) (maxL := 10) (nm := yX7_divisor) (bytes := cX7_divisor) (ret := (some .long)) X hxo (fun _ _ _ _ h => h.1) hC lw_good (Nat.le_refl _) (mm_lo d) rfl (by decide) tw_531 tw_532 tw_397 tw_533 (by decide +kernel) (by decide +kernel) ?_
    refine so_ldiv (pc := 193) X (by decide +kernel) ?_
    refine so_lload (pc := 194) (i := 14) X (by decide +kernel) ?_
    refine so_lmul (pc := 196) X (by decide +kernel) ?_
    refine so_lstore (pc := 197) (i := 7) X (by decide +kernel) (by decide) ?_
    refine so_iinc (pc := 199) (i := 9) (n := 1) (y := 1) X (by decide +kernel) (by decide) (by decide) ?_
    exact so_goto (pc := 202) (off := (-91)) (tgt := 111) X (by decide +kernel) (by decide) (hJ 6)
  | 9 =>
    refine so_aload_n (pc := 205) (i := 0) X (by decide +kernel) ?_
    refine so_iload (pc := 206) (i := 4) X (by decide +kernel) ?_
    refine so_cav (pc := 208) (y := 145) (na := 2) (index := 233) (maxL := 3) (nm := yX7_rowOf) (bytes := cX7_rowOf) (ret := (some .int)) (ci := 7) (N := 32) (T := TX7) X hxo (fun _ _ _ _ h => h.1) hC lw_good (Nat.le_refl _) (mm_lo d) rfl (by decide) tw_543 tw_544 tw_397 rfl (by decide) tw_545 tw_546 (by decide +kernel) (by decide +kernel) ?_
    refine so_istore (pc := 211) (i := 9) X (by decide +kernel) (by decide) ?_
    refine so_iload (pc := 213) (i := 9) X (by decide +kernel) ?_
    refine so_iconst (pc := 215) (n := (-1)) (v := (-1)) X (by decide +kernel) (by decide) ?_
    refine so_icmp_ne (pc := 216) (off := 17) (tgt := 233) X (by decide +kernel) (by decide) (hJ 12) ?_
    refine so_iload (pc := 219) (i := 4) X (by decide +kernel) ?_
    refine so_iload (pc := 221) (i := 5) X (by decide +kernel) ?_
    refine so_icmp_ne (pc := 223) (off := 8) (tgt := 231) X (by decide +kernel) (by decide) (hJ 10) ?_
    refine so_lload (pc := 226) (i := 7) X (by decide +kernel) ?_
    exact so_goto (pc := 228) (off := 4) (tgt := 232) X (by decide +kernel) (by decide) (hJ 11)
  | 10 =>
    refine so_lconst (pc := 231) (n := 0) (v := 0) X (by decide +kernel) (by decide) ?_
    exact so_fall X (hJ 11)
  | 11 =>
    exact so_rtl (pc := 232) X hlk hfree hr (by decide +kernel)
  | 12 =>
    refine so_aload_n (pc := 233) (i := 0) X (by decide +kernel) ?_
    refine so_getr (pc := 234) (index := 56) (ci := 7) (f := 29) (N := 32) (C := RX7) (T := TX7) X rfl uX7 (by decide) (by decide) tw_389 rfl (by decide +kernel) ?_
    refine so_bipush (pc := 237) (n := 12) (v := 12) X (by decide +kernel) (by decide) ?_
    refine so_iload (pc := 239) (i := 9) X (by decide +kernel) ?_
    refine so_imul (pc := 241) X (by decide +kernel) ?_
    refine so_iload (pc := 242) (i := 5) X (by decide +kernel) ?_
    refine so_iadd (pc := 244) X (by decide +kernel) ?_
    refine so_lald (pc := 245) X (by decide +kernel) ?_
    refine so_lload (pc := 246) (i := 7) X (by decide +kernel) ?_
    refine so_lmul (pc := 248) X (by decide +kernel) ?_
    refine so_aload_n (pc := 249) (i := 0) X (by decide +kernel) ?_
    refine so_getr (pc := 250) (index := 56) (ci := 7) (f := 29) (N := 32) (C := RX7) (T := TX7) X rfl uX7 (by decide) (by decide) tw_389 rfl (by decide +kernel) ?_
    refine so_bipush (pc := 253) (n := 12) (v := 12) X (by decide +kernel) (by decide) ?_
    refine so_iload (pc := 255) (i := 9) X (by decide +kernel) ?_
    refine so_imul (pc := 257) X (by decide +kernel) ?_
    refine so_aload_n (pc := 258) (i := 0) X (by decide +kernel) ?_
    refine so_getr (pc := 259) (index := 59) (ci := 7) (f := 30) (N := 32) (C := RX7) (T := TX7) X rfl uX7 (by decide) (by decide) tw_390 rfl (by decide +kernel) ?_
    refine so_iload (pc := 262) (i := 9) X (by decide +kernel) ?_
    refine so_iald (pc := 264) X (by decide +kernel) ?_
    refine so_iadd (pc := 265) X (by decide +kernel) ?_
    refine so_lald (pc := 266) X (by decide +kernel) ?_
    refine so_ldiv (pc := 267) X (by decide +kernel) ?_
    refine so_lneg (pc := 268) X (by decide +kernel) ?_
    exact so_rtl (pc := 269) X hlk hfree hr (by decide +kernel)
  | n + 13 => exact fun _ _ _ _ h => h.elim
theorem bs_X7_world {l : Launch} {D : va_G} {EXT : (Nat → Nat) → (Nat → Prop) → State → Heap → Prop} (hxo : mm_xo EXT) (hxe : ∀ ad A U H, EXT ad A U H → px_E0 ad A U H) : mm_BS l D pcl lw_T EXT px_tab 153 pb_X7_world pp_X7_world := by
  intro d C hC p e s m args below meth c A ad0 cA0 μ0 free Q J
  rw [tb_153]
  exact fun X hr hlk hnm hfree hJ => bk_X7_world hxo hxe hC X hr hlk hnm hfree hJ
set_option maxHeartbeats 4000000 in
set_option maxRecDepth 100000 in
theorem bk_X7_rows {l : Launch} {D : va_G} {EXT : (Nat → Nat) → (Nat → Prop) → State → Heap → Prop} (hxo : mm_xo EXT) (hxe : ∀ ad A U H, EXT ad A U H → px_E0 ad A U H) {d : Nat} {C : mm_C} (hC : mm_CS l D pcl lw_T EXT px_tab d C) {p : Program} {e : Env} {s : State} {m : MethodId} {args : Array Value} {below : List Frame} {meth : Method} {c : Code} {A : Nat → Prop} {ad0 : Nat → Nat} {cA0 : Nat → ClassId} {μ0 : mm_M} {free : Addr → Prop} {Q : mm_Q} {J : mm_J} (X : mm_cx p (mm_rm (d + 1) 0 0) s m args c cX7_rows RX7 lw_T A D pcl 3) (hr : meth.sig.returnType = some .int) (hlk : meth.locks = false) (hnm : meth.name = "rows") (hfree : ∀ q, A q → free q) (hJ : ∀ t, mm_SK p l e (mm_rm (d + 1) 0 0) s m args below meth c (MQ below (mm_Qc D pcl Q ad0 cA0 μ0 0 A) args s 0 0 free) D pcl A 3 (mm_EX EXT A s ad0 cA0 (mm_n μ0)) (pp_X7_rows t) (J t)) : ∀ t, mm_SK p l e (mm_rm (d + 1) 0 0) s m args below meth c (MQ below (mm_Qc D pcl Q ad0 cA0 μ0 0 A) args s 0 0 free) D pcl A 3 (mm_EX EXT A s ad0 cA0 (mm_n μ0)) (pp_X7_rows t) (pb_X7_rows J C Q t) := by
  intro t
  match t with
  | 0 =>
    refine so_aload_n (pc := 0) (i := 0) X (by decide +kernel) ?_
    refine so_iconst (pc := 1) (n := 0) (v := 0) X (by decide +kernel) (by decide) ?_
    refine so_puti (pc := 2) (index := 62) (ci := 7) (f := 0) (N := 32) (C := RX7) (T := TX7) X rfl uX7 (by decide) (by decide) tw_391 tyX7 tyX7_ok nmX7 rfl (by decide +kernel) rfl (by decide +kernel) ?_
    refine so_aload_n (pc := 5) (i := 0) X (by decide +kernel) ?_
    refine so_iload_n (pc := 6) (i := 1) X (by decide +kernel) ?_
    refine so_cav (pc := 7) (y := 97) (na := 2) (index := 186) (maxL := 2) (nm := yX7_isUser) (bytes := cX7_isUser) (ret := (some .boolean)) (ci := 7) (N := 32) (T := TX7) X hxo (fun _ _ _ _ h => h.1) hC lw_good (Nat.le_refl _) (mm_lo d) rfl (by decide) tw_497 tw_498 tw_397 rfl (by decide) tw_499 tw_500 (by decide +kernel) (by decide +kernel) ?_
    refine so_if_eq (pc := 10) (off := 10) (tgt := 20) X (by decide +kernel) (by decide) (hJ 1) ?_
    refine so_iload_n (pc := 13) (i := 2) X (by decide +kernel) ?_
    refine so_cas (pc := 14) (y := 98) (na := 1) (index := 78) (maxL := 1) (nm := yX7_isField) (bytes := cX7_isField) (ret := (some .boolean)) X hxo (fun _ _ _ _ h => h.1) hC lw_good (Nat.le_refl _) (mm_lo d) rfl (by decide) tw_400 tw_401 tw_397 tw_402 (by decide +kernel) (by decide +kernel) ?_
    refine so_if_ne (pc := 17) (off := 5) (tgt := 22) X (by decide +kernel) (by decide) (hJ 2) ?_
    exact so_fall X (hJ 1)
  | 1 =>
    refine so_iconst (pc := 20) (n := (-1)) (v := (-1)) X (by decide +kernel) (by decide) ?_
    exact so_ret (pc := 21) X hlk hfree hr (by decide +kernel)
  | 2 =>
    refine so_aload_n (pc := 22) (i := 0) X (by decide +kernel) ?_
    refine so_iload_n (pc := 23) (i := 1) X (by decide +kernel) ?_
    refine so_iload_n (pc := 24) (i := 2) X (by decide +kernel) ?_
    refine so_iconst (pc := 25) (n := 0) (v := 0) X (by decide +kernel) (by decide) ?_
    refine so_cav (pc := 26) (y := 144) (na := 4) (index := 237) (maxL := 8) (nm := yX7_reduce) (bytes := cX7_reduce) (ret := none) (ci := 7) (N := 32) (T := TX7) X hxo (fun _ _ _ _ h => h.1) hC lw_good (Nat.le_refl _) (mm_lo d) rfl (by decide) tw_547 tw_548 tw_397 rfl (by decide) tw_549 tw_550 (by decide +kernel) (by decide +kernel) ?_
    refine so_aload_n (pc := 29) (i := 0) X (by decide +kernel) ?_
    refine so_geti (pc := 30) (index := 223) (ci := 7) (f := 31) (N := 32) (C := RX7) (T := TX7) X rfl uX7 (by decide) (by decide) tw_534 rfl (by decide) (by decide +kernel) ?_
    exact so_ret (pc := 33) X hlk hfree hr (by decide +kernel)
  | n + 3 => exact fun _ _ _ _ h => h.elim
theorem bs_X7_rows {l : Launch} {D : va_G} {EXT : (Nat → Nat) → (Nat → Prop) → State → Heap → Prop} (hxo : mm_xo EXT) (hxe : ∀ ad A U H, EXT ad A U H → px_E0 ad A U H) : mm_BS l D pcl lw_T EXT px_tab 154 pb_X7_rows pp_X7_rows := by
  intro d C hC p e s m args below meth c A ad0 cA0 μ0 free Q J
  rw [tb_154]
  exact fun X hr hlk hnm hfree hJ => bk_X7_rows hxo hxe hC X hr hlk hnm hfree hJ
set_option maxHeartbeats 4000000 in
set_option maxRecDepth 100000 in
theorem bk_X7_audit {l : Launch} {D : va_G} {EXT : (Nat → Nat) → (Nat → Prop) → State → Heap → Prop} (hxo : mm_xo EXT) (hxe : ∀ ad A U H, EXT ad A U H → px_E0 ad A U H) {d : Nat} {C : mm_C} (hC : mm_CS l D pcl lw_T EXT px_tab d C) {p : Program} {e : Env} {s : State} {m : MethodId} {args : Array Value} {below : List Frame} {meth : Method} {c : Code} {A : Nat → Prop} {ad0 : Nat → Nat} {cA0 : Nat → ClassId} {μ0 : mm_M} {free : Addr → Prop} {Q : mm_Q} {J : mm_J} (X : mm_cx p (mm_rm (d + 1) 0 0) s m args c cX7_audit RX7 lw_T A D pcl 3) (hr : meth.sig.returnType = some .int) (hlk : meth.locks = false) (hnm : meth.name = "audit") (hfree : ∀ q, A q → free q) (hJ : ∀ t, mm_SK p l e (mm_rm (d + 1) 0 0) s m args below meth c (MQ below (mm_Qc D pcl Q ad0 cA0 μ0 0 A) args s 0 0 free) D pcl A 3 (mm_EX EXT A s ad0 cA0 (mm_n μ0)) (pp_X7_audit t) (J t)) : ∀ t, mm_SK p l e (mm_rm (d + 1) 0 0) s m args below meth c (MQ below (mm_Qc D pcl Q ad0 cA0 μ0 0 A) args s 0 0 free) D pcl A 3 (mm_EX EXT A s ad0 cA0 (mm_n μ0)) (pp_X7_audit t) (pb_X7_audit J C Q t) := by
  intro t
  match t with
  | 0 =>
    refine so_aload_n (pc := 0) (i := 0) X (by decide +kernel) ?_
    refine so_iconst (pc := 1) (n := 0) (v := 0) X (by decide +kernel) (by decide) ?_
    refine so_puti (pc := 2) (index := 62) (ci := 7) (f := 0) (N := 32) (C := RX7) (T := TX7) X rfl uX7 (by decide) (by decide) tw_391 tyX7 tyX7_ok nmX7 rfl (by decide +kernel) rfl (by decide +kernel) ?_
    refine so_iload_n (pc := 5) (i := 1) X (by decide +kernel) ?_
    refine so_if_lt (pc := 6) (off := 11) (tgt := 17) X (by decide +kernel) (by decide) (hJ 1) ?_
    refine so_iload_n (pc := 9) (i := 1) X (by decide +kernel) ?_
    refine so_aload_n (pc := 10) (i := 0) X (by decide +kernel) ?_
    refine so_geti (pc := 11) (index := 199) (ci := 7) (f := 13) (N := 32) (C := RX7) (T := TX7) X rfl uX7 (by decide) (by decide) tw_513 rfl (by decide) (by decide +kernel) ?_
    refine so_icmp_lt (pc := 14) (off := 5) (tgt := 19) X (by decide +kernel) (by decide) (hJ 2) ?_
    exact so_fall X (hJ 1)
  | 1 =>
    refine so_iconst (pc := 17) (n := (-1)) (v := (-1)) X (by decide +kernel) (by decide) ?_
    exact so_ret (pc := 18) X hlk hfree hr (by decide +kernel)
  | 2 =>
    refine so_iload_n (pc := 19) (i := 2) X (by decide +kernel) ?_
    refine so_if_lt (pc := 20) (off := 8) (tgt := 28) X (by decide +kernel) (by decide) (hJ 3) ?_
    refine so_iload_n (pc := 23) (i := 2) X (by decide +kernel) ?_
    refine so_iconst (pc := 24) (n := 4) (v := 4) X (by decide +kernel) (by decide) ?_
    refine so_icmp_le (pc := 25) (off := 8) (tgt := 33) X (by decide +kernel) (by decide) (hJ 4) ?_
    exact so_fall X (hJ 3)
  | 3 =>
    refine so_bipush (pc := 28) (n := (-2)) (v := (-2)) X (by decide +kernel) (by decide) ?_
    exact so_goto (pc := 30) (off := 13) (tgt := 43) X (by decide +kernel) (by decide) (hJ 5)
  | 4 =>
    refine so_aload_n (pc := 33) (i := 0) X (by decide +kernel) ?_
    refine so_getr (pc := 34) (index := 37) (ci := 7) (f := 12) (N := 32) (C := RX7) (T := TX7) X rfl uX7 (by decide) (by decide) tw_383 rfl (by decide +kernel) ?_
    refine so_iconst (pc := 37) (n := 5) (v := 5) X (by decide +kernel) (by decide) ?_
    refine so_iload_n (pc := 38) (i := 1) X (by decide +kernel) ?_
    refine so_imul (pc := 39) X (by decide +kernel) ?_
    refine so_iload_n (pc := 40) (i := 2) X (by decide +kernel) ?_
    refine so_iadd (pc := 41) X (by decide +kernel) ?_
    refine so_iald (pc := 42) X (by decide +kernel) ?_
    exact so_fall X (hJ 5)
  | 5 =>
    exact so_ret (pc := 43) X hlk hfree hr (by decide +kernel)
  | n + 6 => exact fun _ _ _ _ h => h.elim
theorem bs_X7_audit {l : Launch} {D : va_G} {EXT : (Nat → Nat) → (Nat → Prop) → State → Heap → Prop} (hxo : mm_xo EXT) (hxe : ∀ ad A U H, EXT ad A U H → px_E0 ad A U H) : mm_BS l D pcl lw_T EXT px_tab 155 pb_X7_audit pp_X7_audit := by
  intro d C hC p e s m args below meth c A ad0 cA0 μ0 free Q J
  rw [tb_155]
  exact fun X hr hlk hnm hfree hJ => bk_X7_audit hxo hxe hC X hr hlk hnm hfree hJ
set_option maxHeartbeats 4000000 in
set_option maxRecDepth 100000 in
theorem bk_X7_told {l : Launch} {D : va_G} {EXT : (Nat → Nat) → (Nat → Prop) → State → Heap → Prop} (hxo : mm_xo EXT) (hxe : ∀ ad A U H, EXT ad A U H → px_E0 ad A U H) {d : Nat} {C : mm_C} (hC : mm_CS l D pcl lw_T EXT px_tab d C) {p : Program} {e : Env} {s : State} {m : MethodId} {args : Array Value} {below : List Frame} {meth : Method} {c : Code} {A : Nat → Prop} {ad0 : Nat → Nat} {cA0 : Nat → ClassId} {μ0 : mm_M} {free : Addr → Prop} {Q : mm_Q} {J : mm_J} (X : mm_cx p (mm_rm (d + 1) 0 0) s m args c cX7_told RX7 lw_T A D pcl 2) (hr : meth.sig.returnType = some .int) (hlk : meth.locks = false) (hnm : meth.name = "told") (hfree : ∀ q, A q → free q) (hJ : ∀ t, mm_SK p l e (mm_rm (d + 1) 0 0) s m args below meth c (MQ below (mm_Qc D pcl Q ad0 cA0 μ0 0 A) args s 0 0 free) D pcl A 2 (mm_EX EXT A s ad0 cA0 (mm_n μ0)) (pp_X7_told t) (J t)) : ∀ t, mm_SK p l e (mm_rm (d + 1) 0 0) s m args below meth c (MQ below (mm_Qc D pcl Q ad0 cA0 μ0 0 A) args s 0 0 free) D pcl A 2 (mm_EX EXT A s ad0 cA0 (mm_n μ0)) (pp_X7_told t) (pb_X7_told J C Q t) := by
  intro t
  match t with
  | 0 =>
    refine so_aload_n (pc := 0) (i := 0) X (by decide +kernel) ?_
    refine so_iconst (pc := 1) (n := 0) (v := 0) X (by decide +kernel) (by decide) ?_
    refine so_puti (pc := 2) (index := 62) (ci := 7) (f := 0) (N := 32) (C := RX7) (T := TX7) X rfl uX7 (by decide) (by decide) tw_391 tyX7 tyX7_ok nmX7 rfl (by decide +kernel) rfl (by decide +kernel) ?_
    refine so_iload_n (pc := 5) (i := 1) X (by decide +kernel) ?_
    exact so_tsw (tts := []) (pc := 6) (len := 34) (dflt := 67) (lo := 0) (hi := 4) (offs := #[34, 39, 44, 49, 54]) (dt := 73) X (by decide +kernel) (by decide) (by decide) (hJ 8) (fun i t h => match i, t, h with | 0, _, h => by cases h; exact ⟨34, 40, rfl, by decide, hJ 1⟩ | 1, _, h => by cases h; exact ⟨39, 45, rfl, by decide, hJ 2⟩ | 2, _, h => by cases h; exact ⟨44, 50, rfl, by decide, hJ 3⟩ | 3, _, h => by cases h; exact ⟨49, 55, rfl, by decide, hJ 4⟩ | 4, _, h => by cases h; exact ⟨54, 60, rfl, by decide, hJ 5⟩ | n + 5, _, h => by simp at h)
  | 1 =>
    refine so_aload_n (pc := 40) (i := 0) X (by decide +kernel) ?_
    refine so_geti (pc := 41) (index := 65) (ci := 7) (f := 1) (N := 32) (C := RX7) (T := TX7) X rfl uX7 (by decide) (by decide) tw_392 rfl (by decide) (by decide +kernel) ?_
    exact so_ret (pc := 44) X hlk hfree hr (by decide +kernel)
  | 2 =>
    refine so_aload_n (pc := 45) (i := 0) X (by decide +kernel) ?_
    refine so_geti (pc := 46) (index := 68) (ci := 7) (f := 2) (N := 32) (C := RX7) (T := TX7) X rfl uX7 (by decide) (by decide) tw_393 rfl (by decide) (by decide +kernel) ?_
    exact so_ret (pc := 49) X hlk hfree hr (by decide +kernel)
  | 3 =>
    refine so_aload_n (pc := 50) (i := 0) X (by decide +kernel) ?_
    refine so_geti (pc := 51) (index := 81) (ci := 7) (f := 5) (N := 32) (C := RX7) (T := TX7) X rfl uX7 (by decide) (by decide) tw_403 rfl (by decide) (by decide +kernel) ?_
    exact so_ret (pc := 54) X hlk hfree hr (by decide +kernel)
  | 4 =>
    refine so_aload_n (pc := 55) (i := 0) X (by decide +kernel) ?_
    refine so_geti (pc := 56) (index := 199) (ci := 7) (f := 13) (N := 32) (C := RX7) (T := TX7) X rfl uX7 (by decide) (by decide) tw_513 rfl (by decide) (by decide +kernel) ?_
    exact so_ret (pc := 59) X hlk hfree hr (by decide +kernel)
  | 5 =>
    refine so_aload_n (pc := 60) (i := 0) X (by decide +kernel) ?_
    refine so_geti (pc := 61) (index := 71) (ci := 7) (f := 18) (N := 32) (C := RX7) (T := TX7) X rfl uX7 (by decide) (by decide) tw_394 rfl (by decide) (by decide +kernel) ?_
    refine so_if_le (pc := 64) (off := 7) (tgt := 71) X (by decide +kernel) (by decide) (hJ 6) ?_
    refine so_iconst (pc := 67) (n := 1) (v := 1) X (by decide +kernel) (by decide) ?_
    exact so_goto (pc := 68) (off := 4) (tgt := 72) X (by decide +kernel) (by decide) (hJ 7)
  | 6 =>
    refine so_iconst (pc := 71) (n := 0) (v := 0) X (by decide +kernel) (by decide) ?_
    exact so_fall X (hJ 7)
  | 7 =>
    exact so_ret (pc := 72) X hlk hfree hr (by decide +kernel)
  | 8 =>
    refine so_bipush (pc := 73) (n := (-2)) (v := (-2)) X (by decide +kernel) (by decide) ?_
    exact so_ret (pc := 75) X hlk hfree hr (by decide +kernel)
  | n + 9 => exact fun _ _ _ _ h => h.elim
theorem bs_X7_told {l : Launch} {D : va_G} {EXT : (Nat → Nat) → (Nat → Prop) → State → Heap → Prop} (hxo : mm_xo EXT) (hxe : ∀ ad A U H, EXT ad A U H → px_E0 ad A U H) : mm_BS l D pcl lw_T EXT px_tab 156 pb_X7_told pp_X7_told := by
  intro d C hC p e s m args below meth c A ad0 cA0 μ0 free Q J
  rw [tb_156]
  exact fun X hr hlk hnm hfree hJ => bk_X7_told hxo hxe hC X hr hlk hnm hfree hJ
set_option maxHeartbeats 4000000 in
set_option maxRecDepth 100000 in
theorem bk_X7_clear {l : Launch} {D : va_G} {EXT : (Nat → Nat) → (Nat → Prop) → State → Heap → Prop} (hxo : mm_xo EXT) (hxe : ∀ ad A U H, EXT ad A U H → px_E0 ad A U H) {d : Nat} {C : mm_C} (hC : mm_CS l D pcl lw_T EXT px_tab d C) {p : Program} {e : Env} {s : State} {m : MethodId} {args : Array Value} {below : List Frame} {meth : Method} {c : Code} {A : Nat → Prop} {ad0 : Nat → Nat} {cA0 : Nat → ClassId} {μ0 : mm_M} {free : Addr → Prop} {Q : mm_Q} {J : mm_J} (X : mm_cx p (mm_rm (d + 1) 0 0) s m args c cX7_clear RX7 lw_T A D pcl 1) (hr : meth.sig.returnType = none) (hlk : meth.locks = false) (hnm : meth.name = "clear") (hfree : ∀ q, A q → free q) (hJ : ∀ t, mm_SK p l e (mm_rm (d + 1) 0 0) s m args below meth c (MQ below (mm_Qc D pcl Q ad0 cA0 μ0 0 A) args s 0 0 free) D pcl A 1 (mm_EX EXT A s ad0 cA0 (mm_n μ0)) (pp_X7_clear t) (J t)) : ∀ t, mm_SK p l e (mm_rm (d + 1) 0 0) s m args below meth c (MQ below (mm_Qc D pcl Q ad0 cA0 μ0 0 A) args s 0 0 free) D pcl A 1 (mm_EX EXT A s ad0 cA0 (mm_n μ0)) (pp_X7_clear t) (pb_X7_clear J C Q t) := by
  intro t
  match t with
  | 0 =>
    refine so_aload_n (pc := 0) (i := 0) X (by decide +kernel) ?_
    refine so_iconst (pc := 1) (n := 0) (v := 0) X (by decide +kernel) (by decide) ?_
    refine so_puti (pc := 2) (index := 62) (ci := 7) (f := 0) (N := 32) (C := RX7) (T := TX7) X rfl uX7 (by decide) (by decide) tw_391 tyX7 tyX7_ok nmX7 rfl (by decide +kernel) rfl (by decide +kernel) ?_
    refine so_aload_n (pc := 5) (i := 0) X (by decide +kernel) ?_
    refine so_iconst (pc := 6) (n := 0) (v := 0) X (by decide +kernel) (by decide) ?_
    refine so_puti (pc := 7) (index := 65) (ci := 7) (f := 1) (N := 32) (C := RX7) (T := TX7) X rfl uX7 (by decide) (by decide) tw_392 tyX7 tyX7_ok nmX7 rfl (by decide +kernel) rfl (by decide +kernel) ?_
    refine so_aload_n (pc := 10) (i := 0) X (by decide +kernel) ?_
    refine so_iconst (pc := 11) (n := 0) (v := 0) X (by decide +kernel) (by decide) ?_
    refine so_puti (pc := 12) (index := 68) (ci := 7) (f := 2) (N := 32) (C := RX7) (T := TX7) X rfl uX7 (by decide) (by decide) tw_393 tyX7 tyX7_ok nmX7 rfl (by decide +kernel) rfl (by decide +kernel) ?_
    refine so_aload_n (pc := 15) (i := 0) X (by decide +kernel) ?_
    refine so_iconst (pc := 16) (n := 0) (v := 0) X (by decide +kernel) (by decide) ?_
    refine so_puti (pc := 17) (index := 81) (ci := 7) (f := 5) (N := 32) (C := RX7) (T := TX7) X rfl uX7 (by decide) (by decide) tw_403 tyX7 tyX7_ok nmX7 rfl (by decide +kernel) rfl (by decide +kernel) ?_
    refine so_aload_n (pc := 20) (i := 0) X (by decide +kernel) ?_
    refine so_iconst (pc := 21) (n := (-1)) (v := (-1)) X (by decide +kernel) (by decide) ?_
    refine so_puti (pc := 22) (index := 17) (ci := 7) (f := 6) (N := 32) (C := RX7) (T := TX7) X rfl uX7 (by decide) (by decide) tw_377 tyX7 tyX7_ok nmX7 rfl (by decide +kernel) rfl (by decide +kernel) ?_
    refine so_aload_n (pc := 25) (i := 0) X (by decide +kernel) ?_
    refine so_iconst (pc := 26) (n := 0) (v := 0) X (by decide +kernel) (by decide) ?_
    refine so_puti (pc := 27) (index := 199) (ci := 7) (f := 13) (N := 32) (C := RX7) (T := TX7) X rfl uX7 (by decide) (by decide) tw_513 tyX7 tyX7_ok nmX7 rfl (by decide +kernel) rfl (by decide +kernel) ?_
    refine so_aload_n (pc := 30) (i := 0) X (by decide +kernel) ?_
    refine so_iconst (pc := 31) (n := 0) (v := 0) X (by decide +kernel) (by decide) ?_
    refine so_puti (pc := 32) (index := 212) (ci := 7) (f := 15) (N := 32) (C := RX7) (T := TX7) X rfl uX7 (by decide) (by decide) tw_526 tyX7 tyX7_ok nmX7 rfl (by decide +kernel) rfl (by decide +kernel) ?_
    refine so_aload_n (pc := 35) (i := 0) X (by decide +kernel) ?_
    refine so_iconst (pc := 36) (n := 0) (v := 0) X (by decide +kernel) (by decide) ?_
    refine so_puti (pc := 37) (index := 71) (ci := 7) (f := 18) (N := 32) (C := RX7) (T := TX7) X rfl uX7 (by decide) (by decide) tw_394 tyX7 tyX7_ok nmX7 rfl (by decide +kernel) rfl (by decide +kernel) ?_
    exact so_rtv (pc := 40) X hlk hfree hr (by decide +kernel)
  | n + 1 => exact fun _ _ _ _ h => h.elim
theorem bs_X7_clear {l : Launch} {D : va_G} {EXT : (Nat → Nat) → (Nat → Prop) → State → Heap → Prop} (hxo : mm_xo EXT) (hxe : ∀ ad A U H, EXT ad A U H → px_E0 ad A U H) : mm_BS l D pcl lw_T EXT px_tab 157 pb_X7_clear pp_X7_clear := by
  intro d C hC p e s m args below meth c A ad0 cA0 μ0 free Q J
  rw [tb_157]
  exact fun X hr hlk hnm hfree hJ => bk_X7_clear hxo hxe hC X hr hlk hnm hfree hJ
