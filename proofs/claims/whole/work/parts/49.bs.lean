set_option maxHeartbeats 4000000 in
set_option maxRecDepth 100000 in
theorem bk_X7_one {l : Launch} {D : va_G} {EXT : (Nat → Nat) → (Nat → Prop) → State → Heap → Prop} (hxo : mm_xo EXT) (hxe : ∀ ad A U H, EXT ad A U H → px_E0 ad A U H) {d : Nat} {C : mm_C} (hC : mm_CS l D pcl lw_T EXT px_tab d C) {p : Program} {e : Env} {s : State} {m : MethodId} {args : Array Value} {below : List Frame} {meth : Method} {c : Code} {A : Nat → Prop} {ad0 : Nat → Nat} {cA0 : Nat → ClassId} {μ0 : mm_M} {free : Addr → Prop} {Q : mm_Q} {J : mm_J} (X : mm_cx p (mm_rm (d + 1) 0 0) s m args c cX7_one RX7 lw_T A D pcl 2) (hr : meth.sig.returnType = none) (hlk : meth.locks = false) (hnm : meth.name = "one") (hfree : ∀ q, A q → free q) (hJ : ∀ t, mm_SK p l e (mm_rm (d + 1) 0 0) s m args below meth c (MQ below (mm_Qc D pcl Q ad0 cA0 μ0 0 A) args s 0 0 free) D pcl A 2 (mm_EX EXT A s ad0 cA0 (mm_n μ0)) (pp_X7_one t) (J t)) : ∀ t, mm_SK p l e (mm_rm (d + 1) 0 0) s m args below meth c (MQ below (mm_Qc D pcl Q ad0 cA0 μ0 0 A) args s 0 0 free) D pcl A 2 (mm_EX EXT A s ad0 cA0 (mm_n μ0)) (pp_X7_one t) (pb_X7_one J C Q t) := by
  intro t
  match t with
  | 0 =>
    refine so_aload_n (pc := 0) (i := 0) X (by decide +kernel) ?_
    refine so_geti (pc := 1) (index := 117) (ci := 7) (f := 23) (N := 32) (C := RX7) (T := TX7) X rfl uX7 (by decide) (by decide) tw_424 rfl (by decide) (by decide +kernel) ?_
    refine so_if_eq (pc := 4) (off := 4) (tgt := 8) X (by decide +kernel) (by decide) (hJ 1) ?_
    exact so_rtv (pc := 7) X hlk hfree hr (by decide +kernel)
  | 1 =>
    refine so_aload_n (pc := 8) (i := 0) X (by decide +kernel) ?_
    refine so_geti (pc := 9) (index := 104) (ci := 7) (f := 20) (N := 32) (C := RX7) (T := TX7) X rfl uX7 (by decide) (by decide) tw_413 rfl (by decide) (by decide +kernel) ?_
    refine so_bipush (pc := 12) (n := (-5)) (v := (-5)) X (by decide +kernel) (by decide) ?_
    refine so_icmp_ne (pc := 14) (off := 34) (tgt := 48) X (by decide +kernel) (by decide) (hJ 2) ?_
    refine so_aload_n (pc := 17) (i := 0) X (by decide +kernel) ?_
    refine so_cav (pc := 18) (y := 113) (na := 1) (index := 151) (maxL := 1) (nm := yX7_opens) (bytes := cX7_opens) (ret := none) (ci := 7) (N := 32) (T := TX7) X hxo (fun _ _ _ _ h => h.1) hC lw_good (Nat.le_refl _) (mm_lo d) rfl (by decide) tw_453 tw_454 tw_397 rfl (by decide) tw_455 tw_456 (by decide +kernel) (by decide +kernel) ?_
    refine so_aload_n (pc := 21) (i := 0) X (by decide +kernel) ?_
    refine so_cav (pc := 22) (y := 110) (na := 1) (index := 142) (maxL := 1) (nm := yX7_take) (bytes := cX7_take) (ret := none) (ci := 7) (N := 32) (T := TX7) X hxo (fun _ _ _ _ h => h.1) hC lw_good (Nat.le_refl _) (mm_lo d) rfl (by decide) tw_441 tw_442 tw_397 rfl (by decide) tw_443 tw_444 (by decide +kernel) (by decide +kernel) ?_
    refine so_aload_n (pc := 25) (i := 0) X (by decide +kernel) ?_
    refine so_cav (pc := 26) (y := 116) (na := 1) (index := 148) (maxL := 2) (nm := yX7_one) (bytes := cX7_one) (ret := none) (ci := 7) (N := 32) (T := TX7) X hxo (fun _ _ _ _ h => h.1) hC lw_good (Nat.le_refl _) (mm_lo d) rfl (by decide) tw_449 tw_450 tw_397 rfl (by decide) tw_451 tw_452 (by decide +kernel) (by decide +kernel) ?_
    refine so_aload_n (pc := 29) (i := 0) X (by decide +kernel) ?_
    refine so_bipush (pc := 30) (n := (-5)) (v := (-5)) X (by decide +kernel) (by decide) ?_
    refine so_cav (pc := 32) (y := 112) (na := 2) (index := 145) (maxL := 2) (nm := yX7_put) (bytes := cX7_put) (ret := none) (ci := 7) (N := 32) (T := TX7) X hxo (fun _ _ _ _ h => h.1) hC lw_good (Nat.le_refl _) (mm_lo d) rfl (by decide) tw_445 tw_446 tw_397 rfl (by decide) tw_447 tw_448 (by decide +kernel) (by decide +kernel) ?_
    refine so_aload_n (pc := 35) (i := 0) X (by decide +kernel) ?_
    refine so_dup (pc := 36) X (by decide +kernel) ?_
    refine so_geti (pc := 37) (index := 136) (ci := 7) (f := 25) (N := 32) (C := RX7) (T := TX7) X rfl uX7 (by decide) (by decide) tw_436 rfl (by decide) (by decide +kernel) ?_
    refine so_iconst (pc := 40) (n := 1) (v := 1) X (by decide +kernel) (by decide) ?_
    refine so_isub (pc := 41) X (by decide +kernel) ?_
    refine so_puti (pc := 42) (index := 136) (ci := 7) (f := 25) (N := 32) (C := RX7) (T := TX7) X rfl uX7 (by decide) (by decide) tw_436 tyX7 tyX7_ok nmX7 rfl (by decide +kernel) rfl (by decide +kernel) ?_
    exact so_goto (pc := 45) (off := 162) (tgt := 207) X (by decide +kernel) (by decide) (hJ 10)
  | 2 =>
    refine so_aload_n (pc := 48) (i := 0) X (by decide +kernel) ?_
    refine so_geti (pc := 49) (index := 104) (ci := 7) (f := 20) (N := 32) (C := RX7) (T := TX7) X rfl uX7 (by decide) (by decide) tw_413 rfl (by decide) (by decide +kernel) ?_
    refine so_bipush (pc := 52) (n := (-6)) (v := (-6)) X (by decide +kernel) (by decide) ?_
    refine so_icmp_eq (pc := 54) (off := 12) (tgt := 66) X (by decide +kernel) (by decide) (hJ 3) ?_
    refine so_aload_n (pc := 57) (i := 0) X (by decide +kernel) ?_
    refine so_geti (pc := 58) (index := 104) (ci := 7) (f := 20) (N := 32) (C := RX7) (T := TX7) X rfl uX7 (by decide) (by decide) tw_413 rfl (by decide) (by decide +kernel) ?_
    refine so_bipush (pc := 61) (n := (-7)) (v := (-7)) X (by decide +kernel) (by decide) ?_
    refine so_icmp_ne (pc := 63) (off := 20) (tgt := 83) X (by decide +kernel) (by decide) (hJ 4) ?_
    exact so_fall X (hJ 3)
  | 3 =>
    refine so_aload_n (pc := 66) (i := 0) X (by decide +kernel) ?_
    refine so_geti (pc := 67) (index := 104) (ci := 7) (f := 20) (N := 32) (C := RX7) (T := TX7) X rfl uX7 (by decide) (by decide) tw_413 rfl (by decide) (by decide +kernel) ?_
    refine so_istore_n (pc := 70) (i := 1) X (by decide +kernel) (by decide) ?_
    refine so_aload_n (pc := 71) (i := 0) X (by decide +kernel) ?_
    refine so_cav (pc := 72) (y := 110) (na := 1) (index := 142) (maxL := 1) (nm := yX7_take) (bytes := cX7_take) (ret := none) (ci := 7) (N := 32) (T := TX7) X hxo (fun _ _ _ _ h => h.1) hC lw_good (Nat.le_refl _) (mm_lo d) rfl (by decide) tw_441 tw_442 tw_397 rfl (by decide) tw_443 tw_444 (by decide +kernel) (by decide +kernel) ?_
    refine so_aload_n (pc := 75) (i := 0) X (by decide +kernel) ?_
    refine so_iload_n (pc := 76) (i := 1) X (by decide +kernel) ?_
    refine so_cav (pc := 77) (y := 112) (na := 2) (index := 145) (maxL := 2) (nm := yX7_put) (bytes := cX7_put) (ret := none) (ci := 7) (N := 32) (T := TX7) X hxo (fun _ _ _ _ h => h.1) hC lw_good (Nat.le_refl _) (mm_lo d) rfl (by decide) tw_445 tw_446 tw_397 rfl (by decide) tw_447 tw_448 (by decide +kernel) (by decide +kernel) ?_
    exact so_goto (pc := 80) (off := 127) (tgt := 207) X (by decide +kernel) (by decide) (hJ 10)
  | 4 =>
    refine so_aload_n (pc := 83) (i := 0) X (by decide +kernel) ?_
    refine so_bipush (pc := 84) (n := 40) (v := 40) X (by decide +kernel) (by decide) ?_
    refine so_cav (pc := 86) (y := 111) (na := 2) (index := 154) (maxL := 2) (nm := yX7_isSign) (bytes := cX7_isSign) (ret := (some .boolean)) (ci := 7) (N := 32) (T := TX7) X hxo (fun _ _ _ _ h => h.1) hC lw_good (Nat.le_refl _) (mm_lo d) rfl (by decide) tw_457 tw_458 tw_397 rfl (by decide) tw_459 tw_460 (by decide +kernel) (by decide +kernel) ?_
    refine so_if_eq (pc := 89) (off := 55) (tgt := 144) X (by decide +kernel) (by decide) (hJ 7) ?_
    refine so_aload_n (pc := 92) (i := 0) X (by decide +kernel) ?_
    refine so_cav (pc := 93) (y := 113) (na := 1) (index := 151) (maxL := 1) (nm := yX7_opens) (bytes := cX7_opens) (ret := none) (ci := 7) (N := 32) (T := TX7) X hxo (fun _ _ _ _ h => h.1) hC lw_good (Nat.le_refl _) (mm_lo d) rfl (by decide) tw_453 tw_454 tw_397 rfl (by decide) tw_455 tw_456 (by decide +kernel) (by decide +kernel) ?_
    refine so_aload_n (pc := 96) (i := 0) X (by decide +kernel) ?_
    refine so_cav (pc := 97) (y := 110) (na := 1) (index := 142) (maxL := 1) (nm := yX7_take) (bytes := cX7_take) (ret := none) (ci := 7) (N := 32) (T := TX7) X hxo (fun _ _ _ _ h => h.1) hC lw_good (Nat.le_refl _) (mm_lo d) rfl (by decide) tw_441 tw_442 tw_397 rfl (by decide) tw_443 tw_444 (by decide +kernel) (by decide +kernel) ?_
    refine so_aload_n (pc := 100) (i := 0) X (by decide +kernel) ?_
    refine so_cav (pc := 101) (y := 114) (na := 1) (index := 157) (maxL := 1) (nm := yX7_any) (bytes := cX7_any) (ret := none) (ci := 7) (N := 32) (T := TX7) X hxo (fun _ _ _ _ h => h.1) hC lw_good (Nat.le_refl _) (mm_lo d) rfl (by decide) tw_461 tw_462 tw_397 rfl (by decide) tw_463 tw_464 (by decide +kernel) (by decide +kernel) ?_
    refine so_aload_n (pc := 104) (i := 0) X (by decide +kernel) ?_
    refine so_bipush (pc := 105) (n := 41) (v := 41) X (by decide +kernel) (by decide) ?_
    refine so_cav (pc := 107) (y := 111) (na := 2) (index := 154) (maxL := 2) (nm := yX7_isSign) (bytes := cX7_isSign) (ret := (some .boolean)) (ci := 7) (N := 32) (T := TX7) X hxo (fun _ _ _ _ h => h.1) hC lw_good (Nat.le_refl _) (mm_lo d) rfl (by decide) tw_457 tw_458 tw_397 rfl (by decide) tw_459 tw_460 (by decide +kernel) (by decide +kernel) ?_
    refine so_if_eq (pc := 110) (off := 10) (tgt := 120) X (by decide +kernel) (by decide) (hJ 5) ?_
    refine so_aload_n (pc := 113) (i := 0) X (by decide +kernel) ?_
    refine so_cav (pc := 114) (y := 110) (na := 1) (index := 142) (maxL := 1) (nm := yX7_take) (bytes := cX7_take) (ret := none) (ci := 7) (N := 32) (T := TX7) X hxo (fun _ _ _ _ h => h.1) hC lw_good (Nat.le_refl _) (mm_lo d) rfl (by decide) tw_441 tw_442 tw_397 rfl (by decide) tw_443 tw_444 (by decide +kernel) (by decide +kernel) ?_
    exact so_goto (pc := 117) (off := 14) (tgt := 131) X (by decide +kernel) (by decide) (hJ 6)
  | 5 =>
    refine so_aload_n (pc := 120) (i := 0) X (by decide +kernel) ?_
    refine so_geti (pc := 121) (index := 117) (ci := 7) (f := 23) (N := 32) (C := RX7) (T := TX7) X rfl uX7 (by decide) (by decide) tw_424 rfl (by decide) (by decide +kernel) ?_
    refine so_if_ne (pc := 124) (off := 7) (tgt := 131) X (by decide +kernel) (by decide) (hJ 6) ?_
    refine so_aload_n (pc := 127) (i := 0) X (by decide +kernel) ?_
    refine so_cav (pc := 128) (y := 109) (na := 1) (index := 160) (maxL := 1) (nm := yX7_odd) (bytes := cX7_odd) (ret := none) (ci := 7) (N := 32) (T := TX7) X hxo (fun _ _ _ _ h => h.1) hC lw_good (Nat.le_refl _) (mm_lo d) rfl (by decide) tw_465 tw_466 tw_397 rfl (by decide) tw_467 tw_468 (by decide +kernel) (by decide +kernel) ?_
    exact so_fall X (hJ 6)
  | 6 =>
    refine so_aload_n (pc := 131) (i := 0) X (by decide +kernel) ?_
    refine so_dup (pc := 132) X (by decide +kernel) ?_
    refine so_geti (pc := 133) (index := 136) (ci := 7) (f := 25) (N := 32) (C := RX7) (T := TX7) X rfl uX7 (by decide) (by decide) tw_436 rfl (by decide) (by decide +kernel) ?_
    refine so_iconst (pc := 136) (n := 1) (v := 1) X (by decide +kernel) (by decide) ?_
    refine so_isub (pc := 137) X (by decide +kernel) ?_
    refine so_puti (pc := 138) (index := 136) (ci := 7) (f := 25) (N := 32) (C := RX7) (T := TX7) X rfl uX7 (by decide) (by decide) tw_436 tyX7 tyX7_ok nmX7 rfl (by decide +kernel) rfl (by decide +kernel) ?_
    exact so_goto (pc := 141) (off := 66) (tgt := 207) X (by decide +kernel) (by decide) (hJ 10)
  | 7 =>
    refine so_aload_n (pc := 144) (i := 0) X (by decide +kernel) ?_
    refine so_cav (pc := 145) (y := 117) (na := 1) (index := 163) (maxL := 2) (nm := yX7_sum) (bytes := cX7_sum) (ret := none) (ci := 7) (N := 32) (T := TX7) X hxo (fun _ _ _ _ h => h.1) hC lw_good (Nat.le_refl _) (mm_lo d) rfl (by decide) tw_469 tw_470 tw_397 rfl (by decide) tw_471 tw_472 (by decide +kernel) (by decide +kernel) ?_
    refine so_aload_n (pc := 148) (i := 0) X (by decide +kernel) ?_
    refine so_geti (pc := 149) (index := 104) (ci := 7) (f := 20) (N := 32) (C := RX7) (T := TX7) X rfl uX7 (by decide) (by decide) tw_413 rfl (by decide) (by decide +kernel) ?_
    refine so_istore_n (pc := 152) (i := 1) X (by decide +kernel) (by decide) ?_
    refine so_aload_n (pc := 153) (i := 0) X (by decide +kernel) ?_
    refine so_bipush (pc := 154) (n := 60) (v := 60) X (by decide +kernel) (by decide) ?_
    refine so_cav (pc := 156) (y := 111) (na := 2) (index := 154) (maxL := 2) (nm := yX7_isSign) (bytes := cX7_isSign) (ret := (some .boolean)) (ci := 7) (N := 32) (T := TX7) X hxo (fun _ _ _ _ h => h.1) hC lw_good (Nat.le_refl _) (mm_lo d) rfl (by decide) tw_457 tw_458 tw_397 rfl (by decide) tw_459 tw_460 (by decide +kernel) (by decide +kernel) ?_
    refine so_if_ne (pc := 159) (off := 21) (tgt := 180) X (by decide +kernel) (by decide) (hJ 8) ?_
    refine so_aload_n (pc := 162) (i := 0) X (by decide +kernel) ?_
    refine so_bipush (pc := 163) (n := 61) (v := 61) X (by decide +kernel) (by decide) ?_
    refine so_cav (pc := 165) (y := 111) (na := 2) (index := 154) (maxL := 2) (nm := yX7_isSign) (bytes := cX7_isSign) (ret := (some .boolean)) (ci := 7) (N := 32) (T := TX7) X hxo (fun _ _ _ _ h => h.1) hC lw_good (Nat.le_refl _) (mm_lo d) rfl (by decide) tw_457 tw_458 tw_397 rfl (by decide) tw_459 tw_460 (by decide +kernel) (by decide +kernel) ?_
    refine so_if_ne (pc := 168) (off := 12) (tgt := 180) X (by decide +kernel) (by decide) (hJ 8) ?_
    refine so_aload_n (pc := 171) (i := 0) X (by decide +kernel) ?_
    refine so_bipush (pc := 172) (n := 62) (v := 62) X (by decide +kernel) (by decide) ?_
    refine so_cav (pc := 174) (y := 111) (na := 2) (index := 154) (maxL := 2) (nm := yX7_isSign) (bytes := cX7_isSign) (ret := (some .boolean)) (ci := 7) (N := 32) (T := TX7) X hxo (fun _ _ _ _ h => h.1) hC lw_good (Nat.le_refl _) (mm_lo d) rfl (by decide) tw_457 tw_458 tw_397 rfl (by decide) tw_459 tw_460 (by decide +kernel) (by decide +kernel) ?_
    refine so_if_eq (pc := 177) (off := 19) (tgt := 196) X (by decide +kernel) (by decide) (hJ 9) ?_
    exact so_fall X (hJ 8)
  | 8 =>
    refine so_aload_n (pc := 180) (i := 0) X (by decide +kernel) ?_
    refine so_cav (pc := 181) (y := 110) (na := 1) (index := 142) (maxL := 1) (nm := yX7_take) (bytes := cX7_take) (ret := none) (ci := 7) (N := 32) (T := TX7) X hxo (fun _ _ _ _ h => h.1) hC lw_good (Nat.le_refl _) (mm_lo d) rfl (by decide) tw_441 tw_442 tw_397 rfl (by decide) tw_443 tw_444 (by decide +kernel) (by decide +kernel) ?_
    refine so_aload_n (pc := 184) (i := 0) X (by decide +kernel) ?_
    refine so_cav (pc := 185) (y := 117) (na := 1) (index := 163) (maxL := 2) (nm := yX7_sum) (bytes := cX7_sum) (ret := none) (ci := 7) (N := 32) (T := TX7) X hxo (fun _ _ _ _ h => h.1) hC lw_good (Nat.le_refl _) (mm_lo d) rfl (by decide) tw_469 tw_470 tw_397 rfl (by decide) tw_471 tw_472 (by decide +kernel) (by decide +kernel) ?_
    refine so_aload_n (pc := 188) (i := 0) X (by decide +kernel) ?_
    refine so_iload_n (pc := 189) (i := 1) X (by decide +kernel) ?_
    refine so_cav (pc := 190) (y := 112) (na := 2) (index := 145) (maxL := 2) (nm := yX7_put) (bytes := cX7_put) (ret := none) (ci := 7) (N := 32) (T := TX7) X hxo (fun _ _ _ _ h => h.1) hC lw_good (Nat.le_refl _) (mm_lo d) rfl (by decide) tw_445 tw_446 tw_397 rfl (by decide) tw_447 tw_448 (by decide +kernel) (by decide +kernel) ?_
    exact so_goto (pc := 193) (off := 14) (tgt := 207) X (by decide +kernel) (by decide) (hJ 10)
  | 9 =>
    refine so_aload_n (pc := 196) (i := 0) X (by decide +kernel) ?_
    refine so_geti (pc := 197) (index := 117) (ci := 7) (f := 23) (N := 32) (C := RX7) (T := TX7) X rfl uX7 (by decide) (by decide) tw_424 rfl (by decide) (by decide +kernel) ?_
    refine so_if_ne (pc := 200) (off := 7) (tgt := 207) X (by decide +kernel) (by decide) (hJ 10) ?_
    refine so_aload_n (pc := 203) (i := 0) X (by decide +kernel) ?_
    refine so_cav (pc := 204) (y := 109) (na := 1) (index := 160) (maxL := 1) (nm := yX7_odd) (bytes := cX7_odd) (ret := none) (ci := 7) (N := 32) (T := TX7) X hxo (fun _ _ _ _ h => h.1) hC lw_good (Nat.le_refl _) (mm_lo d) rfl (by decide) tw_465 tw_466 tw_397 rfl (by decide) tw_467 tw_468 (by decide +kernel) (by decide +kernel) ?_
    exact so_fall X (hJ 10)
  | 10 =>
    exact so_rtv (pc := 207) X hlk hfree hr (by decide +kernel)
  | n + 11 => exact fun _ _ _ _ h => h.elim
theorem bs_X7_one {l : Launch} {D : va_G} {EXT : (Nat → Nat) → (Nat → Prop) → State → Heap → Prop} (hxo : mm_xo EXT) (hxe : ∀ ad A U H, EXT ad A U H → px_E0 ad A U H) : mm_BS l D pcl lw_T EXT px_tab 116 pb_X7_one pp_X7_one := by
  intro d C hC p e s m args below meth c A ad0 cA0 μ0 free Q J
  rw [tb_116]
  exact fun X hr hlk hnm hfree hJ => bk_X7_one hxo hxe hC X hr hlk hnm hfree hJ
set_option maxHeartbeats 4000000 in
set_option maxRecDepth 100000 in
theorem bk_X7_sum {l : Launch} {D : va_G} {EXT : (Nat → Nat) → (Nat → Prop) → State → Heap → Prop} (hxo : mm_xo EXT) (hxe : ∀ ad A U H, EXT ad A U H → px_E0 ad A U H) {d : Nat} {C : mm_C} (hC : mm_CS l D pcl lw_T EXT px_tab d C) {p : Program} {e : Env} {s : State} {m : MethodId} {args : Array Value} {below : List Frame} {meth : Method} {c : Code} {A : Nat → Prop} {ad0 : Nat → Nat} {cA0 : Nat → ClassId} {μ0 : mm_M} {free : Addr → Prop} {Q : mm_Q} {J : mm_J} (X : mm_cx p (mm_rm (d + 1) 0 0) s m args c cX7_sum RX7 lw_T A D pcl 2) (hr : meth.sig.returnType = none) (hlk : meth.locks = false) (hnm : meth.name = "sum") (hfree : ∀ q, A q → free q) (hJ : ∀ t, mm_SK p l e (mm_rm (d + 1) 0 0) s m args below meth c (MQ below (mm_Qc D pcl Q ad0 cA0 μ0 0 A) args s 0 0 free) D pcl A 2 (mm_EX EXT A s ad0 cA0 (mm_n μ0)) (pp_X7_sum t) (J t)) : ∀ t, mm_SK p l e (mm_rm (d + 1) 0 0) s m args below meth c (MQ below (mm_Qc D pcl Q ad0 cA0 μ0 0 A) args s 0 0 free) D pcl A 2 (mm_EX EXT A s ad0 cA0 (mm_n μ0)) (pp_X7_sum t) (pb_X7_sum J C Q t) := by
  intro t
  match t with
  | 0 =>
    refine so_aload_n (pc := 0) (i := 0) X (by decide +kernel) ?_
    refine so_cav (pc := 1) (y := 118) (na := 1) (index := 166) (maxL := 2) (nm := yX7_times) (bytes := cX7_times) (ret := none) (ci := 7) (N := 32) (T := TX7) X hxo (fun _ _ _ _ h => h.1) hC lw_good (Nat.le_refl _) (mm_lo d) rfl (by decide) tw_473 tw_474 tw_397 rfl (by decide) tw_475 tw_476 (by decide +kernel) (by decide +kernel) ?_
    exact so_fall X (hJ 1)
  | 1 =>
    refine so_aload_n (pc := 4) (i := 0) X (by decide +kernel) ?_
    refine so_bipush (pc := 5) (n := 43) (v := 43) X (by decide +kernel) (by decide) ?_
    refine so_cav (pc := 7) (y := 111) (na := 2) (index := 154) (maxL := 2) (nm := yX7_isSign) (bytes := cX7_isSign) (ret := (some .boolean)) (ci := 7) (N := 32) (T := TX7) X hxo (fun _ _ _ _ h => h.1) hC lw_good (Nat.le_refl _) (mm_lo d) rfl (by decide) tw_457 tw_458 tw_397 rfl (by decide) tw_459 tw_460 (by decide +kernel) (by decide +kernel) ?_
    refine so_if_ne (pc := 10) (off := 12) (tgt := 22) X (by decide +kernel) (by decide) (hJ 2) ?_
    refine so_aload_n (pc := 13) (i := 0) X (by decide +kernel) ?_
    refine so_bipush (pc := 14) (n := 45) (v := 45) X (by decide +kernel) (by decide) ?_
    refine so_cav (pc := 16) (y := 111) (na := 2) (index := 154) (maxL := 2) (nm := yX7_isSign) (bytes := cX7_isSign) (ret := (some .boolean)) (ci := 7) (N := 32) (T := TX7) X hxo (fun _ _ _ _ h => h.1) hC lw_good (Nat.le_refl _) (mm_lo d) rfl (by decide) tw_457 tw_458 tw_397 rfl (by decide) tw_459 tw_460 (by decide +kernel) (by decide +kernel) ?_
    refine so_if_eq (pc := 19) (off := 24) (tgt := 43) X (by decide +kernel) (by decide) (hJ 3) ?_
    exact so_fall X (hJ 2)
  | 2 =>
    refine so_aload_n (pc := 22) (i := 0) X (by decide +kernel) ?_
    refine so_geti (pc := 23) (index := 104) (ci := 7) (f := 20) (N := 32) (C := RX7) (T := TX7) X rfl uX7 (by decide) (by decide) tw_413 rfl (by decide) (by decide +kernel) ?_
    refine so_istore_n (pc := 26) (i := 1) X (by decide +kernel) (by decide) ?_
    refine so_aload_n (pc := 27) (i := 0) X (by decide +kernel) ?_
    refine so_cav (pc := 28) (y := 110) (na := 1) (index := 142) (maxL := 1) (nm := yX7_take) (bytes := cX7_take) (ret := none) (ci := 7) (N := 32) (T := TX7) X hxo (fun _ _ _ _ h => h.1) hC lw_good (Nat.le_refl _) (mm_lo d) rfl (by decide) tw_441 tw_442 tw_397 rfl (by decide) tw_443 tw_444 (by decide +kernel) (by decide +kernel) ?_
    refine so_aload_n (pc := 31) (i := 0) X (by decide +kernel) ?_
    refine so_cav (pc := 32) (y := 118) (na := 1) (index := 166) (maxL := 2) (nm := yX7_times) (bytes := cX7_times) (ret := none) (ci := 7) (N := 32) (T := TX7) X hxo (fun _ _ _ _ h => h.1) hC lw_good (Nat.le_refl _) (mm_lo d) rfl (by decide) tw_473 tw_474 tw_397 rfl (by decide) tw_475 tw_476 (by decide +kernel) (by decide +kernel) ?_
    refine so_aload_n (pc := 35) (i := 0) X (by decide +kernel) ?_
    refine so_iload_n (pc := 36) (i := 1) X (by decide +kernel) ?_
    refine so_cav (pc := 37) (y := 112) (na := 2) (index := 145) (maxL := 2) (nm := yX7_put) (bytes := cX7_put) (ret := none) (ci := 7) (N := 32) (T := TX7) X hxo (fun _ _ _ _ h => h.1) hC lw_good (Nat.le_refl _) (mm_lo d) rfl (by decide) tw_445 tw_446 tw_397 rfl (by decide) tw_447 tw_448 (by decide +kernel) (by decide +kernel) ?_
    exact so_goto (pc := 40) (off := (-36)) (tgt := 4) X (by decide +kernel) (by decide) (hJ 1)
  | 3 =>
    exact so_rtv (pc := 43) X hlk hfree hr (by decide +kernel)
  | n + 4 => exact fun _ _ _ _ h => h.elim
theorem bs_X7_sum {l : Launch} {D : va_G} {EXT : (Nat → Nat) → (Nat → Prop) → State → Heap → Prop} (hxo : mm_xo EXT) (hxe : ∀ ad A U H, EXT ad A U H → px_E0 ad A U H) : mm_BS l D pcl lw_T EXT px_tab 117 pb_X7_sum pp_X7_sum := by
  intro d C hC p e s m args below meth c A ad0 cA0 μ0 free Q J
  rw [tb_117]
  exact fun X hr hlk hnm hfree hJ => bk_X7_sum hxo hxe hC X hr hlk hnm hfree hJ
set_option maxHeartbeats 4000000 in
set_option maxRecDepth 100000 in
theorem bk_X7_times {l : Launch} {D : va_G} {EXT : (Nat → Nat) → (Nat → Prop) → State → Heap → Prop} (hxo : mm_xo EXT) (hxe : ∀ ad A U H, EXT ad A U H → px_E0 ad A U H) {d : Nat} {C : mm_C} (hC : mm_CS l D pcl lw_T EXT px_tab d C) {p : Program} {e : Env} {s : State} {m : MethodId} {args : Array Value} {below : List Frame} {meth : Method} {c : Code} {A : Nat → Prop} {ad0 : Nat → Nat} {cA0 : Nat → ClassId} {μ0 : mm_M} {free : Addr → Prop} {Q : mm_Q} {J : mm_J} (X : mm_cx p (mm_rm (d + 1) 0 0) s m args c cX7_times RX7 lw_T A D pcl 2) (hr : meth.sig.returnType = none) (hlk : meth.locks = false) (hnm : meth.name = "times") (hfree : ∀ q, A q → free q) (hJ : ∀ t, mm_SK p l e (mm_rm (d + 1) 0 0) s m args below meth c (MQ below (mm_Qc D pcl Q ad0 cA0 μ0 0 A) args s 0 0 free) D pcl A 2 (mm_EX EXT A s ad0 cA0 (mm_n μ0)) (pp_X7_times t) (J t)) : ∀ t, mm_SK p l e (mm_rm (d + 1) 0 0) s m args below meth c (MQ below (mm_Qc D pcl Q ad0 cA0 μ0 0 A) args s 0 0 free) D pcl A 2 (mm_EX EXT A s ad0 cA0 (mm_n μ0)) (pp_X7_times t) (pb_X7_times J C Q t) := by
  intro t
  match t with
  | 0 =>
    refine so_aload_n (pc := 0) (i := 0) X (by decide +kernel) ?_
    refine so_cav (pc := 1) (y := 119) (na := 1) (index := 169) (maxL := 4) (nm := yX7_leaf) (bytes := cX7_leaf) (ret := none) (ci := 7) (N := 32) (T := TX7) X hxo (fun _ _ _ _ h => h.1) hC lw_good (Nat.le_refl _) (mm_lo d) rfl (by decide) tw_477 tw_478 tw_397 rfl (by decide) tw_479 tw_480 (by decide +kernel) (by decide +kernel) ?_
    exact so_fall X (hJ 1)
  | 1 =>
    refine so_aload_n (pc := 4) (i := 0) X (by decide +kernel) ?_
    refine so_bipush (pc := 5) (n := 42) (v := 42) X (by decide +kernel) (by decide) ?_
    refine so_cav (pc := 7) (y := 111) (na := 2) (index := 154) (maxL := 2) (nm := yX7_isSign) (bytes := cX7_isSign) (ret := (some .boolean)) (ci := 7) (N := 32) (T := TX7) X hxo (fun _ _ _ _ h => h.1) hC lw_good (Nat.le_refl _) (mm_lo d) rfl (by decide) tw_457 tw_458 tw_397 rfl (by decide) tw_459 tw_460 (by decide +kernel) (by decide +kernel) ?_
    refine so_if_ne (pc := 10) (off := 12) (tgt := 22) X (by decide +kernel) (by decide) (hJ 2) ?_
    refine so_aload_n (pc := 13) (i := 0) X (by decide +kernel) ?_
    refine so_bipush (pc := 14) (n := 47) (v := 47) X (by decide +kernel) (by decide) ?_
    refine so_cav (pc := 16) (y := 111) (na := 2) (index := 154) (maxL := 2) (nm := yX7_isSign) (bytes := cX7_isSign) (ret := (some .boolean)) (ci := 7) (N := 32) (T := TX7) X hxo (fun _ _ _ _ h => h.1) hC lw_good (Nat.le_refl _) (mm_lo d) rfl (by decide) tw_457 tw_458 tw_397 rfl (by decide) tw_459 tw_460 (by decide +kernel) (by decide +kernel) ?_
    refine so_if_eq (pc := 19) (off := 24) (tgt := 43) X (by decide +kernel) (by decide) (hJ 3) ?_
    exact so_fall X (hJ 2)
  | 2 =>
    refine so_aload_n (pc := 22) (i := 0) X (by decide +kernel) ?_
    refine so_geti (pc := 23) (index := 104) (ci := 7) (f := 20) (N := 32) (C := RX7) (T := TX7) X rfl uX7 (by decide) (by decide) tw_413 rfl (by decide) (by decide +kernel) ?_
    refine so_istore_n (pc := 26) (i := 1) X (by decide +kernel) (by decide) ?_
    refine so_aload_n (pc := 27) (i := 0) X (by decide +kernel) ?_
    refine so_cav (pc := 28) (y := 110) (na := 1) (index := 142) (maxL := 1) (nm := yX7_take) (bytes := cX7_take) (ret := none) (ci := 7) (N := 32) (T := TX7) X hxo (fun _ _ _ _ h => h.1) hC lw_good (Nat.le_refl _) (mm_lo d) rfl (by decide) tw_441 tw_442 tw_397 rfl (by decide) tw_443 tw_444 (by decide +kernel) (by decide +kernel) ?_
    refine so_aload_n (pc := 31) (i := 0) X (by decide +kernel) ?_
    refine so_cav (pc := 32) (y := 119) (na := 1) (index := 169) (maxL := 4) (nm := yX7_leaf) (bytes := cX7_leaf) (ret := none) (ci := 7) (N := 32) (T := TX7) X hxo (fun _ _ _ _ h => h.1) hC lw_good (Nat.le_refl _) (mm_lo d) rfl (by decide) tw_477 tw_478 tw_397 rfl (by decide) tw_479 tw_480 (by decide +kernel) (by decide +kernel) ?_
    refine so_aload_n (pc := 35) (i := 0) X (by decide +kernel) ?_
    refine so_iload_n (pc := 36) (i := 1) X (by decide +kernel) ?_
    refine so_cav (pc := 37) (y := 112) (na := 2) (index := 145) (maxL := 2) (nm := yX7_put) (bytes := cX7_put) (ret := none) (ci := 7) (N := 32) (T := TX7) X hxo (fun _ _ _ _ h => h.1) hC lw_good (Nat.le_refl _) (mm_lo d) rfl (by decide) tw_445 tw_446 tw_397 rfl (by decide) tw_447 tw_448 (by decide +kernel) (by decide +kernel) ?_
    exact so_goto (pc := 40) (off := (-36)) (tgt := 4) X (by decide +kernel) (by decide) (hJ 1)
  | 3 =>
    exact so_rtv (pc := 43) X hlk hfree hr (by decide +kernel)
  | n + 4 => exact fun _ _ _ _ h => h.elim
theorem bs_X7_times {l : Launch} {D : va_G} {EXT : (Nat → Nat) → (Nat → Prop) → State → Heap → Prop} (hxo : mm_xo EXT) (hxe : ∀ ad A U H, EXT ad A U H → px_E0 ad A U H) : mm_BS l D pcl lw_T EXT px_tab 118 pb_X7_times pp_X7_times := by
  intro d C hC p e s m args below meth c A ad0 cA0 μ0 free Q J
  rw [tb_118]
  exact fun X hr hlk hnm hfree hJ => bk_X7_times hxo hxe hC X hr hlk hnm hfree hJ
set_option maxHeartbeats 4000000 in
set_option maxRecDepth 100000 in
theorem bk_X7_leaf {l : Launch} {D : va_G} {EXT : (Nat → Nat) → (Nat → Prop) → State → Heap → Prop} (hxo : mm_xo EXT) (hxe : ∀ ad A U H, EXT ad A U H → px_E0 ad A U H) {d : Nat} {C : mm_C} (hC : mm_CS l D pcl lw_T EXT px_tab d C) {p : Program} {e : Env} {s : State} {m : MethodId} {args : Array Value} {below : List Frame} {meth : Method} {c : Code} {A : Nat → Prop} {ad0 : Nat → Nat} {cA0 : Nat → ClassId} {μ0 : mm_M} {free : Addr → Prop} {Q : mm_Q} {J : mm_J} (X : mm_cx p (mm_rm (d + 1) 0 0) s m args c cX7_leaf RX7 lw_T A D pcl 4) (hr : meth.sig.returnType = none) (hlk : meth.locks = false) (hnm : meth.name = "leaf") (hfree : ∀ q, A q → free q) (hJ : ∀ t, mm_SK p l e (mm_rm (d + 1) 0 0) s m args below meth c (MQ below (mm_Qc D pcl Q ad0 cA0 μ0 0 A) args s 0 0 free) D pcl A 4 (mm_EX EXT A s ad0 cA0 (mm_n μ0)) (pp_X7_leaf t) (J t)) : ∀ t, mm_SK p l e (mm_rm (d + 1) 0 0) s m args below meth c (MQ below (mm_Qc D pcl Q ad0 cA0 μ0 0 A) args s 0 0 free) D pcl A 4 (mm_EX EXT A s ad0 cA0 (mm_n μ0)) (pp_X7_leaf t) (pb_X7_leaf J C Q t) := by
  intro t
  match t with
  | 0 =>
    refine so_iconst (pc := 0) (n := 0) (v := 0) X (by decide +kernel) (by decide) ?_
    refine so_istore_n (pc := 1) (i := 1) X (by decide +kernel) (by decide) ?_
    exact so_fall X (hJ 1)
  | 1 =>
    refine so_aload_n (pc := 2) (i := 0) X (by decide +kernel) ?_
    refine so_bipush (pc := 3) (n := 45) (v := 45) X (by decide +kernel) (by decide) ?_
    refine so_cav (pc := 5) (y := 111) (na := 2) (index := 154) (maxL := 2) (nm := yX7_isSign) (bytes := cX7_isSign) (ret := (some .boolean)) (ci := 7) (N := 32) (T := TX7) X hxo (fun _ _ _ _ h => h.1) hC lw_good (Nat.le_refl _) (mm_lo d) rfl (by decide) tw_457 tw_458 tw_397 rfl (by decide) tw_459 tw_460 (by decide +kernel) (by decide +kernel) ?_
    refine so_if_eq (pc := 8) (off := 13) (tgt := 21) X (by decide +kernel) (by decide) (hJ 2) ?_
    refine so_iinc (pc := 11) (i := 1) (n := 1) (y := 1) X (by decide +kernel) (by decide) (by decide) ?_
    refine so_aload_n (pc := 14) (i := 0) X (by decide +kernel) ?_
    refine so_cav (pc := 15) (y := 110) (na := 1) (index := 142) (maxL := 1) (nm := yX7_take) (bytes := cX7_take) (ret := none) (ci := 7) (N := 32) (T := TX7) X hxo (fun _ _ _ _ h => h.1) hC lw_good (Nat.le_refl _) (mm_lo d) rfl (by decide) tw_441 tw_442 tw_397 rfl (by decide) tw_443 tw_444 (by decide +kernel) (by decide +kernel) ?_
    exact so_goto (pc := 18) (off := (-16)) (tgt := 2) X (by decide +kernel) (by decide) (hJ 1)
  | 2 =>
    refine so_aload_n (pc := 21) (i := 0) X (by decide +kernel) ?_
    refine so_geti (pc := 22) (index := 117) (ci := 7) (f := 23) (N := 32) (C := RX7) (T := TX7) X rfl uX7 (by decide) (by decide) tw_424 rfl (by decide) (by decide +kernel) ?_
    refine so_if_eq (pc := 25) (off := 4) (tgt := 29) X (by decide +kernel) (by decide) (hJ 3) ?_
    exact so_rtv (pc := 28) X hlk hfree hr (by decide +kernel)
  | 3 =>
    refine so_aload_n (pc := 29) (i := 0) X (by decide +kernel) ?_
    refine so_geti (pc := 30) (index := 104) (ci := 7) (f := 20) (N := 32) (C := RX7) (T := TX7) X rfl uX7 (by decide) (by decide) tw_413 rfl (by decide) (by decide +kernel) ?_
    refine so_if_ge (pc := 33) (off := 21) (tgt := 54) X (by decide +kernel) (by decide) (hJ 4) ?_
    refine so_aload_n (pc := 36) (i := 0) X (by decide +kernel) ?_
    refine so_geti (pc := 37) (index := 104) (ci := 7) (f := 20) (N := 32) (C := RX7) (T := TX7) X rfl uX7 (by decide) (by decide) tw_413 rfl (by decide) (by decide +kernel) ?_
    refine so_bipush (pc := 40) (n := (-20)) (v := (-20)) X (by decide +kernel) (by decide) ?_
    refine so_icmp_gt (pc := 42) (off := 48) (tgt := 90) X (by decide +kernel) (by decide) (hJ 7) ?_
    refine so_aload_n (pc := 45) (i := 0) X (by decide +kernel) ?_
    refine so_geti (pc := 46) (index := 104) (ci := 7) (f := 20) (N := 32) (C := RX7) (T := TX7) X rfl uX7 (by decide) (by decide) tw_413 rfl (by decide) (by decide +kernel) ?_
    refine so_bipush (pc := 49) (n := (-24)) (v := (-24)) X (by decide +kernel) (by decide) ?_
    refine so_icmp_le (pc := 51) (off := 39) (tgt := 90) X (by decide +kernel) (by decide) (hJ 7) ?_
    exact so_fall X (hJ 4)
  | 4 =>
    refine so_aload_n (pc := 54) (i := 0) X (by decide +kernel) ?_
    refine so_geti (pc := 55) (index := 104) (ci := 7) (f := 20) (N := 32) (C := RX7) (T := TX7) X rfl uX7 (by decide) (by decide) tw_413 rfl (by decide) (by decide +kernel) ?_
    refine so_istore_n (pc := 58) (i := 2) X (by decide +kernel) (by decide) ?_
    refine so_aload_n (pc := 59) (i := 0) X (by decide +kernel) ?_
    refine so_cav (pc := 60) (y := 110) (na := 1) (index := 142) (maxL := 1) (nm := yX7_take) (bytes := cX7_take) (ret := none) (ci := 7) (N := 32) (T := TX7) X hxo (fun _ _ _ _ h => h.1) hC lw_good (Nat.le_refl _) (mm_lo d) rfl (by decide) tw_441 tw_442 tw_397 rfl (by decide) tw_443 tw_444 (by decide +kernel) (by decide +kernel) ?_
    refine so_aload_n (pc := 63) (i := 0) X (by decide +kernel) ?_
    refine so_iload_n (pc := 64) (i := 2) X (by decide +kernel) ?_
    refine so_cav (pc := 65) (y := 112) (na := 2) (index := 145) (maxL := 2) (nm := yX7_put) (bytes := cX7_put) (ret := none) (ci := 7) (N := 32) (T := TX7) X hxo (fun _ _ _ _ h => h.1) hC lw_good (Nat.le_refl _) (mm_lo d) rfl (by decide) tw_445 tw_446 tw_397 rfl (by decide) tw_447 tw_448 (by decide +kernel) (by decide +kernel) ?_
    refine so_iconst (pc := 68) (n := 0) (v := 0) X (by decide +kernel) (by decide) ?_
    refine so_istore_n (pc := 69) (i := 3) X (by decide +kernel) (by decide) ?_
    exact so_fall X (hJ 5)
  | 5 =>
    refine so_iload_n (pc := 70) (i := 3) X (by decide +kernel) ?_
    refine so_iload_n (pc := 71) (i := 1) X (by decide +kernel) ?_
    refine so_icmp_ge (pc := 72) (off := 15) (tgt := 87) X (by decide +kernel) (by decide) (hJ 6) ?_
    refine so_aload_n (pc := 75) (i := 0) X (by decide +kernel) ?_
    refine so_bipush (pc := 76) (n := (-30)) (v := (-30)) X (by decide +kernel) (by decide) ?_
    refine so_cav (pc := 78) (y := 112) (na := 2) (index := 145) (maxL := 2) (nm := yX7_put) (bytes := cX7_put) (ret := none) (ci := 7) (N := 32) (T := TX7) X hxo (fun _ _ _ _ h => h.1) hC lw_good (Nat.le_refl _) (mm_lo d) rfl (by decide) tw_445 tw_446 tw_397 rfl (by decide) tw_447 tw_448 (by decide +kernel) (by decide +kernel) ?_
    refine so_iinc (pc := 81) (i := 3) (n := 1) (y := 1) X (by decide +kernel) (by decide) (by decide) ?_
    exact so_goto (pc := 84) (off := (-14)) (tgt := 70) X (by decide +kernel) (by decide) (hJ 5)
  | 6 =>
    exact so_goto (pc := 87) (off := 7) (tgt := 94) X (by decide +kernel) (by decide) (hJ 8)
  | 7 =>
    refine so_aload_n (pc := 90) (i := 0) X (by decide +kernel) ?_
    refine so_cav (pc := 91) (y := 109) (na := 1) (index := 160) (maxL := 1) (nm := yX7_odd) (bytes := cX7_odd) (ret := none) (ci := 7) (N := 32) (T := TX7) X hxo (fun _ _ _ _ h => h.1) hC lw_good (Nat.le_refl _) (mm_lo d) rfl (by decide) tw_465 tw_466 tw_397 rfl (by decide) tw_467 tw_468 (by decide +kernel) (by decide +kernel) ?_
    exact so_fall X (hJ 8)
  | 8 =>
    exact so_rtv (pc := 94) X hlk hfree hr (by decide +kernel)
  | n + 9 => exact fun _ _ _ _ h => h.elim
theorem bs_X7_leaf {l : Launch} {D : va_G} {EXT : (Nat → Nat) → (Nat → Prop) → State → Heap → Prop} (hxo : mm_xo EXT) (hxe : ∀ ad A U H, EXT ad A U H → px_E0 ad A U H) : mm_BS l D pcl lw_T EXT px_tab 119 pb_X7_leaf pp_X7_leaf := by
  intro d C hC p e s m args below meth c A ad0 cA0 μ0 free Q J
  rw [tb_119]
  exact fun X hr hlk hnm hfree hJ => bk_X7_leaf hxo hxe hC X hr hlk hnm hfree hJ
set_option maxHeartbeats 4000000 in
set_option maxRecDepth 100000 in
theorem bk_X7_reads {l : Launch} {D : va_G} {EXT : (Nat → Nat) → (Nat → Prop) → State → Heap → Prop} (hxo : mm_xo EXT) (hxe : ∀ ad A U H, EXT ad A U H → px_E0 ad A U H) {d : Nat} {C : mm_C} (hC : mm_CS l D pcl lw_T EXT px_tab d C) {p : Program} {e : Env} {s : State} {m : MethodId} {args : Array Value} {below : List Frame} {meth : Method} {c : Code} {A : Nat → Prop} {ad0 : Nat → Nat} {cA0 : Nat → ClassId} {μ0 : mm_M} {free : Addr → Prop} {Q : mm_Q} {J : mm_J} (X : mm_cx p (mm_rm (d + 1) 0 0) s m args c cX7_reads RX7 lw_T A D pcl 1) (hr : meth.sig.returnType = some .boolean) (hlk : meth.locks = false) (hnm : meth.name = "reads") (hfree : ∀ q, A q → free q) (hJ : ∀ t, mm_SK p l e (mm_rm (d + 1) 0 0) s m args below meth c (MQ below (mm_Qc D pcl Q ad0 cA0 μ0 0 A) args s 0 0 free) D pcl A 1 (mm_EX EXT A s ad0 cA0 (mm_n μ0)) (pp_X7_reads t) (J t)) : ∀ t, mm_SK p l e (mm_rm (d + 1) 0 0) s m args below meth c (MQ below (mm_Qc D pcl Q ad0 cA0 μ0 0 A) args s 0 0 free) D pcl A 1 (mm_EX EXT A s ad0 cA0 (mm_n μ0)) (pp_X7_reads t) (pb_X7_reads J C Q t) := by
  intro t
  match t with
  | 0 =>
    refine so_aload_n (pc := 0) (i := 0) X (by decide +kernel) ?_
    refine so_iconst (pc := 1) (n := 0) (v := 0) X (by decide +kernel) (by decide) ?_
    refine so_puti (pc := 2) (index := 98) (ci := 7) (f := 19) (N := 32) (C := RX7) (T := TX7) X rfl uX7 (by decide) (by decide) tw_411 tyX7 tyX7_ok nmX7 rfl (by decide +kernel) rfl (by decide +kernel) ?_
    refine so_aload_n (pc := 5) (i := 0) X (by decide +kernel) ?_
    refine so_iconst (pc := 6) (n := 0) (v := 0) X (by decide +kernel) (by decide) ?_
    refine so_puti (pc := 7) (index := 127) (ci := 7) (f := 22) (N := 32) (C := RX7) (T := TX7) X rfl uX7 (by decide) (by decide) tw_430 tyX7 tyX7_ok nmX7 rfl (by decide +kernel) rfl (by decide +kernel) ?_
    refine so_aload_n (pc := 10) (i := 0) X (by decide +kernel) ?_
    refine so_iconst (pc := 11) (n := 0) (v := 0) X (by decide +kernel) (by decide) ?_
    refine so_puti (pc := 12) (index := 117) (ci := 7) (f := 23) (N := 32) (C := RX7) (T := TX7) X rfl uX7 (by decide) (by decide) tw_424 tyX7 tyX7_ok nmX7 rfl (by decide +kernel) rfl (by decide +kernel) ?_
    refine so_aload_n (pc := 15) (i := 0) X (by decide +kernel) ?_
    refine so_iconst (pc := 16) (n := 0) (v := 0) X (by decide +kernel) (by decide) ?_
    refine so_puti (pc := 17) (index := 136) (ci := 7) (f := 25) (N := 32) (C := RX7) (T := TX7) X rfl uX7 (by decide) (by decide) tw_436 tyX7 tyX7_ok nmX7 rfl (by decide +kernel) rfl (by decide +kernel) ?_
    refine so_aload_n (pc := 20) (i := 0) X (by decide +kernel) ?_
    refine so_iconst (pc := 21) (n := 0) (v := 0) X (by decide +kernel) (by decide) ?_
    refine so_puti (pc := 22) (index := 133) (ci := 7) (f := 26) (N := 32) (C := RX7) (T := TX7) X rfl uX7 (by decide) (by decide) tw_435 tyX7 tyX7_ok nmX7 rfl (by decide +kernel) rfl (by decide +kernel) ?_
    refine so_aload_n (pc := 25) (i := 0) X (by decide +kernel) ?_
    refine so_cav (pc := 26) (y := 107) (na := 1) (index := 130) (maxL := 4) (nm := yX7_next) (bytes := cX7_next) (ret := none) (ci := 7) (N := 32) (T := TX7) X hxo (fun _ _ _ _ h => h.1) hC lw_good (Nat.le_refl _) (mm_lo d) rfl (by decide) tw_431 tw_432 tw_397 rfl (by decide) tw_433 tw_434 (by decide +kernel) (by decide +kernel) ?_
    refine so_aload_n (pc := 29) (i := 0) X (by decide +kernel) ?_
    refine so_cav (pc := 30) (y := 114) (na := 1) (index := 157) (maxL := 1) (nm := yX7_any) (bytes := cX7_any) (ret := none) (ci := 7) (N := 32) (T := TX7) X hxo (fun _ _ _ _ h => h.1) hC lw_good (Nat.le_refl _) (mm_lo d) rfl (by decide) tw_461 tw_462 tw_397 rfl (by decide) tw_463 tw_464 (by decide +kernel) (by decide +kernel) ?_
    refine so_aload_n (pc := 33) (i := 0) X (by decide +kernel) ?_
    refine so_geti (pc := 34) (index := 117) (ci := 7) (f := 23) (N := 32) (C := RX7) (T := TX7) X rfl uX7 (by decide) (by decide) tw_424 rfl (by decide) (by decide +kernel) ?_
    refine so_if_ne (pc := 37) (off := 15) (tgt := 52) X (by decide +kernel) (by decide) (hJ 1) ?_
    refine so_aload_n (pc := 40) (i := 0) X (by decide +kernel) ?_
    refine so_geti (pc := 41) (index := 104) (ci := 7) (f := 20) (N := 32) (C := RX7) (T := TX7) X rfl uX7 (by decide) (by decide) tw_413 rfl (by decide) (by decide +kernel) ?_
    refine so_iconst (pc := 44) (n := (-1)) (v := (-1)) X (by decide +kernel) (by decide) ?_
    refine so_icmp_eq (pc := 45) (off := 7) (tgt := 52) X (by decide +kernel) (by decide) (hJ 1) ?_
    refine so_aload_n (pc := 48) (i := 0) X (by decide +kernel) ?_
    refine so_cav (pc := 49) (y := 109) (na := 1) (index := 160) (maxL := 1) (nm := yX7_odd) (bytes := cX7_odd) (ret := none) (ci := 7) (N := 32) (T := TX7) X hxo (fun _ _ _ _ h => h.1) hC lw_good (Nat.le_refl _) (mm_lo d) rfl (by decide) tw_465 tw_466 tw_397 rfl (by decide) tw_467 tw_468 (by decide +kernel) (by decide +kernel) ?_
    exact so_fall X (hJ 1)
  | 1 =>
    refine so_aload_n (pc := 52) (i := 0) X (by decide +kernel) ?_
    refine so_iconst (pc := 53) (n := 0) (v := 0) X (by decide +kernel) (by decide) ?_
    refine so_puti (pc := 54) (index := 81) (ci := 7) (f := 5) (N := 32) (C := RX7) (T := TX7) X rfl uX7 (by decide) (by decide) tw_403 tyX7 tyX7_ok nmX7 rfl (by decide +kernel) rfl (by decide +kernel) ?_
    refine so_aload_n (pc := 57) (i := 0) X (by decide +kernel) ?_
    refine so_aload_n (pc := 58) (i := 0) X (by decide +kernel) ?_
    refine so_geti (pc := 59) (index := 117) (ci := 7) (f := 23) (N := 32) (C := RX7) (T := TX7) X rfl uX7 (by decide) (by decide) tw_424 rfl (by decide) (by decide +kernel) ?_
    refine so_if_ne (pc := 62) (off := 7) (tgt := 69) X (by decide +kernel) (by decide) (hJ 2) ?_
    refine so_iconst (pc := 65) (n := (-1)) (v := (-1)) X (by decide +kernel) (by decide) ?_
    exact so_goto (pc := 66) (off := 7) (tgt := 73) X (by decide +kernel) (by decide) (hJ 3)
  | 2 =>
    refine so_aload_n (pc := 69) (i := 0) X (by decide +kernel) ?_
    refine so_geti (pc := 70) (index := 120) (ci := 7) (f := 24) (N := 32) (C := RX7) (T := TX7) X rfl uX7 (by decide) (by decide) tw_425 rfl (by decide) (by decide +kernel) ?_
    exact so_fall X (hJ 3)
  | 3 =>
    refine so_puti (pc := 73) (index := 17) (ci := 7) (f := 6) (N := 32) (C := RX7) (T := TX7) X rfl uX7 (by decide) (by decide) tw_377 tyX7 tyX7_ok nmX7 rfl (by decide +kernel) rfl (by decide +kernel) ?_
    refine so_aload_n (pc := 76) (i := 0) X (by decide +kernel) ?_
    refine so_getr (pc := 77) (index := 24) (ci := 7) (f := 8) (N := 32) (C := RX7) (T := TX7) X rfl uX7 (by decide) (by decide) tw_379 rfl (by decide +kernel) ?_
    refine so_bipush (pc := 80) (n := 9) (v := 9) X (by decide +kernel) (by decide) ?_
    refine so_aload_n (pc := 82) (i := 0) X (by decide +kernel) ?_
    refine so_geti (pc := 83) (index := 133) (ci := 7) (f := 26) (N := 32) (C := RX7) (T := TX7) X rfl uX7 (by decide) (by decide) tw_435 rfl (by decide) (by decide +kernel) ?_
    refine so_iast (pc := 86) X (by decide +kernel) ?_
    refine so_aload_n (pc := 87) (i := 0) X (by decide +kernel) ?_
    refine so_geti (pc := 88) (index := 117) (ci := 7) (f := 23) (N := 32) (C := RX7) (T := TX7) X rfl uX7 (by decide) (by decide) tw_424 rfl (by decide) (by decide +kernel) ?_
    refine so_if_ne (pc := 91) (off := 7) (tgt := 98) X (by decide +kernel) (by decide) (hJ 4) ?_
    refine so_iconst (pc := 94) (n := 1) (v := 1) X (by decide +kernel) (by decide) ?_
    exact so_goto (pc := 95) (off := 4) (tgt := 99) X (by decide +kernel) (by decide) (hJ 5)
  | 4 =>
    refine so_iconst (pc := 98) (n := 0) (v := 0) X (by decide +kernel) (by decide) ?_
    exact so_fall X (hJ 5)
  | 5 =>
    exact so_rtz (pc := 99) X hlk hfree hr (by decide +kernel)
  | n + 6 => exact fun _ _ _ _ h => h.elim
theorem bs_X7_reads {l : Launch} {D : va_G} {EXT : (Nat → Nat) → (Nat → Prop) → State → Heap → Prop} (hxo : mm_xo EXT) (hxe : ∀ ad A U H, EXT ad A U H → px_E0 ad A U H) : mm_BS l D pcl lw_T EXT px_tab 120 pb_X7_reads pp_X7_reads := by
  intro d C hC p e s m args below meth c A ad0 cA0 μ0 free Q J
  rw [tb_120]
  exact fun X hr hlk hnm hfree hJ => bk_X7_reads hxo hxe hC X hr hlk hnm hfree hJ
set_option maxHeartbeats 4000000 in
set_option maxRecDepth 100000 in
theorem bk_X7_keep {l : Launch} {D : va_G} {EXT : (Nat → Nat) → (Nat → Prop) → State → Heap → Prop} (hxo : mm_xo EXT) (hxe : ∀ ad A U H, EXT ad A U H → px_E0 ad A U H) {d : Nat} {C : mm_C} (hC : mm_CS l D pcl lw_T EXT px_tab d C) {p : Program} {e : Env} {s : State} {m : MethodId} {args : Array Value} {below : List Frame} {meth : Method} {c : Code} {A : Nat → Prop} {ad0 : Nat → Nat} {cA0 : Nat → ClassId} {μ0 : mm_M} {free : Addr → Prop} {Q : mm_Q} {J : mm_J} (X : mm_cx p (mm_rm (d + 1) 0 0) s m args c cX7_keep RX7 lw_T A D pcl 3) (hr : meth.sig.returnType = none) (hlk : meth.locks = false) (hnm : meth.name = "keep") (hfree : ∀ q, A q → free q) (hJ : ∀ t, mm_SK p l e (mm_rm (d + 1) 0 0) s m args below meth c (MQ below (mm_Qc D pcl Q ad0 cA0 μ0 0 A) args s 0 0 free) D pcl A 3 (mm_EX EXT A s ad0 cA0 (mm_n μ0)) (pp_X7_keep t) (J t)) : ∀ t, mm_SK p l e (mm_rm (d + 1) 0 0) s m args below meth c (MQ below (mm_Qc D pcl Q ad0 cA0 μ0 0 A) args s 0 0 free) D pcl A 3 (mm_EX EXT A s ad0 cA0 (mm_n μ0)) (pp_X7_keep t) (pb_X7_keep J C Q t) := by
  intro t
  match t with
  | 0 =>
    refine so_iconst (pc := 0) (n := 0) (v := 0) X (by decide +kernel) (by decide) ?_
    refine so_istore_n (pc := 1) (i := 2) X (by decide +kernel) (by decide) ?_
    exact so_fall X (hJ 1)
  | 1 =>
    refine so_iload_n (pc := 2) (i := 2) X (by decide +kernel) ?_
    refine so_aload_n (pc := 3) (i := 0) X (by decide +kernel) ?_
    refine so_getr (pc := 4) (index := 24) (ci := 7) (f := 8) (N := 32) (C := RX7) (T := TX7) X rfl uX7 (by decide) (by decide) tw_379 rfl (by decide +kernel) ?_
    refine so_bipush (pc := 7) (n := 9) (v := 9) X (by decide +kernel) (by decide) ?_
    refine so_iald (pc := 9) X (by decide +kernel) ?_
    refine so_icmp_ge (pc := 10) (off := 30) (tgt := 40) X (by decide +kernel) (by decide) (hJ 2) ?_
    refine so_aload_n (pc := 13) (i := 0) X (by decide +kernel) ?_
    refine so_getr (pc := 14) (index := 21) (ci := 7) (f := 7) (N := 32) (C := RX7) (T := TX7) X rfl uX7 (by decide) (by decide) tw_378 rfl (by decide +kernel) ?_
    refine so_bipush (pc := 17) (n := 64) (v := 64) X (by decide +kernel) (by decide) ?_
    refine so_iload_n (pc := 19) (i := 1) X (by decide +kernel) ?_
    refine so_imul (pc := 20) X (by decide +kernel) ?_
    refine so_iload_n (pc := 21) (i := 2) X (by decide +kernel) ?_
    refine so_iadd (pc := 22) X (by decide +kernel) ?_
    refine so_aload_n (pc := 23) (i := 0) X (by decide +kernel) ?_
    refine so_getr (pc := 24) (index := 21) (ci := 7) (f := 7) (N := 32) (C := RX7) (T := TX7) X rfl uX7 (by decide) (by decide) tw_378 rfl (by decide +kernel) ?_
    refine so_sipush (pc := 27) (n := 576) (v := 576) X (by decide +kernel) (by decide) ?_
    refine so_iload_n (pc := 30) (i := 2) X (by decide +kernel) ?_
    refine so_iadd (pc := 31) X (by decide +kernel) ?_
    refine so_iald (pc := 32) X (by decide +kernel) ?_
    refine so_iast (pc := 33) X (by decide +kernel) ?_
    refine so_iinc (pc := 34) (i := 2) (n := 1) (y := 1) X (by decide +kernel) (by decide) (by decide) ?_
    exact so_goto (pc := 37) (off := (-35)) (tgt := 2) X (by decide +kernel) (by decide) (hJ 1)
  | 2 =>
    refine so_aload_n (pc := 40) (i := 0) X (by decide +kernel) ?_
    refine so_getr (pc := 41) (index := 24) (ci := 7) (f := 8) (N := 32) (C := RX7) (T := TX7) X rfl uX7 (by decide) (by decide) tw_379 rfl (by decide +kernel) ?_
    refine so_iload_n (pc := 44) (i := 1) X (by decide +kernel) ?_
    refine so_aload_n (pc := 45) (i := 0) X (by decide +kernel) ?_
    refine so_getr (pc := 46) (index := 24) (ci := 7) (f := 8) (N := 32) (C := RX7) (T := TX7) X rfl uX7 (by decide) (by decide) tw_379 rfl (by decide +kernel) ?_
    refine so_bipush (pc := 49) (n := 9) (v := 9) X (by decide +kernel) (by decide) ?_
    refine so_iald (pc := 51) X (by decide +kernel) ?_
    refine so_iast (pc := 52) X (by decide +kernel) ?_
    exact so_rtv (pc := 53) X hlk hfree hr (by decide +kernel)
  | n + 3 => exact fun _ _ _ _ h => h.elim
theorem bs_X7_keep {l : Launch} {D : va_G} {EXT : (Nat → Nat) → (Nat → Prop) → State → Heap → Prop} (hxo : mm_xo EXT) (hxe : ∀ ad A U H, EXT ad A U H → px_E0 ad A U H) : mm_BS l D pcl lw_T EXT px_tab 121 pb_X7_keep pp_X7_keep := by
  intro d C hC p e s m args below meth c A ad0 cA0 μ0 free Q J
  rw [tb_121]
  exact fun X hr hlk hnm hfree hJ => bk_X7_keep hxo hxe hC X hr hlk hnm hfree hJ
set_option maxHeartbeats 4000000 in
set_option maxRecDepth 100000 in
theorem bk_X7_place {l : Launch} {D : va_G} {EXT : (Nat → Nat) → (Nat → Prop) → State → Heap → Prop} (hxo : mm_xo EXT) (hxe : ∀ ad A U H, EXT ad A U H → px_E0 ad A U H) {d : Nat} {C : mm_C} (hC : mm_CS l D pcl lw_T EXT px_tab d C) {p : Program} {e : Env} {s : State} {m : MethodId} {args : Array Value} {below : List Frame} {meth : Method} {c : Code} {A : Nat → Prop} {ad0 : Nat → Nat} {cA0 : Nat → ClassId} {μ0 : mm_M} {free : Addr → Prop} {Q : mm_Q} {J : mm_J} (X : mm_cx p (mm_rm (d + 1) 0 0) s m args c cX7_place RX7 lw_T A D pcl 1) (hr : meth.sig.returnType = some .int) (hlk : meth.locks = false) (hnm : meth.name = "place") (hfree : ∀ q, A q → free q) (hJ : ∀ t, mm_SK p l e (mm_rm (d + 1) 0 0) s m args below meth c (MQ below (mm_Qc D pcl Q ad0 cA0 μ0 0 A) args s 0 0 free) D pcl A 1 (mm_EX EXT A s ad0 cA0 (mm_n μ0)) (pp_X7_place t) (J t)) : ∀ t, mm_SK p l e (mm_rm (d + 1) 0 0) s m args below meth c (MQ below (mm_Qc D pcl Q ad0 cA0 μ0 0 A) args s 0 0 free) D pcl A 1 (mm_EX EXT A s ad0 cA0 (mm_n μ0)) (pp_X7_place t) (pb_X7_place J C Q t) := by
  intro t
  match t with
  | 0 =>
    refine so_aload_n (pc := 0) (i := 0) X (by decide +kernel) ?_
    refine so_iconst (pc := 1) (n := 0) (v := 0) X (by decide +kernel) (by decide) ?_
    refine so_puti (pc := 2) (index := 62) (ci := 7) (f := 0) (N := 32) (C := RX7) (T := TX7) X rfl uX7 (by decide) (by decide) tw_391 tyX7 tyX7_ok nmX7 rfl (by decide +kernel) rfl (by decide +kernel) ?_
    refine so_aload_n (pc := 5) (i := 0) X (by decide +kernel) ?_
    refine so_geti (pc := 6) (index := 17) (ci := 7) (f := 6) (N := 32) (C := RX7) (T := TX7) X rfl uX7 (by decide) (by decide) tw_377 rfl (by decide) (by decide +kernel) ?_
    exact so_ret (pc := 9) X hlk hfree hr (by decide +kernel)
  | n + 1 => exact fun _ _ _ _ h => h.elim
theorem bs_X7_place {l : Launch} {D : va_G} {EXT : (Nat → Nat) → (Nat → Prop) → State → Heap → Prop} (hxo : mm_xo EXT) (hxe : ∀ ad A U H, EXT ad A U H → px_E0 ad A U H) : mm_BS l D pcl lw_T EXT px_tab 122 pb_X7_place pp_X7_place := by
  intro d C hC p e s m args below meth c A ad0 cA0 μ0 free Q J
  rw [tb_122]
  exact fun X hr hlk hnm hfree hJ => bk_X7_place hxo hxe hC X hr hlk hnm hfree hJ
