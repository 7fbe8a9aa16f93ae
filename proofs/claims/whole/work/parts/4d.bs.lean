set_option maxHeartbeats 4000000 in
set_option maxRecDepth 100000 in
theorem bk_X7_reduce {l : Launch} {D : va_G} {EXT : (Nat → Nat) → (Nat → Prop) → State → Heap → Prop} (hxo : mm_xo EXT) (hxe : ∀ ad A U H, EXT ad A U H → px_E0 ad A U H) {d : Nat} {C : mm_C} (hC : mm_CS l D pcl lw_T EXT px_tab d C) {p : Program} {e : Env} {s : State} {m : MethodId} {args : Array Value} {below : List Frame} {meth : Method} {c : Code} {A : Nat → Prop} {ad0 : Nat → Nat} {cA0 : Nat → ClassId} {μ0 : mm_M} {free : Addr → Prop} {Q : mm_Q} {J : mm_J} (X : mm_cx p (mm_rm (d + 1) 0 0) s m args c cX7_reduce RX7 lw_T A D pcl 8) (hr : meth.sig.returnType = none) (hlk : meth.locks = false) (hnm : meth.name = "reduce") (hfree : ∀ q, A q → free q) (hJ : ∀ t, mm_SK p l e (mm_rm (d + 1) 0 0) s m args below meth c (MQ below (mm_Qc D pcl Q ad0 cA0 μ0 0 A) args s 0 0 free) D pcl A 8 (mm_EX EXT A s ad0 cA0 (mm_n μ0)) (pp_X7_reduce t) (J t)) : ∀ t, mm_SK p l e (mm_rm (d + 1) 0 0) s m args below meth c (MQ below (mm_Qc D pcl Q ad0 cA0 μ0 0 A) args s 0 0 free) D pcl A 8 (mm_EX EXT A s ad0 cA0 (mm_n μ0)) (pp_X7_reduce t) (pb_X7_reduce J C Q t) := by
  intro t
  match t with
  | 0 =>
    refine so_iconst (pc := 0) (n := 0) (v := 0) X (by decide +kernel) (by decide) ?_
    refine so_istore (pc := 1) (i := 4) X (by decide +kernel) (by decide) ?_
    refine so_iconst (pc := 3) (n := 0) (v := 0) X (by decide +kernel) (by decide) ?_
    refine so_istore (pc := 4) (i := 5) X (by decide +kernel) (by decide) ?_
    exact so_fall X (hJ 1)
  | 1 =>
    refine so_iload (pc := 6) (i := 5) X (by decide +kernel) ?_
    refine so_aload_n (pc := 8) (i := 0) X (by decide +kernel) ?_
    refine so_geti (pc := 9) (index := 71) (ci := 7) (f := 18) (N := 32) (C := RX7) (T := TX7) X rfl uX7 (by decide) (by decide) tw_394 rfl (by decide) (by decide +kernel) ?_
    refine so_icmp_gt (pc := 12) (off := 95) (tgt := 107) X (by decide +kernel) (by decide) (hJ 8) ?_
    refine so_iload (pc := 15) (i := 5) X (by decide +kernel) ?_
    refine so_aload_n (pc := 17) (i := 0) X (by decide +kernel) ?_
    refine so_geti (pc := 18) (index := 71) (ci := 7) (f := 18) (N := 32) (C := RX7) (T := TX7) X rfl uX7 (by decide) (by decide) tw_394 rfl (by decide) (by decide +kernel) ?_
    refine so_icmp_ne (pc := 21) (off := 7) (tgt := 28) X (by decide +kernel) (by decide) (hJ 2) ?_
    refine so_iload_n (pc := 24) (i := 3) X (by decide +kernel) ?_
    exact so_goto (pc := 25) (off := 29) (tgt := 54) X (by decide +kernel) (by decide) (hJ 4)
  | 2 =>
    refine so_aload_n (pc := 28) (i := 0) X (by decide +kernel) ?_
    refine so_getr (pc := 29) (index := 43) (ci := 7) (f := 16) (N := 32) (C := RX7) (T := TX7) X rfl uX7 (by decide) (by decide) tw_385 rfl (by decide +kernel) ?_
    refine so_iload (pc := 32) (i := 5) X (by decide +kernel) ?_
    refine so_iald (pc := 34) X (by decide +kernel) ?_
    refine so_iconst (pc := 35) (n := 4) (v := 4) X (by decide +kernel) (by decide) ?_
    refine so_iload_n (pc := 36) (i := 1) X (by decide +kernel) ?_
    refine so_imul (pc := 37) X (by decide +kernel) ?_
    refine so_iload_n (pc := 38) (i := 2) X (by decide +kernel) ?_
    refine so_iadd (pc := 39) X (by decide +kernel) ?_
    refine so_icmp_ne (pc := 40) (off := 13) (tgt := 53) X (by decide +kernel) (by decide) (hJ 3) ?_
    refine so_aload_n (pc := 43) (i := 0) X (by decide +kernel) ?_
    refine so_getr (pc := 44) (index := 46) (ci := 7) (f := 17) (N := 32) (C := RX7) (T := TX7) X rfl uX7 (by decide) (by decide) tw_386 rfl (by decide +kernel) ?_
    refine so_iload (pc := 47) (i := 5) X (by decide +kernel) ?_
    refine so_iald (pc := 49) X (by decide +kernel) ?_
    exact so_goto (pc := 50) (off := 4) (tgt := 54) X (by decide +kernel) (by decide) (hJ 4)
  | 3 =>
    refine so_iconst (pc := 53) (n := 0) (v := 0) X (by decide +kernel) (by decide) ?_
    exact so_fall X (hJ 4)
  | 4 =>
    refine so_istore (pc := 54) (i := 6) X (by decide +kernel) (by decide) ?_
    refine so_iload (pc := 56) (i := 6) X (by decide +kernel) ?_
    refine so_if_eq (pc := 58) (off := 43) (tgt := 101) X (by decide +kernel) (by decide) (hJ 7) ?_
    refine so_iconst (pc := 61) (n := 0) (v := 0) X (by decide +kernel) (by decide) ?_
    refine so_istore (pc := 62) (i := 7) X (by decide +kernel) (by decide) ?_
    exact so_fall X (hJ 5)
  | 5 =>
    refine so_iload (pc := 64) (i := 7) X (by decide +kernel) ?_
    refine so_bipush (pc := 66) (n := 12) (v := 12) X (by decide +kernel) (by decide) ?_
    refine so_icmp_ge (pc := 68) (off := 30) (tgt := 98) X (by decide +kernel) (by decide) (hJ 6) ?_
    refine so_aload_n (pc := 71) (i := 0) X (by decide +kernel) ?_
    refine so_getr (pc := 72) (index := 56) (ci := 7) (f := 29) (N := 32) (C := RX7) (T := TX7) X rfl uX7 (by decide) (by decide) tw_389 rfl (by decide +kernel) ?_
    refine so_bipush (pc := 75) (n := 12) (v := 12) X (by decide +kernel) (by decide) ?_
    refine so_iload (pc := 77) (i := 4) X (by decide +kernel) ?_
    refine so_imul (pc := 79) X (by decide +kernel) ?_
    refine so_iload (pc := 80) (i := 7) X (by decide +kernel) ?_
    refine so_iadd (pc := 82) X (by decide +kernel) ?_
    refine so_iload (pc := 83) (i := 6) X (by decide +kernel) ?_
    refine so_iload (pc := 85) (i := 7) X (by decide +kernel) ?_
    refine so_ishr (pc := 87) X (by decide +kernel) ?_
    refine so_iconst (pc := 88) (n := 1) (v := 1) X (by decide +kernel) (by decide) ?_
    refine so_iand (pc := 89) X (by decide +kernel) ?_
    refine so_i2l (pc := 90) X (by decide +kernel) ?_
    refine so_last (pc := 91) X (by decide +kernel) ?_
    refine so_iinc (pc := 92) (i := 7) (n := 1) (y := 1) X (by decide +kernel) (by decide) (by decide) ?_
    exact so_goto (pc := 95) (off := (-31)) (tgt := 64) X (by decide +kernel) (by decide) (hJ 5)
  | 6 =>
    refine so_iinc (pc := 98) (i := 4) (n := 1) (y := 1) X (by decide +kernel) (by decide) (by decide) ?_
    exact so_fall X (hJ 7)
  | 7 =>
    refine so_iinc (pc := 101) (i := 5) (n := 1) (y := 1) X (by decide +kernel) (by decide) (by decide) ?_
    exact so_goto (pc := 104) (off := (-98)) (tgt := 6) X (by decide +kernel) (by decide) (hJ 1)
  | 8 =>
    refine so_aload_n (pc := 107) (i := 0) X (by decide +kernel) ?_
    refine so_iconst (pc := 108) (n := 0) (v := 0) X (by decide +kernel) (by decide) ?_
    refine so_puti (pc := 109) (index := 223) (ci := 7) (f := 31) (N := 32) (C := RX7) (T := TX7) X rfl uX7 (by decide) (by decide) tw_534 tyX7 tyX7_ok nmX7 rfl (by decide +kernel) rfl (by decide +kernel) ?_
    refine so_iconst (pc := 112) (n := 0) (v := 0) X (by decide +kernel) (by decide) ?_
    refine so_istore (pc := 113) (i := 5) X (by decide +kernel) (by decide) ?_
    exact so_fall X (hJ 9)
  | 9 =>
    refine so_iload (pc := 115) (i := 5) X (by decide +kernel) ?_
    refine so_aload_n (pc := 117) (i := 0) X (by decide +kernel) ?_
    refine so_geti (pc := 118) (index := 65) (ci := 7) (f := 1) (N := 32) (C := RX7) (T := TX7) X rfl uX7 (by decide) (by decide) tw_392 rfl (by decide) (by decide +kernel) ?_
    refine so_icmp_ge (pc := 121) (off := 165) (tgt := 286) X (by decide +kernel) (by decide) (hJ 16) ?_
    refine so_aload_n (pc := 124) (i := 0) X (by decide +kernel) ?_
    refine so_geti (pc := 125) (index := 223) (ci := 7) (f := 31) (N := 32) (C := RX7) (T := TX7) X rfl uX7 (by decide) (by decide) tw_534 rfl (by decide) (by decide +kernel) ?_
    refine so_istore (pc := 128) (i := 6) X (by decide +kernel) (by decide) ?_
    exact so_fall X (hJ 10)
  | 10 =>
    refine so_iload (pc := 130) (i := 6) X (by decide +kernel) ?_
    refine so_iload (pc := 132) (i := 4) X (by decide +kernel) ?_
    refine so_icmp_ge (pc := 134) (off := 27) (tgt := 161) X (by decide +kernel) (by decide) (hJ 11) ?_
    refine so_aload_n (pc := 137) (i := 0) X (by decide +kernel) ?_
    refine so_getr (pc := 138) (index := 56) (ci := 7) (f := 29) (N := 32) (C := RX7) (T := TX7) X rfl uX7 (by decide) (by decide) tw_389 rfl (by decide +kernel) ?_
    refine so_bipush (pc := 141) (n := 12) (v := 12) X (by decide +kernel) (by decide) ?_
    refine so_iload (pc := 143) (i := 6) X (by decide +kernel) ?_
    refine so_imul (pc := 145) X (by decide +kernel) ?_
    refine so_iload (pc := 146) (i := 5) X (by decide +kernel) ?_
    refine so_iadd (pc := 148) X (by decide +kernel) ?_
    refine so_lald (pc := 149) X (by decide +kernel) ?_
    refine so_lconst (pc := 150) (n := 0) (v := 0) X (by decide +kernel) (by decide) ?_
    refine so_lcmp (pc := 151) X (by decide +kernel) ?_
    refine so_if_ne (pc := 152) (off := 9) (tgt := 161) X (by decide +kernel) (by decide) (hJ 11) ?_
    refine so_iinc (pc := 155) (i := 6) (n := 1) (y := 1) X (by decide +kernel) (by decide) (by decide) ?_
    exact so_goto (pc := 158) (off := (-28)) (tgt := 130) X (by decide +kernel) (by decide) (hJ 10)
  | 11 =>
    refine so_iload (pc := 161) (i := 6) X (by decide +kernel) ?_
    refine so_iload (pc := 163) (i := 4) X (by decide +kernel) ?_
    refine so_icmp_ge (pc := 165) (off := 115) (tgt := 280) X (by decide +kernel) (by decide) (hJ 15) ?_
    refine so_aload_n (pc := 168) (i := 0) X (by decide +kernel) ?_
    refine so_aload_n (pc := 169) (i := 0) X (by decide +kernel) ?_
    refine so_geti (pc := 170) (index := 223) (ci := 7) (f := 31) (N := 32) (C := RX7) (T := TX7) X rfl uX7 (by decide) (by decide) tw_534 rfl (by decide) (by decide +kernel) ?_
    refine so_iload (pc := 173) (i := 6) X (by decide +kernel) ?_
    refine so_cav (pc := 175) (y := 143) (na := 3) (index := 226) (maxL := 6) (nm := yX7_swap) (bytes := cX7_swap) (ret := none) (ci := 7) (N := 32) (T := TX7) X hxo (fun _ _ _ _ h => h.1) hC lw_good (Nat.le_refl _) (mm_lo d) rfl (by decide) tw_535 tw_536 tw_397 rfl (by decide) tw_537 tw_538 (by decide +kernel) (by decide +kernel) ?_
    refine so_iconst (pc := 178) (n := 0) (v := 0) X (by decide +kernel) (by decide) ?_
    refine so_istore (pc := 179) (i := 7) X (by decide +kernel) (by decide) ?_
    exact so_fall X (hJ 12)
  | 12 =>
    refine so_iload (pc := 181) (i := 7) X (by decide +kernel) ?_
    refine so_iload (pc := 183) (i := 4) X (by decide +kernel) ?_
    refine so_icmp_ge (pc := 185) (off := 74) (tgt := 259) X (by decide +kernel) (by decide) (hJ 14) ?_
    refine so_iload (pc := 188) (i := 7) X (by decide +kernel) ?_
    refine so_aload_n (pc := 190) (i := 0) X (by decide +kernel) ?_
    refine so_geti (pc := 191) (index := 223) (ci := 7) (f := 31) (N := 32) (C := RX7) (T := TX7) X rfl uX7 (by decide) (by decide) tw_534 rfl (by decide) (by decide +kernel) ?_
    refine so_icmp_eq (pc := 194) (off := 59) (tgt := 253) X (by decide +kernel) (by decide) (hJ 13) ?_
    refine so_aload_n (pc := 197) (i := 0) X (by decide +kernel) ?_
    refine so_getr (pc := 198) (index := 56) (ci := 7) (f := 29) (N := 32) (C := RX7) (T := TX7) X rfl uX7 (by decide) (by decide) tw_389 rfl (by decide +kernel) ?_
    refine so_bipush (pc := 201) (n := 12) (v := 12) X (by decide +kernel) (by decide) ?_
    refine so_iload (pc := 203) (i := 7) X (by decide +kernel) ?_
    refine so_imul (pc := 205) X (by decide +kernel) ?_
    refine so_iload (pc := 206) (i := 5) X (by decide +kernel) ?_
    refine so_iadd (pc := 208) X (by decide +kernel) ?_
    refine so_lald (pc := 209) X (by decide +kernel) ?_
    refine so_lconst (pc := 210) (n := 0) (v := 0) X (by decide +kernel) (by decide) ?_
    refine so_lcmp (pc := 211) X (by decide +kernel) ?_
    refine so_if_eq (pc := 212) (off := 41) (tgt := 253) X (by decide +kernel) (by decide) (hJ 13) ?_
    refine so_aload_n (pc := 215) (i := 0) X (by decide +kernel) ?_
    refine so_iload (pc := 216) (i := 7) X (by decide +kernel) ?_
    refine so_aload_n (pc := 218) (i := 0) X (by decide +kernel) ?_
    refine so_getr (pc := 219) (index := 56) (ci := 7) (f := 29) (N := 32) (C := RX7) (T := TX7) X rfl uX7 (by decide) (by decide) tw_389 rfl (by decide +kernel) ?_
    refine so_bipush (pc := 222) (n := 12) (v := 12) X (by decide +kernel) (by decide) ?_
    refine so_aload_n (pc := 224) (i := 0) X (by decide +kernel) ?_
    refine so_geti (pc := 225) (index := 223) (ci := 7) (f := 31) (N := 32) (C := RX7) (T := TX7) X rfl uX7 (by decide) (by decide) tw_534 rfl (by decide) (by decide +kernel) ?_
    refine so_imul (pc := 228) X (by decide +kernel) ?_
    refine so_iload (pc := 229) (i := 5) X (by decide +kernel) ?_
    refine so_iadd (pc := 231) X (by decide +kernel) ?_
    refine so_lald (pc := 232) X (by decide +kernel) ?_
    refine so_aload_n (pc := 233) (i := 0) X (by decide +kernel) ?_
    refine so_geti (pc := 234) (index := 223) (ci := 7) (f := 31) (N := 32) (C := RX7) (T := TX7) X rfl uX7 (by decide) (by decide) tw_534 rfl (by decide) (by decide +kernel) ?_
    refine so_aload_n (pc := 237) (i := 0) X (by decide +kernel) ?_
    refine so_getr (pc := 238) (index := 56) (ci := 7) (f := 29) (N := 32) (C := RX7) (T := TX7) X rfl uX7 (by decide) (by decide) tw_389 rfl (by decide +kernel) ?_
    refine so_bipush (pc := 241) (n := 12) (v := 12) X (by decide +kernel) (by decide) ?_
    refine so_iload (pc := 243) (i := 7) X (by decide +kernel) ?_
    refine so_imul (pc := 245) X (by decide +kernel) ?_
    refine so_iload (pc := 246) (i := 5) X (by decide +kernel) ?_
    refine so_iadd (pc := 248) X (by decide +kernel) ?_
    refine so_lald (pc := 249) X (by decide +kernel) ?_
    refine so_cav (pc := 250) (y := 142) (na := 5) (index := 229) (maxL := 10) (nm := yX7_mix) (bytes := cX7_mix) (ret := none) (ci := 7) (N := 32) (T := TX7) X hxo (fun _ _ _ _ h => h.1) hC lw_good (Nat.le_refl _) (mm_lo d) rfl (by decide) tw_539 tw_540 tw_397 rfl (by decide) tw_541 tw_542 (by decide +kernel) (by decide +kernel) ?_
    exact so_fall X (hJ 13)
  | 13 =>
    refine so_iinc (pc := 253) (i := 7) (n := 1) (y := 1) X (by decide +kernel) (by decide) (by decide) ?_
    exact so_goto (pc := 256) (off := (-75)) (tgt := 181) X (by decide +kernel) (by decide) (hJ 12)
  | 14 =>
    refine so_aload_n (pc := 259) (i := 0) X (by decide +kernel) ?_
    refine so_getr (pc := 260) (index := 59) (ci := 7) (f := 30) (N := 32) (C := RX7) (T := TX7) X rfl uX7 (by decide) (by decide) tw_390 rfl (by decide +kernel) ?_
    refine so_aload_n (pc := 263) (i := 0) X (by decide +kernel) ?_
    refine so_geti (pc := 264) (index := 223) (ci := 7) (f := 31) (N := 32) (C := RX7) (T := TX7) X rfl uX7 (by decide) (by decide) tw_534 rfl (by decide) (by decide +kernel) ?_
    refine so_iload (pc := 267) (i := 5) X (by decide +kernel) ?_
    refine so_iast (pc := 269) X (by decide +kernel) ?_
    refine so_aload_n (pc := 270) (i := 0) X (by decide +kernel) ?_
    refine so_dup (pc := 271) X (by decide +kernel) ?_
    refine so_geti (pc := 272) (index := 223) (ci := 7) (f := 31) (N := 32) (C := RX7) (T := TX7) X rfl uX7 (by decide) (by decide) tw_534 rfl (by decide) (by decide +kernel) ?_
    refine so_iconst (pc := 275) (n := 1) (v := 1) X (by decide +kernel) (by decide) ?_
    refine so_iadd (pc := 276) X (by decide +kernel) ?_
    refine so_puti (pc := 277) (index := 223) (ci := 7) (f := 31) (N := 32) (C := RX7) (T := TX7) X rfl uX7 (by decide) (by decide) tw_534 tyX7 tyX7_ok nmX7 rfl (by decide +kernel) rfl (by decide +kernel) ?_
    exact so_fall X (hJ 15)
  | 15 =>
    refine so_iinc (pc := 280) (i := 5) (n := 1) (y := 1) X (by decide +kernel) (by decide) (by decide) ?_
    exact so_goto (pc := 283) (off := (-168)) (tgt := 115) X (by decide +kernel) (by decide) (hJ 9)
  | 16 =>
    exact so_rtv (pc := 286) X hlk hfree hr (by decide +kernel)
  | n + 17 => exact fun _ _ _ _ h => h.elim
theorem bs_X7_reduce {l : Launch} {D : va_G} {EXT : (Nat → Nat) → (Nat → Prop) → State → Heap → Prop} (hxo : mm_xo EXT) (hxe : ∀ ad A U H, EXT ad A U H → px_E0 ad A U H) : mm_BS l D pcl lw_T EXT px_tab 144 pb_X7_reduce pp_X7_reduce := by
  intro d C hC p e s m args below meth c A ad0 cA0 μ0 free Q J
  rw [tb_144]
  exact fun X hr hlk hnm hfree hJ => bk_X7_reduce hxo hxe hC X hr hlk hnm hfree hJ
set_option maxHeartbeats 4000000 in
set_option maxRecDepth 100000 in
theorem bk_X7_rowOf {l : Launch} {D : va_G} {EXT : (Nat → Nat) → (Nat → Prop) → State → Heap → Prop} (hxo : mm_xo EXT) (hxe : ∀ ad A U H, EXT ad A U H → px_E0 ad A U H) {d : Nat} {C : mm_C} (hC : mm_CS l D pcl lw_T EXT px_tab d C) {p : Program} {e : Env} {s : State} {m : MethodId} {args : Array Value} {below : List Frame} {meth : Method} {c : Code} {A : Nat → Prop} {ad0 : Nat → Nat} {cA0 : Nat → ClassId} {μ0 : mm_M} {free : Addr → Prop} {Q : mm_Q} {J : mm_J} (X : mm_cx p (mm_rm (d + 1) 0 0) s m args c cX7_rowOf RX7 lw_T A D pcl 3) (hr : meth.sig.returnType = some .int) (hlk : meth.locks = false) (hnm : meth.name = "rowOf") (hfree : ∀ q, A q → free q) (hJ : ∀ t, mm_SK p l e (mm_rm (d + 1) 0 0) s m args below meth c (MQ below (mm_Qc D pcl Q ad0 cA0 μ0 0 A) args s 0 0 free) D pcl A 3 (mm_EX EXT A s ad0 cA0 (mm_n μ0)) (pp_X7_rowOf t) (J t)) : ∀ t, mm_SK p l e (mm_rm (d + 1) 0 0) s m args below meth c (MQ below (mm_Qc D pcl Q ad0 cA0 μ0 0 A) args s 0 0 free) D pcl A 3 (mm_EX EXT A s ad0 cA0 (mm_n μ0)) (pp_X7_rowOf t) (pb_X7_rowOf J C Q t) := by
  intro t
  match t with
  | 0 =>
    refine so_iconst (pc := 0) (n := 0) (v := 0) X (by decide +kernel) (by decide) ?_
    refine so_istore_n (pc := 1) (i := 2) X (by decide +kernel) (by decide) ?_
    exact so_fall X (hJ 1)
  | 1 =>
    refine so_iload_n (pc := 2) (i := 2) X (by decide +kernel) ?_
    refine so_aload_n (pc := 3) (i := 0) X (by decide +kernel) ?_
    refine so_geti (pc := 4) (index := 223) (ci := 7) (f := 31) (N := 32) (C := RX7) (T := TX7) X rfl uX7 (by decide) (by decide) tw_534 rfl (by decide) (by decide +kernel) ?_
    refine so_icmp_ge (pc := 7) (off := 21) (tgt := 28) X (by decide +kernel) (by decide) (hJ 3) ?_
    refine so_aload_n (pc := 10) (i := 0) X (by decide +kernel) ?_
    refine so_getr (pc := 11) (index := 59) (ci := 7) (f := 30) (N := 32) (C := RX7) (T := TX7) X rfl uX7 (by decide) (by decide) tw_390 rfl (by decide +kernel) ?_
    refine so_iload_n (pc := 14) (i := 2) X (by decide +kernel) ?_
    refine so_iald (pc := 15) X (by decide +kernel) ?_
    refine so_iload_n (pc := 16) (i := 1) X (by decide +kernel) ?_
    refine so_icmp_ne (pc := 17) (off := 5) (tgt := 22) X (by decide +kernel) (by decide) (hJ 2) ?_
    refine so_iload_n (pc := 20) (i := 2) X (by decide +kernel) ?_
    exact so_ret (pc := 21) X hlk hfree hr (by decide +kernel)
  | 2 =>
    refine so_iinc (pc := 22) (i := 2) (n := 1) (y := 1) X (by decide +kernel) (by decide) (by decide) ?_
    exact so_goto (pc := 25) (off := (-23)) (tgt := 2) X (by decide +kernel) (by decide) (hJ 1)
  | 3 =>
    refine so_iconst (pc := 28) (n := (-1)) (v := (-1)) X (by decide +kernel) (by decide) ?_
    exact so_ret (pc := 29) X hlk hfree hr (by decide +kernel)
  | n + 4 => exact fun _ _ _ _ h => h.elim
theorem bs_X7_rowOf {l : Launch} {D : va_G} {EXT : (Nat → Nat) → (Nat → Prop) → State → Heap → Prop} (hxo : mm_xo EXT) (hxe : ∀ ad A U H, EXT ad A U H → px_E0 ad A U H) : mm_BS l D pcl lw_T EXT px_tab 145 pb_X7_rowOf pp_X7_rowOf := by
  intro d C hC p e s m args below meth c A ad0 cA0 μ0 free Q J
  rw [tb_145]
  exact fun X hr hlk hnm hfree hJ => bk_X7_rowOf hxo hxe hC X hr hlk hnm hfree hJ
set_option maxHeartbeats 4000000 in
set_option maxRecDepth 100000 in
theorem bk_X7_isSolved {l : Launch} {D : va_G} {EXT : (Nat → Nat) → (Nat → Prop) → State → Heap → Prop} (hxo : mm_xo EXT) (hxe : ∀ ad A U H, EXT ad A U H → px_E0 ad A U H) {d : Nat} {C : mm_C} (hC : mm_CS l D pcl lw_T EXT px_tab d C) {p : Program} {e : Env} {s : State} {m : MethodId} {args : Array Value} {below : List Frame} {meth : Method} {c : Code} {A : Nat → Prop} {ad0 : Nat → Nat} {cA0 : Nat → ClassId} {μ0 : mm_M} {free : Addr → Prop} {Q : mm_Q} {J : mm_J} (X : mm_cx p (mm_rm (d + 1) 0 0) s m args c cX7_isSolved RX7 lw_T A D pcl 4) (hr : meth.sig.returnType = some .boolean) (hlk : meth.locks = false) (hnm : meth.name = "isSolved") (hfree : ∀ q, A q → free q) (hJ : ∀ t, mm_SK p l e (mm_rm (d + 1) 0 0) s m args below meth c (MQ below (mm_Qc D pcl Q ad0 cA0 μ0 0 A) args s 0 0 free) D pcl A 4 (mm_EX EXT A s ad0 cA0 (mm_n μ0)) (pp_X7_isSolved t) (J t)) : ∀ t, mm_SK p l e (mm_rm (d + 1) 0 0) s m args below meth c (MQ below (mm_Qc D pcl Q ad0 cA0 μ0 0 A) args s 0 0 free) D pcl A 4 (mm_EX EXT A s ad0 cA0 (mm_n μ0)) (pp_X7_isSolved t) (pb_X7_isSolved J C Q t) := by
  intro t
  match t with
  | 0 =>
    refine so_aload_n (pc := 0) (i := 0) X (by decide +kernel) ?_
    refine so_iload_n (pc := 1) (i := 1) X (by decide +kernel) ?_
    refine so_cav (pc := 2) (y := 145) (na := 2) (index := 233) (maxL := 3) (nm := yX7_rowOf) (bytes := cX7_rowOf) (ret := (some .int)) (ci := 7) (N := 32) (T := TX7) X hxo (fun _ _ _ _ h => h.1) hC lw_good (Nat.le_refl _) (mm_lo d) rfl (by decide) tw_543 tw_544 tw_397 rfl (by decide) tw_545 tw_546 (by decide +kernel) (by decide +kernel) ?_
    refine so_istore_n (pc := 5) (i := 2) X (by decide +kernel) (by decide) ?_
    refine so_iload_n (pc := 6) (i := 2) X (by decide +kernel) ?_
    refine so_iconst (pc := 7) (n := (-1)) (v := (-1)) X (by decide +kernel) (by decide) ?_
    refine so_icmp_ne (pc := 8) (off := 5) (tgt := 13) X (by decide +kernel) (by decide) (hJ 1) ?_
    refine so_iconst (pc := 11) (n := 0) (v := 0) X (by decide +kernel) (by decide) ?_
    exact so_rtz (pc := 12) X hlk hfree hr (by decide +kernel)
  | 1 =>
    refine so_iconst (pc := 13) (n := 0) (v := 0) X (by decide +kernel) (by decide) ?_
    refine so_istore_n (pc := 14) (i := 3) X (by decide +kernel) (by decide) ?_
    exact so_fall X (hJ 2)
  | 2 =>
    refine so_iload_n (pc := 15) (i := 3) X (by decide +kernel) ?_
    refine so_aload_n (pc := 16) (i := 0) X (by decide +kernel) ?_
    refine so_geti (pc := 17) (index := 65) (ci := 7) (f := 1) (N := 32) (C := RX7) (T := TX7) X rfl uX7 (by decide) (by decide) tw_392 rfl (by decide) (by decide +kernel) ?_
    refine so_icmp_ge (pc := 20) (off := 32) (tgt := 52) X (by decide +kernel) (by decide) (hJ 4) ?_
    refine so_iload_n (pc := 23) (i := 3) X (by decide +kernel) ?_
    refine so_iload_n (pc := 24) (i := 1) X (by decide +kernel) ?_
    refine so_icmp_eq (pc := 25) (off := 21) (tgt := 46) X (by decide +kernel) (by decide) (hJ 3) ?_
    refine so_aload_n (pc := 28) (i := 0) X (by decide +kernel) ?_
    refine so_getr (pc := 29) (index := 56) (ci := 7) (f := 29) (N := 32) (C := RX7) (T := TX7) X rfl uX7 (by decide) (by decide) tw_389 rfl (by decide +kernel) ?_
    refine so_bipush (pc := 32) (n := 12) (v := 12) X (by decide +kernel) (by decide) ?_
    refine so_iload_n (pc := 34) (i := 2) X (by decide +kernel) ?_
    refine so_imul (pc := 35) X (by decide +kernel) ?_
    refine so_iload_n (pc := 36) (i := 3) X (by decide +kernel) ?_
    refine so_iadd (pc := 37) X (by decide +kernel) ?_
    refine so_lald (pc := 38) X (by decide +kernel) ?_
    refine so_lconst (pc := 39) (n := 0) (v := 0) X (by decide +kernel) (by decide) ?_
    refine so_lcmp (pc := 40) X (by decide +kernel) ?_
    refine so_if_eq (pc := 41) (off := 5) (tgt := 46) X (by decide +kernel) (by decide) (hJ 3) ?_
    refine so_iconst (pc := 44) (n := 0) (v := 0) X (by decide +kernel) (by decide) ?_
    exact so_rtz (pc := 45) X hlk hfree hr (by decide +kernel)
  | 3 =>
    refine so_iinc (pc := 46) (i := 3) (n := 1) (y := 1) X (by decide +kernel) (by decide) (by decide) ?_
    exact so_goto (pc := 49) (off := (-34)) (tgt := 15) X (by decide +kernel) (by decide) (hJ 2)
  | 4 =>
    refine so_iconst (pc := 52) (n := 1) (v := 1) X (by decide +kernel) (by decide) ?_
    exact so_rtz (pc := 53) X hlk hfree hr (by decide +kernel)
  | n + 5 => exact fun _ _ _ _ h => h.elim
theorem bs_X7_isSolved {l : Launch} {D : va_G} {EXT : (Nat → Nat) → (Nat → Prop) → State → Heap → Prop} (hxo : mm_xo EXT) (hxe : ∀ ad A U H, EXT ad A U H → px_E0 ad A U H) : mm_BS l D pcl lw_T EXT px_tab 146 pb_X7_isSolved pp_X7_isSolved := by
  intro d C hC p e s m args below meth c A ad0 cA0 μ0 free Q J
  rw [tb_146]
  exact fun X hr hlk hnm hfree hJ => bk_X7_isSolved hxo hxe hC X hr hlk hnm hfree hJ
set_option maxHeartbeats 4000000 in
set_option maxRecDepth 100000 in
theorem bk_X7_isKeptBack {l : Launch} {D : va_G} {EXT : (Nat → Nat) → (Nat → Prop) → State → Heap → Prop} (hxo : mm_xo EXT) (hxe : ∀ ad A U H, EXT ad A U H → px_E0 ad A U H) {d : Nat} {C : mm_C} (hC : mm_CS l D pcl lw_T EXT px_tab d C) {p : Program} {e : Env} {s : State} {m : MethodId} {args : Array Value} {below : List Frame} {meth : Method} {c : Code} {A : Nat → Prop} {ad0 : Nat → Nat} {cA0 : Nat → ClassId} {μ0 : mm_M} {free : Addr → Prop} {Q : mm_Q} {J : mm_J} (X : mm_cx p (mm_rm (d + 1) 0 0) s m args c cX7_isKeptBack RX7 lw_T A D pcl 6) (hr : meth.sig.returnType = some .boolean) (hlk : meth.locks = false) (hnm : meth.name = "isKeptBack") (hfree : ∀ q, A q → free q) (hJ : ∀ t, mm_SK p l e (mm_rm (d + 1) 0 0) s m args below meth c (MQ below (mm_Qc D pcl Q ad0 cA0 μ0 0 A) args s 0 0 free) D pcl A 6 (mm_EX EXT A s ad0 cA0 (mm_n μ0)) (pp_X7_isKeptBack t) (J t)) : ∀ t, mm_SK p l e (mm_rm (d + 1) 0 0) s m args below meth c (MQ below (mm_Qc D pcl Q ad0 cA0 μ0 0 A) args s 0 0 free) D pcl A 6 (mm_EX EXT A s ad0 cA0 (mm_n μ0)) (pp_X7_isKeptBack t) (pb_X7_isKeptBack J C Q t) := by
  intro t
  match t with
  | 0 =>
    refine so_iconst (pc := 0) (n := 0) (v := 0) X (by decide +kernel) (by decide) ?_
    refine so_istore (pc := 1) (i := 4) X (by decide +kernel) (by decide) ?_
    refine so_aload_n (pc := 3) (i := 0) X (by decide +kernel) ?_
    refine so_iload_n (pc := 4) (i := 1) X (by decide +kernel) ?_
    refine so_iload_n (pc := 5) (i := 2) X (by decide +kernel) ?_
    refine so_iconst (pc := 6) (n := 0) (v := 0) X (by decide +kernel) (by decide) ?_
    refine so_cav (pc := 7) (y := 144) (na := 4) (index := 237) (maxL := 8) (nm := yX7_reduce) (bytes := cX7_reduce) (ret := none) (ci := 7) (N := 32) (T := TX7) X hxo (fun _ _ _ _ h => h.1) hC lw_good (Nat.le_refl _) (mm_lo d) rfl (by decide) tw_547 tw_548 tw_397 rfl (by decide) tw_549 tw_550 (by decide +kernel) (by decide +kernel) ?_
    refine so_iconst (pc := 10) (n := 0) (v := 0) X (by decide +kernel) (by decide) ?_
    refine so_istore (pc := 11) (i := 5) X (by decide +kernel) (by decide) ?_
    exact so_fall X (hJ 1)
  | 1 =>
    refine so_iload (pc := 13) (i := 5) X (by decide +kernel) ?_
    refine so_aload_n (pc := 15) (i := 0) X (by decide +kernel) ?_
    refine so_geti (pc := 16) (index := 65) (ci := 7) (f := 1) (N := 32) (C := RX7) (T := TX7) X rfl uX7 (by decide) (by decide) tw_392 rfl (by decide) (by decide +kernel) ?_
    refine so_icmp_ge (pc := 19) (off := 31) (tgt := 50) X (by decide +kernel) (by decide) (hJ 4) ?_
    refine so_iload (pc := 22) (i := 4) X (by decide +kernel) ?_
    refine so_aload_n (pc := 24) (i := 0) X (by decide +kernel) ?_
    refine so_iload (pc := 25) (i := 5) X (by decide +kernel) ?_
    refine so_cav (pc := 27) (y := 146) (na := 2) (index := 241) (maxL := 4) (nm := yX7_isSolved) (bytes := cX7_isSolved) (ret := (some .boolean)) (ci := 7) (N := 32) (T := TX7) X hxo (fun _ _ _ _ h => h.1) hC lw_good (Nat.le_refl _) (mm_lo d) rfl (by decide) tw_551 tw_552 tw_397 rfl (by decide) tw_553 tw_554 (by decide +kernel) (by decide +kernel) ?_
    refine so_if_eq (pc := 30) (off := 10) (tgt := 40) X (by decide +kernel) (by decide) (hJ 2) ?_
    refine so_iconst (pc := 33) (n := 1) (v := 1) X (by decide +kernel) (by decide) ?_
    refine so_iload (pc := 34) (i := 5) X (by decide +kernel) ?_
    refine so_ishl (pc := 36) X (by decide +kernel) ?_
    exact so_goto (pc := 37) (off := 4) (tgt := 41) X (by decide +kernel) (by decide) (hJ 3)
  | 2 =>
    refine so_iconst (pc := 40) (n := 0) (v := 0) X (by decide +kernel) (by decide) ?_
    exact so_fall X (hJ 3)
  | 3 =>
    refine so_ior (pc := 41) X (by decide +kernel) ?_
    refine so_istore (pc := 42) (i := 4) X (by decide +kernel) (by decide) ?_
    refine so_iinc (pc := 44) (i := 5) (n := 1) (y := 1) X (by decide +kernel) (by decide) (by decide) ?_
    exact so_goto (pc := 47) (off := (-34)) (tgt := 13) X (by decide +kernel) (by decide) (hJ 1)
  | 4 =>
    refine so_aload_n (pc := 50) (i := 0) X (by decide +kernel) ?_
    refine so_iload_n (pc := 51) (i := 1) X (by decide +kernel) ?_
    refine so_iload_n (pc := 52) (i := 2) X (by decide +kernel) ?_
    refine so_iload_n (pc := 53) (i := 3) X (by decide +kernel) ?_
    refine so_cav (pc := 54) (y := 144) (na := 4) (index := 237) (maxL := 8) (nm := yX7_reduce) (bytes := cX7_reduce) (ret := none) (ci := 7) (N := 32) (T := TX7) X hxo (fun _ _ _ _ h => h.1) hC lw_good (Nat.le_refl _) (mm_lo d) rfl (by decide) tw_547 tw_548 tw_397 rfl (by decide) tw_549 tw_550 (by decide +kernel) (by decide +kernel) ?_
    refine so_iconst (pc := 57) (n := 0) (v := 0) X (by decide +kernel) (by decide) ?_
    refine so_istore (pc := 58) (i := 5) X (by decide +kernel) (by decide) ?_
    exact so_fall X (hJ 5)
  | 5 =>
    refine so_iload (pc := 60) (i := 5) X (by decide +kernel) ?_
    refine so_aload_n (pc := 62) (i := 0) X (by decide +kernel) ?_
    refine so_geti (pc := 63) (index := 65) (ci := 7) (f := 1) (N := 32) (C := RX7) (T := TX7) X rfl uX7 (by decide) (by decide) tw_392 rfl (by decide) (by decide +kernel) ?_
    refine so_icmp_ge (pc := 66) (off := 41) (tgt := 107) X (by decide +kernel) (by decide) (hJ 7) ?_
    refine so_aload_n (pc := 69) (i := 0) X (by decide +kernel) ?_
    refine so_iload_n (pc := 70) (i := 1) X (by decide +kernel) ?_
    refine so_iload_n (pc := 71) (i := 2) X (by decide +kernel) ?_
    refine so_iload (pc := 72) (i := 5) X (by decide +kernel) ?_
    refine so_cav (pc := 74) (y := 127) (na := 4) (index := 244) (maxL := 4) (nm := yX7_isHidden) (bytes := cX7_isHidden) (ret := (some .boolean)) (ci := 7) (N := 32) (T := TX7) X hxo (fun _ _ _ _ h => h.1) hC lw_good (Nat.le_refl _) (mm_lo d) rfl (by decide) tw_555 tw_556 tw_397 rfl (by decide) tw_557 tw_558 (by decide +kernel) (by decide +kernel) ?_
    refine so_if_eq (pc := 77) (off := 24) (tgt := 101) X (by decide +kernel) (by decide) (hJ 6) ?_
    refine so_aload_n (pc := 80) (i := 0) X (by decide +kernel) ?_
    refine so_iload (pc := 81) (i := 5) X (by decide +kernel) ?_
    refine so_cav (pc := 83) (y := 146) (na := 2) (index := 241) (maxL := 4) (nm := yX7_isSolved) (bytes := cX7_isSolved) (ret := (some .boolean)) (ci := 7) (N := 32) (T := TX7) X hxo (fun _ _ _ _ h => h.1) hC lw_good (Nat.le_refl _) (mm_lo d) rfl (by decide) tw_551 tw_552 tw_397 rfl (by decide) tw_553 tw_554 (by decide +kernel) (by decide +kernel) ?_
    refine so_if_eq (pc := 86) (off := 15) (tgt := 101) X (by decide +kernel) (by decide) (hJ 6) ?_
    refine so_iload (pc := 89) (i := 4) X (by decide +kernel) ?_
    refine so_iload (pc := 91) (i := 5) X (by decide +kernel) ?_
    refine so_ishr (pc := 93) X (by decide +kernel) ?_
    refine so_iconst (pc := 94) (n := 1) (v := 1) X (by decide +kernel) (by decide) ?_
    refine so_iand (pc := 95) X (by decide +kernel) ?_
    refine so_if_ne (pc := 96) (off := 5) (tgt := 101) X (by decide +kernel) (by decide) (hJ 6) ?_
    refine so_iconst (pc := 99) (n := 1) (v := 1) X (by decide +kernel) (by decide) ?_
    exact so_rtz (pc := 100) X hlk hfree hr (by decide +kernel)
  | 6 =>
    refine so_iinc (pc := 101) (i := 5) (n := 1) (y := 1) X (by decide +kernel) (by decide) (by decide) ?_
    exact so_goto (pc := 104) (off := (-44)) (tgt := 60) X (by decide +kernel) (by decide) (hJ 5)
  | 7 =>
    refine so_iconst (pc := 107) (n := 0) (v := 0) X (by decide +kernel) (by decide) ?_
    exact so_rtz (pc := 108) X hlk hfree hr (by decide +kernel)
  | n + 8 => exact fun _ _ _ _ h => h.elim
theorem bs_X7_isKeptBack {l : Launch} {D : va_G} {EXT : (Nat → Nat) → (Nat → Prop) → State → Heap → Prop} (hxo : mm_xo EXT) (hxe : ∀ ad A U H, EXT ad A U H → px_E0 ad A U H) : mm_BS l D pcl lw_T EXT px_tab 147 pb_X7_isKeptBack pp_X7_isKeptBack := by
  intro d C hC p e s m args below meth c A ad0 cA0 μ0 free Q J
  rw [tb_147]
  exact fun X hr hlk hnm hfree hJ => bk_X7_isKeptBack hxo hxe hC X hr hlk hnm hfree hJ
set_option maxHeartbeats 4000000 in
set_option maxRecDepth 100000 in
theorem bk_X7_tell {l : Launch} {D : va_G} {EXT : (Nat → Nat) → (Nat → Prop) → State → Heap → Prop} (hxo : mm_xo EXT) (hxe : ∀ ad A U H, EXT ad A U H → px_E0 ad A U H) {d : Nat} {C : mm_C} (hC : mm_CS l D pcl lw_T EXT px_tab d C) {p : Program} {e : Env} {s : State} {m : MethodId} {args : Array Value} {below : List Frame} {meth : Method} {c : Code} {A : Nat → Prop} {ad0 : Nat → Nat} {cA0 : Nat → ClassId} {μ0 : mm_M} {free : Addr → Prop} {Q : mm_Q} {J : mm_J} (X : mm_cx p (mm_rm (d + 1) 0 0) s m args c cX7_tell RX7 lw_T A D pcl 4) (hr : meth.sig.returnType = none) (hlk : meth.locks = false) (hnm : meth.name = "tell") (hfree : ∀ q, A q → free q) (hJ : ∀ t, mm_SK p l e (mm_rm (d + 1) 0 0) s m args below meth c (MQ below (mm_Qc D pcl Q ad0 cA0 μ0 0 A) args s 0 0 free) D pcl A 4 (mm_EX EXT A s ad0 cA0 (mm_n μ0)) (pp_X7_tell t) (J t)) : ∀ t, mm_SK p l e (mm_rm (d + 1) 0 0) s m args below meth c (MQ below (mm_Qc D pcl Q ad0 cA0 μ0 0 A) args s 0 0 free) D pcl A 4 (mm_EX EXT A s ad0 cA0 (mm_n μ0)) (pp_X7_tell t) (pb_X7_tell J C Q t) := by
  intro t
  match t with
  | 0 =>
    refine so_aload_n (pc := 0) (i := 0) X (by decide +kernel) ?_
    refine so_getr (pc := 1) (index := 43) (ci := 7) (f := 16) (N := 32) (C := RX7) (T := TX7) X rfl uX7 (by decide) (by decide) tw_385 rfl (by decide +kernel) ?_
    refine so_aload_n (pc := 4) (i := 0) X (by decide +kernel) ?_
    refine so_geti (pc := 5) (index := 71) (ci := 7) (f := 18) (N := 32) (C := RX7) (T := TX7) X rfl uX7 (by decide) (by decide) tw_394 rfl (by decide) (by decide +kernel) ?_
    refine so_iconst (pc := 8) (n := 4) (v := 4) X (by decide +kernel) (by decide) ?_
    refine so_iload_n (pc := 9) (i := 1) X (by decide +kernel) ?_
    refine so_imul (pc := 10) X (by decide +kernel) ?_
    refine so_iload_n (pc := 11) (i := 2) X (by decide +kernel) ?_
    refine so_iadd (pc := 12) X (by decide +kernel) ?_
    refine so_iast (pc := 13) X (by decide +kernel) ?_
    refine so_aload_n (pc := 14) (i := 0) X (by decide +kernel) ?_
    refine so_getr (pc := 15) (index := 46) (ci := 7) (f := 17) (N := 32) (C := RX7) (T := TX7) X rfl uX7 (by decide) (by decide) tw_386 rfl (by decide +kernel) ?_
    refine so_aload_n (pc := 18) (i := 0) X (by decide +kernel) ?_
    refine so_geti (pc := 19) (index := 71) (ci := 7) (f := 18) (N := 32) (C := RX7) (T := TX7) X rfl uX7 (by decide) (by decide) tw_394 rfl (by decide) (by decide +kernel) ?_
    refine so_iload_n (pc := 22) (i := 3) X (by decide +kernel) ?_
    refine so_iast (pc := 23) X (by decide +kernel) ?_
    refine so_aload_n (pc := 24) (i := 0) X (by decide +kernel) ?_
    refine so_dup (pc := 25) X (by decide +kernel) ?_
    refine so_geti (pc := 26) (index := 71) (ci := 7) (f := 18) (N := 32) (C := RX7) (T := TX7) X rfl uX7 (by decide) (by decide) tw_394 rfl (by decide) (by decide +kernel) ?_
    refine so_iconst (pc := 29) (n := 1) (v := 1) X (by decide +kernel) (by decide) ?_
    refine so_iadd (pc := 30) X (by decide +kernel) ?_
    refine so_puti (pc := 31) (index := 71) (ci := 7) (f := 18) (N := 32) (C := RX7) (T := TX7) X rfl uX7 (by decide) (by decide) tw_394 tyX7 tyX7_ok nmX7 rfl (by decide +kernel) rfl (by decide +kernel) ?_
    exact so_rtv (pc := 34) X hlk hfree hr (by decide +kernel)
  | n + 1 => exact fun _ _ _ _ h => h.elim
theorem bs_X7_tell {l : Launch} {D : va_G} {EXT : (Nat → Nat) → (Nat → Prop) → State → Heap → Prop} (hxo : mm_xo EXT) (hxe : ∀ ad A U H, EXT ad A U H → px_E0 ad A U H) : mm_BS l D pcl lw_T EXT px_tab 148 pb_X7_tell pp_X7_tell := by
  intro d C hC p e s m args below meth c A ad0 cA0 μ0 free Q J
  rw [tb_148]
  exact fun X hr hlk hnm hfree hJ => bk_X7_tell hxo hxe hC X hr hlk hnm hfree hJ
set_option maxHeartbeats 4000000 in
set_option maxRecDepth 100000 in
theorem bk_X7_value {l : Launch} {D : va_G} {EXT : (Nat → Nat) → (Nat → Prop) → State → Heap → Prop} (hxo : mm_xo EXT) (hxe : ∀ ad A U H, EXT ad A U H → px_E0 ad A U H) {d : Nat} {C : mm_C} (hC : mm_CS l D pcl lw_T EXT px_tab d C) {p : Program} {e : Env} {s : State} {m : MethodId} {args : Array Value} {below : List Frame} {meth : Method} {c : Code} {A : Nat → Prop} {ad0 : Nat → Nat} {cA0 : Nat → ClassId} {μ0 : mm_M} {free : Addr → Prop} {Q : mm_Q} {J : mm_J} (X : mm_cx p (mm_rm (d + 1) 0 0) s m args c cX7_value RX7 lw_T A D pcl 4) (hr : meth.sig.returnType = some .int) (hlk : meth.locks = false) (hnm : meth.name = "value") (hfree : ∀ q, A q → free q) (hJ : ∀ t, mm_SK p l e (mm_rm (d + 1) 0 0) s m args below meth c (MQ below (mm_Qc D pcl Q ad0 cA0 μ0 0 A) args s 0 0 free) D pcl A 4 (mm_EX EXT A s ad0 cA0 (mm_n μ0)) (pp_X7_value t) (J t)) : ∀ t, mm_SK p l e (mm_rm (d + 1) 0 0) s m args below meth c (MQ below (mm_Qc D pcl Q ad0 cA0 μ0 0 A) args s 0 0 free) D pcl A 4 (mm_EX EXT A s ad0 cA0 (mm_n μ0)) (pp_X7_value t) (pb_X7_value J C Q t) := by
  intro t
  match t with
  | 0 =>
    refine so_aload_n (pc := 0) (i := 0) X (by decide +kernel) ?_
    refine so_iconst (pc := 1) (n := 0) (v := 0) X (by decide +kernel) (by decide) ?_
    refine so_puti (pc := 2) (index := 62) (ci := 7) (f := 0) (N := 32) (C := RX7) (T := TX7) X rfl uX7 (by decide) (by decide) tw_391 tyX7 tyX7_ok nmX7 rfl (by decide +kernel) rfl (by decide +kernel) ?_
    refine so_aload_n (pc := 5) (i := 0) X (by decide +kernel) ?_
    refine so_iload_n (pc := 6) (i := 1) X (by decide +kernel) ?_
    refine so_cav (pc := 7) (y := 97) (na := 2) (index := 186) (maxL := 2) (nm := yX7_isUser) (bytes := cX7_isUser) (ret := (some .boolean)) (ci := 7) (N := 32) (T := TX7) X hxo (fun _ _ _ _ h => h.1) hC lw_good (Nat.le_refl _) (mm_lo d) rfl (by decide) tw_497 tw_498 tw_397 rfl (by decide) tw_499 tw_500 (by decide +kernel) (by decide +kernel) ?_
    refine so_if_eq (pc := 10) (off := 18) (tgt := 28) X (by decide +kernel) (by decide) (hJ 1) ?_
    refine so_aload_n (pc := 13) (i := 0) X (by decide +kernel) ?_
    refine so_iload_n (pc := 14) (i := 2) X (by decide +kernel) ?_
    refine so_cav (pc := 15) (y := 96) (na := 2) (index := 74) (maxL := 2) (nm := yX7_isObject) (bytes := cX7_isObject) (ret := (some .boolean)) (ci := 7) (N := 32) (T := TX7) X hxo (fun _ _ _ _ h => h.1) hC lw_good (Nat.le_refl _) (mm_lo d) rfl (by decide) tw_395 tw_396 tw_397 rfl (by decide) tw_398 tw_399 (by decide +kernel) (by decide +kernel) ?_
    refine so_if_eq (pc := 18) (off := 10) (tgt := 28) X (by decide +kernel) (by decide) (hJ 1) ?_
    refine so_iload_n (pc := 21) (i := 3) X (by decide +kernel) ?_
    refine so_cas (pc := 22) (y := 98) (na := 1) (index := 78) (maxL := 1) (nm := yX7_isField) (bytes := cX7_isField) (ret := (some .boolean)) X hxo (fun _ _ _ _ h => h.1) hC lw_good (Nat.le_refl _) (mm_lo d) rfl (by decide) tw_400 tw_401 tw_397 tw_402 (by decide +kernel) (by decide +kernel) ?_
    refine so_if_ne (pc := 25) (off := 10) (tgt := 35) X (by decide +kernel) (by decide) (hJ 2) ?_
    exact so_fall X (hJ 1)
  | 1 =>
    refine so_aload_n (pc := 28) (i := 0) X (by decide +kernel) ?_
    refine so_iconst (pc := 29) (n := 1) (v := 1) X (by decide +kernel) (by decide) ?_
    refine so_puti (pc := 30) (index := 62) (ci := 7) (f := 0) (N := 32) (C := RX7) (T := TX7) X rfl uX7 (by decide) (by decide) tw_391 tyX7 tyX7_ok nmX7 rfl (by decide +kernel) rfl (by decide +kernel) ?_
    refine so_iconst (pc := 33) (n := 0) (v := 0) X (by decide +kernel) (by decide) ?_
    exact so_ret (pc := 34) X hlk hfree hr (by decide +kernel)
  | 2 =>
    refine so_aload_n (pc := 35) (i := 0) X (by decide +kernel) ?_
    refine so_geti (pc := 36) (index := 199) (ci := 7) (f := 13) (N := 32) (C := RX7) (T := TX7) X rfl uX7 (by decide) (by decide) tw_513 rfl (by decide) (by decide +kernel) ?_
    refine so_sipush (pc := 39) (n := 150) (v := 150) X (by decide +kernel) (by decide) ?_
    refine so_icmp_ne (pc := 42) (off := 10) (tgt := 52) X (by decide +kernel) (by decide) (hJ 3) ?_
    refine so_aload_n (pc := 45) (i := 0) X (by decide +kernel) ?_
    refine so_iconst (pc := 46) (n := 2) (v := 2) X (by decide +kernel) (by decide) ?_
    refine so_puti (pc := 47) (index := 62) (ci := 7) (f := 0) (N := 32) (C := RX7) (T := TX7) X rfl uX7 (by decide) (by decide) tw_391 tyX7 tyX7_ok nmX7 rfl (by decide +kernel) rfl (by decide +kernel) ?_
    refine so_iconst (pc := 50) (n := 0) (v := 0) X (by decide +kernel) (by decide) ?_
    exact so_ret (pc := 51) X hlk hfree hr (by decide +kernel)
  | 3 =>
    refine so_aload_n (pc := 52) (i := 0) X (by decide +kernel) ?_
    refine so_iload_n (pc := 53) (i := 1) X (by decide +kernel) ?_
    refine so_iload_n (pc := 54) (i := 3) X (by decide +kernel) ?_
    refine so_iload_n (pc := 55) (i := 2) X (by decide +kernel) ?_
    refine so_cav (pc := 56) (y := 127) (na := 4) (index := 244) (maxL := 4) (nm := yX7_isHidden) (bytes := cX7_isHidden) (ret := (some .boolean)) (ci := 7) (N := 32) (T := TX7) X hxo (fun _ _ _ _ h => h.1) hC lw_good (Nat.le_refl _) (mm_lo d) rfl (by decide) tw_555 tw_556 tw_397 rfl (by decide) tw_557 tw_558 (by decide +kernel) (by decide +kernel) ?_
    refine so_if_ne (pc := 59) (off := 15) (tgt := 74) X (by decide +kernel) (by decide) (hJ 4) ?_
    refine so_aload_n (pc := 62) (i := 0) X (by decide +kernel) ?_
    refine so_iload_n (pc := 63) (i := 1) X (by decide +kernel) ?_
    refine so_iload_n (pc := 64) (i := 3) X (by decide +kernel) ?_
    refine so_iconst (pc := 65) (n := 1) (v := 1) X (by decide +kernel) (by decide) ?_
    refine so_iload_n (pc := 66) (i := 2) X (by decide +kernel) ?_
    refine so_ishl (pc := 67) X (by decide +kernel) ?_
    refine so_cav (pc := 68) (y := 147) (na := 4) (index := 247) (maxL := 6) (nm := yX7_isKeptBack) (bytes := cX7_isKeptBack) (ret := (some .boolean)) (ci := 7) (N := 32) (T := TX7) X hxo (fun _ _ _ _ h => h.1) hC lw_good (Nat.le_refl _) (mm_lo d) rfl (by decide) tw_559 tw_560 tw_397 rfl (by decide) tw_561 tw_562 (by decide +kernel) (by decide +kernel) ?_
    refine so_if_eq (pc := 71) (off := 19) (tgt := 90) X (by decide +kernel) (by decide) (hJ 5) ?_
    exact so_fall X (hJ 4)
  | 4 =>
    refine so_aload_n (pc := 74) (i := 0) X (by decide +kernel) ?_
    refine so_iload_n (pc := 75) (i := 1) X (by decide +kernel) ?_
    refine so_iconst (pc := 76) (n := 1) (v := 1) X (by decide +kernel) (by decide) ?_
    refine so_iload_n (pc := 77) (i := 2) X (by decide +kernel) ?_
    refine so_iload_n (pc := 78) (i := 3) X (by decide +kernel) ?_
    refine so_iconst (pc := 79) (n := 1) (v := 1) X (by decide +kernel) (by decide) ?_
    refine so_cav (pc := 80) (y := 134) (na := 6) (index := 202) (maxL := 6) (nm := yX7_note) (bytes := cX7_note) (ret := none) (ci := 7) (N := 32) (T := TX7) X hxo (fun _ _ _ _ h => h.1) hC lw_good (Nat.le_refl _) (mm_lo d) rfl (by decide) tw_514 tw_515 tw_397 rfl (by decide) tw_516 tw_517 (by decide +kernel) (by decide +kernel) ?_
    refine so_aload_n (pc := 83) (i := 0) X (by decide +kernel) ?_
    refine so_iconst (pc := 84) (n := 3) (v := 3) X (by decide +kernel) (by decide) ?_
    refine so_puti (pc := 85) (index := 62) (ci := 7) (f := 0) (N := 32) (C := RX7) (T := TX7) X rfl uX7 (by decide) (by decide) tw_391 tyX7 tyX7_ok nmX7 rfl (by decide +kernel) rfl (by decide +kernel) ?_
    refine so_iconst (pc := 88) (n := 0) (v := 0) X (by decide +kernel) (by decide) ?_
    exact so_ret (pc := 89) X hlk hfree hr (by decide +kernel)
  | 5 =>
    refine so_aload_n (pc := 90) (i := 0) X (by decide +kernel) ?_
    refine so_iload_n (pc := 91) (i := 1) X (by decide +kernel) ?_
    refine so_iconst (pc := 92) (n := 1) (v := 1) X (by decide +kernel) (by decide) ?_
    refine so_iload_n (pc := 93) (i := 2) X (by decide +kernel) ?_
    refine so_iload_n (pc := 94) (i := 3) X (by decide +kernel) ?_
    refine so_iconst (pc := 95) (n := 0) (v := 0) X (by decide +kernel) (by decide) ?_
    refine so_cav (pc := 96) (y := 134) (na := 6) (index := 202) (maxL := 6) (nm := yX7_note) (bytes := cX7_note) (ret := none) (ci := 7) (N := 32) (T := TX7) X hxo (fun _ _ _ _ h => h.1) hC lw_good (Nat.le_refl _) (mm_lo d) rfl (by decide) tw_514 tw_515 tw_397 rfl (by decide) tw_516 tw_517 (by decide +kernel) (by decide +kernel) ?_
    refine so_aload_n (pc := 99) (i := 0) X (by decide +kernel) ?_
    refine so_iload_n (pc := 100) (i := 1) X (by decide +kernel) ?_
    refine so_iload_n (pc := 101) (i := 3) X (by decide +kernel) ?_
    refine so_iconst (pc := 102) (n := 1) (v := 1) X (by decide +kernel) (by decide) ?_
    refine so_iload_n (pc := 103) (i := 2) X (by decide +kernel) ?_
    refine so_ishl (pc := 104) X (by decide +kernel) ?_
    refine so_cav (pc := 105) (y := 148) (na := 4) (index := 250) (maxL := 4) (nm := yX7_tell) (bytes := cX7_tell) (ret := none) (ci := 7) (N := 32) (T := TX7) X hxo (fun _ _ _ _ h => h.1) hC lw_good (Nat.le_refl _) (mm_lo d) rfl (by decide) tw_563 tw_564 tw_397 rfl (by decide) tw_565 tw_566 (by decide +kernel) (by decide +kernel) ?_
    refine so_aload_n (pc := 108) (i := 0) X (by decide +kernel) ?_
    refine so_getr (pc := 109) (index := 7) (ci := 7) (f := 3) (N := 32) (C := RX7) (T := TX7) X rfl uX7 (by decide) (by decide) tw_374 rfl (by decide +kernel) ?_
    refine so_iconst (pc := 112) (n := 4) (v := 4) X (by decide +kernel) (by decide) ?_
    refine so_iload_n (pc := 113) (i := 2) X (by decide +kernel) ?_
    refine so_imul (pc := 114) X (by decide +kernel) ?_
    refine so_iload_n (pc := 115) (i := 3) X (by decide +kernel) ?_
    refine so_iadd (pc := 116) X (by decide +kernel) ?_
    refine so_iald (pc := 117) X (by decide +kernel) ?_
    exact so_ret (pc := 118) X hlk hfree hr (by decide +kernel)
  | n + 6 => exact fun _ _ _ _ h => h.elim
theorem bs_X7_value {l : Launch} {D : va_G} {EXT : (Nat → Nat) → (Nat → Prop) → State → Heap → Prop} (hxo : mm_xo EXT) (hxe : ∀ ad A U H, EXT ad A U H → px_E0 ad A U H) : mm_BS l D pcl lw_T EXT px_tab 149 pb_X7_value pp_X7_value := by
  intro d C hC p e s m args below meth c A ad0 cA0 μ0 free Q J
  rw [tb_149]
  exact fun X hr hlk hnm hfree hJ => bk_X7_value hxo hxe hC X hr hlk hnm hfree hJ
