set_option maxHeartbeats 4000000 in
set_option maxRecDepth 100000 in
theorem bk_X7_what {l : Launch} {D : va_G} {EXT : (Nat → Nat) → (Nat → Prop) → State → Heap → Prop} (hxo : mm_xo EXT) (hxe : ∀ ad A U H, EXT ad A U H → px_E0 ad A U H) {d : Nat} {C : mm_C} (hC : mm_CS l D pcl lw_T EXT px_tab d C) {p : Program} {e : Env} {s : State} {m : MethodId} {args : Array Value} {below : List Frame} {meth : Method} {c : Code} {A : Nat → Prop} {ad0 : Nat → Nat} {cA0 : Nat → ClassId} {μ0 : mm_M} {free : Addr → Prop} {Q : mm_Q} {J : mm_J} (X : mm_cx p (mm_rm (d + 1) 0 0) s m args c cX7_what RX7 lw_T A D pcl 6) (hr : meth.sig.returnType = some .int) (hlk : meth.locks = false) (hnm : meth.name = "what") (hfree : ∀ q, A q → free q) (hJ : ∀ t, mm_SK p l e (mm_rm (d + 1) 0 0) s m args below meth c (MQ below (mm_Qc D pcl Q ad0 cA0 μ0 0 A) args s 0 0 free) D pcl A 6 (mm_EX EXT A s ad0 cA0 (mm_n μ0)) (pp_X7_what t) (J t)) : ∀ t, mm_SK p l e (mm_rm (d + 1) 0 0) s m args below meth c (MQ below (mm_Qc D pcl Q ad0 cA0 μ0 0 A) args s 0 0 free) D pcl A 6 (mm_EX EXT A s ad0 cA0 (mm_n μ0)) (pp_X7_what t) (pb_X7_what J C Q t) := by
  intro t
  match t with
  | 0 =>
    refine so_iconst (pc := 0) (n := 0) (v := 0) X (by decide +kernel) (by decide) ?_
    refine so_istore_n (pc := 1) (i := 3) X (by decide +kernel) (by decide) ?_
    refine so_iconst (pc := 2) (n := 0) (v := 0) X (by decide +kernel) (by decide) ?_
    refine so_istore (pc := 3) (i := 4) X (by decide +kernel) (by decide) ?_
    exact so_fall X (hJ 1)
  | 1 =>
    refine so_iload (pc := 5) (i := 4) X (by decide +kernel) ?_
    refine so_aload_n (pc := 7) (i := 0) X (by decide +kernel) ?_
    refine so_getr (pc := 8) (index := 24) (ci := 7) (f := 8) (N := 32) (C := RX7) (T := TX7) X rfl uX7 (by decide) (by decide) tw_379 rfl (by decide +kernel) ?_
    refine so_iload_n (pc := 11) (i := 1) X (by decide +kernel) ?_
    refine so_iald (pc := 12) X (by decide +kernel) ?_
    refine so_icmp_ge (pc := 13) (off := 199) (tgt := 212) X (by decide +kernel) (by decide) (hJ 13) ?_
    refine so_aload_n (pc := 16) (i := 0) X (by decide +kernel) ?_
    refine so_getr (pc := 17) (index := 21) (ci := 7) (f := 7) (N := 32) (C := RX7) (T := TX7) X rfl uX7 (by decide) (by decide) tw_378 rfl (by decide +kernel) ?_
    refine so_bipush (pc := 20) (n := 64) (v := 64) X (by decide +kernel) (by decide) ?_
    refine so_iload_n (pc := 22) (i := 1) X (by decide +kernel) ?_
    refine so_imul (pc := 23) X (by decide +kernel) ?_
    refine so_iload (pc := 24) (i := 4) X (by decide +kernel) ?_
    refine so_iadd (pc := 26) X (by decide +kernel) ?_
    refine so_iald (pc := 27) X (by decide +kernel) ?_
    refine so_istore (pc := 28) (i := 5) X (by decide +kernel) (by decide) ?_
    refine so_iload (pc := 30) (i := 5) X (by decide +kernel) ?_
    refine so_if_ge (pc := 32) (off := 17) (tgt := 49) X (by decide +kernel) (by decide) (hJ 2) ?_
    refine so_iload (pc := 35) (i := 5) X (by decide +kernel) ?_
    refine so_bipush (pc := 37) (n := (-20)) (v := (-20)) X (by decide +kernel) (by decide) ?_
    refine so_icmp_gt (pc := 39) (off := 55) (tgt := 94) X (by decide +kernel) (by decide) (hJ 5) ?_
    refine so_iload (pc := 42) (i := 5) X (by decide +kernel) ?_
    refine so_bipush (pc := 44) (n := (-24)) (v := (-24)) X (by decide +kernel) (by decide) ?_
    refine so_icmp_le (pc := 46) (off := 48) (tgt := 94) X (by decide +kernel) (by decide) (hJ 5) ?_
    exact so_fall X (hJ 2)
  | 2 =>
    refine so_aload_n (pc := 49) (i := 0) X (by decide +kernel) ?_
    refine so_getr (pc := 50) (index := 49) (ci := 7) (f := 27) (N := 32) (C := RX7) (T := TX7) X rfl uX7 (by decide) (by decide) tw_387 rfl (by decide +kernel) ?_
    refine so_iload_n (pc := 53) (i := 3) X (by decide +kernel) ?_
    refine so_iload (pc := 54) (i := 5) X (by decide +kernel) ?_
    refine so_if_lt (pc := 56) (off := 9) (tgt := 65) X (by decide +kernel) (by decide) (hJ 3) ?_
    refine so_iload (pc := 59) (i := 5) X (by decide +kernel) ?_
    refine so_i2l (pc := 61) X (by decide +kernel) ?_
    exact so_goto (pc := 62) (off := 18) (tgt := 80) X (by decide +kernel) (by decide) (hJ 4)
  | 3 =>
    refine so_aload_n (pc := 65) (i := 0) X (by decide +kernel) ?_
    refine so_getr (pc := 66) (index := 7) (ci := 7) (f := 3) (N := 32) (C := RX7) (T := TX7) X rfl uX7 (by decide) (by decide) tw_374 rfl (by decide +kernel) ?_
    refine so_iconst (pc := 69) (n := 4) (v := 4) X (by decide +kernel) (by decide) ?_
    refine so_iload_n (pc := 70) (i := 2) X (by decide +kernel) ?_
    refine so_imul (pc := 71) X (by decide +kernel) ?_
    refine so_bipush (pc := 72) (n := (-20)) (v := (-20)) X (by decide +kernel) (by decide) ?_
    refine so_iadd (pc := 74) X (by decide +kernel) ?_
    refine so_iload (pc := 75) (i := 5) X (by decide +kernel) ?_
    refine so_isub (pc := 77) X (by decide +kernel) ?_
    refine so_iald (pc := 78) X (by decide +kernel) ?_
    refine so_i2l (pc := 79) X (by decide +kernel) ?_
    exact so_fall X (hJ 4)
  | 4 =>
    refine so_last (pc := 80) X (by decide +kernel) ?_
    refine so_aload_n (pc := 81) (i := 0) X (by decide +kernel) ?_
    refine so_getr (pc := 82) (index := 53) (ci := 7) (f := 28) (N := 32) (C := RX7) (T := TX7) X rfl uX7 (by decide) (by decide) tw_388 rfl (by decide +kernel) ?_
    refine so_iload_n (pc := 85) (i := 3) X (by decide +kernel) ?_
    refine so_iconst (pc := 86) (n := 0) (v := 0) X (by decide +kernel) (by decide) ?_
    refine so_zast (pc := 87) X (by decide +kernel) ?_
    refine so_iinc (pc := 88) (i := 3) (n := 1) (y := 1) X (by decide +kernel) (by decide) (by decide) ?_
    exact so_goto (pc := 91) (off := 115) (tgt := 206) X (by decide +kernel) (by decide) (hJ 12)
  | 5 =>
    refine so_iload (pc := 94) (i := 5) X (by decide +kernel) ?_
    refine so_bipush (pc := 96) (n := (-6)) (v := (-6)) X (by decide +kernel) (by decide) ?_
    refine so_icmp_eq (pc := 98) (off := 10) (tgt := 108) X (by decide +kernel) (by decide) (hJ 6) ?_
    refine so_iload (pc := 101) (i := 5) X (by decide +kernel) ?_
    refine so_bipush (pc := 103) (n := (-7)) (v := (-7)) X (by decide +kernel) (by decide) ?_
    refine so_icmp_ne (pc := 105) (off := 34) (tgt := 139) X (by decide +kernel) (by decide) (hJ 9) ?_
    exact so_fall X (hJ 6)
  | 6 =>
    refine so_aload_n (pc := 108) (i := 0) X (by decide +kernel) ?_
    refine so_getr (pc := 109) (index := 49) (ci := 7) (f := 27) (N := 32) (C := RX7) (T := TX7) X rfl uX7 (by decide) (by decide) tw_387 rfl (by decide +kernel) ?_
    refine so_iload_n (pc := 112) (i := 3) X (by decide +kernel) ?_
    refine so_iload (pc := 113) (i := 5) X (by decide +kernel) ?_
    refine so_bipush (pc := 115) (n := (-6)) (v := (-6)) X (by decide +kernel) (by decide) ?_
    refine so_icmp_ne (pc := 117) (off := 7) (tgt := 124) X (by decide +kernel) (by decide) (hJ 7) ?_
    refine so_lconst (pc := 120) (n := 1) (v := 1) X (by decide +kernel) (by decide) ?_
    exact so_goto (pc := 121) (off := 4) (tgt := 125) X (by decide +kernel) (by decide) (hJ 8)
  | 7 =>
    refine so_lconst (pc := 124) (n := 0) (v := 0) X (by decide +kernel) (by decide) ?_
    exact so_fall X (hJ 8)
  | 8 =>
    refine so_last (pc := 125) X (by decide +kernel) ?_
    refine so_aload_n (pc := 126) (i := 0) X (by decide +kernel) ?_
    refine so_getr (pc := 127) (index := 53) (ci := 7) (f := 28) (N := 32) (C := RX7) (T := TX7) X rfl uX7 (by decide) (by decide) tw_388 rfl (by decide +kernel) ?_
    refine so_iload_n (pc := 130) (i := 3) X (by decide +kernel) ?_
    refine so_iconst (pc := 131) (n := 0) (v := 0) X (by decide +kernel) (by decide) ?_
    refine so_zast (pc := 132) X (by decide +kernel) ?_
    refine so_iinc (pc := 133) (i := 3) (n := 1) (y := 1) X (by decide +kernel) (by decide) (by decide) ?_
    exact so_goto (pc := 136) (off := 70) (tgt := 206) X (by decide +kernel) (by decide) (hJ 12)
  | 9 =>
    refine so_iload (pc := 139) (i := 5) X (by decide +kernel) ?_
    refine so_bipush (pc := 141) (n := (-30)) (v := (-30)) X (by decide +kernel) (by decide) ?_
    refine so_icmp_ne (pc := 143) (off := 23) (tgt := 166) X (by decide +kernel) (by decide) (hJ 10) ?_
    refine so_aload_n (pc := 146) (i := 0) X (by decide +kernel) ?_
    refine so_getr (pc := 147) (index := 49) (ci := 7) (f := 27) (N := 32) (C := RX7) (T := TX7) X rfl uX7 (by decide) (by decide) tw_387 rfl (by decide +kernel) ?_
    refine so_iload_n (pc := 150) (i := 3) X (by decide +kernel) ?_
    refine so_iconst (pc := 151) (n := 1) (v := 1) X (by decide +kernel) (by decide) ?_
    refine so_isub (pc := 152) X (by decide +kernel) ?_
    refine so_aload_n (pc := 153) (i := 0) X (by decide +kernel) ?_
    refine so_getr (pc := 154) (index := 49) (ci := 7) (f := 27) (N := 32) (C := RX7) (T := TX7) X rfl uX7 (by decide) (by decide) tw_387 rfl (by decide +kernel) ?_
    refine so_iload_n (pc := 157) (i := 3) X (by decide +kernel) ?_
    refine so_iconst (pc := 158) (n := 1) (v := 1) X (by decide +kernel) (by decide) ?_
    refine so_isub (pc := 159) X (by decide +kernel) ?_
    refine so_lald (pc := 160) X (by decide +kernel) ?_
    refine so_lneg (pc := 161) X (by decide +kernel) ?_
    refine so_last (pc := 162) X (by decide +kernel) ?_
    exact so_goto (pc := 163) (off := 43) (tgt := 206) X (by decide +kernel) (by decide) (hJ 12)
  | 10 =>
    refine so_iload (pc := 166) (i := 5) X (by decide +kernel) ?_
    refine so_bipush (pc := 168) (n := (-5)) (v := (-5)) X (by decide +kernel) (by decide) ?_
    refine so_icmp_ne (pc := 170) (off := 24) (tgt := 194) X (by decide +kernel) (by decide) (hJ 11) ?_
    refine so_aload_n (pc := 173) (i := 0) X (by decide +kernel) ?_
    refine so_getr (pc := 174) (index := 49) (ci := 7) (f := 27) (N := 32) (C := RX7) (T := TX7) X rfl uX7 (by decide) (by decide) tw_387 rfl (by decide +kernel) ?_
    refine so_iload_n (pc := 177) (i := 3) X (by decide +kernel) ?_
    refine so_iconst (pc := 178) (n := 1) (v := 1) X (by decide +kernel) (by decide) ?_
    refine so_isub (pc := 179) X (by decide +kernel) ?_
    refine so_lconst (pc := 180) (n := 1) (v := 1) X (by decide +kernel) (by decide) ?_
    refine so_aload_n (pc := 181) (i := 0) X (by decide +kernel) ?_
    refine so_getr (pc := 182) (index := 49) (ci := 7) (f := 27) (N := 32) (C := RX7) (T := TX7) X rfl uX7 (by decide) (by decide) tw_387 rfl (by decide +kernel) ?_
    refine so_iload_n (pc := 185) (i := 3) X (by decide +kernel) ?_
    refine so_iconst (pc := 186) (n := 1) (v := 1) X (by decide +kernel) (by decide) ?_
    refine so_isub (pc := 187) X (by decide +kernel) ?_
    refine so_lald (pc := 188) X (by decide +kernel) ?_
    refine so_lsub (pc := 189) X (by decide +kernel) ?_
    refine so_last (pc := 190) X (by decide +kernel) ?_
    exact so_goto (pc := 191) (off := 15) (tgt := 206) X (by decide +kernel) (by decide) (hJ 12)
  | 11 =>
    refine so_iinc (pc := 194) (i := 3) (n := (-1)) (y := (-1)) X (by decide +kernel) (by decide) (by decide) ?_
    refine so_aload_n (pc := 197) (i := 0) X (by decide +kernel) ?_
    refine so_iload (pc := 198) (i := 5) X (by decide +kernel) ?_
    refine so_iload_n (pc := 200) (i := 3) X (by decide +kernel) ?_
    refine so_iconst (pc := 201) (n := 1) (v := 1) X (by decide +kernel) (by decide) ?_
    refine so_isub (pc := 202) X (by decide +kernel) ?_
    refine so_cav (pc := 203) (y := 124) (na := 3) (index := 172) (maxL := 11) (nm := yX7_join) (bytes := cX7_join) (ret := none) (ci := 7) (N := 32) (T := TX7) X hxo (fun _ _ _ _ h => h.1) hC lw_good (Nat.le_refl _) (mm_lo d) rfl (by decide) tw_481 tw_482 tw_397 rfl (by decide) tw_483 tw_484 (by decide +kernel) (by decide +kernel) ?_
    exact so_fall X (hJ 12)
  | 12 =>
    refine so_iinc (pc := 206) (i := 4) (n := 1) (y := 1) X (by decide +kernel) (by decide) (by decide) ?_
    exact so_goto (pc := 209) (off := (-204)) (tgt := 5) X (by decide +kernel) (by decide) (hJ 1)
  | 13 =>
    refine so_aload_n (pc := 212) (i := 0) X (by decide +kernel) ?_
    refine so_getr (pc := 213) (index := 53) (ci := 7) (f := 28) (N := 32) (C := RX7) (T := TX7) X rfl uX7 (by decide) (by decide) tw_388 rfl (by decide +kernel) ?_
    refine so_iconst (pc := 216) (n := 0) (v := 0) X (by decide +kernel) (by decide) ?_
    refine so_zald (pc := 217) X (by decide +kernel) ?_
    refine so_if_eq (pc := 218) (off := 7) (tgt := 225) X (by decide +kernel) (by decide) (hJ 14) ?_
    refine so_iconst (pc := 221) (n := 2) (v := 2) X (by decide +kernel) (by decide) ?_
    exact so_goto (pc := 222) (off := 10) (tgt := 232) X (by decide +kernel) (by decide) (hJ 15)
  | 14 =>
    refine so_aload_n (pc := 225) (i := 0) X (by decide +kernel) ?_
    refine so_getr (pc := 226) (index := 49) (ci := 7) (f := 27) (N := 32) (C := RX7) (T := TX7) X rfl uX7 (by decide) (by decide) tw_387 rfl (by decide +kernel) ?_
    refine so_iconst (pc := 229) (n := 0) (v := 0) X (by decide +kernel) (by decide) ?_
    refine so_lald (pc := 230) X (by decide +kernel) ?_
    refine so_l2i (pc := 231) X (by decide +kernel) ?_
    exact so_fall X (hJ 15)
  | 15 =>
    exact so_ret (pc := 232) X hlk hfree hr (by decide +kernel)
  | n + 16 => exact fun _ _ _ _ h => h.elim
theorem bs_X7_what {l : Launch} {D : va_G} {EXT : (Nat → Nat) → (Nat → Prop) → State → Heap → Prop} (hxo : mm_xo EXT) (hxe : ∀ ad A U H, EXT ad A U H → px_E0 ad A U H) : mm_BS l D pcl lw_T EXT px_tab 123 pb_X7_what pp_X7_what := by
  intro d C hC p e s m args below meth c A ad0 cA0 μ0 free Q J
  rw [tb_123]
  exact fun X hr hlk hnm hfree hJ => bk_X7_what hxo hxe hC X hr hlk hnm hfree hJ
set_option maxHeartbeats 4000000 in
set_option maxRecDepth 100000 in
theorem bk_X7_join {l : Launch} {D : va_G} {EXT : (Nat → Nat) → (Nat → Prop) → State → Heap → Prop} (hxo : mm_xo EXT) (hxe : ∀ ad A U H, EXT ad A U H → px_E0 ad A U H) {d : Nat} {C : mm_C} (hC : mm_CS l D pcl lw_T EXT px_tab d C) {p : Program} {e : Env} {s : State} {m : MethodId} {args : Array Value} {below : List Frame} {meth : Method} {c : Code} {A : Nat → Prop} {ad0 : Nat → Nat} {cA0 : Nat → ClassId} {μ0 : mm_M} {free : Addr → Prop} {Q : mm_Q} {J : mm_J} (X : mm_cx p (mm_rm (d + 1) 0 0) s m args c cX7_join RX7 lw_T A D pcl 11) (hr : meth.sig.returnType = none) (hlk : meth.locks = false) (hnm : meth.name = "join") (hfree : ∀ q, A q → free q) (hJ : ∀ t, mm_SK p l e (mm_rm (d + 1) 0 0) s m args below meth c (MQ below (mm_Qc D pcl Q ad0 cA0 μ0 0 A) args s 0 0 free) D pcl A 11 (mm_EX EXT A s ad0 cA0 (mm_n μ0)) (pp_X7_join t) (J t)) : ∀ t, mm_SK p l e (mm_rm (d + 1) 0 0) s m args below meth c (MQ below (mm_Qc D pcl Q ad0 cA0 μ0 0 A) args s 0 0 free) D pcl A 11 (mm_EX EXT A s ad0 cA0 (mm_n μ0)) (pp_X7_join t) (pb_X7_join J C Q t) := by
  intro t
  match t with
  | 0 =>
    refine so_aload_n (pc := 0) (i := 0) X (by decide +kernel) ?_
    refine so_getr (pc := 1) (index := 49) (ci := 7) (f := 27) (N := 32) (C := RX7) (T := TX7) X rfl uX7 (by decide) (by decide) tw_387 rfl (by decide +kernel) ?_
    refine so_iload_n (pc := 4) (i := 2) X (by decide +kernel) ?_
    refine so_lald (pc := 5) X (by decide +kernel) ?_
    refine so_lstore_n (pc := 6) (i := 3) X (by decide +kernel) (by decide) ?_
    refine so_aload_n (pc := 7) (i := 0) X (by decide +kernel) ?_
    refine so_getr (pc := 8) (index := 49) (ci := 7) (f := 27) (N := 32) (C := RX7) (T := TX7) X rfl uX7 (by decide) (by decide) tw_387 rfl (by decide +kernel) ?_
    refine so_iload_n (pc := 11) (i := 2) X (by decide +kernel) ?_
    refine so_iconst (pc := 12) (n := 1) (v := 1) X (by decide +kernel) (by decide) ?_
    refine so_iadd (pc := 13) X (by decide +kernel) ?_
    refine so_lald (pc := 14) X (by decide +kernel) ?_
    refine so_lstore (pc := 15) (i := 5) X (by decide +kernel) (by decide) ?_
    refine so_aload_n (pc := 17) (i := 0) X (by decide +kernel) ?_
    refine so_getr (pc := 18) (index := 53) (ci := 7) (f := 28) (N := 32) (C := RX7) (T := TX7) X rfl uX7 (by decide) (by decide) tw_388 rfl (by decide +kernel) ?_
    refine so_iload_n (pc := 21) (i := 2) X (by decide +kernel) ?_
    refine so_zald (pc := 22) X (by decide +kernel) ?_
    refine so_if_ne (pc := 23) (off := 14) (tgt := 37) X (by decide +kernel) (by decide) (hJ 1) ?_
    refine so_aload_n (pc := 26) (i := 0) X (by decide +kernel) ?_
    refine so_getr (pc := 27) (index := 53) (ci := 7) (f := 28) (N := 32) (C := RX7) (T := TX7) X rfl uX7 (by decide) (by decide) tw_388 rfl (by decide +kernel) ?_
    refine so_iload_n (pc := 30) (i := 2) X (by decide +kernel) ?_
    refine so_iconst (pc := 31) (n := 1) (v := 1) X (by decide +kernel) (by decide) ?_
    refine so_iadd (pc := 32) X (by decide +kernel) ?_
    refine so_zald (pc := 33) X (by decide +kernel) ?_
    refine so_if_eq (pc := 34) (off := 7) (tgt := 41) X (by decide +kernel) (by decide) (hJ 2) ?_
    exact so_fall X (hJ 1)
  | 1 =>
    refine so_iconst (pc := 37) (n := 1) (v := 1) X (by decide +kernel) (by decide) ?_
    exact so_goto (pc := 38) (off := 4) (tgt := 42) X (by decide +kernel) (by decide) (hJ 3)
  | 2 =>
    refine so_iconst (pc := 41) (n := 0) (v := 0) X (by decide +kernel) (by decide) ?_
    exact so_fall X (hJ 3)
  | 3 =>
    refine so_istore (pc := 42) (i := 7) X (by decide +kernel) (by decide) ?_
    refine so_iload_n (pc := 44) (i := 1) X (by decide +kernel) ?_
    refine so_bipush (pc := 45) (n := (-3)) (v := (-3)) X (by decide +kernel) (by decide) ?_
    refine so_icmp_eq (pc := 47) (off := 9) (tgt := 56) X (by decide +kernel) (by decide) (hJ 4) ?_
    refine so_iload_n (pc := 50) (i := 1) X (by decide +kernel) ?_
    refine so_bipush (pc := 51) (n := (-4)) (v := (-4)) X (by decide +kernel) (by decide) ?_
    refine so_icmp_ne (pc := 53) (off := 100) (tgt := 153) X (by decide +kernel) (by decide) (hJ 15) ?_
    exact so_fall X (hJ 4)
  | 4 =>
    refine so_iload_n (pc := 56) (i := 1) X (by decide +kernel) ?_
    refine so_bipush (pc := 57) (n := (-4)) (v := (-4)) X (by decide +kernel) (by decide) ?_
    refine so_icmp_ne (pc := 59) (off := 7) (tgt := 66) X (by decide +kernel) (by decide) (hJ 5) ?_
    refine so_lconst (pc := 62) (n := 1) (v := 1) X (by decide +kernel) (by decide) ?_
    exact so_goto (pc := 63) (off := 4) (tgt := 67) X (by decide +kernel) (by decide) (hJ 6)
  | 5 =>
    refine so_lconst (pc := 66) (n := 0) (v := 0) X (by decide +kernel) (by decide) ?_
    exact so_fall X (hJ 6)
  | 6 =>
    refine so_lstore (pc := 67) (i := 8) X (by decide +kernel) (by decide) ?_
    refine so_aload_n (pc := 69) (i := 0) X (by decide +kernel) ?_
    refine so_getr (pc := 70) (index := 53) (ci := 7) (f := 28) (N := 32) (C := RX7) (T := TX7) X rfl uX7 (by decide) (by decide) tw_388 rfl (by decide +kernel) ?_
    refine so_iload_n (pc := 73) (i := 2) X (by decide +kernel) ?_
    refine so_zald (pc := 74) X (by decide +kernel) ?_
    refine so_if_ne (pc := 75) (off := 10) (tgt := 85) X (by decide +kernel) (by decide) (hJ 7) ?_
    refine so_lload_n (pc := 78) (i := 3) X (by decide +kernel) ?_
    refine so_lload (pc := 79) (i := 8) X (by decide +kernel) ?_
    refine so_lcmp (pc := 81) X (by decide +kernel) ?_
    refine so_if_eq (pc := 82) (off := 22) (tgt := 104) X (by decide +kernel) (by decide) (hJ 8) ?_
    exact so_fall X (hJ 7)
  | 7 =>
    refine so_aload_n (pc := 85) (i := 0) X (by decide +kernel) ?_
    refine so_getr (pc := 86) (index := 53) (ci := 7) (f := 28) (N := 32) (C := RX7) (T := TX7) X rfl uX7 (by decide) (by decide) tw_388 rfl (by decide +kernel) ?_
    refine so_iload_n (pc := 89) (i := 2) X (by decide +kernel) ?_
    refine so_iconst (pc := 90) (n := 1) (v := 1) X (by decide +kernel) (by decide) ?_
    refine so_iadd (pc := 91) X (by decide +kernel) ?_
    refine so_zald (pc := 92) X (by decide +kernel) ?_
    refine so_if_ne (pc := 93) (off := 15) (tgt := 108) X (by decide +kernel) (by decide) (hJ 9) ?_
    refine so_lload (pc := 96) (i := 5) X (by decide +kernel) ?_
    refine so_lload (pc := 98) (i := 8) X (by decide +kernel) ?_
    refine so_lcmp (pc := 100) X (by decide +kernel) ?_
    refine so_if_ne (pc := 101) (off := 7) (tgt := 108) X (by decide +kernel) (by decide) (hJ 9) ?_
    exact so_fall X (hJ 8)
  | 8 =>
    refine so_iconst (pc := 104) (n := 1) (v := 1) X (by decide +kernel) (by decide) ?_
    exact so_goto (pc := 105) (off := 4) (tgt := 109) X (by decide +kernel) (by decide) (hJ 10)
  | 9 =>
    refine so_iconst (pc := 108) (n := 0) (v := 0) X (by decide +kernel) (by decide) ?_
    exact so_fall X (hJ 10)
  | 10 =>
    refine so_istore (pc := 109) (i := 10) X (by decide +kernel) (by decide) ?_
    refine so_aload_n (pc := 111) (i := 0) X (by decide +kernel) ?_
    refine so_getr (pc := 112) (index := 49) (ci := 7) (f := 27) (N := 32) (C := RX7) (T := TX7) X rfl uX7 (by decide) (by decide) tw_387 rfl (by decide +kernel) ?_
    refine so_iload_n (pc := 115) (i := 2) X (by decide +kernel) ?_
    refine so_iload (pc := 116) (i := 10) X (by decide +kernel) ?_
    refine so_if_eq (pc := 118) (off := 8) (tgt := 126) X (by decide +kernel) (by decide) (hJ 11) ?_
    refine so_lload (pc := 121) (i := 8) X (by decide +kernel) ?_
    exact so_goto (pc := 123) (off := 7) (tgt := 130) X (by decide +kernel) (by decide) (hJ 12)
  | 11 =>
    refine so_lconst (pc := 126) (n := 1) (v := 1) X (by decide +kernel) (by decide) ?_
    refine so_lload (pc := 127) (i := 8) X (by decide +kernel) ?_
    refine so_lsub (pc := 129) X (by decide +kernel) ?_
    exact so_fall X (hJ 12)
  | 12 =>
    refine so_last (pc := 130) X (by decide +kernel) ?_
    refine so_aload_n (pc := 131) (i := 0) X (by decide +kernel) ?_
    refine so_getr (pc := 132) (index := 53) (ci := 7) (f := 28) (N := 32) (C := RX7) (T := TX7) X rfl uX7 (by decide) (by decide) tw_388 rfl (by decide +kernel) ?_
    refine so_iload_n (pc := 135) (i := 2) X (by decide +kernel) ?_
    refine so_iload (pc := 136) (i := 10) X (by decide +kernel) ?_
    refine so_if_ne (pc := 138) (off := 12) (tgt := 150) X (by decide +kernel) (by decide) (hJ 13) ?_
    refine so_iload (pc := 141) (i := 7) X (by decide +kernel) ?_
    refine so_if_eq (pc := 143) (off := 7) (tgt := 150) X (by decide +kernel) (by decide) (hJ 13) ?_
    refine so_iconst (pc := 146) (n := 1) (v := 1) X (by decide +kernel) (by decide) ?_
    exact so_goto (pc := 147) (off := 4) (tgt := 151) X (by decide +kernel) (by decide) (hJ 14)
  | 13 =>
    refine so_iconst (pc := 150) (n := 0) (v := 0) X (by decide +kernel) (by decide) ?_
    exact so_fall X (hJ 14)
  | 14 =>
    refine so_zast (pc := 151) X (by decide +kernel) ?_
    exact so_rtv (pc := 152) X hlk hfree hr (by decide +kernel)
  | 15 =>
    refine so_bipush (pc := 153) (n := (-100)) (v := (-100)) X (by decide +kernel) (by decide) ?_
    refine so_iload_n (pc := 155) (i := 1) X (by decide +kernel) ?_
    refine so_isub (pc := 156) X (by decide +kernel) ?_
    refine so_istore (pc := 157) (i := 8) X (by decide +kernel) (by decide) ?_
    refine so_aload_n (pc := 159) (i := 0) X (by decide +kernel) ?_
    refine so_getr (pc := 160) (index := 53) (ci := 7) (f := 28) (N := 32) (C := RX7) (T := TX7) X rfl uX7 (by decide) (by decide) tw_388 rfl (by decide +kernel) ?_
    refine so_iload_n (pc := 163) (i := 2) X (by decide +kernel) ?_
    refine so_iload (pc := 164) (i := 7) X (by decide +kernel) ?_
    refine so_if_ne (pc := 166) (off := 17) (tgt := 183) X (by decide +kernel) (by decide) (hJ 16) ?_
    refine so_iload (pc := 169) (i := 8) X (by decide +kernel) ?_
    refine so_bipush (pc := 171) (n := 47) (v := 47) X (by decide +kernel) (by decide) ?_
    refine so_icmp_ne (pc := 173) (off := 14) (tgt := 187) X (by decide +kernel) (by decide) (hJ 17) ?_
    refine so_lload (pc := 176) (i := 5) X (by decide +kernel) ?_
    refine so_lconst (pc := 178) (n := 0) (v := 0) X (by decide +kernel) (by decide) ?_
    refine so_lcmp (pc := 179) X (by decide +kernel) ?_
    refine so_if_ne (pc := 180) (off := 7) (tgt := 187) X (by decide +kernel) (by decide) (hJ 17) ?_
    exact so_fall X (hJ 16)
  | 16 =>
    refine so_iconst (pc := 183) (n := 1) (v := 1) X (by decide +kernel) (by decide) ?_
    exact so_goto (pc := 184) (off := 4) (tgt := 188) X (by decide +kernel) (by decide) (hJ 18)
  | 17 =>
    refine so_iconst (pc := 187) (n := 0) (v := 0) X (by decide +kernel) (by decide) ?_
    exact so_fall X (hJ 18)
  | 18 =>
    refine so_zast (pc := 188) X (by decide +kernel) ?_
    refine so_aload_n (pc := 189) (i := 0) X (by decide +kernel) ?_
    refine so_getr (pc := 190) (index := 53) (ci := 7) (f := 28) (N := 32) (C := RX7) (T := TX7) X rfl uX7 (by decide) (by decide) tw_388 rfl (by decide +kernel) ?_
    refine so_iload_n (pc := 193) (i := 2) X (by decide +kernel) ?_
    refine so_zald (pc := 194) X (by decide +kernel) ?_
    refine so_if_eq (pc := 195) (off := 13) (tgt := 208) X (by decide +kernel) (by decide) (hJ 19) ?_
    refine so_aload_n (pc := 198) (i := 0) X (by decide +kernel) ?_
    refine so_getr (pc := 199) (index := 49) (ci := 7) (f := 27) (N := 32) (C := RX7) (T := TX7) X rfl uX7 (by decide) (by decide) tw_387 rfl (by decide +kernel) ?_
    refine so_iload_n (pc := 202) (i := 2) X (by decide +kernel) ?_
    refine so_lconst (pc := 203) (n := 0) (v := 0) X (by decide +kernel) (by decide) ?_
    refine so_last (pc := 204) X (by decide +kernel) ?_
    exact so_goto (pc := 205) (off := 121) (tgt := 326) X (by decide +kernel) (by decide) (hJ 30)
  | 19 =>
    refine so_aload_n (pc := 208) (i := 0) X (by decide +kernel) ?_
    refine so_getr (pc := 209) (index := 49) (ci := 7) (f := 27) (N := 32) (C := RX7) (T := TX7) X rfl uX7 (by decide) (by decide) tw_387 rfl (by decide +kernel) ?_
    refine so_iload_n (pc := 212) (i := 2) X (by decide +kernel) ?_
    refine so_iload (pc := 213) (i := 8) X (by decide +kernel) ?_
    refine so_bipush (pc := 215) (n := 43) (v := 43) X (by decide +kernel) (by decide) ?_
    refine so_icmp_ne (pc := 217) (off := 10) (tgt := 227) X (by decide +kernel) (by decide) (hJ 20) ?_
    refine so_lload_n (pc := 220) (i := 3) X (by decide +kernel) ?_
    refine so_lload (pc := 221) (i := 5) X (by decide +kernel) ?_
    refine so_ladd (pc := 223) X (by decide +kernel) ?_
    exact so_goto (pc := 224) (off := 101) (tgt := 325) X (by decide +kernel) (by decide) (hJ 29)
  | 20 =>
    refine so_iload (pc := 227) (i := 8) X (by decide +kernel) ?_
    refine so_bipush (pc := 229) (n := 45) (v := 45) X (by decide +kernel) (by decide) ?_
    refine so_icmp_ne (pc := 231) (off := 10) (tgt := 241) X (by decide +kernel) (by decide) (hJ 21) ?_
    refine so_lload_n (pc := 234) (i := 3) X (by decide +kernel) ?_
    refine so_lload (pc := 235) (i := 5) X (by decide +kernel) ?_
    refine so_lsub (pc := 237) X (by decide +kernel) ?_
    exact so_goto (pc := 238) (off := 87) (tgt := 325) X (by decide +kernel) (by decide) (hJ 29)
  | 21 =>
    refine so_iload (pc := 241) (i := 8) X (by decide +kernel) ?_
    refine so_bipush (pc := 243) (n := 42) (v := 42) X (by decide +kernel) (by decide) ?_
    refine so_icmp_ne (pc := 245) (off := 10) (tgt := 255) X (by decide +kernel) (by decide) (hJ 22) ?_
    refine so_lload_n (pc := 248) (i := 3) X (by decide +kernel) ?_
    refine so_lload (pc := 249) (i := 5) X (by decide +kernel) ?_
    refine so_lmul (pc := 251) X (by decide +kernel) ?_
    exact so_goto (pc := 252) (off := 73) (tgt := 325) X (by decide +kernel) (by decide) (hJ 29)
  | 22 =>
    refine so_iload (pc := 255) (i := 8) X (by decide +kernel) ?_
    refine so_bipush (pc := 257) (n := 47) (v := 47) X (by decide +kernel) (by decide) ?_
    refine so_icmp_ne (pc := 259) (off := 10) (tgt := 269) X (by decide +kernel) (by decide) (hJ 23) ?_
    refine so_lload_n (pc := 262) (i := 3) X (by decide +kernel) ?_
    refine so_lload (pc := 263) (i := 5) X (by decide +kernel) ?_
    refine so_ldiv (pc := 265) X (by decide +kernel) ?_
    exact so_goto (pc := 266) (off := 59) (tgt := 325) X (by decide +kernel) (by decide) (hJ 29)
  | 23 =>
    refine so_iload (pc := 269) (i := 8) X (by decide +kernel) ?_
    refine so_bipush (pc := 271) (n := 60) (v := 60) X (by decide +kernel) (by decide) ?_
    refine so_icmp_ne (pc := 273) (off := 18) (tgt := 291) X (by decide +kernel) (by decide) (hJ 25) ?_
    refine so_lload_n (pc := 276) (i := 3) X (by decide +kernel) ?_
    refine so_lload (pc := 277) (i := 5) X (by decide +kernel) ?_
    refine so_lcmp (pc := 279) X (by decide +kernel) ?_
    refine so_if_ge (pc := 280) (off := 7) (tgt := 287) X (by decide +kernel) (by decide) (hJ 24) ?_
    refine so_lconst (pc := 283) (n := 1) (v := 1) X (by decide +kernel) (by decide) ?_
    exact so_goto (pc := 284) (off := 41) (tgt := 325) X (by decide +kernel) (by decide) (hJ 29)
  | 24 =>
    refine so_lconst (pc := 287) (n := 0) (v := 0) X (by decide +kernel) (by decide) ?_
    exact so_goto (pc := 288) (off := 37) (tgt := 325) X (by decide +kernel) (by decide) (hJ 29)
  | 25 =>
    refine so_iload (pc := 291) (i := 8) X (by decide +kernel) ?_
    refine so_bipush (pc := 293) (n := 61) (v := 61) X (by decide +kernel) (by decide) ?_
    refine so_icmp_ne (pc := 295) (off := 18) (tgt := 313) X (by decide +kernel) (by decide) (hJ 27) ?_
    refine so_lload_n (pc := 298) (i := 3) X (by decide +kernel) ?_
    refine so_lload (pc := 299) (i := 5) X (by decide +kernel) ?_
    refine so_lcmp (pc := 301) X (by decide +kernel) ?_
    refine so_if_ne (pc := 302) (off := 7) (tgt := 309) X (by decide +kernel) (by decide) (hJ 26) ?_
    refine so_lconst (pc := 305) (n := 1) (v := 1) X (by decide +kernel) (by decide) ?_
    exact so_goto (pc := 306) (off := 19) (tgt := 325) X (by decide +kernel) (by decide) (hJ 29)
  | 26 =>
    refine so_lconst (pc := 309) (n := 0) (v := 0) X (by decide +kernel) (by decide) ?_
    exact so_goto (pc := 310) (off := 15) (tgt := 325) X (by decide +kernel) (by decide) (hJ 29)
  | 27 =>
    refine so_lload_n (pc := 313) (i := 3) X (by decide +kernel) ?_
    refine so_lload (pc := 314) (i := 5) X (by decide +kernel) ?_
    refine so_lcmp (pc := 316) X (by decide +kernel) ?_
    refine so_if_le (pc := 317) (off := 7) (tgt := 324) X (by decide +kernel) (by decide) (hJ 28) ?_
    refine so_lconst (pc := 320) (n := 1) (v := 1) X (by decide +kernel) (by decide) ?_
    exact so_goto (pc := 321) (off := 4) (tgt := 325) X (by decide +kernel) (by decide) (hJ 29)
  | 28 =>
    refine so_lconst (pc := 324) (n := 0) (v := 0) X (by decide +kernel) (by decide) ?_
    exact so_fall X (hJ 29)
  | 29 =>
    refine so_last (pc := 325) X (by decide +kernel) ?_
    exact so_fall X (hJ 30)
  | 30 =>
    exact so_rtv (pc := 326) X hlk hfree hr (by decide +kernel)
  | n + 31 => exact fun _ _ _ _ h => h.elim
theorem bs_X7_join {l : Launch} {D : va_G} {EXT : (Nat → Nat) → (Nat → Prop) → State → Heap → Prop} (hxo : mm_xo EXT) (hxe : ∀ ad A U H, EXT ad A U H → px_E0 ad A U H) : mm_BS l D pcl lw_T EXT px_tab 124 pb_X7_join pp_X7_join := by
  intro d C hC p e s m args below meth c A ad0 cA0 μ0 free Q J
  rw [tb_124]
  exact fun X hr hlk hnm hfree hJ => bk_X7_join hxo hxe hC X hr hlk hnm hfree hJ
set_option maxHeartbeats 4000000 in
set_option maxRecDepth 100000 in
theorem bk_X7_isSeen {l : Launch} {D : va_G} {EXT : (Nat → Nat) → (Nat → Prop) → State → Heap → Prop} (hxo : mm_xo EXT) (hxe : ∀ ad A U H, EXT ad A U H → px_E0 ad A U H) {d : Nat} {C : mm_C} (hC : mm_CS l D pcl lw_T EXT px_tab d C) {p : Program} {e : Env} {s : State} {m : MethodId} {args : Array Value} {below : List Frame} {meth : Method} {c : Code} {A : Nat → Prop} {ad0 : Nat → Nat} {cA0 : Nat → ClassId} {μ0 : mm_M} {free : Addr → Prop} {Q : mm_Q} {J : mm_J} (X : mm_cx p (mm_rm (d + 1) 0 0) s m args c cX7_isSeen RX7 lw_T A D pcl 3) (hr : meth.sig.returnType = some .boolean) (hlk : meth.locks = false) (hnm : meth.name = "isSeen") (hfree : ∀ q, A q → free q) (hJ : ∀ t, mm_SK p l e (mm_rm (d + 1) 0 0) s m args below meth c (MQ below (mm_Qc D pcl Q ad0 cA0 μ0 0 A) args s 0 0 free) D pcl A 3 (mm_EX EXT A s ad0 cA0 (mm_n μ0)) (pp_X7_isSeen t) (J t)) : ∀ t, mm_SK p l e (mm_rm (d + 1) 0 0) s m args below meth c (MQ below (mm_Qc D pcl Q ad0 cA0 μ0 0 A) args s 0 0 free) D pcl A 3 (mm_EX EXT A s ad0 cA0 (mm_n μ0)) (pp_X7_isSeen t) (pb_X7_isSeen J C Q t) := by
  intro t
  match t with
  | 0 =>
    refine so_aload_n (pc := 0) (i := 0) X (by decide +kernel) ?_
    refine so_iconst (pc := 1) (n := 2) (v := 2) X (by decide +kernel) (by decide) ?_
    refine so_iload_n (pc := 2) (i := 1) X (by decide +kernel) ?_
    refine so_imul (pc := 3) X (by decide +kernel) ?_
    refine so_iload_n (pc := 4) (i := 2) X (by decide +kernel) ?_
    refine so_cav (pc := 5) (y := 123) (na := 3) (index := 176) (maxL := 6) (nm := yX7_what) (bytes := cX7_what) (ret := (some .int)) (ci := 7) (N := 32) (T := TX7) X hxo (fun _ _ _ _ h => h.1) hC lw_good (Nat.le_refl _) (mm_lo d) rfl (by decide) tw_485 tw_486 tw_397 rfl (by decide) tw_487 tw_488 (by decide +kernel) (by decide +kernel) ?_
    refine so_iconst (pc := 8) (n := 1) (v := 1) X (by decide +kernel) (by decide) ?_
    refine so_icmp_ne (pc := 9) (off := 7) (tgt := 16) X (by decide +kernel) (by decide) (hJ 1) ?_
    refine so_iconst (pc := 12) (n := 1) (v := 1) X (by decide +kernel) (by decide) ?_
    exact so_goto (pc := 13) (off := 4) (tgt := 17) X (by decide +kernel) (by decide) (hJ 2)
  | 1 =>
    refine so_iconst (pc := 16) (n := 0) (v := 0) X (by decide +kernel) (by decide) ?_
    exact so_fall X (hJ 2)
  | 2 =>
    exact so_rtz (pc := 17) X hlk hfree hr (by decide +kernel)
  | n + 3 => exact fun _ _ _ _ h => h.elim
theorem bs_X7_isSeen {l : Launch} {D : va_G} {EXT : (Nat → Nat) → (Nat → Prop) → State → Heap → Prop} (hxo : mm_xo EXT) (hxe : ∀ ad A U H, EXT ad A U H → px_E0 ad A U H) : mm_BS l D pcl lw_T EXT px_tab 125 pb_X7_isSeen pp_X7_isSeen := by
  intro d C hC p e s m args below meth c A ad0 cA0 μ0 free Q J
  rw [tb_125]
  exact fun X hr hlk hnm hfree hJ => bk_X7_isSeen hxo hxe hC X hr hlk hnm hfree hJ
set_option maxHeartbeats 4000000 in
set_option maxRecDepth 100000 in
theorem bk_X7_isClosed {l : Launch} {D : va_G} {EXT : (Nat → Nat) → (Nat → Prop) → State → Heap → Prop} (hxo : mm_xo EXT) (hxe : ∀ ad A U H, EXT ad A U H → px_E0 ad A U H) {d : Nat} {C : mm_C} (hC : mm_CS l D pcl lw_T EXT px_tab d C) {p : Program} {e : Env} {s : State} {m : MethodId} {args : Array Value} {below : List Frame} {meth : Method} {c : Code} {A : Nat → Prop} {ad0 : Nat → Nat} {cA0 : Nat → ClassId} {μ0 : mm_M} {free : Addr → Prop} {Q : mm_Q} {J : mm_J} (X : mm_cx p (mm_rm (d + 1) 0 0) s m args c cX7_isClosed RX7 lw_T A D pcl 3) (hr : meth.sig.returnType = some .boolean) (hlk : meth.locks = false) (hnm : meth.name = "isClosed") (hfree : ∀ q, A q → free q) (hJ : ∀ t, mm_SK p l e (mm_rm (d + 1) 0 0) s m args below meth c (MQ below (mm_Qc D pcl Q ad0 cA0 μ0 0 A) args s 0 0 free) D pcl A 3 (mm_EX EXT A s ad0 cA0 (mm_n μ0)) (pp_X7_isClosed t) (J t)) : ∀ t, mm_SK p l e (mm_rm (d + 1) 0 0) s m args below meth c (MQ below (mm_Qc D pcl Q ad0 cA0 μ0 0 A) args s 0 0 free) D pcl A 3 (mm_EX EXT A s ad0 cA0 (mm_n μ0)) (pp_X7_isClosed t) (pb_X7_isClosed J C Q t) := by
  intro t
  match t with
  | 0 =>
    refine so_aload_n (pc := 0) (i := 0) X (by decide +kernel) ?_
    refine so_getr (pc := 1) (index := 27) (ci := 7) (f := 9) (N := 32) (C := RX7) (T := TX7) X rfl uX7 (by decide) (by decide) tw_380 rfl (by decide +kernel) ?_
    refine so_iload_n (pc := 4) (i := 1) X (by decide +kernel) ?_
    refine so_iald (pc := 5) X (by decide +kernel) ?_
    refine so_iload_n (pc := 6) (i := 2) X (by decide +kernel) ?_
    refine so_ishr (pc := 7) X (by decide +kernel) ?_
    refine so_iconst (pc := 8) (n := 1) (v := 1) X (by decide +kernel) (by decide) ?_
    refine so_iand (pc := 9) X (by decide +kernel) ?_
    refine so_iconst (pc := 10) (n := 1) (v := 1) X (by decide +kernel) (by decide) ?_
    refine so_icmp_ne (pc := 11) (off := 7) (tgt := 18) X (by decide +kernel) (by decide) (hJ 1) ?_
    refine so_iconst (pc := 14) (n := 1) (v := 1) X (by decide +kernel) (by decide) ?_
    exact so_goto (pc := 15) (off := 4) (tgt := 19) X (by decide +kernel) (by decide) (hJ 2)
  | 1 =>
    refine so_iconst (pc := 18) (n := 0) (v := 0) X (by decide +kernel) (by decide) ?_
    exact so_fall X (hJ 2)
  | 2 =>
    exact so_rtz (pc := 19) X hlk hfree hr (by decide +kernel)
  | n + 3 => exact fun _ _ _ _ h => h.elim
theorem bs_X7_isClosed {l : Launch} {D : va_G} {EXT : (Nat → Nat) → (Nat → Prop) → State → Heap → Prop} (hxo : mm_xo EXT) (hxe : ∀ ad A U H, EXT ad A U H → px_E0 ad A U H) : mm_BS l D pcl lw_T EXT px_tab 126 pb_X7_isClosed pp_X7_isClosed := by
  intro d C hC p e s m args below meth c A ad0 cA0 μ0 free Q J
  rw [tb_126]
  exact fun X hr hlk hnm hfree hJ => bk_X7_isClosed hxo hxe hC X hr hlk hnm hfree hJ
set_option maxHeartbeats 4000000 in
set_option maxRecDepth 100000 in
theorem bk_X7_isHidden {l : Launch} {D : va_G} {EXT : (Nat → Nat) → (Nat → Prop) → State → Heap → Prop} (hxo : mm_xo EXT) (hxe : ∀ ad A U H, EXT ad A U H → px_E0 ad A U H) {d : Nat} {C : mm_C} (hC : mm_CS l D pcl lw_T EXT px_tab d C) {p : Program} {e : Env} {s : State} {m : MethodId} {args : Array Value} {below : List Frame} {meth : Method} {c : Code} {A : Nat → Prop} {ad0 : Nat → Nat} {cA0 : Nat → ClassId} {μ0 : mm_M} {free : Addr → Prop} {Q : mm_Q} {J : mm_J} (X : mm_cx p (mm_rm (d + 1) 0 0) s m args c cX7_isHidden RX7 lw_T A D pcl 4) (hr : meth.sig.returnType = some .boolean) (hlk : meth.locks = false) (hnm : meth.name = "isHidden") (hfree : ∀ q, A q → free q) (hJ : ∀ t, mm_SK p l e (mm_rm (d + 1) 0 0) s m args below meth c (MQ below (mm_Qc D pcl Q ad0 cA0 μ0 0 A) args s 0 0 free) D pcl A 4 (mm_EX EXT A s ad0 cA0 (mm_n μ0)) (pp_X7_isHidden t) (J t)) : ∀ t, mm_SK p l e (mm_rm (d + 1) 0 0) s m args below meth c (MQ below (mm_Qc D pcl Q ad0 cA0 μ0 0 A) args s 0 0 free) D pcl A 4 (mm_EX EXT A s ad0 cA0 (mm_n μ0)) (pp_X7_isHidden t) (pb_X7_isHidden J C Q t) := by
  intro t
  match t with
  | 0 =>
    refine so_aload_n (pc := 0) (i := 0) X (by decide +kernel) ?_
    refine so_iload_n (pc := 1) (i := 1) X (by decide +kernel) ?_
    refine so_iload_n (pc := 2) (i := 2) X (by decide +kernel) ?_
    refine so_cav (pc := 3) (y := 126) (na := 3) (index := 179) (maxL := 3) (nm := yX7_isClosed) (bytes := cX7_isClosed) (ret := (some .boolean)) (ci := 7) (N := 32) (T := TX7) X hxo (fun _ _ _ _ h => h.1) hC lw_good (Nat.le_refl _) (mm_lo d) rfl (by decide) tw_489 tw_490 tw_397 rfl (by decide) tw_491 tw_492 (by decide +kernel) (by decide +kernel) ?_
    refine so_if_ne (pc := 6) (off := 12) (tgt := 18) X (by decide +kernel) (by decide) (hJ 1) ?_
    refine so_aload_n (pc := 9) (i := 0) X (by decide +kernel) ?_
    refine so_iload_n (pc := 10) (i := 1) X (by decide +kernel) ?_
    refine so_iload_n (pc := 11) (i := 3) X (by decide +kernel) ?_
    refine so_cav (pc := 12) (y := 125) (na := 3) (index := 183) (maxL := 3) (nm := yX7_isSeen) (bytes := cX7_isSeen) (ret := (some .boolean)) (ci := 7) (N := 32) (T := TX7) X hxo (fun _ _ _ _ h => h.1) hC lw_good (Nat.le_refl _) (mm_lo d) rfl (by decide) tw_493 tw_494 tw_397 rfl (by decide) tw_495 tw_496 (by decide +kernel) (by decide +kernel) ?_
    refine so_if_ne (pc := 15) (off := 7) (tgt := 22) X (by decide +kernel) (by decide) (hJ 2) ?_
    exact so_fall X (hJ 1)
  | 1 =>
    refine so_iconst (pc := 18) (n := 1) (v := 1) X (by decide +kernel) (by decide) ?_
    exact so_goto (pc := 19) (off := 4) (tgt := 23) X (by decide +kernel) (by decide) (hJ 3)
  | 2 =>
    refine so_iconst (pc := 22) (n := 0) (v := 0) X (by decide +kernel) (by decide) ?_
    exact so_fall X (hJ 3)
  | 3 =>
    exact so_rtz (pc := 23) X hlk hfree hr (by decide +kernel)
  | n + 4 => exact fun _ _ _ _ h => h.elim
theorem bs_X7_isHidden {l : Launch} {D : va_G} {EXT : (Nat → Nat) → (Nat → Prop) → State → Heap → Prop} (hxo : mm_xo EXT) (hxe : ∀ ad A U H, EXT ad A U H → px_E0 ad A U H) : mm_BS l D pcl lw_T EXT px_tab 127 pb_X7_isHidden pp_X7_isHidden := by
  intro d C hC p e s m args below meth c A ad0 cA0 μ0 free Q J
  rw [tb_127]
  exact fun X hr hlk hnm hfree hJ => bk_X7_isHidden hxo hxe hC X hr hlk hnm hfree hJ
set_option maxHeartbeats 4000000 in
set_option maxRecDepth 100000 in
theorem bk_X7_isBarred {l : Launch} {D : va_G} {EXT : (Nat → Nat) → (Nat → Prop) → State → Heap → Prop} (hxo : mm_xo EXT) (hxe : ∀ ad A U H, EXT ad A U H → px_E0 ad A U H) {d : Nat} {C : mm_C} (hC : mm_CS l D pcl lw_T EXT px_tab d C) {p : Program} {e : Env} {s : State} {m : MethodId} {args : Array Value} {below : List Frame} {meth : Method} {c : Code} {A : Nat → Prop} {ad0 : Nat → Nat} {cA0 : Nat → ClassId} {μ0 : mm_M} {free : Addr → Prop} {Q : mm_Q} {J : mm_J} (X : mm_cx p (mm_rm (d + 1) 0 0) s m args c cX7_isBarred RX7 lw_T A D pcl 5) (hr : meth.sig.returnType = some .boolean) (hlk : meth.locks = false) (hnm : meth.name = "isBarred") (hfree : ∀ q, A q → free q) (hJ : ∀ t, mm_SK p l e (mm_rm (d + 1) 0 0) s m args below meth c (MQ below (mm_Qc D pcl Q ad0 cA0 μ0 0 A) args s 0 0 free) D pcl A 5 (mm_EX EXT A s ad0 cA0 (mm_n μ0)) (pp_X7_isBarred t) (J t)) : ∀ t, mm_SK p l e (mm_rm (d + 1) 0 0) s m args below meth c (MQ below (mm_Qc D pcl Q ad0 cA0 μ0 0 A) args s 0 0 free) D pcl A 5 (mm_EX EXT A s ad0 cA0 (mm_n μ0)) (pp_X7_isBarred t) (pb_X7_isBarred J C Q t) := by
  intro t
  match t with
  | 0 =>
    refine so_iconst (pc := 0) (n := 0) (v := 0) X (by decide +kernel) (by decide) ?_
    refine so_istore_n (pc := 1) (i := 3) X (by decide +kernel) (by decide) ?_
    exact so_fall X (hJ 1)
  | 1 =>
    refine so_iload_n (pc := 2) (i := 3) X (by decide +kernel) ?_
    refine so_aload_n (pc := 3) (i := 0) X (by decide +kernel) ?_
    refine so_getr (pc := 4) (index := 24) (ci := 7) (f := 8) (N := 32) (C := RX7) (T := TX7) X rfl uX7 (by decide) (by decide) tw_379 rfl (by decide +kernel) ?_
    refine so_iload_n (pc := 7) (i := 2) X (by decide +kernel) ?_
    refine so_iald (pc := 8) X (by decide +kernel) ?_
    refine so_icmp_ge (pc := 9) (off := 51) (tgt := 60) X (by decide +kernel) (by decide) (hJ 3) ?_
    refine so_aload_n (pc := 12) (i := 0) X (by decide +kernel) ?_
    refine so_getr (pc := 13) (index := 21) (ci := 7) (f := 7) (N := 32) (C := RX7) (T := TX7) X rfl uX7 (by decide) (by decide) tw_378 rfl (by decide +kernel) ?_
    refine so_bipush (pc := 16) (n := 64) (v := 64) X (by decide +kernel) (by decide) ?_
    refine so_iload_n (pc := 18) (i := 2) X (by decide +kernel) ?_
    refine so_imul (pc := 19) X (by decide +kernel) ?_
    refine so_iload_n (pc := 20) (i := 3) X (by decide +kernel) ?_
    refine so_iadd (pc := 21) X (by decide +kernel) ?_
    refine so_iald (pc := 22) X (by decide +kernel) ?_
    refine so_istore (pc := 23) (i := 4) X (by decide +kernel) (by decide) ?_
    refine so_iload (pc := 25) (i := 4) X (by decide +kernel) ?_
    refine so_bipush (pc := 27) (n := (-20)) (v := (-20)) X (by decide +kernel) (by decide) ?_
    refine so_icmp_gt (pc := 29) (off := 25) (tgt := 54) X (by decide +kernel) (by decide) (hJ 2) ?_
    refine so_iload (pc := 32) (i := 4) X (by decide +kernel) ?_
    refine so_bipush (pc := 34) (n := (-24)) (v := (-24)) X (by decide +kernel) (by decide) ?_
    refine so_icmp_le (pc := 36) (off := 18) (tgt := 54) X (by decide +kernel) (by decide) (hJ 2) ?_
    refine so_aload_n (pc := 39) (i := 0) X (by decide +kernel) ?_
    refine so_iload_n (pc := 40) (i := 1) X (by decide +kernel) ?_
    refine so_bipush (pc := 41) (n := (-20)) (v := (-20)) X (by decide +kernel) (by decide) ?_
    refine so_iload (pc := 43) (i := 4) X (by decide +kernel) ?_
    refine so_isub (pc := 45) X (by decide +kernel) ?_
    refine so_cav (pc := 46) (y := 126) (na := 3) (index := 179) (maxL := 3) (nm := yX7_isClosed) (bytes := cX7_isClosed) (ret := (some .boolean)) (ci := 7) (N := 32) (T := TX7) X hxo (fun _ _ _ _ h => h.1) hC lw_good (Nat.le_refl _) (mm_lo d) rfl (by decide) tw_489 tw_490 tw_397 rfl (by decide) tw_491 tw_492 (by decide +kernel) (by decide +kernel) ?_
    refine so_if_eq (pc := 49) (off := 5) (tgt := 54) X (by decide +kernel) (by decide) (hJ 2) ?_
    refine so_iconst (pc := 52) (n := 1) (v := 1) X (by decide +kernel) (by decide) ?_
    exact so_rtz (pc := 53) X hlk hfree hr (by decide +kernel)
  | 2 =>
    refine so_iinc (pc := 54) (i := 3) (n := 1) (y := 1) X (by decide +kernel) (by decide) (by decide) ?_
    exact so_goto (pc := 57) (off := (-55)) (tgt := 2) X (by decide +kernel) (by decide) (hJ 1)
  | 3 =>
    refine so_iconst (pc := 60) (n := 0) (v := 0) X (by decide +kernel) (by decide) ?_
    exact so_rtz (pc := 61) X hlk hfree hr (by decide +kernel)
  | n + 4 => exact fun _ _ _ _ h => h.elim
theorem bs_X7_isBarred {l : Launch} {D : va_G} {EXT : (Nat → Nat) → (Nat → Prop) → State → Heap → Prop} (hxo : mm_xo EXT) (hxe : ∀ ad A U H, EXT ad A U H → px_E0 ad A U H) : mm_BS l D pcl lw_T EXT px_tab 128 pb_X7_isBarred pp_X7_isBarred := by
  intro d C hC p e s m args below meth c A ad0 cA0 μ0 free Q J
  rw [tb_128]
  exact fun X hr hlk hnm hfree hJ => bk_X7_isBarred hxo hxe hC X hr hlk hnm hfree hJ
