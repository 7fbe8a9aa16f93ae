set_option maxHeartbeats 4000000 in
set_option maxRecDepth 100000 in
theorem bk_X6_close {l : Launch} {D : va_G} {EXT : (Nat → Nat) → (Nat → Prop) → State → Heap → Prop} (hxo : mm_xo EXT) (hxe : ∀ ad A U H, EXT ad A U H → px_E0 ad A U H) {d : Nat} {C : mm_C} (hC : mm_CS l D pcl lw_T EXT px_tab d C) {p : Program} {e : Env} {s : State} {m : MethodId} {args : Array Value} {below : List Frame} {meth : Method} {c : Code} {A : Nat → Prop} {ad0 : Nat → Nat} {cA0 : Nat → ClassId} {μ0 : mm_M} {free : Addr → Prop} {Q : mm_Q} {J : mm_J} (X : mm_cx p (mm_rm (d + 1) 0 0) s m args c cX6_close RX6 lw_T A D pcl 4) (hr : meth.sig.returnType = some .int) (hlk : meth.locks = false) (hnm : meth.name = "close") (hfree : ∀ q, A q → free q) (hJ : ∀ t, mm_SK p l e (mm_rm (d + 1) 0 0) s m args below meth c (MQ below (mm_Qc D pcl Q ad0 cA0 μ0 0 A) args s 0 0 free) D pcl A 4 (mm_EX EXT A s ad0 cA0 (mm_n μ0)) (pp_X6_close t) (J t)) : ∀ t, mm_SK p l e (mm_rm (d + 1) 0 0) s m args below meth c (MQ below (mm_Qc D pcl Q ad0 cA0 μ0 0 A) args s 0 0 free) D pcl A 4 (mm_EX EXT A s ad0 cA0 (mm_n μ0)) (pp_X6_close t) (pb_X6_close J C Q t) := by
  intro t
  match t with
  | 0 =>
    refine so_aload_n (pc := 0) (i := 0) X (by decide +kernel) ?_
    refine so_iload_n (pc := 1) (i := 1) X (by decide +kernel) ?_
    refine so_cav (pc := 2) (y := 80) (na := 2) (index := 81) (maxL := 2) (nm := yX6_isUser) (bytes := cX6_isUser) (ret := (some .boolean)) (ci := 6) (N := 14) (T := TX6) X hxo (fun _ _ _ _ h => h.1) hC lw_good (Nat.le_refl _) (mm_lo d) rfl (by decide) tw_271 tw_272 tw_259 rfl (by decide) tw_273 tw_274 (by decide +kernel) (by decide +kernel) ?_
    refine so_if_ne (pc := 5) (off := 5) (tgt := 10) X (by decide +kernel) (by decide) (hJ 1) ?_
    refine so_iconst (pc := 8) (n := (-1)) (v := (-1)) X (by decide +kernel) (by decide) ?_
    exact so_ret (pc := 9) X hlk hfree hr (by decide +kernel)
  | 1 =>
    refine so_iload_n (pc := 10) (i := 2) X (by decide +kernel) ?_
    refine so_if_lt (pc := 11) (off := 9) (tgt := 20) X (by decide +kernel) (by decide) (hJ 2) ?_
    refine so_iload_n (pc := 14) (i := 2) X (by decide +kernel) ?_
    refine so_bipush (pc := 15) (n := 16) (v := 16) X (by decide +kernel) (by decide) ?_
    refine so_icmp_lt (pc := 17) (off := 6) (tgt := 23) X (by decide +kernel) (by decide) (hJ 3) ?_
    exact so_fall X (hJ 2)
  | 2 =>
    refine so_bipush (pc := 20) (n := (-2)) (v := (-2)) X (by decide +kernel) (by decide) ?_
    exact so_ret (pc := 22) X hlk hfree hr (by decide +kernel)
  | 3 =>
    refine so_aload_n (pc := 23) (i := 0) X (by decide +kernel) ?_
    refine so_getr (pc := 24) (index := 15) (ci := 6) (f := 2) (N := 14) (C := RX6) (T := TX6) X rfl uX6 (by decide) (by decide) tw_229 rfl (by decide +kernel) ?_
    refine so_iload_n (pc := 27) (i := 1) X (by decide +kernel) ?_
    refine so_rald (pc := 28) (C := "HiddenSums$User") X (by decide +kernel) ?_
    refine so_geti (pc := 29) (index := 105) (ci := 5) (f := 3) (N := 6) (C := RX5) (T := TX5) X rfl uX5 (by decide) (by decide) tw_286 rfl (by decide) (by decide +kernel) ?_
    refine so_istore_n (pc := 32) (i := 3) X (by decide +kernel) (by decide) ?_
    refine so_aload_n (pc := 33) (i := 0) X (by decide +kernel) ?_
    refine so_getr (pc := 34) (index := 15) (ci := 6) (f := 2) (N := 14) (C := RX6) (T := TX6) X rfl uX6 (by decide) (by decide) tw_229 rfl (by decide +kernel) ?_
    refine so_iload_n (pc := 37) (i := 1) X (by decide +kernel) ?_
    refine so_rald (pc := 38) (C := "HiddenSums$User") X (by decide +kernel) ?_
    refine so_iload_n (pc := 39) (i := 2) X (by decide +kernel) ?_
    refine so_puti (pc := 40) (index := 105) (ci := 5) (f := 3) (N := 6) (C := RX5) (T := TX5) X rfl uX5 (by decide) (by decide) tw_286 tyX5 tyX5_ok nmX5 rfl (by decide +kernel) rfl (by decide +kernel) ?_
    refine so_iload_n (pc := 43) (i := 3) X (by decide +kernel) ?_
    exact so_ret (pc := 44) X hlk hfree hr (by decide +kernel)
  | n + 4 => exact fun _ _ _ _ h => h.elim
theorem bs_X6_close {l : Launch} {D : va_G} {EXT : (Nat → Nat) → (Nat → Prop) → State → Heap → Prop} (hxo : mm_xo EXT) (hxe : ∀ ad A U H, EXT ad A U H → px_E0 ad A U H) : mm_BS l D pcl lw_T EXT px_tab 63 pb_X6_close pp_X6_close := by
  intro d C hC p e s m args below meth c A ad0 cA0 μ0 free Q J
  rw [tb_63]
  exact fun X hr hlk hnm hfree hJ => bk_X6_close hxo hxe hC X hr hlk hnm hfree hJ
set_option maxHeartbeats 4000000 in
set_option maxRecDepth 100000 in
theorem bk_X6_seen {l : Launch} {D : va_G} {EXT : (Nat → Nat) → (Nat → Prop) → State → Heap → Prop} (hxo : mm_xo EXT) (hxe : ∀ ad A U H, EXT ad A U H → px_E0 ad A U H) {d : Nat} {C : mm_C} (hC : mm_CS l D pcl lw_T EXT px_tab d C) {p : Program} {e : Env} {s : State} {m : MethodId} {args : Array Value} {below : List Frame} {meth : Method} {c : Code} {A : Nat → Prop} {ad0 : Nat → Nat} {cA0 : Nat → ClassId} {μ0 : mm_M} {free : Addr → Prop} {Q : mm_Q} {J : mm_J} (X : mm_cx p (mm_rm (d + 1) 0 0) s m args c cX6_seen RX6 lw_T A D pcl 3) (hr : meth.sig.returnType = some .int) (hlk : meth.locks = false) (hnm : meth.name = "seen") (hfree : ∀ q, A q → free q) (hJ : ∀ t, mm_SK p l e (mm_rm (d + 1) 0 0) s m args below meth c (MQ below (mm_Qc D pcl Q ad0 cA0 μ0 0 A) args s 0 0 free) D pcl A 3 (mm_EX EXT A s ad0 cA0 (mm_n μ0)) (pp_X6_seen t) (J t)) : ∀ t, mm_SK p l e (mm_rm (d + 1) 0 0) s m args below meth c (MQ below (mm_Qc D pcl Q ad0 cA0 μ0 0 A) args s 0 0 free) D pcl A 3 (mm_EX EXT A s ad0 cA0 (mm_n μ0)) (pp_X6_seen t) (pb_X6_seen J C Q t) := by
  intro t
  match t with
  | 0 =>
    refine so_aload_n (pc := 0) (i := 0) X (by decide +kernel) ?_
    refine so_iload_n (pc := 1) (i := 1) X (by decide +kernel) ?_
    refine so_cav (pc := 2) (y := 80) (na := 2) (index := 81) (maxL := 2) (nm := yX6_isUser) (bytes := cX6_isUser) (ret := (some .boolean)) (ci := 6) (N := 14) (T := TX6) X hxo (fun _ _ _ _ h => h.1) hC lw_good (Nat.le_refl _) (mm_lo d) rfl (by decide) tw_271 tw_272 tw_259 rfl (by decide) tw_273 tw_274 (by decide +kernel) (by decide +kernel) ?_
    refine so_if_ne (pc := 5) (off := 5) (tgt := 10) X (by decide +kernel) (by decide) (hJ 1) ?_
    refine so_iconst (pc := 8) (n := (-1)) (v := (-1)) X (by decide +kernel) (by decide) ?_
    exact so_ret (pc := 9) X hlk hfree hr (by decide +kernel)
  | 1 =>
    refine so_iload_n (pc := 10) (i := 2) X (by decide +kernel) ?_
    exact so_tsw (tts := []) (pc := 11) (len := 25) (dflt := 66) (lo := 0) (hi := 2) (offs := #[25, 37, 54]) (dt := 77) X (by decide +kernel) (by decide) (by decide) (hJ 5) (fun i t h => match i, t, h with | 0, _, h => by cases h; exact ⟨25, 36, rfl, by decide, hJ 2⟩ | 1, _, h => by cases h; exact ⟨37, 48, rfl, by decide, hJ 3⟩ | 2, _, h => by cases h; exact ⟨54, 65, rfl, by decide, hJ 4⟩ | n + 3, _, h => by simp at h)
  | 2 =>
    refine so_aload_n (pc := 36) (i := 0) X (by decide +kernel) ?_
    refine so_aload_n (pc := 37) (i := 0) X (by decide +kernel) ?_
    refine so_getr (pc := 38) (index := 15) (ci := 6) (f := 2) (N := 14) (C := RX6) (T := TX6) X rfl uX6 (by decide) (by decide) tw_229 rfl (by decide +kernel) ?_
    refine so_iload_n (pc := 41) (i := 1) X (by decide +kernel) ?_
    refine so_rald (pc := 42) (C := "HiddenSums$User") X (by decide +kernel) ?_
    refine so_iconst (pc := 43) (n := 1) (v := 1) X (by decide +kernel) (by decide) ?_
    refine so_cav (pc := 44) (y := 87) (na := 3) (index := 101) (maxL := 5) (nm := yX6_countByRule) (bytes := cX6_countByRule) (ret := (some .int)) (ci := 6) (N := 14) (T := TX6) X hxo (fun _ _ _ _ h => h.1) hC lw_good (Nat.le_refl _) (mm_lo d) rfl (by decide) tw_282 tw_283 tw_259 rfl (by decide) tw_284 tw_285 (by decide +kernel) (by decide +kernel) ?_
    exact so_ret (pc := 47) X hlk hfree hr (by decide +kernel)
  | 3 =>
    refine so_aload_n (pc := 48) (i := 0) X (by decide +kernel) ?_
    refine so_geti (pc := 49) (index := 62) (ci := 6) (f := 1) (N := 14) (C := RX6) (T := TX6) X rfl uX6 (by decide) (by decide) tw_256 rfl (by decide) (by decide +kernel) ?_
    refine so_aload_n (pc := 52) (i := 0) X (by decide +kernel) ?_
    refine so_aload_n (pc := 53) (i := 0) X (by decide +kernel) ?_
    refine so_getr (pc := 54) (index := 15) (ci := 6) (f := 2) (N := 14) (C := RX6) (T := TX6) X rfl uX6 (by decide) (by decide) tw_229 rfl (by decide +kernel) ?_
    refine so_iload_n (pc := 57) (i := 1) X (by decide +kernel) ?_
    refine so_rald (pc := 58) (C := "HiddenSums$User") X (by decide +kernel) ?_
    refine so_iconst (pc := 59) (n := 1) (v := 1) X (by decide +kernel) (by decide) ?_
    refine so_cav (pc := 60) (y := 87) (na := 3) (index := 101) (maxL := 5) (nm := yX6_countByRule) (bytes := cX6_countByRule) (ret := (some .int)) (ci := 6) (N := 14) (T := TX6) X hxo (fun _ _ _ _ h => h.1) hC lw_good (Nat.le_refl _) (mm_lo d) rfl (by decide) tw_282 tw_283 tw_259 rfl (by decide) tw_284 tw_285 (by decide +kernel) (by decide +kernel) ?_
    refine so_isub (pc := 63) X (by decide +kernel) ?_
    exact so_ret (pc := 64) X hlk hfree hr (by decide +kernel)
  | 4 =>
    refine so_aload_n (pc := 65) (i := 0) X (by decide +kernel) ?_
    refine so_aload_n (pc := 66) (i := 0) X (by decide +kernel) ?_
    refine so_getr (pc := 67) (index := 15) (ci := 6) (f := 2) (N := 14) (C := RX6) (T := TX6) X rfl uX6 (by decide) (by decide) tw_229 rfl (by decide +kernel) ?_
    refine so_iload_n (pc := 70) (i := 1) X (by decide +kernel) ?_
    refine so_rald (pc := 71) (C := "HiddenSums$User") X (by decide +kernel) ?_
    refine so_iconst (pc := 72) (n := 2) (v := 2) X (by decide +kernel) (by decide) ?_
    refine so_cav (pc := 73) (y := 87) (na := 3) (index := 101) (maxL := 5) (nm := yX6_countByRule) (bytes := cX6_countByRule) (ret := (some .int)) (ci := 6) (N := 14) (T := TX6) X hxo (fun _ _ _ _ h => h.1) hC lw_good (Nat.le_refl _) (mm_lo d) rfl (by decide) tw_282 tw_283 tw_259 rfl (by decide) tw_284 tw_285 (by decide +kernel) (by decide +kernel) ?_
    exact so_ret (pc := 76) X hlk hfree hr (by decide +kernel)
  | 5 =>
    refine so_bipush (pc := 77) (n := (-2)) (v := (-2)) X (by decide +kernel) (by decide) ?_
    exact so_ret (pc := 79) X hlk hfree hr (by decide +kernel)
  | n + 6 => exact fun _ _ _ _ h => h.elim
theorem bs_X6_seen {l : Launch} {D : va_G} {EXT : (Nat → Nat) → (Nat → Prop) → State → Heap → Prop} (hxo : mm_xo EXT) (hxe : ∀ ad A U H, EXT ad A U H → px_E0 ad A U H) : mm_BS l D pcl lw_T EXT px_tab 64 pb_X6_seen pp_X6_seen := by
  intro d C hC p e s m args below meth c A ad0 cA0 μ0 free Q J
  rw [tb_64]
  exact fun X hr hlk hnm hfree hJ => bk_X6_seen hxo hxe hC X hr hlk hnm hfree hJ
set_option maxHeartbeats 4000000 in
set_option maxRecDepth 100000 in
theorem bk_X6_ask {l : Launch} {D : va_G} {EXT : (Nat → Nat) → (Nat → Prop) → State → Heap → Prop} (hxo : mm_xo EXT) (hxe : ∀ ad A U H, EXT ad A U H → px_E0 ad A U H) {d : Nat} {C : mm_C} (hC : mm_CS l D pcl lw_T EXT px_tab d C) {p : Program} {e : Env} {s : State} {m : MethodId} {args : Array Value} {below : List Frame} {meth : Method} {c : Code} {A : Nat → Prop} {ad0 : Nat → Nat} {cA0 : Nat → ClassId} {μ0 : mm_M} {free : Addr → Prop} {Q : mm_Q} {J : mm_J} (X : mm_cx p (mm_rm (d + 1) 0 0) s m args c cX6_ask RX6 lw_T A D pcl 4) (hr : meth.sig.returnType = some .int) (hlk : meth.locks = false) (hnm : meth.name = "ask") (hfree : ∀ q, A q → free q) (hJ : ∀ t, mm_SK p l e (mm_rm (d + 1) 0 0) s m args below meth c (MQ below (mm_Qc D pcl Q ad0 cA0 μ0 0 A) args s 0 0 free) D pcl A 4 (mm_EX EXT A s ad0 cA0 (mm_n μ0)) (pp_X6_ask t) (J t)) : ∀ t, mm_SK p l e (mm_rm (d + 1) 0 0) s m args below meth c (MQ below (mm_Qc D pcl Q ad0 cA0 μ0 0 A) args s 0 0 free) D pcl A 4 (mm_EX EXT A s ad0 cA0 (mm_n μ0)) (pp_X6_ask t) (pb_X6_ask J C Q t) := by
  intro t
  match t with
  | 0 =>
    refine so_aload_n (pc := 0) (i := 0) X (by decide +kernel) ?_
    refine so_iload_n (pc := 1) (i := 1) X (by decide +kernel) ?_
    refine so_cav (pc := 2) (y := 80) (na := 2) (index := 81) (maxL := 2) (nm := yX6_isUser) (bytes := cX6_isUser) (ret := (some .boolean)) (ci := 6) (N := 14) (T := TX6) X hxo (fun _ _ _ _ h => h.1) hC lw_good (Nat.le_refl _) (mm_lo d) rfl (by decide) tw_271 tw_272 tw_259 rfl (by decide) tw_273 tw_274 (by decide +kernel) (by decide +kernel) ?_
    refine so_if_ne (pc := 5) (off := 5) (tgt := 10) X (by decide +kernel) (by decide) (hJ 1) ?_
    refine so_iconst (pc := 8) (n := (-1)) (v := (-1)) X (by decide +kernel) (by decide) ?_
    exact so_ret (pc := 9) X hlk hfree hr (by decide +kernel)
  | 1 =>
    refine so_aload_n (pc := 10) (i := 0) X (by decide +kernel) ?_
    refine so_getr (pc := 11) (index := 32) (ci := 6) (f := 10) (N := 14) (C := RX6) (T := TX6) X rfl uX6 (by decide) (by decide) tw_237 rfl (by decide +kernel) ?_
    refine so_cav (pc := 14) (y := 1) (na := 1) (index := 108) (maxL := 1) (nm := yX0_isFull) (bytes := cX0_isFull) (ret := (some .boolean)) (ci := 0) (N := 2) (T := TX0) X hxo (fun _ _ _ _ h => h.1) hC lw_good (Nat.le_refl _) (mm_lo d) rfl (by decide) tw_6 tw_287 tw_8 rfl (by decide) tw_9 tw_10 (by decide +kernel) (by decide +kernel) ?_
    refine so_if_eq (pc := 17) (off := 6) (tgt := 23) X (by decide +kernel) (by decide) (hJ 2) ?_
    refine so_bipush (pc := 20) (n := (-4)) (v := (-4)) X (by decide +kernel) (by decide) ?_
    exact so_ret (pc := 22) X hlk hfree hr (by decide +kernel)
  | 2 =>
    refine so_aload_n (pc := 23) (i := 0) X (by decide +kernel) ?_
    refine so_iload_n (pc := 24) (i := 1) X (by decide +kernel) ?_
    refine so_iconst (pc := 25) (n := 0) (v := 0) X (by decide +kernel) (by decide) ?_
    refine so_cav (pc := 26) (y := 84) (na := 3) (index := 112) (maxL := 4) (nm := yX6_takeQuery) (bytes := cX6_takeQuery) (ret := (some .int)) (ci := 6) (N := 14) (T := TX6) X hxo (fun _ _ _ _ h => h.1) hC lw_good (Nat.le_refl _) (mm_lo d) rfl (by decide) tw_288 tw_289 tw_259 rfl (by decide) tw_290 tw_291 (by decide +kernel) (by decide +kernel) ?_
    refine so_istore_n (pc := 29) (i := 2) X (by decide +kernel) (by decide) ?_
    refine so_iload_n (pc := 30) (i := 2) X (by decide +kernel) ?_
    refine so_if_eq (pc := 31) (off := 5) (tgt := 36) X (by decide +kernel) (by decide) (hJ 3) ?_
    refine so_iload_n (pc := 34) (i := 2) X (by decide +kernel) ?_
    exact so_ret (pc := 35) X hlk hfree hr (by decide +kernel)
  | 3 =>
    refine so_aload_n (pc := 36) (i := 0) X (by decide +kernel) ?_
    refine so_iconst (pc := 37) (n := 0) (v := 0) X (by decide +kernel) (by decide) ?_
    refine so_puti (pc := 38) (index := 116) (ci := 6) (f := 8) (N := 14) (C := RX6) (T := TX6) X rfl uX6 (by decide) (by decide) tw_292 tyX6 tyX6_ok nmX6 rfl (by decide +kernel) rfl (by decide +kernel) ?_
    refine so_iconst (pc := 41) (n := 0) (v := 0) X (by decide +kernel) (by decide) ?_
    refine so_istore_n (pc := 42) (i := 3) X (by decide +kernel) (by decide) ?_
    exact so_fall X (hJ 4)
  | 4 =>
    refine so_iload_n (pc := 43) (i := 3) X (by decide +kernel) ?_
    refine so_aload_n (pc := 44) (i := 0) X (by decide +kernel) ?_
    refine so_geti (pc := 45) (index := 62) (ci := 6) (f := 1) (N := 14) (C := RX6) (T := TX6) X rfl uX6 (by decide) (by decide) tw_256 rfl (by decide) (by decide +kernel) ?_
    refine so_icmp_ge (pc := 48) (off := 50) (tgt := 98) X (by decide +kernel) (by decide) (hJ 6) ?_
    refine so_aload_n (pc := 51) (i := 0) X (by decide +kernel) ?_
    refine so_aload_n (pc := 52) (i := 0) X (by decide +kernel) ?_
    refine so_getr (pc := 53) (index := 15) (ci := 6) (f := 2) (N := 14) (C := RX6) (T := TX6) X rfl uX6 (by decide) (by decide) tw_229 rfl (by decide +kernel) ?_
    refine so_iload_n (pc := 56) (i := 1) X (by decide +kernel) ?_
    refine so_rald (pc := 57) (C := "HiddenSums$User") X (by decide +kernel) ?_
    refine so_aload_n (pc := 58) (i := 0) X (by decide +kernel) ?_
    refine so_getr (pc := 59) (index := 39) (ci := 6) (f := 11) (N := 14) (C := RX6) (T := TX6) X rfl uX6 (by decide) (by decide) tw_242 rfl (by decide +kernel) ?_
    refine so_getr (pc := 62) (index := 92) (ci := 1) (f := 0) (N := 11) (C := RX1) (T := TX1) X rfl uX1 (by decide) (by decide) tw_280 rfl (by decide +kernel) ?_
    refine so_iload_n (pc := 65) (i := 3) X (by decide +kernel) ?_
    refine so_cav (pc := 66) (y := 86) (na := 4) (index := 119) (maxL := 4) (nm := yX6_isMatch) (bytes := cX6_isMatch) (ret := (some .boolean)) (ci := 6) (N := 14) (T := TX6) X hxo (fun _ _ _ _ h => h.1) hC lw_good (Nat.le_refl _) (mm_lo d) rfl (by decide) tw_293 tw_294 tw_259 rfl (by decide) tw_295 tw_296 (by decide +kernel) (by decide +kernel) ?_
    refine so_if_eq (pc := 69) (off := 23) (tgt := 92) X (by decide +kernel) (by decide) (hJ 5) ?_
    refine so_aload_n (pc := 72) (i := 0) X (by decide +kernel) ?_
    refine so_getr (pc := 73) (index := 26) (ci := 6) (f := 7) (N := 14) (C := RX6) (T := TX6) X rfl uX6 (by decide) (by decide) tw_232 rfl (by decide +kernel) ?_
    refine so_aload_n (pc := 76) (i := 0) X (by decide +kernel) ?_
    refine so_geti (pc := 77) (index := 116) (ci := 6) (f := 8) (N := 14) (C := RX6) (T := TX6) X rfl uX6 (by decide) (by decide) tw_292 rfl (by decide) (by decide +kernel) ?_
    refine so_iload_n (pc := 80) (i := 3) X (by decide +kernel) ?_
    refine so_iast (pc := 81) X (by decide +kernel) ?_
    refine so_aload_n (pc := 82) (i := 0) X (by decide +kernel) ?_
    refine so_dup (pc := 83) X (by decide +kernel) ?_
    refine so_geti (pc := 84) (index := 116) (ci := 6) (f := 8) (N := 14) (C := RX6) (T := TX6) X rfl uX6 (by decide) (by decide) tw_292 rfl (by decide) (by decide +kernel) ?_
    refine so_iconst (pc := 87) (n := 1) (v := 1) X (by decide +kernel) (by decide) ?_
    refine so_iadd (pc := 88) X (by decide +kernel) ?_
    refine so_puti (pc := 89) (index := 116) (ci := 6) (f := 8) (N := 14) (C := RX6) (T := TX6) X rfl uX6 (by decide) (by decide) tw_292 tyX6 tyX6_ok nmX6 rfl (by decide +kernel) rfl (by decide +kernel) ?_
    exact so_fall X (hJ 5)
  | 5 =>
    refine so_iinc (pc := 92) (i := 3) (n := 1) (y := 1) X (by decide +kernel) (by decide) (by decide) ?_
    exact so_goto (pc := 95) (off := (-52)) (tgt := 43) X (by decide +kernel) (by decide) (hJ 4)
  | 6 =>
    refine so_aload_n (pc := 98) (i := 0) X (by decide +kernel) ?_
    refine so_geti (pc := 99) (index := 116) (ci := 6) (f := 8) (N := 14) (C := RX6) (T := TX6) X rfl uX6 (by decide) (by decide) tw_292 rfl (by decide) (by decide +kernel) ?_
    exact so_ret (pc := 102) X hlk hfree hr (by decide +kernel)
  | n + 7 => exact fun _ _ _ _ h => h.elim
theorem bs_X6_ask {l : Launch} {D : va_G} {EXT : (Nat → Nat) → (Nat → Prop) → State → Heap → Prop} (hxo : mm_xo EXT) (hxe : ∀ ad A U H, EXT ad A U H → px_E0 ad A U H) : mm_BS l D pcl lw_T EXT px_tab 65 pb_X6_ask pp_X6_ask := by
  intro d C hC p e s m args below meth c A ad0 cA0 μ0 free Q J
  rw [tb_65]
  exact fun X hr hlk hnm hfree hJ => bk_X6_ask hxo hxe hC X hr hlk hnm hfree hJ
set_option maxHeartbeats 4000000 in
set_option maxRecDepth 100000 in
theorem bk_X6_found {l : Launch} {D : va_G} {EXT : (Nat → Nat) → (Nat → Prop) → State → Heap → Prop} (hxo : mm_xo EXT) (hxe : ∀ ad A U H, EXT ad A U H → px_E0 ad A U H) {d : Nat} {C : mm_C} (hC : mm_CS l D pcl lw_T EXT px_tab d C) {p : Program} {e : Env} {s : State} {m : MethodId} {args : Array Value} {below : List Frame} {meth : Method} {c : Code} {A : Nat → Prop} {ad0 : Nat → Nat} {cA0 : Nat → ClassId} {μ0 : mm_M} {free : Addr → Prop} {Q : mm_Q} {J : mm_J} (X : mm_cx p (mm_rm (d + 1) 0 0) s m args c cX6_found RX6 lw_T A D pcl 2) (hr : meth.sig.returnType = some .int) (hlk : meth.locks = false) (hnm : meth.name = "found") (hfree : ∀ q, A q → free q) (hJ : ∀ t, mm_SK p l e (mm_rm (d + 1) 0 0) s m args below meth c (MQ below (mm_Qc D pcl Q ad0 cA0 μ0 0 A) args s 0 0 free) D pcl A 2 (mm_EX EXT A s ad0 cA0 (mm_n μ0)) (pp_X6_found t) (J t)) : ∀ t, mm_SK p l e (mm_rm (d + 1) 0 0) s m args below meth c (MQ below (mm_Qc D pcl Q ad0 cA0 μ0 0 A) args s 0 0 free) D pcl A 2 (mm_EX EXT A s ad0 cA0 (mm_n μ0)) (pp_X6_found t) (pb_X6_found J C Q t) := by
  intro t
  match t with
  | 0 =>
    refine so_iload_n (pc := 0) (i := 1) X (by decide +kernel) ?_
    refine so_if_lt (pc := 1) (off := 11) (tgt := 12) X (by decide +kernel) (by decide) (hJ 1) ?_
    refine so_iload_n (pc := 4) (i := 1) X (by decide +kernel) ?_
    refine so_aload_n (pc := 5) (i := 0) X (by decide +kernel) ?_
    refine so_geti (pc := 6) (index := 116) (ci := 6) (f := 8) (N := 14) (C := RX6) (T := TX6) X rfl uX6 (by decide) (by decide) tw_292 rfl (by decide) (by decide +kernel) ?_
    refine so_icmp_lt (pc := 9) (off := 5) (tgt := 14) X (by decide +kernel) (by decide) (hJ 2) ?_
    exact so_fall X (hJ 1)
  | 1 =>
    refine so_iconst (pc := 12) (n := (-1)) (v := (-1)) X (by decide +kernel) (by decide) ?_
    exact so_ret (pc := 13) X hlk hfree hr (by decide +kernel)
  | 2 =>
    refine so_aload_n (pc := 14) (i := 0) X (by decide +kernel) ?_
    refine so_getr (pc := 15) (index := 26) (ci := 6) (f := 7) (N := 14) (C := RX6) (T := TX6) X rfl uX6 (by decide) (by decide) tw_232 rfl (by decide +kernel) ?_
    refine so_iload_n (pc := 18) (i := 1) X (by decide +kernel) ?_
    refine so_iald (pc := 19) X (by decide +kernel) ?_
    exact so_ret (pc := 20) X hlk hfree hr (by decide +kernel)
  | n + 3 => exact fun _ _ _ _ h => h.elim
theorem bs_X6_found {l : Launch} {D : va_G} {EXT : (Nat → Nat) → (Nat → Prop) → State → Heap → Prop} (hxo : mm_xo EXT) (hxe : ∀ ad A U H, EXT ad A U H → px_E0 ad A U H) : mm_BS l D pcl lw_T EXT px_tab 66 pb_X6_found pp_X6_found := by
  intro d C hC p e s m args below meth c A ad0 cA0 μ0 free Q J
  rw [tb_66]
  exact fun X hr hlk hnm hfree hJ => bk_X6_found hxo hxe hC X hr hlk hnm hfree hJ
set_option maxHeartbeats 4000000 in
set_option maxRecDepth 100000 in
theorem bk_X6_cell {l : Launch} {D : va_G} {EXT : (Nat → Nat) → (Nat → Prop) → State → Heap → Prop} (hxo : mm_xo EXT) (hxe : ∀ ad A U H, EXT ad A U H → px_E0 ad A U H) {d : Nat} {C : mm_C} (hC : mm_CS l D pcl lw_T EXT px_tab d C) {p : Program} {e : Env} {s : State} {m : MethodId} {args : Array Value} {below : List Frame} {meth : Method} {c : Code} {A : Nat → Prop} {ad0 : Nat → Nat} {cA0 : Nat → ClassId} {μ0 : mm_M} {free : Addr → Prop} {Q : mm_Q} {J : mm_J} (X : mm_cx p (mm_rm (d + 1) 0 0) s m args c cX6_cell RX6 lw_T A D pcl 5) (hr : meth.sig.returnType = some .int) (hlk : meth.locks = false) (hnm : meth.name = "cell") (hfree : ∀ q, A q → free q) (hJ : ∀ t, mm_SK p l e (mm_rm (d + 1) 0 0) s m args below meth c (MQ below (mm_Qc D pcl Q ad0 cA0 μ0 0 A) args s 0 0 free) D pcl A 5 (mm_EX EXT A s ad0 cA0 (mm_n μ0)) (pp_X6_cell t) (J t)) : ∀ t, mm_SK p l e (mm_rm (d + 1) 0 0) s m args below meth c (MQ below (mm_Qc D pcl Q ad0 cA0 μ0 0 A) args s 0 0 free) D pcl A 5 (mm_EX EXT A s ad0 cA0 (mm_n μ0)) (pp_X6_cell t) (pb_X6_cell J C Q t) := by
  intro t
  match t with
  | 0 =>
    refine so_aload_n (pc := 0) (i := 0) X (by decide +kernel) ?_
    refine so_iload_n (pc := 1) (i := 1) X (by decide +kernel) ?_
    refine so_cav (pc := 2) (y := 80) (na := 2) (index := 81) (maxL := 2) (nm := yX6_isUser) (bytes := cX6_isUser) (ret := (some .boolean)) (ci := 6) (N := 14) (T := TX6) X hxo (fun _ _ _ _ h => h.1) hC lw_good (Nat.le_refl _) (mm_lo d) rfl (by decide) tw_271 tw_272 tw_259 rfl (by decide) tw_273 tw_274 (by decide +kernel) (by decide +kernel) ?_
    refine so_if_eq (pc := 5) (off := 10) (tgt := 15) X (by decide +kernel) (by decide) (hJ 1) ?_
    refine so_iload_n (pc := 8) (i := 2) X (by decide +kernel) ?_
    refine so_cas (pc := 9) (y := 81) (na := 1) (index := 69) (maxL := 1) (nm := yX6_isField) (bytes := cX6_isField) (ret := (some .boolean)) X hxo (fun _ _ _ _ h => h.1) hC lw_good (Nat.le_refl _) (mm_lo d) rfl (by decide) tw_262 tw_263 tw_259 tw_264 (by decide +kernel) (by decide +kernel) ?_
    refine so_if_ne (pc := 12) (off := 5) (tgt := 17) X (by decide +kernel) (by decide) (hJ 2) ?_
    exact so_fall X (hJ 1)
  | 1 =>
    refine so_iconst (pc := 15) (n := (-1)) (v := (-1)) X (by decide +kernel) (by decide) ?_
    exact so_ret (pc := 16) X hlk hfree hr (by decide +kernel)
  | 2 =>
    refine so_iload (pc := 17) (i := 4) X (by decide +kernel) ?_
    refine so_iload_n (pc := 19) (i := 3) X (by decide +kernel) ?_
    refine so_icmp_ge (pc := 20) (off := 6) (tgt := 26) X (by decide +kernel) (by decide) (hJ 3) ?_
    refine so_bipush (pc := 23) (n := (-2)) (v := (-2)) X (by decide +kernel) (by decide) ?_
    exact so_ret (pc := 25) X hlk hfree hr (by decide +kernel)
  | 3 =>
    refine so_aload_n (pc := 26) (i := 0) X (by decide +kernel) ?_
    refine so_getr (pc := 27) (index := 32) (ci := 6) (f := 10) (N := 14) (C := RX6) (T := TX6) X rfl uX6 (by decide) (by decide) tw_237 rfl (by decide +kernel) ?_
    refine so_cav (pc := 30) (y := 1) (na := 1) (index := 108) (maxL := 1) (nm := yX0_isFull) (bytes := cX0_isFull) (ret := (some .boolean)) (ci := 0) (N := 2) (T := TX0) X hxo (fun _ _ _ _ h => h.1) hC lw_good (Nat.le_refl _) (mm_lo d) rfl (by decide) tw_6 tw_287 tw_8 rfl (by decide) tw_9 tw_10 (by decide +kernel) (by decide +kernel) ?_
    refine so_if_eq (pc := 33) (off := 6) (tgt := 39) X (by decide +kernel) (by decide) (hJ 4) ?_
    refine so_bipush (pc := 36) (n := (-4)) (v := (-4)) X (by decide +kernel) (by decide) ?_
    exact so_ret (pc := 38) X hlk hfree hr (by decide +kernel)
  | 4 =>
    refine so_aload_n (pc := 39) (i := 0) X (by decide +kernel) ?_
    refine so_getr (pc := 40) (index := 15) (ci := 6) (f := 2) (N := 14) (C := RX6) (T := TX6) X rfl uX6 (by decide) (by decide) tw_229 rfl (by decide +kernel) ?_
    refine so_iload_n (pc := 43) (i := 1) X (by decide +kernel) ?_
    refine so_rald (pc := 44) (C := "HiddenSums$User") X (by decide +kernel) ?_
    refine so_iconst (pc := 45) (n := 1) (v := 1) X (by decide +kernel) (by decide) ?_
    refine so_iload_n (pc := 46) (i := 2) X (by decide +kernel) ?_
    refine so_ishl (pc := 47) X (by decide +kernel) ?_
    refine so_cav (pc := 48) (y := 54) (na := 2) (index := 161) (maxL := 2) (nm := yX5_hasClosed) (bytes := cX5_hasClosed) (ret := (some .boolean)) (ci := 5) (N := 6) (T := TX5) X hxo (fun _ _ _ _ h => h.1) hC lw_good (Nat.le_refl _) (mm_lo d) rfl (by decide) tw_297 tw_298 tw_251 rfl (by decide) tw_299 tw_300 (by decide +kernel) (by decide +kernel) ?_
    refine so_if_eq (pc := 51) (off := 18) (tgt := 69) X (by decide +kernel) (by decide) (hJ 5) ?_
    refine so_aload_n (pc := 54) (i := 0) X (by decide +kernel) ?_
    refine so_getr (pc := 55) (index := 32) (ci := 6) (f := 10) (N := 14) (C := RX6) (T := TX6) X rfl uX6 (by decide) (by decide) tw_237 rfl (by decide +kernel) ?_
    refine so_iload_n (pc := 58) (i := 1) X (by decide +kernel) ?_
    refine so_iconst (pc := 59) (n := 3) (v := 3) X (by decide +kernel) (by decide) ?_
    refine so_iload_n (pc := 60) (i := 2) X (by decide +kernel) ?_
    refine so_iload_n (pc := 61) (i := 3) X (by decide +kernel) ?_
    refine so_iconst (pc := 62) (n := 2) (v := 2) X (by decide +kernel) (by decide) ?_
    refine so_cav (pc := 63) (y := 2) (na := 6) (index := 142) (maxL := 7) (nm := yX0_enter) (bytes := cX0_enter) (ret := none) (ci := 0) (N := 2) (T := TX0) X hxo (fun _ _ _ _ h => h.1) hC lw_good (Nat.le_refl _) (mm_lo d) rfl (by decide) tw_301 tw_302 tw_8 rfl (by decide) tw_303 tw_304 (by decide +kernel) (by decide +kernel) ?_
    refine so_bipush (pc := 66) (n := (-6)) (v := (-6)) X (by decide +kernel) (by decide) ?_
    exact so_ret (pc := 68) X hlk hfree hr (by decide +kernel)
  | 5 =>
    refine so_aload_n (pc := 69) (i := 0) X (by decide +kernel) ?_
    refine so_getr (pc := 70) (index := 32) (ci := 6) (f := 10) (N := 14) (C := RX6) (T := TX6) X rfl uX6 (by decide) (by decide) tw_237 rfl (by decide +kernel) ?_
    refine so_iload_n (pc := 73) (i := 1) X (by decide +kernel) ?_
    refine so_iconst (pc := 74) (n := 3) (v := 3) X (by decide +kernel) (by decide) ?_
    refine so_iload_n (pc := 75) (i := 2) X (by decide +kernel) ?_
    refine so_iload_n (pc := 76) (i := 3) X (by decide +kernel) ?_
    refine so_iconst (pc := 77) (n := 0) (v := 0) X (by decide +kernel) (by decide) ?_
    refine so_cav (pc := 78) (y := 2) (na := 6) (index := 142) (maxL := 7) (nm := yX0_enter) (bytes := cX0_enter) (ret := none) (ci := 0) (N := 2) (T := TX0) X hxo (fun _ _ _ _ h => h.1) hC lw_good (Nat.le_refl _) (mm_lo d) rfl (by decide) tw_301 tw_302 tw_8 rfl (by decide) tw_303 tw_304 (by decide +kernel) (by decide +kernel) ?_
    refine so_aload_n (pc := 81) (i := 0) X (by decide +kernel) ?_
    refine so_aload_n (pc := 82) (i := 0) X (by decide +kernel) ?_
    refine so_getr (pc := 83) (index := 15) (ci := 6) (f := 2) (N := 14) (C := RX6) (T := TX6) X rfl uX6 (by decide) (by decide) tw_229 rfl (by decide +kernel) ?_
    refine so_iload_n (pc := 86) (i := 1) X (by decide +kernel) ?_
    refine so_rald (pc := 87) (C := "HiddenSums$User") X (by decide +kernel) ?_
    refine so_iload_n (pc := 88) (i := 2) X (by decide +kernel) ?_
    refine so_iload_n (pc := 89) (i := 3) X (by decide +kernel) ?_
    refine so_iload (pc := 90) (i := 4) X (by decide +kernel) ?_
    refine so_cav (pc := 92) (y := 88) (na := 5) (index := 164) (maxL := 8) (nm := yX6_countBetween) (bytes := cX6_countBetween) (ret := (some .int)) (ci := 6) (N := 14) (T := TX6) X hxo (fun _ _ _ _ h => h.1) hC lw_good (Nat.le_refl _) (mm_lo d) rfl (by decide) tw_305 tw_306 tw_259 rfl (by decide) tw_307 tw_308 (by decide +kernel) (by decide +kernel) ?_
    exact so_ret (pc := 95) X hlk hfree hr (by decide +kernel)
  | n + 6 => exact fun _ _ _ _ h => h.elim
theorem bs_X6_cell {l : Launch} {D : va_G} {EXT : (Nat → Nat) → (Nat → Prop) → State → Heap → Prop} (hxo : mm_xo EXT) (hxe : ∀ ad A U H, EXT ad A U H → px_E0 ad A U H) : mm_BS l D pcl lw_T EXT px_tab 69 pb_X6_cell pp_X6_cell := by
  intro d C hC p e s m args below meth c A ad0 cA0 μ0 free Q J
  rw [tb_69]
  exact fun X hr hlk hnm hfree hJ => bk_X6_cell hxo hxe hC X hr hlk hnm hfree hJ
set_option maxHeartbeats 4000000 in
set_option maxRecDepth 100000 in
theorem bk_X6_cursor {l : Launch} {D : va_G} {EXT : (Nat → Nat) → (Nat → Prop) → State → Heap → Prop} (hxo : mm_xo EXT) (hxe : ∀ ad A U H, EXT ad A U H → px_E0 ad A U H) {d : Nat} {C : mm_C} (hC : mm_CS l D pcl lw_T EXT px_tab d C) {p : Program} {e : Env} {s : State} {m : MethodId} {args : Array Value} {below : List Frame} {meth : Method} {c : Code} {A : Nat → Prop} {ad0 : Nat → Nat} {cA0 : Nat → ClassId} {μ0 : mm_M} {free : Addr → Prop} {Q : mm_Q} {J : mm_J} (X : mm_cx p (mm_rm (d + 1) 0 0) s m args c cX6_cursor RX6 lw_T A D pcl 3) (hr : meth.sig.returnType = some .int) (hlk : meth.locks = false) (hnm : meth.name = "cursor") (hfree : ∀ q, A q → free q) (hJ : ∀ t, mm_SK p l e (mm_rm (d + 1) 0 0) s m args below meth c (MQ below (mm_Qc D pcl Q ad0 cA0 μ0 0 A) args s 0 0 free) D pcl A 3 (mm_EX EXT A s ad0 cA0 (mm_n μ0)) (pp_X6_cursor t) (J t)) : ∀ t, mm_SK p l e (mm_rm (d + 1) 0 0) s m args below meth c (MQ below (mm_Qc D pcl Q ad0 cA0 μ0 0 A) args s 0 0 free) D pcl A 3 (mm_EX EXT A s ad0 cA0 (mm_n μ0)) (pp_X6_cursor t) (pb_X6_cursor J C Q t) := by
  intro t
  match t with
  | 0 =>
    refine so_aload_n (pc := 0) (i := 0) X (by decide +kernel) ?_
    refine so_iload_n (pc := 1) (i := 1) X (by decide +kernel) ?_
    refine so_cav (pc := 2) (y := 80) (na := 2) (index := 81) (maxL := 2) (nm := yX6_isUser) (bytes := cX6_isUser) (ret := (some .boolean)) (ci := 6) (N := 14) (T := TX6) X hxo (fun _ _ _ _ h => h.1) hC lw_good (Nat.le_refl _) (mm_lo d) rfl (by decide) tw_271 tw_272 tw_259 rfl (by decide) tw_273 tw_274 (by decide +kernel) (by decide +kernel) ?_
    refine so_if_ne (pc := 5) (off := 5) (tgt := 10) X (by decide +kernel) (by decide) (hJ 1) ?_
    refine so_iconst (pc := 8) (n := (-1)) (v := (-1)) X (by decide +kernel) (by decide) ?_
    exact so_ret (pc := 9) X hlk hfree hr (by decide +kernel)
  | 1 =>
    refine so_aload_n (pc := 10) (i := 0) X (by decide +kernel) ?_
    refine so_getr (pc := 11) (index := 32) (ci := 6) (f := 10) (N := 14) (C := RX6) (T := TX6) X rfl uX6 (by decide) (by decide) tw_237 rfl (by decide +kernel) ?_
    refine so_cav (pc := 14) (y := 1) (na := 1) (index := 108) (maxL := 1) (nm := yX0_isFull) (bytes := cX0_isFull) (ret := (some .boolean)) (ci := 0) (N := 2) (T := TX0) X hxo (fun _ _ _ _ h => h.1) hC lw_good (Nat.le_refl _) (mm_lo d) rfl (by decide) tw_6 tw_287 tw_8 rfl (by decide) tw_9 tw_10 (by decide +kernel) (by decide +kernel) ?_
    refine so_if_eq (pc := 17) (off := 6) (tgt := 23) X (by decide +kernel) (by decide) (hJ 2) ?_
    refine so_bipush (pc := 20) (n := (-4)) (v := (-4)) X (by decide +kernel) (by decide) ?_
    exact so_ret (pc := 22) X hlk hfree hr (by decide +kernel)
  | 2 =>
    refine so_aload_n (pc := 23) (i := 0) X (by decide +kernel) ?_
    refine so_iload_n (pc := 24) (i := 1) X (by decide +kernel) ?_
    refine so_iconst (pc := 25) (n := 4) (v := 4) X (by decide +kernel) (by decide) ?_
    refine so_cav (pc := 26) (y := 84) (na := 3) (index := 112) (maxL := 4) (nm := yX6_takeQuery) (bytes := cX6_takeQuery) (ret := (some .int)) (ci := 6) (N := 14) (T := TX6) X hxo (fun _ _ _ _ h => h.1) hC lw_good (Nat.le_refl _) (mm_lo d) rfl (by decide) tw_288 tw_289 tw_259 rfl (by decide) tw_290 tw_291 (by decide +kernel) (by decide +kernel) ?_
    refine so_istore_n (pc := 29) (i := 2) X (by decide +kernel) (by decide) ?_
    refine so_iload_n (pc := 30) (i := 2) X (by decide +kernel) ?_
    refine so_if_eq (pc := 31) (off := 5) (tgt := 36) X (by decide +kernel) (by decide) (hJ 3) ?_
    refine so_iload_n (pc := 34) (i := 2) X (by decide +kernel) ?_
    exact so_ret (pc := 35) X hlk hfree hr (by decide +kernel)
  | 3 =>
    refine so_aload_n (pc := 36) (i := 0) X (by decide +kernel) ?_
    refine so_getr (pc := 37) (index := 15) (ci := 6) (f := 2) (N := 14) (C := RX6) (T := TX6) X rfl uX6 (by decide) (by decide) tw_229 rfl (by decide +kernel) ?_
    refine so_iload_n (pc := 40) (i := 1) X (by decide +kernel) ?_
    refine so_rald (pc := 41) (C := "HiddenSums$User") X (by decide +kernel) ?_
    refine so_aload_n (pc := 42) (i := 0) X (by decide +kernel) ?_
    refine so_getr (pc := 43) (index := 39) (ci := 6) (f := 11) (N := 14) (C := RX6) (T := TX6) X rfl uX6 (by decide) (by decide) tw_242 rfl (by decide +kernel) ?_
    refine so_getr (pc := 46) (index := 92) (ci := 1) (f := 0) (N := 11) (C := RX1) (T := TX1) X rfl uX1 (by decide) (by decide) tw_280 rfl (by decide +kernel) ?_
    refine so_cav (pc := 49) (y := 55) (na := 2) (index := 168) (maxL := 2) (nm := yX5_startCursor) (bytes := cX5_startCursor) (ret := none) (ci := 5) (N := 6) (T := TX5) X hxo (fun _ _ _ _ h => h.1) hC lw_good (Nat.le_refl _) (mm_lo d) rfl (by decide) tw_309 tw_310 tw_251 rfl (by decide) tw_311 tw_312 (by decide +kernel) (by decide +kernel) ?_
    refine so_iconst (pc := 52) (n := 1) (v := 1) X (by decide +kernel) (by decide) ?_
    exact so_ret (pc := 53) X hlk hfree hr (by decide +kernel)
  | n + 4 => exact fun _ _ _ _ h => h.elim
theorem bs_X6_cursor {l : Launch} {D : va_G} {EXT : (Nat → Nat) → (Nat → Prop) → State → Heap → Prop} (hxo : mm_xo EXT) (hxe : ∀ ad A U H, EXT ad A U H → px_E0 ad A U H) : mm_BS l D pcl lw_T EXT px_tab 70 pb_X6_cursor pp_X6_cursor := by
  intro d C hC p e s m args below meth c A ad0 cA0 μ0 free Q J
  rw [tb_70]
  exact fun X hr hlk hnm hfree hJ => bk_X6_cursor hxo hxe hC X hr hlk hnm hfree hJ
set_option maxHeartbeats 4000000 in
set_option maxRecDepth 100000 in
theorem bk_X6_step {l : Launch} {D : va_G} {EXT : (Nat → Nat) → (Nat → Prop) → State → Heap → Prop} (hxo : mm_xo EXT) (hxe : ∀ ad A U H, EXT ad A U H → px_E0 ad A U H) {d : Nat} {C : mm_C} (hC : mm_CS l D pcl lw_T EXT px_tab d C) {p : Program} {e : Env} {s : State} {m : MethodId} {args : Array Value} {below : List Frame} {meth : Method} {c : Code} {A : Nat → Prop} {ad0 : Nat → Nat} {cA0 : Nat → ClassId} {μ0 : mm_M} {free : Addr → Prop} {Q : mm_Q} {J : mm_J} (X : mm_cx p (mm_rm (d + 1) 0 0) s m args c cX6_step RX6 lw_T A D pcl 3) (hr : meth.sig.returnType = some .int) (hlk : meth.locks = false) (hnm : meth.name = "step") (hfree : ∀ q, A q → free q) (hJ : ∀ t, mm_SK p l e (mm_rm (d + 1) 0 0) s m args below meth c (MQ below (mm_Qc D pcl Q ad0 cA0 μ0 0 A) args s 0 0 free) D pcl A 3 (mm_EX EXT A s ad0 cA0 (mm_n μ0)) (pp_X6_step t) (J t)) : ∀ t, mm_SK p l e (mm_rm (d + 1) 0 0) s m args below meth c (MQ below (mm_Qc D pcl Q ad0 cA0 μ0 0 A) args s 0 0 free) D pcl A 3 (mm_EX EXT A s ad0 cA0 (mm_n μ0)) (pp_X6_step t) (pb_X6_step J C Q t) := by
  intro t
  match t with
  | 0 =>
    refine so_aload_n (pc := 0) (i := 0) X (by decide +kernel) ?_
    refine so_iload_n (pc := 1) (i := 1) X (by decide +kernel) ?_
    refine so_cav (pc := 2) (y := 80) (na := 2) (index := 81) (maxL := 2) (nm := yX6_isUser) (bytes := cX6_isUser) (ret := (some .boolean)) (ci := 6) (N := 14) (T := TX6) X hxo (fun _ _ _ _ h => h.1) hC lw_good (Nat.le_refl _) (mm_lo d) rfl (by decide) tw_271 tw_272 tw_259 rfl (by decide) tw_273 tw_274 (by decide +kernel) (by decide +kernel) ?_
    refine so_if_ne (pc := 5) (off := 5) (tgt := 10) X (by decide +kernel) (by decide) (hJ 1) ?_
    refine so_iconst (pc := 8) (n := (-1)) (v := (-1)) X (by decide +kernel) (by decide) ?_
    exact so_ret (pc := 9) X hlk hfree hr (by decide +kernel)
  | 1 =>
    refine so_aload_n (pc := 10) (i := 0) X (by decide +kernel) ?_
    refine so_getr (pc := 11) (index := 15) (ci := 6) (f := 2) (N := 14) (C := RX6) (T := TX6) X rfl uX6 (by decide) (by decide) tw_229 rfl (by decide +kernel) ?_
    refine so_iload_n (pc := 14) (i := 1) X (by decide +kernel) ?_
    refine so_rald (pc := 15) (C := "HiddenSums$User") X (by decide +kernel) ?_
    refine so_astore_n (pc := 16) (i := 2) X (by decide +kernel) (by decide) ?_
    refine so_aload_n (pc := 17) (i := 2) X (by decide +kernel) ?_
    refine so_geti (pc := 18) (index := 171) (ci := 5) (f := 4) (N := 6) (C := RX5) (T := TX5) X rfl uX5 (by decide) (by decide) tw_313 rfl (by decide) (by decide +kernel) ?_
    refine so_if_ne (pc := 21) (off := 6) (tgt := 27) X (by decide +kernel) (by decide) (hJ 2) ?_
    refine so_bipush (pc := 24) (n := (-5)) (v := (-5)) X (by decide +kernel) (by decide) ?_
    exact so_ret (pc := 26) X hlk hfree hr (by decide +kernel)
  | 2 =>
    refine so_aload_n (pc := 27) (i := 0) X (by decide +kernel) ?_
    refine so_getr (pc := 28) (index := 32) (ci := 6) (f := 10) (N := 14) (C := RX6) (T := TX6) X rfl uX6 (by decide) (by decide) tw_237 rfl (by decide +kernel) ?_
    refine so_cav (pc := 31) (y := 1) (na := 1) (index := 108) (maxL := 1) (nm := yX0_isFull) (bytes := cX0_isFull) (ret := (some .boolean)) (ci := 0) (N := 2) (T := TX0) X hxo (fun _ _ _ _ h => h.1) hC lw_good (Nat.le_refl _) (mm_lo d) rfl (by decide) tw_6 tw_287 tw_8 rfl (by decide) tw_9 tw_10 (by decide +kernel) (by decide +kernel) ?_
    refine so_if_eq (pc := 34) (off := 6) (tgt := 40) X (by decide +kernel) (by decide) (hJ 3) ?_
    refine so_bipush (pc := 37) (n := (-4)) (v := (-4)) X (by decide +kernel) (by decide) ?_
    exact so_ret (pc := 39) X hlk hfree hr (by decide +kernel)
  | 3 =>
    refine so_aload_n (pc := 40) (i := 2) X (by decide +kernel) ?_
    refine so_aload_n (pc := 41) (i := 2) X (by decide +kernel) ?_
    refine so_getr (pc := 42) (index := 174) (ci := 5) (f := 1) (N := 6) (C := RX5) (T := TX5) X rfl uX5 (by decide) (by decide) tw_314 rfl (by decide +kernel) ?_
    refine so_geti (pc := 45) (index := 177) (ci := 4) (f := 3) (N := 4) (C := RX4) (T := TX4) X rfl uX4 (by decide) (by decide) tw_315 rfl (by decide) (by decide +kernel) ?_
    refine so_cav (pc := 48) (y := 54) (na := 2) (index := 161) (maxL := 2) (nm := yX5_hasClosed) (bytes := cX5_hasClosed) (ret := (some .boolean)) (ci := 5) (N := 6) (T := TX5) X hxo (fun _ _ _ _ h => h.1) hC lw_good (Nat.le_refl _) (mm_lo d) rfl (by decide) tw_297 tw_298 tw_251 rfl (by decide) tw_299 tw_300 (by decide +kernel) (by decide +kernel) ?_
    refine so_if_eq (pc := 51) (off := 18) (tgt := 69) X (by decide +kernel) (by decide) (hJ 4) ?_
    refine so_aload_n (pc := 54) (i := 0) X (by decide +kernel) ?_
    refine so_getr (pc := 55) (index := 32) (ci := 6) (f := 10) (N := 14) (C := RX6) (T := TX6) X rfl uX6 (by decide) (by decide) tw_237 rfl (by decide +kernel) ?_
    refine so_iload_n (pc := 58) (i := 1) X (by decide +kernel) ?_
    refine so_iconst (pc := 59) (n := 5) (v := 5) X (by decide +kernel) (by decide) ?_
    refine so_iconst (pc := 60) (n := 0) (v := 0) X (by decide +kernel) (by decide) ?_
    refine so_iconst (pc := 61) (n := 0) (v := 0) X (by decide +kernel) (by decide) ?_
    refine so_iconst (pc := 62) (n := 2) (v := 2) X (by decide +kernel) (by decide) ?_
    refine so_cav (pc := 63) (y := 2) (na := 6) (index := 142) (maxL := 7) (nm := yX0_enter) (bytes := cX0_enter) (ret := none) (ci := 0) (N := 2) (T := TX0) X hxo (fun _ _ _ _ h => h.1) hC lw_good (Nat.le_refl _) (mm_lo d) rfl (by decide) tw_301 tw_302 tw_8 rfl (by decide) tw_303 tw_304 (by decide +kernel) (by decide +kernel) ?_
    refine so_bipush (pc := 66) (n := (-6)) (v := (-6)) X (by decide +kernel) (by decide) ?_
    exact so_ret (pc := 68) X hlk hfree hr (by decide +kernel)
  | 4 =>
    refine so_aload_n (pc := 69) (i := 0) X (by decide +kernel) ?_
    refine so_getr (pc := 70) (index := 32) (ci := 6) (f := 10) (N := 14) (C := RX6) (T := TX6) X rfl uX6 (by decide) (by decide) tw_237 rfl (by decide +kernel) ?_
    refine so_iload_n (pc := 73) (i := 1) X (by decide +kernel) ?_
    refine so_iconst (pc := 74) (n := 5) (v := 5) X (by decide +kernel) (by decide) ?_
    refine so_iconst (pc := 75) (n := 0) (v := 0) X (by decide +kernel) (by decide) ?_
    refine so_iconst (pc := 76) (n := 0) (v := 0) X (by decide +kernel) (by decide) ?_
    refine so_iconst (pc := 77) (n := 0) (v := 0) X (by decide +kernel) (by decide) ?_
    refine so_cav (pc := 78) (y := 2) (na := 6) (index := 142) (maxL := 7) (nm := yX0_enter) (bytes := cX0_enter) (ret := none) (ci := 0) (N := 2) (T := TX0) X hxo (fun _ _ _ _ h => h.1) hC lw_good (Nat.le_refl _) (mm_lo d) rfl (by decide) tw_301 tw_302 tw_8 rfl (by decide) tw_303 tw_304 (by decide +kernel) (by decide +kernel) ?_
    refine so_aload_n (pc := 81) (i := 0) X (by decide +kernel) ?_
    refine so_aload_n (pc := 82) (i := 2) X (by decide +kernel) ?_
    refine so_cav (pc := 83) (y := 89) (na := 2) (index := 180) (maxL := 3) (nm := yX6_moveCursor) (bytes := cX6_moveCursor) (ret := (some .int)) (ci := 6) (N := 14) (T := TX6) X hxo (fun _ _ _ _ h => h.1) hC lw_good (Nat.le_refl _) (mm_lo d) rfl (by decide) tw_316 tw_317 tw_259 rfl (by decide) tw_318 tw_319 (by decide +kernel) (by decide +kernel) ?_
    exact so_ret (pc := 86) X hlk hfree hr (by decide +kernel)
  | n + 5 => exact fun _ _ _ _ h => h.elim
theorem bs_X6_step {l : Launch} {D : va_G} {EXT : (Nat → Nat) → (Nat → Prop) → State → Heap → Prop} (hxo : mm_xo EXT) (hxe : ∀ ad A U H, EXT ad A U H → px_E0 ad A U H) : mm_BS l D pcl lw_T EXT px_tab 71 pb_X6_step pp_X6_step := by
  intro d C hC p e s m args below meth c A ad0 cA0 μ0 free Q J
  rw [tb_71]
  exact fun X hr hlk hnm hfree hJ => bk_X6_step hxo hxe hC X hr hlk hnm hfree hJ
set_option maxHeartbeats 4000000 in
set_option maxRecDepth 100000 in
theorem bk_X6_solved {l : Launch} {D : va_G} {EXT : (Nat → Nat) → (Nat → Prop) → State → Heap → Prop} (hxo : mm_xo EXT) (hxe : ∀ ad A U H, EXT ad A U H → px_E0 ad A U H) {d : Nat} {C : mm_C} (hC : mm_CS l D pcl lw_T EXT px_tab d C) {p : Program} {e : Env} {s : State} {m : MethodId} {args : Array Value} {below : List Frame} {meth : Method} {c : Code} {A : Nat → Prop} {ad0 : Nat → Nat} {cA0 : Nat → ClassId} {μ0 : mm_M} {free : Addr → Prop} {Q : mm_Q} {J : mm_J} (X : mm_cx p (mm_rm (d + 1) 0 0) s m args c cX6_solved RX6 lw_T A D pcl 4) (hr : meth.sig.returnType = some .int) (hlk : meth.locks = false) (hnm : meth.name = "solved") (hfree : ∀ q, A q → free q) (hJ : ∀ t, mm_SK p l e (mm_rm (d + 1) 0 0) s m args below meth c (MQ below (mm_Qc D pcl Q ad0 cA0 μ0 0 A) args s 0 0 free) D pcl A 4 (mm_EX EXT A s ad0 cA0 (mm_n μ0)) (pp_X6_solved t) (J t)) : ∀ t, mm_SK p l e (mm_rm (d + 1) 0 0) s m args below meth c (MQ below (mm_Qc D pcl Q ad0 cA0 μ0 0 A) args s 0 0 free) D pcl A 4 (mm_EX EXT A s ad0 cA0 (mm_n μ0)) (pp_X6_solved t) (pb_X6_solved J C Q t) := by
  intro t
  match t with
  | 0 =>
    refine so_aload_n (pc := 0) (i := 0) X (by decide +kernel) ?_
    refine so_iload_n (pc := 1) (i := 1) X (by decide +kernel) ?_
    refine so_cav (pc := 2) (y := 80) (na := 2) (index := 81) (maxL := 2) (nm := yX6_isUser) (bytes := cX6_isUser) (ret := (some .boolean)) (ci := 6) (N := 14) (T := TX6) X hxo (fun _ _ _ _ h => h.1) hC lw_good (Nat.le_refl _) (mm_lo d) rfl (by decide) tw_271 tw_272 tw_259 rfl (by decide) tw_273 tw_274 (by decide +kernel) (by decide +kernel) ?_
    refine so_if_eq (pc := 5) (off := 18) (tgt := 23) X (by decide +kernel) (by decide) (hJ 1) ?_
    refine so_iload_n (pc := 8) (i := 2) X (by decide +kernel) ?_
    refine so_cas (pc := 9) (y := 81) (na := 1) (index := 69) (maxL := 1) (nm := yX6_isField) (bytes := cX6_isField) (ret := (some .boolean)) X hxo (fun _ _ _ _ h => h.1) hC lw_good (Nat.le_refl _) (mm_lo d) rfl (by decide) tw_262 tw_263 tw_259 tw_264 (by decide +kernel) (by decide +kernel) ?_
    refine so_if_eq (pc := 12) (off := 11) (tgt := 23) X (by decide +kernel) (by decide) (hJ 1) ?_
    refine so_aload_n (pc := 15) (i := 0) X (by decide +kernel) ?_
    refine so_iload_n (pc := 16) (i := 3) X (by decide +kernel) ?_
    refine so_cav (pc := 17) (y := 79) (na := 2) (index := 65) (maxL := 2) (nm := yX6_isObject) (bytes := cX6_isObject) (ret := (some .boolean)) (ci := 6) (N := 14) (T := TX6) X hxo (fun _ _ _ _ h => h.1) hC lw_good (Nat.le_refl _) (mm_lo d) rfl (by decide) tw_257 tw_258 tw_259 rfl (by decide) tw_260 tw_261 (by decide +kernel) (by decide +kernel) ?_
    refine so_if_ne (pc := 20) (off := 5) (tgt := 25) X (by decide +kernel) (by decide) (hJ 2) ?_
    exact so_fall X (hJ 1)
  | 1 =>
    refine so_iconst (pc := 23) (n := (-1)) (v := (-1)) X (by decide +kernel) (by decide) ?_
    exact so_ret (pc := 24) X hlk hfree hr (by decide +kernel)
  | 2 =>
    refine so_aload_n (pc := 25) (i := 0) X (by decide +kernel) ?_
    refine so_getr (pc := 26) (index := 15) (ci := 6) (f := 2) (N := 14) (C := RX6) (T := TX6) X rfl uX6 (by decide) (by decide) tw_229 rfl (by decide +kernel) ?_
    refine so_iload_n (pc := 29) (i := 1) X (by decide +kernel) ?_
    refine so_rald (pc := 30) (C := "HiddenSums$User") X (by decide +kernel) ?_
    refine so_getr (pc := 31) (index := 184) (ci := 5) (f := 2) (N := 6) (C := RX5) (T := TX5) X rfl uX5 (by decide) (by decide) tw_320 rfl (by decide +kernel) ?_
    refine so_iload_n (pc := 34) (i := 2) X (by decide +kernel) ?_
    refine so_rald (pc := 35) (C := "HiddenSums$Reduced") X (by decide +kernel) ?_
    refine so_iload_n (pc := 36) (i := 3) X (by decide +kernel) ?_
    refine so_cav (pc := 37) (y := 34) (na := 2) (index := 188) (maxL := 2) (nm := yX3_isSolved) (bytes := cX3_isSolved) (ret := (some .boolean)) (ci := 3) (N := 1) (T := TX3) X hxo (fun _ _ _ _ h => h.1) hC lw_good (Nat.le_refl _) (mm_lo d) rfl (by decide) tw_163 tw_321 tw_156 rfl (by decide) tw_165 tw_166 (by decide +kernel) (by decide +kernel) ?_
    refine so_if_eq (pc := 40) (off := 7) (tgt := 47) X (by decide +kernel) (by decide) (hJ 3) ?_
    refine so_iconst (pc := 43) (n := 1) (v := 1) X (by decide +kernel) (by decide) ?_
    exact so_goto (pc := 44) (off := 4) (tgt := 48) X (by decide +kernel) (by decide) (hJ 4)
  | 3 =>
    refine so_iconst (pc := 47) (n := 0) (v := 0) X (by decide +kernel) (by decide) ?_
    exact so_fall X (hJ 4)
  | 4 =>
    exact so_ret (pc := 48) X hlk hfree hr (by decide +kernel)
  | n + 5 => exact fun _ _ _ _ h => h.elim
theorem bs_X6_solved {l : Launch} {D : va_G} {EXT : (Nat → Nat) → (Nat → Prop) → State → Heap → Prop} (hxo : mm_xo EXT) (hxe : ∀ ad A U H, EXT ad A U H → px_E0 ad A U H) : mm_BS l D pcl lw_T EXT px_tab 72 pb_X6_solved pp_X6_solved := by
  intro d C hC p e s m args below meth c A ad0 cA0 μ0 free Q J
  rw [tb_72]
  exact fun X hr hlk hnm hfree hJ => bk_X6_solved hxo hxe hC X hr hlk hnm hfree hJ
set_option maxHeartbeats 4000000 in
set_option maxRecDepth 100000 in
theorem bk_X6_would {l : Launch} {D : va_G} {EXT : (Nat → Nat) → (Nat → Prop) → State → Heap → Prop} (hxo : mm_xo EXT) (hxe : ∀ ad A U H, EXT ad A U H → px_E0 ad A U H) {d : Nat} {C : mm_C} (hC : mm_CS l D pcl lw_T EXT px_tab d C) {p : Program} {e : Env} {s : State} {m : MethodId} {args : Array Value} {below : List Frame} {meth : Method} {c : Code} {A : Nat → Prop} {ad0 : Nat → Nat} {cA0 : Nat → ClassId} {μ0 : mm_M} {free : Addr → Prop} {Q : mm_Q} {J : mm_J} (X : mm_cx p (mm_rm (d + 1) 0 0) s m args c cX6_would RX6 lw_T A D pcl 5) (hr : meth.sig.returnType = some .int) (hlk : meth.locks = false) (hnm : meth.name = "would") (hfree : ∀ q, A q → free q) (hJ : ∀ t, mm_SK p l e (mm_rm (d + 1) 0 0) s m args below meth c (MQ below (mm_Qc D pcl Q ad0 cA0 μ0 0 A) args s 0 0 free) D pcl A 5 (mm_EX EXT A s ad0 cA0 (mm_n μ0)) (pp_X6_would t) (J t)) : ∀ t, mm_SK p l e (mm_rm (d + 1) 0 0) s m args below meth c (MQ below (mm_Qc D pcl Q ad0 cA0 μ0 0 A) args s 0 0 free) D pcl A 5 (mm_EX EXT A s ad0 cA0 (mm_n μ0)) (pp_X6_would t) (pb_X6_would J C Q t) := by
  intro t
  match t with
  | 0 =>
    refine so_aload_n (pc := 0) (i := 0) X (by decide +kernel) ?_
    refine so_iload_n (pc := 1) (i := 1) X (by decide +kernel) ?_
    refine so_cav (pc := 2) (y := 80) (na := 2) (index := 81) (maxL := 2) (nm := yX6_isUser) (bytes := cX6_isUser) (ret := (some .boolean)) (ci := 6) (N := 14) (T := TX6) X hxo (fun _ _ _ _ h => h.1) hC lw_good (Nat.le_refl _) (mm_lo d) rfl (by decide) tw_271 tw_272 tw_259 rfl (by decide) tw_273 tw_274 (by decide +kernel) (by decide +kernel) ?_
    refine so_if_eq (pc := 5) (off := 18) (tgt := 23) X (by decide +kernel) (by decide) (hJ 1) ?_
    refine so_iload_n (pc := 8) (i := 2) X (by decide +kernel) ?_
    refine so_cas (pc := 9) (y := 81) (na := 1) (index := 69) (maxL := 1) (nm := yX6_isField) (bytes := cX6_isField) (ret := (some .boolean)) X hxo (fun _ _ _ _ h => h.1) hC lw_good (Nat.le_refl _) (mm_lo d) rfl (by decide) tw_262 tw_263 tw_259 tw_264 (by decide +kernel) (by decide +kernel) ?_
    refine so_if_eq (pc := 12) (off := 11) (tgt := 23) X (by decide +kernel) (by decide) (hJ 1) ?_
    refine so_aload_n (pc := 15) (i := 0) X (by decide +kernel) ?_
    refine so_iload_n (pc := 16) (i := 3) X (by decide +kernel) ?_
    refine so_cav (pc := 17) (y := 79) (na := 2) (index := 65) (maxL := 2) (nm := yX6_isObject) (bytes := cX6_isObject) (ret := (some .boolean)) (ci := 6) (N := 14) (T := TX6) X hxo (fun _ _ _ _ h => h.1) hC lw_good (Nat.le_refl _) (mm_lo d) rfl (by decide) tw_257 tw_258 tw_259 rfl (by decide) tw_260 tw_261 (by decide +kernel) (by decide +kernel) ?_
    refine so_if_ne (pc := 20) (off := 5) (tgt := 25) X (by decide +kernel) (by decide) (hJ 2) ?_
    exact so_fall X (hJ 1)
  | 1 =>
    refine so_iconst (pc := 23) (n := (-1)) (v := (-1)) X (by decide +kernel) (by decide) ?_
    exact so_ret (pc := 24) X hlk hfree hr (by decide +kernel)
  | 2 =>
    refine so_aload_n (pc := 25) (i := 0) X (by decide +kernel) ?_
    refine so_iload (pc := 26) (i := 4) X (by decide +kernel) ?_
    refine so_cav (pc := 28) (y := 82) (na := 2) (index := 151) (maxL := 2) (nm := yX6_isSet) (bytes := cX6_isSet) (ret := (some .boolean)) (ci := 6) (N := 14) (T := TX6) X hxo (fun _ _ _ _ h => h.1) hC lw_good (Nat.le_refl _) (mm_lo d) rfl (by decide) tw_322 tw_323 tw_259 rfl (by decide) tw_324 tw_325 (by decide +kernel) (by decide +kernel) ?_
    refine so_if_ne (pc := 31) (off := 6) (tgt := 37) X (by decide +kernel) (by decide) (hJ 3) ?_
    refine so_bipush (pc := 34) (n := (-2)) (v := (-2)) X (by decide +kernel) (by decide) ?_
    exact so_ret (pc := 36) X hlk hfree hr (by decide +kernel)
  | 3 =>
    refine so_aload_n (pc := 37) (i := 0) X (by decide +kernel) ?_
    refine so_aload_n (pc := 38) (i := 0) X (by decide +kernel) ?_
    refine so_getr (pc := 39) (index := 15) (ci := 6) (f := 2) (N := 14) (C := RX6) (T := TX6) X rfl uX6 (by decide) (by decide) tw_229 rfl (by decide +kernel) ?_
    refine so_iload_n (pc := 42) (i := 1) X (by decide +kernel) ?_
    refine so_rald (pc := 43) (C := "HiddenSums$User") X (by decide +kernel) ?_
    refine so_iload_n (pc := 44) (i := 2) X (by decide +kernel) ?_
    refine so_iload (pc := 45) (i := 4) X (by decide +kernel) ?_
    refine so_cav (pc := 47) (y := 92) (na := 4) (index := 191) (maxL := 4) (nm := yX6_tryOut) (bytes := cX6_tryOut) (ret := none) (ci := 6) (N := 14) (T := TX6) X hxo (fun _ _ _ _ h => h.1) hC lw_good (Nat.le_refl _) (mm_lo d) rfl (by decide) tw_326 tw_327 tw_259 rfl (by decide) tw_328 tw_329 (by decide +kernel) (by decide +kernel) ?_
    refine so_aload_n (pc := 50) (i := 0) X (by decide +kernel) ?_
    refine so_getr (pc := 51) (index := 53) (ci := 6) (f := 13) (N := 14) (C := RX6) (T := TX6) X rfl uX6 (by decide) (by decide) tw_249 rfl (by decide +kernel) ?_
    refine so_iload_n (pc := 54) (i := 3) X (by decide +kernel) ?_
    refine so_cav (pc := 55) (y := 34) (na := 2) (index := 188) (maxL := 2) (nm := yX3_isSolved) (bytes := cX3_isSolved) (ret := (some .boolean)) (ci := 3) (N := 1) (T := TX3) X hxo (fun _ _ _ _ h => h.1) hC lw_good (Nat.le_refl _) (mm_lo d) rfl (by decide) tw_163 tw_321 tw_156 rfl (by decide) tw_165 tw_166 (by decide +kernel) (by decide +kernel) ?_
    refine so_if_eq (pc := 58) (off := 7) (tgt := 65) X (by decide +kernel) (by decide) (hJ 4) ?_
    refine so_iconst (pc := 61) (n := 1) (v := 1) X (by decide +kernel) (by decide) ?_
    exact so_goto (pc := 62) (off := 4) (tgt := 66) X (by decide +kernel) (by decide) (hJ 5)
  | 4 =>
    refine so_iconst (pc := 65) (n := 0) (v := 0) X (by decide +kernel) (by decide) ?_
    exact so_fall X (hJ 5)
  | 5 =>
    exact so_ret (pc := 66) X hlk hfree hr (by decide +kernel)
  | n + 6 => exact fun _ _ _ _ h => h.elim
theorem bs_X6_would {l : Launch} {D : va_G} {EXT : (Nat → Nat) → (Nat → Prop) → State → Heap → Prop} (hxo : mm_xo EXT) (hxe : ∀ ad A U H, EXT ad A U H → px_E0 ad A U H) : mm_BS l D pcl lw_T EXT px_tab 73 pb_X6_would pp_X6_would := by
  intro d C hC p e s m args below meth c A ad0 cA0 μ0 free Q J
  rw [tb_73]
  exact fun X hr hlk hnm hfree hJ => bk_X6_would hxo hxe hC X hr hlk hnm hfree hJ
set_option maxHeartbeats 4000000 in
set_option maxRecDepth 100000 in
theorem bk_X6_world {l : Launch} {D : va_G} {EXT : (Nat → Nat) → (Nat → Prop) → State → Heap → Prop} (hxo : mm_xo EXT) (hxe : ∀ ad A U H, EXT ad A U H → px_E0 ad A U H) {d : Nat} {C : mm_C} (hC : mm_CS l D pcl lw_T EXT px_tab d C) {p : Program} {e : Env} {s : State} {m : MethodId} {args : Array Value} {below : List Frame} {meth : Method} {c : Code} {A : Nat → Prop} {ad0 : Nat → Nat} {cA0 : Nat → ClassId} {μ0 : mm_M} {free : Addr → Prop} {Q : mm_Q} {J : mm_J} (X : mm_cx p (mm_rm (d + 1) 0 0) s m args c cX6_world RX6 lw_T A D pcl 6) (hr : meth.sig.returnType = some .long) (hlk : meth.locks = false) (hnm : meth.name = "world") (hfree : ∀ q, A q → free q) (hJ : ∀ t, mm_SK p l e (mm_rm (d + 1) 0 0) s m args below meth c (MQ below (mm_Qc D pcl Q ad0 cA0 μ0 0 A) args s 0 0 free) D pcl A 6 (mm_EX EXT A s ad0 cA0 (mm_n μ0)) (pp_X6_world t) (J t)) : ∀ t, mm_SK p l e (mm_rm (d + 1) 0 0) s m args below meth c (MQ below (mm_Qc D pcl Q ad0 cA0 μ0 0 A) args s 0 0 free) D pcl A 6 (mm_EX EXT A s ad0 cA0 (mm_n μ0)) (pp_X6_world t) (pb_X6_world J C Q t) := by
  intro t
  match t with
  | 0 =>
    refine so_aload_n (pc := 0) (i := 0) X (by decide +kernel) ?_
    refine so_iload_n (pc := 1) (i := 1) X (by decide +kernel) ?_
    refine so_cav (pc := 2) (y := 80) (na := 2) (index := 81) (maxL := 2) (nm := yX6_isUser) (bytes := cX6_isUser) (ret := (some .boolean)) (ci := 6) (N := 14) (T := TX6) X hxo (fun _ _ _ _ h => h.1) hC lw_good (Nat.le_refl _) (mm_lo d) rfl (by decide) tw_271 tw_272 tw_259 rfl (by decide) tw_273 tw_274 (by decide +kernel) (by decide +kernel) ?_
    refine so_if_eq (pc := 5) (off := 27) (tgt := 32) X (by decide +kernel) (by decide) (hJ 1) ?_
    refine so_iload_n (pc := 8) (i := 2) X (by decide +kernel) ?_
    refine so_cas (pc := 9) (y := 81) (na := 1) (index := 69) (maxL := 1) (nm := yX6_isField) (bytes := cX6_isField) (ret := (some .boolean)) X hxo (fun _ _ _ _ h => h.1) hC lw_good (Nat.le_refl _) (mm_lo d) rfl (by decide) tw_262 tw_263 tw_259 tw_264 (by decide +kernel) (by decide +kernel) ?_
    refine so_if_eq (pc := 12) (off := 20) (tgt := 32) X (by decide +kernel) (by decide) (hJ 1) ?_
    refine so_aload_n (pc := 15) (i := 0) X (by decide +kernel) ?_
    refine so_iload_n (pc := 16) (i := 3) X (by decide +kernel) ?_
    refine so_cav (pc := 17) (y := 79) (na := 2) (index := 65) (maxL := 2) (nm := yX6_isObject) (bytes := cX6_isObject) (ret := (some .boolean)) (ci := 6) (N := 14) (T := TX6) X hxo (fun _ _ _ _ h => h.1) hC lw_good (Nat.le_refl _) (mm_lo d) rfl (by decide) tw_257 tw_258 tw_259 rfl (by decide) tw_260 tw_261 (by decide +kernel) (by decide +kernel) ?_
    refine so_if_eq (pc := 20) (off := 12) (tgt := 32) X (by decide +kernel) (by decide) (hJ 1) ?_
    refine so_aload_n (pc := 23) (i := 0) X (by decide +kernel) ?_
    refine so_iload (pc := 24) (i := 4) X (by decide +kernel) ?_
    refine so_cav (pc := 26) (y := 79) (na := 2) (index := 65) (maxL := 2) (nm := yX6_isObject) (bytes := cX6_isObject) (ret := (some .boolean)) (ci := 6) (N := 14) (T := TX6) X hxo (fun _ _ _ _ h => h.1) hC lw_good (Nat.le_refl _) (mm_lo d) rfl (by decide) tw_257 tw_258 tw_259 rfl (by decide) tw_260 tw_261 (by decide +kernel) (by decide +kernel) ?_
    refine so_if_ne (pc := 29) (off := 7) (tgt := 36) X (by decide +kernel) (by decide) (hJ 2) ?_
    exact so_fall X (hJ 1)
  | 1 =>
    refine so_ldc2 (pc := 32) (index := 195) (v := (-1)) X (by decide +kernel) tw_330 ?_
    exact so_rtl (pc := 35) X hlk hfree hr (by decide +kernel)
  | 2 =>
    refine so_aload_n (pc := 36) (i := 0) X (by decide +kernel) ?_
    refine so_getr (pc := 37) (index := 15) (ci := 6) (f := 2) (N := 14) (C := RX6) (T := TX6) X rfl uX6 (by decide) (by decide) tw_229 rfl (by decide +kernel) ?_
    refine so_iload_n (pc := 40) (i := 1) X (by decide +kernel) ?_
    refine so_rald (pc := 41) (C := "HiddenSums$User") X (by decide +kernel) ?_
    refine so_getr (pc := 42) (index := 184) (ci := 5) (f := 2) (N := 6) (C := RX5) (T := TX5) X rfl uX5 (by decide) (by decide) tw_320 rfl (by decide +kernel) ?_
    refine so_iload_n (pc := 45) (i := 2) X (by decide +kernel) ?_
    refine so_rald (pc := 46) (C := "HiddenSums$Reduced") X (by decide +kernel) ?_
    refine so_astore (pc := 47) (i := 5) X (by decide +kernel) (by decide) ?_
    refine so_aload (pc := 49) (i := 5) X (by decide +kernel) ?_
    refine so_iload_n (pc := 51) (i := 3) X (by decide +kernel) ?_
    refine so_cav (pc := 52) (y := 34) (na := 2) (index := 188) (maxL := 2) (nm := yX3_isSolved) (bytes := cX3_isSolved) (ret := (some .boolean)) (ci := 3) (N := 1) (T := TX3) X hxo (fun _ _ _ _ h => h.1) hC lw_good (Nat.le_refl _) (mm_lo d) rfl (by decide) tw_163 tw_321 tw_156 rfl (by decide) tw_165 tw_166 (by decide +kernel) (by decide +kernel) ?_
    refine so_if_eq (pc := 55) (off := 7) (tgt := 62) X (by decide +kernel) (by decide) (hJ 3) ?_
    refine so_ldc2 (pc := 58) (index := 197) (v := (-5)) X (by decide +kernel) tw_331 ?_
    exact so_rtl (pc := 61) X hlk hfree hr (by decide +kernel)
  | 3 =>
    refine so_aload (pc := 62) (i := 5) X (by decide +kernel) ?_
    refine so_iload_n (pc := 64) (i := 3) X (by decide +kernel) ?_
    refine so_iload (pc := 65) (i := 4) X (by decide +kernel) ?_
    refine so_cav (pc := 67) (y := 37) (na := 3) (index := 199) (maxL := 8) (nm := yX3_otherWorld) (bytes := cX3_otherWorld) (ret := (some .long)) (ci := 3) (N := 1) (T := TX3) X hxo (fun _ _ _ _ h => h.1) hC lw_good (Nat.le_refl _) (mm_lo d) rfl (by decide) tw_332 tw_333 tw_156 rfl (by decide) tw_334 tw_335 (by decide +kernel) (by decide +kernel) ?_
    exact so_rtl (pc := 70) X hlk hfree hr (by decide +kernel)
  | n + 4 => exact fun _ _ _ _ h => h.elim
theorem bs_X6_world {l : Launch} {D : va_G} {EXT : (Nat → Nat) → (Nat → Prop) → State → Heap → Prop} (hxo : mm_xo EXT) (hxe : ∀ ad A U H, EXT ad A U H → px_E0 ad A U H) : mm_BS l D pcl lw_T EXT px_tab 74 pb_X6_world pp_X6_world := by
  intro d C hC p e s m args below meth c A ad0 cA0 μ0 free Q J
  rw [tb_74]
  exact fun X hr hlk hnm hfree hJ => bk_X6_world hxo hxe hC X hr hlk hnm hfree hJ
set_option maxHeartbeats 4000000 in
set_option maxRecDepth 100000 in
theorem bk_X6_rows {l : Launch} {D : va_G} {EXT : (Nat → Nat) → (Nat → Prop) → State → Heap → Prop} (hxo : mm_xo EXT) (hxe : ∀ ad A U H, EXT ad A U H → px_E0 ad A U H) {d : Nat} {C : mm_C} (hC : mm_CS l D pcl lw_T EXT px_tab d C) {p : Program} {e : Env} {s : State} {m : MethodId} {args : Array Value} {below : List Frame} {meth : Method} {c : Code} {A : Nat → Prop} {ad0 : Nat → Nat} {cA0 : Nat → ClassId} {μ0 : mm_M} {free : Addr → Prop} {Q : mm_Q} {J : mm_J} (X : mm_cx p (mm_rm (d + 1) 0 0) s m args c cX6_rows RX6 lw_T A D pcl 3) (hr : meth.sig.returnType = some .int) (hlk : meth.locks = false) (hnm : meth.name = "rows") (hfree : ∀ q, A q → free q) (hJ : ∀ t, mm_SK p l e (mm_rm (d + 1) 0 0) s m args below meth c (MQ below (mm_Qc D pcl Q ad0 cA0 μ0 0 A) args s 0 0 free) D pcl A 3 (mm_EX EXT A s ad0 cA0 (mm_n μ0)) (pp_X6_rows t) (J t)) : ∀ t, mm_SK p l e (mm_rm (d + 1) 0 0) s m args below meth c (MQ below (mm_Qc D pcl Q ad0 cA0 μ0 0 A) args s 0 0 free) D pcl A 3 (mm_EX EXT A s ad0 cA0 (mm_n μ0)) (pp_X6_rows t) (pb_X6_rows J C Q t) := by
  intro t
  match t with
  | 0 =>
    refine so_aload_n (pc := 0) (i := 0) X (by decide +kernel) ?_
    refine so_iload_n (pc := 1) (i := 1) X (by decide +kernel) ?_
    refine so_cav (pc := 2) (y := 80) (na := 2) (index := 81) (maxL := 2) (nm := yX6_isUser) (bytes := cX6_isUser) (ret := (some .boolean)) (ci := 6) (N := 14) (T := TX6) X hxo (fun _ _ _ _ h => h.1) hC lw_good (Nat.le_refl _) (mm_lo d) rfl (by decide) tw_271 tw_272 tw_259 rfl (by decide) tw_273 tw_274 (by decide +kernel) (by decide +kernel) ?_
    refine so_if_eq (pc := 5) (off := 10) (tgt := 15) X (by decide +kernel) (by decide) (hJ 1) ?_
    refine so_iload_n (pc := 8) (i := 2) X (by decide +kernel) ?_
    refine so_cas (pc := 9) (y := 81) (na := 1) (index := 69) (maxL := 1) (nm := yX6_isField) (bytes := cX6_isField) (ret := (some .boolean)) X hxo (fun _ _ _ _ h => h.1) hC lw_good (Nat.le_refl _) (mm_lo d) rfl (by decide) tw_262 tw_263 tw_259 tw_264 (by decide +kernel) (by decide +kernel) ?_
    refine so_if_ne (pc := 12) (off := 5) (tgt := 17) X (by decide +kernel) (by decide) (hJ 2) ?_
    exact so_fall X (hJ 1)
  | 1 =>
    refine so_iconst (pc := 15) (n := (-1)) (v := (-1)) X (by decide +kernel) (by decide) ?_
    exact so_ret (pc := 16) X hlk hfree hr (by decide +kernel)
  | 2 =>
    refine so_aload_n (pc := 17) (i := 0) X (by decide +kernel) ?_
    refine so_getr (pc := 18) (index := 15) (ci := 6) (f := 2) (N := 14) (C := RX6) (T := TX6) X rfl uX6 (by decide) (by decide) tw_229 rfl (by decide +kernel) ?_
    refine so_iload_n (pc := 21) (i := 1) X (by decide +kernel) ?_
    refine so_rald (pc := 22) (C := "HiddenSums$User") X (by decide +kernel) ?_
    refine so_getr (pc := 23) (index := 184) (ci := 5) (f := 2) (N := 6) (C := RX5) (T := TX5) X rfl uX5 (by decide) (by decide) tw_320 rfl (by decide +kernel) ?_
    refine so_iload_n (pc := 26) (i := 2) X (by decide +kernel) ?_
    refine so_rald (pc := 27) (C := "HiddenSums$Reduced") X (by decide +kernel) ?_
    refine so_cav (pc := 28) (y := 33) (na := 1) (index := 203) (maxL := 3) (nm := yX3_countRows) (bytes := cX3_countRows) (ret := (some .int)) (ci := 3) (N := 1) (T := TX3) X hxo (fun _ _ _ _ h => h.1) hC lw_good (Nat.le_refl _) (mm_lo d) rfl (by decide) tw_336 tw_337 tw_156 rfl (by decide) tw_338 tw_339 (by decide +kernel) (by decide +kernel) ?_
    exact so_ret (pc := 31) X hlk hfree hr (by decide +kernel)
  | n + 3 => exact fun _ _ _ _ h => h.elim
theorem bs_X6_rows {l : Launch} {D : va_G} {EXT : (Nat → Nat) → (Nat → Prop) → State → Heap → Prop} (hxo : mm_xo EXT) (hxe : ∀ ad A U H, EXT ad A U H → px_E0 ad A U H) : mm_BS l D pcl lw_T EXT px_tab 75 pb_X6_rows pp_X6_rows := by
  intro d C hC p e s m args below meth c A ad0 cA0 μ0 free Q J
  rw [tb_75]
  exact fun X hr hlk hnm hfree hJ => bk_X6_rows hxo hxe hC X hr hlk hnm hfree hJ
