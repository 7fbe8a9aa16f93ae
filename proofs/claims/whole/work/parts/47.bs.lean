set_option maxHeartbeats 4000000 in
set_option maxRecDepth 100000 in
theorem bk_X6_tell {l : Launch} {D : va_G} {EXT : (Nat → Nat) → (Nat → Prop) → State → Heap → Prop} (hxo : mm_xo EXT) (hxe : ∀ ad A U H, EXT ad A U H → px_E0 ad A U H) {d : Nat} {C : mm_C} (hC : mm_CS l D pcl lw_T EXT px_tab d C) {p : Program} {e : Env} {s : State} {m : MethodId} {args : Array Value} {below : List Frame} {meth : Method} {c : Code} {A : Nat → Prop} {ad0 : Nat → Nat} {cA0 : Nat → ClassId} {μ0 : mm_M} {free : Addr → Prop} {Q : mm_Q} {J : mm_J} (X : mm_cx p (mm_rm (d + 1) 0 0) s m args c cX6_tell RX6 lw_T A D pcl 6) (hr : meth.sig.returnType = some .boolean) (hlk : meth.locks = false) (hnm : meth.name = "tell") (hfree : ∀ q, A q → free q) (hJ : ∀ t, mm_SK p l e (mm_rm (d + 1) 0 0) s m args below meth c (MQ below (mm_Qc D pcl Q ad0 cA0 μ0 0 A) args s 0 0 free) D pcl A 6 (mm_EX EXT A s ad0 cA0 (mm_n μ0)) (pp_X6_tell t) (J t)) : ∀ t, mm_SK p l e (mm_rm (d + 1) 0 0) s m args below meth c (MQ below (mm_Qc D pcl Q ad0 cA0 μ0 0 A) args s 0 0 free) D pcl A 6 (mm_EX EXT A s ad0 cA0 (mm_n μ0)) (pp_X6_tell t) (pb_X6_tell J C Q t) := by
  intro t
  match t with
  | 0 =>
    refine so_aload_n (pc := 0) (i := 0) X (by decide +kernel) ?_
    refine so_aload_n (pc := 1) (i := 1) X (by decide +kernel) ?_
    refine so_iload_n (pc := 2) (i := 2) X (by decide +kernel) ?_
    refine so_iload_n (pc := 3) (i := 3) X (by decide +kernel) ?_
    refine so_cav (pc := 4) (y := 92) (na := 4) (index := 191) (maxL := 4) (nm := yX6_tryOut) (bytes := cX6_tryOut) (ret := none) (ci := 6) (N := 14) (T := TX6) X hxo (fun _ _ _ _ h => h.1) hC lw_good (Nat.le_refl _) (mm_lo d) rfl (by decide) tw_326 tw_327 tw_259 rfl (by decide) tw_328 tw_329 (by decide +kernel) (by decide +kernel) ?_
    refine so_aload_n (pc := 7) (i := 1) X (by decide +kernel) ?_
    refine so_getr (pc := 8) (index := 184) (ci := 5) (f := 2) (N := 6) (C := RX5) (T := TX5) X rfl uX5 (by decide) (by decide) tw_320 rfl (by decide +kernel) ?_
    refine so_iload_n (pc := 11) (i := 2) X (by decide +kernel) ?_
    refine so_rald (pc := 12) (C := "HiddenSums$Reduced") X (by decide +kernel) ?_
    refine so_astore (pc := 13) (i := 4) X (by decide +kernel) (by decide) ?_
    refine so_aload_n (pc := 15) (i := 0) X (by decide +kernel) ?_
    refine so_getr (pc := 16) (index := 53) (ci := 6) (f := 13) (N := 14) (C := RX6) (T := TX6) X rfl uX6 (by decide) (by decide) tw_249 rfl (by decide +kernel) ?_
    refine so_cav (pc := 19) (y := 35) (na := 1) (index := 240) (maxL := 3) (nm := yX3_solvedSet) (bytes := cX3_solvedSet) (ret := (some .int)) (ci := 3) (N := 1) (T := TX3) X hxo (fun _ _ _ _ h => h.1) hC lw_good (Nat.le_refl _) (mm_lo d) rfl (by decide) tw_365 tw_366 tw_156 rfl (by decide) tw_367 tw_368 (by decide +kernel) (by decide +kernel) ?_
    refine so_aload (pc := 22) (i := 4) X (by decide +kernel) ?_
    refine so_cav (pc := 24) (y := 35) (na := 1) (index := 240) (maxL := 3) (nm := yX3_solvedSet) (bytes := cX3_solvedSet) (ret := (some .int)) (ci := 3) (N := 1) (T := TX3) X hxo (fun _ _ _ _ h => h.1) hC lw_good (Nat.le_refl _) (mm_lo d) rfl (by decide) tw_365 tw_366 tw_156 rfl (by decide) tw_367 tw_368 (by decide +kernel) (by decide +kernel) ?_
    refine so_iconst (pc := 27) (n := (-1)) (v := (-1)) X (by decide +kernel) (by decide) ?_
    refine so_ixor (pc := 28) X (by decide +kernel) ?_
    refine so_iand (pc := 29) X (by decide +kernel) ?_
    refine so_istore (pc := 30) (i := 5) X (by decide +kernel) (by decide) ?_
    refine so_iload (pc := 32) (i := 5) X (by decide +kernel) ?_
    refine so_aload_n (pc := 34) (i := 0) X (by decide +kernel) ?_
    refine so_aload_n (pc := 35) (i := 1) X (by decide +kernel) ?_
    refine so_iload_n (pc := 36) (i := 2) X (by decide +kernel) ?_
    refine so_cav (pc := 37) (y := 90) (na := 3) (index := 135) (maxL := 6) (nm := yX6_hiddenFrom) (bytes := cX6_hiddenFrom) (ret := (some .int)) (ci := 6) (N := 14) (T := TX6) X hxo (fun _ _ _ _ h => h.1) hC lw_good (Nat.le_refl _) (mm_lo d) rfl (by decide) tw_369 tw_370 tw_259 rfl (by decide) tw_371 tw_372 (by decide +kernel) (by decide +kernel) ?_
    refine so_iand (pc := 40) X (by decide +kernel) ?_
    refine so_if_eq (pc := 41) (off := 5) (tgt := 46) X (by decide +kernel) (by decide) (hJ 1) ?_
    refine so_iconst (pc := 44) (n := 0) (v := 0) X (by decide +kernel) (by decide) ?_
    exact so_rtz (pc := 45) X hlk hfree hr (by decide +kernel)
  | 1 =>
    refine so_aload (pc := 46) (i := 4) X (by decide +kernel) ?_
    refine so_aload_n (pc := 48) (i := 0) X (by decide +kernel) ?_
    refine so_getr (pc := 49) (index := 53) (ci := 6) (f := 13) (N := 14) (C := RX6) (T := TX6) X rfl uX6 (by decide) (by decide) tw_249 rfl (by decide +kernel) ?_
    refine so_cav (pc := 52) (y := 32) (na := 2) (index := 233) (maxL := 2) (nm := yX3_copyFrom) (bytes := cX3_copyFrom) (ret := none) (ci := 3) (N := 1) (T := TX3) X hxo (fun _ _ _ _ h => h.1) hC lw_good (Nat.le_refl _) (mm_lo d) rfl (by decide) tw_357 tw_358 tw_156 rfl (by decide) tw_359 tw_360 (by decide +kernel) (by decide +kernel) ?_
    refine so_aload_n (pc := 55) (i := 0) X (by decide +kernel) ?_
    refine so_iconst (pc := 56) (n := 1) (v := 1) X (by decide +kernel) (by decide) ?_
    refine so_putz (pc := 57) (index := 58) (ci := 6) (f := 9) (N := 14) (C := RX6) (T := TX6) X rfl uX6 (by decide) (by decide) tw_255 tyX6 tyX6_ok nmX6 rfl (by decide +kernel) rfl (by decide +kernel) ?_
    refine so_iconst (pc := 60) (n := 1) (v := 1) X (by decide +kernel) (by decide) ?_
    exact so_rtz (pc := 61) X hlk hfree hr (by decide +kernel)
  | n + 2 => exact fun _ _ _ _ h => h.elim
theorem bs_X6_tell {l : Launch} {D : va_G} {EXT : (Nat → Nat) → (Nat → Prop) → State → Heap → Prop} (hxo : mm_xo EXT) (hxe : ∀ ad A U H, EXT ad A U H → px_E0 ad A U H) : mm_BS l D pcl lw_T EXT px_tab 93 pb_X6_tell pp_X6_tell := by
  intro d C hC p e s m args below meth c A ad0 cA0 μ0 free Q J
  rw [tb_93]
  exact fun X hr hlk hnm hfree hJ => bk_X6_tell hxo hxe hC X hr hlk hnm hfree hJ
set_option maxHeartbeats 4000000 in
set_option maxRecDepth 100000 in
theorem bk_X7_init {l : Launch} {D : va_G} {EXT : (Nat → Nat) → (Nat → Prop) → State → Heap → Prop} (hxo : mm_xo EXT) (hxe : ∀ ad A U H, EXT ad A U H → px_E0 ad A U H) {d : Nat} {C : mm_C} (hC : mm_CS l D pcl lw_T EXT px_tab d C) {p : Program} {e : Env} {s : State} {m : MethodId} {args : Array Value} {below : List Frame} {meth : Method} {c : Code} {A : Nat → Prop} {ad0 : Nat → Nat} {cA0 : Nat → ClassId} {μ0 : mm_M} {free : Addr → Prop} {Q : mm_Q} {J : mm_J} (X : mm_cx p (mm_rm (d + 1) 15 4036) s m args c cX7_init RX7 lw_T A D pcl 1) (hr : meth.sig.returnType = none) (hlk : meth.locks = false) (hnm : meth.name = "<init>") (hfree : ∀ q, A q → free q) (hJ : ∀ t, mm_SK p l e (mm_rm (d + 1) 15 4036) s m args below meth c (MQ below (mm_Qc D pcl Q ad0 cA0 μ0 15 A) args s 15 4036 free) D pcl A 1 (mm_EX EXT A s ad0 cA0 (mm_n μ0)) (pp_X7_init t) (J t)) : ∀ t, mm_SK p l e (mm_rm (d + 1) 15 4036) s m args below meth c (MQ below (mm_Qc D pcl Q ad0 cA0 μ0 15 A) args s 15 4036 free) D pcl A 1 (mm_EX EXT A s ad0 cA0 (mm_n μ0)) (pp_X7_init t) (pb_X7_init J C Q t) := by
  intro t
  match t with
  | 0 =>
    refine so_aload_n (pc := 0) (i := 0) X (by decide +kernel) ?_
    refine so_obi (pc := 1) (index := 1) X tw_373 tw_1 tw_2 (mm_fr1 d) (mm_lo20 d) (by decide +kernel) ?_
    refine so_aload_n (pc := 4) (i := 0) X (by decide +kernel) ?_
    refine so_bipush (pc := 5) (n := 48) (v := 48) X (by decide +kernel) (by decide) ?_
    refine so_naint (pc := 7) (B := (15, 4036)) X (mm_EX_cl hxo) ⟨Nat.le_refl _, Nat.le_refl _⟩ tw_3 (by decide +kernel) ?_
    refine so_putr (pc := 9) (index := 7) (ci := 7) (f := 3) (N := 32) (C := RX7) (T := TX7) (ty := tyX7 3) X rfl uX7 (by decide) (by decide) tw_374 tyX7 tyX7_ok nmX7 rfl hnm rfl (tyX7_ok 3 (by decide)) (fun _ => ⟨rfl, rfl⟩) rfl (by decide +kernel) ?_
    refine so_aload_n (pc := 12) (i := 0) X (by decide +kernel) ?_
    refine so_sipush (pc := 13) (n := 300) (v := 300) X (by decide +kernel) (by decide) ?_
    refine so_nabyte (pc := 16) (B := (15, 4036)) X (mm_EX_cl hxo) ⟨Nat.le_refl _, Nat.le_refl _⟩ tw_375 (by decide +kernel) ?_
    refine so_putr (pc := 18) (index := 13) (ci := 7) (f := 4) (N := 32) (C := RX7) (T := TX7) (ty := tyX7 4) X rfl uX7 (by decide) (by decide) tw_376 tyX7 tyX7_ok nmX7 rfl hnm rfl (tyX7_ok 4 (by decide)) (fun _ => ⟨rfl, rfl⟩) rfl (by decide +kernel) ?_
    refine so_aload_n (pc := 21) (i := 0) X (by decide +kernel) ?_
    refine so_iconst (pc := 22) (n := (-1)) (v := (-1)) X (by decide +kernel) (by decide) ?_
    refine so_puti (pc := 23) (index := 17) (ci := 7) (f := 6) (N := 32) (C := RX7) (T := TX7) X rfl uX7 (by decide) (by decide) tw_377 tyX7 tyX7_ok nmX7 rfl (by decide +kernel) rfl (by decide +kernel) ?_
    refine so_aload_n (pc := 26) (i := 0) X (by decide +kernel) ?_
    refine so_sipush (pc := 27) (n := 640) (v := 640) X (by decide +kernel) (by decide) ?_
    refine so_naint (pc := 30) (B := (15, 4036)) X (mm_EX_cl hxo) ⟨Nat.le_refl _, Nat.le_refl _⟩ tw_3 (by decide +kernel) ?_
    refine so_putr (pc := 32) (index := 21) (ci := 7) (f := 7) (N := 32) (C := RX7) (T := TX7) (ty := tyX7 7) X rfl uX7 (by decide) (by decide) tw_378 tyX7 tyX7_ok nmX7 rfl hnm rfl (tyX7_ok 7 (by decide)) (fun _ => ⟨rfl, rfl⟩) rfl (by decide +kernel) ?_
    refine so_aload_n (pc := 35) (i := 0) X (by decide +kernel) ?_
    refine so_bipush (pc := 36) (n := 10) (v := 10) X (by decide +kernel) (by decide) ?_
    refine so_naint (pc := 38) (B := (15, 4036)) X (mm_EX_cl hxo) ⟨Nat.le_refl _, Nat.le_refl _⟩ tw_3 (by decide +kernel) ?_
    refine so_putr (pc := 40) (index := 24) (ci := 7) (f := 8) (N := 32) (C := RX7) (T := TX7) (ty := tyX7 8) X rfl uX7 (by decide) (by decide) tw_379 tyX7 tyX7_ok nmX7 rfl hnm rfl (tyX7_ok 8 (by decide)) (fun _ => ⟨rfl, rfl⟩) rfl (by decide +kernel) ?_
    refine so_aload_n (pc := 43) (i := 0) X (by decide +kernel) ?_
    refine so_iconst (pc := 44) (n := 4) (v := 4) X (by decide +kernel) (by decide) ?_
    refine so_naint (pc := 45) (B := (15, 4036)) X (mm_EX_cl hxo) ⟨Nat.le_refl _, Nat.le_refl _⟩ tw_3 (by decide +kernel) ?_
    refine so_putr (pc := 47) (index := 27) (ci := 7) (f := 9) (N := 32) (C := RX7) (T := TX7) (ty := tyX7 9) X rfl uX7 (by decide) (by decide) tw_380 tyX7 tyX7_ok nmX7 rfl hnm rfl (tyX7_ok 9 (by decide)) (fun _ => ⟨rfl, rfl⟩) rfl (by decide +kernel) ?_
    refine so_aload_n (pc := 50) (i := 0) X (by decide +kernel) ?_
    refine so_iconst (pc := 51) (n := 4) (v := 4) X (by decide +kernel) (by decide) ?_
    refine so_nabool (pc := 52) (B := (15, 4036)) X (mm_EX_cl hxo) ⟨Nat.le_refl _, Nat.le_refl _⟩ tw_114 (by decide +kernel) ?_
    refine so_putr (pc := 54) (index := 30) (ci := 7) (f := 10) (N := 32) (C := RX7) (T := TX7) (ty := tyX7 10) X rfl uX7 (by decide) (by decide) tw_381 tyX7 tyX7_ok nmX7 rfl hnm rfl (tyX7_ok 10 (by decide)) (fun _ => ⟨rfl, rfl⟩) rfl (by decide +kernel) ?_
    refine so_aload_n (pc := 57) (i := 0) X (by decide +kernel) ?_
    refine so_iconst (pc := 58) (n := 4) (v := 4) X (by decide +kernel) (by decide) ?_
    refine so_naint (pc := 59) (B := (15, 4036)) X (mm_EX_cl hxo) ⟨Nat.le_refl _, Nat.le_refl _⟩ tw_3 (by decide +kernel) ?_
    refine so_putr (pc := 61) (index := 34) (ci := 7) (f := 11) (N := 32) (C := RX7) (T := TX7) (ty := tyX7 11) X rfl uX7 (by decide) (by decide) tw_382 tyX7 tyX7_ok nmX7 rfl hnm rfl (tyX7_ok 11 (by decide)) (fun _ => ⟨rfl, rfl⟩) rfl (by decide +kernel) ?_
    refine so_aload_n (pc := 64) (i := 0) X (by decide +kernel) ?_
    refine so_sipush (pc := 65) (n := 750) (v := 750) X (by decide +kernel) (by decide) ?_
    refine so_naint (pc := 68) (B := (15, 4036)) X (mm_EX_cl hxo) ⟨Nat.le_refl _, Nat.le_refl _⟩ tw_3 (by decide +kernel) ?_
    refine so_putr (pc := 70) (index := 37) (ci := 7) (f := 12) (N := 32) (C := RX7) (T := TX7) (ty := tyX7 12) X rfl uX7 (by decide) (by decide) tw_383 tyX7 tyX7_ok nmX7 rfl hnm rfl (tyX7_ok 12 (by decide)) (fun _ => ⟨rfl, rfl⟩) rfl (by decide +kernel) ?_
    refine so_aload_n (pc := 73) (i := 0) X (by decide +kernel) ?_
    refine so_bipush (pc := 74) (n := 12) (v := 12) X (by decide +kernel) (by decide) ?_
    refine so_naint (pc := 76) (B := (15, 4036)) X (mm_EX_cl hxo) ⟨Nat.le_refl _, Nat.le_refl _⟩ tw_3 (by decide +kernel) ?_
    refine so_putr (pc := 78) (index := 40) (ci := 7) (f := 14) (N := 32) (C := RX7) (T := TX7) (ty := tyX7 14) X rfl uX7 (by decide) (by decide) tw_384 tyX7 tyX7_ok nmX7 rfl hnm rfl (tyX7_ok 14 (by decide)) (fun _ => ⟨rfl, rfl⟩) rfl (by decide +kernel) ?_
    refine so_aload_n (pc := 81) (i := 0) X (by decide +kernel) ?_
    refine so_sipush (pc := 82) (n := 150) (v := 150) X (by decide +kernel) (by decide) ?_
    refine so_naint (pc := 85) (B := (15, 4036)) X (mm_EX_cl hxo) ⟨Nat.le_refl _, Nat.le_refl _⟩ tw_3 (by decide +kernel) ?_
    refine so_putr (pc := 87) (index := 43) (ci := 7) (f := 16) (N := 32) (C := RX7) (T := TX7) (ty := tyX7 16) X rfl uX7 (by decide) (by decide) tw_385 tyX7 tyX7_ok nmX7 rfl hnm rfl (tyX7_ok 16 (by decide)) (fun _ => ⟨rfl, rfl⟩) rfl (by decide +kernel) ?_
    refine so_aload_n (pc := 90) (i := 0) X (by decide +kernel) ?_
    refine so_sipush (pc := 91) (n := 150) (v := 150) X (by decide +kernel) (by decide) ?_
    refine so_naint (pc := 94) (B := (15, 4036)) X (mm_EX_cl hxo) ⟨Nat.le_refl _, Nat.le_refl _⟩ tw_3 (by decide +kernel) ?_
    refine so_putr (pc := 96) (index := 46) (ci := 7) (f := 17) (N := 32) (C := RX7) (T := TX7) (ty := tyX7 17) X rfl uX7 (by decide) (by decide) tw_386 tyX7 tyX7_ok nmX7 rfl hnm rfl (tyX7_ok 17 (by decide)) (fun _ => ⟨rfl, rfl⟩) rfl (by decide +kernel) ?_
    refine so_aload_n (pc := 99) (i := 0) X (by decide +kernel) ?_
    refine so_bipush (pc := 100) (n := 64) (v := 64) X (by decide +kernel) (by decide) ?_
    refine so_nalong (pc := 102) (B := (15, 4036)) X (mm_EX_cl hxo) ⟨Nat.le_refl _, Nat.le_refl _⟩ tw_112 (by decide +kernel) ?_
    refine so_putr (pc := 104) (index := 49) (ci := 7) (f := 27) (N := 32) (C := RX7) (T := TX7) (ty := tyX7 27) X rfl uX7 (by decide) (by decide) tw_387 tyX7 tyX7_ok nmX7 rfl hnm rfl (tyX7_ok 27 (by decide)) (fun _ => ⟨rfl, rfl⟩) rfl (by decide +kernel) ?_
    refine so_aload_n (pc := 107) (i := 0) X (by decide +kernel) ?_
    refine so_bipush (pc := 108) (n := 64) (v := 64) X (by decide +kernel) (by decide) ?_
    refine so_nabool (pc := 110) (B := (15, 4036)) X (mm_EX_cl hxo) ⟨Nat.le_refl _, Nat.le_refl _⟩ tw_114 (by decide +kernel) ?_
    refine so_putr (pc := 112) (index := 53) (ci := 7) (f := 28) (N := 32) (C := RX7) (T := TX7) (ty := tyX7 28) X rfl uX7 (by decide) (by decide) tw_388 tyX7 tyX7_ok nmX7 rfl hnm rfl (tyX7_ok 28 (by decide)) (fun _ => ⟨rfl, rfl⟩) rfl (by decide +kernel) ?_
    refine so_aload_n (pc := 115) (i := 0) X (by decide +kernel) ?_
    refine so_sipush (pc := 116) (n := 1824) (v := 1824) X (by decide +kernel) (by decide) ?_
    refine so_nalong (pc := 119) (B := (15, 4036)) X (mm_EX_cl hxo) ⟨Nat.le_refl _, Nat.le_refl _⟩ tw_112 (by decide +kernel) ?_
    refine so_putr (pc := 121) (index := 56) (ci := 7) (f := 29) (N := 32) (C := RX7) (T := TX7) (ty := tyX7 29) X rfl uX7 (by decide) (by decide) tw_389 tyX7 tyX7_ok nmX7 rfl hnm rfl (tyX7_ok 29 (by decide)) (fun _ => ⟨rfl, rfl⟩) rfl (by decide +kernel) ?_
    refine so_aload_n (pc := 124) (i := 0) X (by decide +kernel) ?_
    refine so_bipush (pc := 125) (n := 12) (v := 12) X (by decide +kernel) (by decide) ?_
    refine so_naint (pc := 127) (B := (15, 4036)) X (mm_EX_cl hxo) ⟨Nat.le_refl _, Nat.le_refl _⟩ tw_3 (by decide +kernel) ?_
    refine so_putr (pc := 129) (index := 59) (ci := 7) (f := 30) (N := 32) (C := RX7) (T := TX7) (ty := tyX7 30) X rfl uX7 (by decide) (by decide) tw_390 tyX7 tyX7_ok nmX7 rfl hnm rfl (tyX7_ok 30 (by decide)) (fun _ => ⟨rfl, rfl⟩) rfl (by decide +kernel) ?_
    exact so_rtv (pc := 132) X hlk hfree hr (by decide +kernel)
  | n + 1 => exact fun _ _ _ _ h => h.elim
theorem bs_X7_init {l : Launch} {D : va_G} {EXT : (Nat → Nat) → (Nat → Prop) → State → Heap → Prop} (hxo : mm_xo EXT) (hxe : ∀ ad A U H, EXT ad A U H → px_E0 ad A U H) : mm_BS l D pcl lw_T EXT px_tab 94 pb_X7_init pp_X7_init := by
  intro d C hC p e s m args below meth c A ad0 cA0 μ0 free Q J
  rw [tb_94]
  exact fun X hr hlk hnm hfree hJ => bk_X7_init hxo hxe hC X hr hlk hnm hfree hJ
set_option maxHeartbeats 4000000 in
set_option maxRecDepth 100000 in
theorem bk_X7_thrown {l : Launch} {D : va_G} {EXT : (Nat → Nat) → (Nat → Prop) → State → Heap → Prop} (hxo : mm_xo EXT) (hxe : ∀ ad A U H, EXT ad A U H → px_E0 ad A U H) {d : Nat} {C : mm_C} (hC : mm_CS l D pcl lw_T EXT px_tab d C) {p : Program} {e : Env} {s : State} {m : MethodId} {args : Array Value} {below : List Frame} {meth : Method} {c : Code} {A : Nat → Prop} {ad0 : Nat → Nat} {cA0 : Nat → ClassId} {μ0 : mm_M} {free : Addr → Prop} {Q : mm_Q} {J : mm_J} (X : mm_cx p (mm_rm (d + 1) 0 0) s m args c cX7_thrown RX7 lw_T A D pcl 1) (hr : meth.sig.returnType = some .int) (hlk : meth.locks = false) (hnm : meth.name = "thrown") (hfree : ∀ q, A q → free q) (hJ : ∀ t, mm_SK p l e (mm_rm (d + 1) 0 0) s m args below meth c (MQ below (mm_Qc D pcl Q ad0 cA0 μ0 0 A) args s 0 0 free) D pcl A 1 (mm_EX EXT A s ad0 cA0 (mm_n μ0)) (pp_X7_thrown t) (J t)) : ∀ t, mm_SK p l e (mm_rm (d + 1) 0 0) s m args below meth c (MQ below (mm_Qc D pcl Q ad0 cA0 μ0 0 A) args s 0 0 free) D pcl A 1 (mm_EX EXT A s ad0 cA0 (mm_n μ0)) (pp_X7_thrown t) (pb_X7_thrown J C Q t) := by
  intro t
  match t with
  | 0 =>
    refine so_aload_n (pc := 0) (i := 0) X (by decide +kernel) ?_
    refine so_geti (pc := 1) (index := 62) (ci := 7) (f := 0) (N := 32) (C := RX7) (T := TX7) X rfl uX7 (by decide) (by decide) tw_391 rfl (by decide) (by decide +kernel) ?_
    exact so_ret (pc := 4) X hlk hfree hr (by decide +kernel)
  | n + 1 => exact fun _ _ _ _ h => h.elim
theorem bs_X7_thrown {l : Launch} {D : va_G} {EXT : (Nat → Nat) → (Nat → Prop) → State → Heap → Prop} (hxo : mm_xo EXT) (hxe : ∀ ad A U H, EXT ad A U H → px_E0 ad A U H) : mm_BS l D pcl lw_T EXT px_tab 95 pb_X7_thrown pp_X7_thrown := by
  intro d C hC p e s m args below meth c A ad0 cA0 μ0 free Q J
  rw [tb_95]
  exact fun X hr hlk hnm hfree hJ => bk_X7_thrown hxo hxe hC X hr hlk hnm hfree hJ
set_option maxHeartbeats 4000000 in
set_option maxRecDepth 100000 in
theorem bk_X7_isObject {l : Launch} {D : va_G} {EXT : (Nat → Nat) → (Nat → Prop) → State → Heap → Prop} (hxo : mm_xo EXT) (hxe : ∀ ad A U H, EXT ad A U H → px_E0 ad A U H) {d : Nat} {C : mm_C} (hC : mm_CS l D pcl lw_T EXT px_tab d C) {p : Program} {e : Env} {s : State} {m : MethodId} {args : Array Value} {below : List Frame} {meth : Method} {c : Code} {A : Nat → Prop} {ad0 : Nat → Nat} {cA0 : Nat → ClassId} {μ0 : mm_M} {free : Addr → Prop} {Q : mm_Q} {J : mm_J} (X : mm_cx p (mm_rm (d + 1) 0 0) s m args c cX7_isObject RX7 lw_T A D pcl 2) (hr : meth.sig.returnType = some .boolean) (hlk : meth.locks = false) (hnm : meth.name = "isObject") (hfree : ∀ q, A q → free q) (hJ : ∀ t, mm_SK p l e (mm_rm (d + 1) 0 0) s m args below meth c (MQ below (mm_Qc D pcl Q ad0 cA0 μ0 0 A) args s 0 0 free) D pcl A 2 (mm_EX EXT A s ad0 cA0 (mm_n μ0)) (pp_X7_isObject t) (J t)) : ∀ t, mm_SK p l e (mm_rm (d + 1) 0 0) s m args below meth c (MQ below (mm_Qc D pcl Q ad0 cA0 μ0 0 A) args s 0 0 free) D pcl A 2 (mm_EX EXT A s ad0 cA0 (mm_n μ0)) (pp_X7_isObject t) (pb_X7_isObject J C Q t) := by
  intro t
  match t with
  | 0 =>
    refine so_iload_n (pc := 0) (i := 1) X (by decide +kernel) ?_
    refine so_if_lt (pc := 1) (off := 15) (tgt := 16) X (by decide +kernel) (by decide) (hJ 1) ?_
    refine so_iload_n (pc := 4) (i := 1) X (by decide +kernel) ?_
    refine so_aload_n (pc := 5) (i := 0) X (by decide +kernel) ?_
    refine so_geti (pc := 6) (index := 65) (ci := 7) (f := 1) (N := 32) (C := RX7) (T := TX7) X rfl uX7 (by decide) (by decide) tw_392 rfl (by decide) (by decide +kernel) ?_
    refine so_icmp_ge (pc := 9) (off := 7) (tgt := 16) X (by decide +kernel) (by decide) (hJ 1) ?_
    refine so_iconst (pc := 12) (n := 1) (v := 1) X (by decide +kernel) (by decide) ?_
    exact so_goto (pc := 13) (off := 4) (tgt := 17) X (by decide +kernel) (by decide) (hJ 2)
  | 1 =>
    refine so_iconst (pc := 16) (n := 0) (v := 0) X (by decide +kernel) (by decide) ?_
    exact so_fall X (hJ 2)
  | 2 =>
    exact so_rtz (pc := 17) X hlk hfree hr (by decide +kernel)
  | n + 3 => exact fun _ _ _ _ h => h.elim
theorem bs_X7_isObject {l : Launch} {D : va_G} {EXT : (Nat → Nat) → (Nat → Prop) → State → Heap → Prop} (hxo : mm_xo EXT) (hxe : ∀ ad A U H, EXT ad A U H → px_E0 ad A U H) : mm_BS l D pcl lw_T EXT px_tab 96 pb_X7_isObject pp_X7_isObject := by
  intro d C hC p e s m args below meth c A ad0 cA0 μ0 free Q J
  rw [tb_96]
  exact fun X hr hlk hnm hfree hJ => bk_X7_isObject hxo hxe hC X hr hlk hnm hfree hJ
set_option maxHeartbeats 4000000 in
set_option maxRecDepth 100000 in
theorem bk_X7_isUser {l : Launch} {D : va_G} {EXT : (Nat → Nat) → (Nat → Prop) → State → Heap → Prop} (hxo : mm_xo EXT) (hxe : ∀ ad A U H, EXT ad A U H → px_E0 ad A U H) {d : Nat} {C : mm_C} (hC : mm_CS l D pcl lw_T EXT px_tab d C) {p : Program} {e : Env} {s : State} {m : MethodId} {args : Array Value} {below : List Frame} {meth : Method} {c : Code} {A : Nat → Prop} {ad0 : Nat → Nat} {cA0 : Nat → ClassId} {μ0 : mm_M} {free : Addr → Prop} {Q : mm_Q} {J : mm_J} (X : mm_cx p (mm_rm (d + 1) 0 0) s m args c cX7_isUser RX7 lw_T A D pcl 2) (hr : meth.sig.returnType = some .boolean) (hlk : meth.locks = false) (hnm : meth.name = "isUser") (hfree : ∀ q, A q → free q) (hJ : ∀ t, mm_SK p l e (mm_rm (d + 1) 0 0) s m args below meth c (MQ below (mm_Qc D pcl Q ad0 cA0 μ0 0 A) args s 0 0 free) D pcl A 2 (mm_EX EXT A s ad0 cA0 (mm_n μ0)) (pp_X7_isUser t) (J t)) : ∀ t, mm_SK p l e (mm_rm (d + 1) 0 0) s m args below meth c (MQ below (mm_Qc D pcl Q ad0 cA0 μ0 0 A) args s 0 0 free) D pcl A 2 (mm_EX EXT A s ad0 cA0 (mm_n μ0)) (pp_X7_isUser t) (pb_X7_isUser J C Q t) := by
  intro t
  match t with
  | 0 =>
    refine so_iload_n (pc := 0) (i := 1) X (by decide +kernel) ?_
    refine so_if_lt (pc := 1) (off := 15) (tgt := 16) X (by decide +kernel) (by decide) (hJ 1) ?_
    refine so_iload_n (pc := 4) (i := 1) X (by decide +kernel) ?_
    refine so_aload_n (pc := 5) (i := 0) X (by decide +kernel) ?_
    refine so_geti (pc := 6) (index := 68) (ci := 7) (f := 2) (N := 32) (C := RX7) (T := TX7) X rfl uX7 (by decide) (by decide) tw_393 rfl (by decide) (by decide +kernel) ?_
    refine so_icmp_ge (pc := 9) (off := 7) (tgt := 16) X (by decide +kernel) (by decide) (hJ 1) ?_
    refine so_iconst (pc := 12) (n := 1) (v := 1) X (by decide +kernel) (by decide) ?_
    exact so_goto (pc := 13) (off := 4) (tgt := 17) X (by decide +kernel) (by decide) (hJ 2)
  | 1 =>
    refine so_iconst (pc := 16) (n := 0) (v := 0) X (by decide +kernel) (by decide) ?_
    exact so_fall X (hJ 2)
  | 2 =>
    exact so_rtz (pc := 17) X hlk hfree hr (by decide +kernel)
  | n + 3 => exact fun _ _ _ _ h => h.elim
theorem bs_X7_isUser {l : Launch} {D : va_G} {EXT : (Nat → Nat) → (Nat → Prop) → State → Heap → Prop} (hxo : mm_xo EXT) (hxe : ∀ ad A U H, EXT ad A U H → px_E0 ad A U H) : mm_BS l D pcl lw_T EXT px_tab 97 pb_X7_isUser pp_X7_isUser := by
  intro d C hC p e s m args below meth c A ad0 cA0 μ0 free Q J
  rw [tb_97]
  exact fun X hr hlk hnm hfree hJ => bk_X7_isUser hxo hxe hC X hr hlk hnm hfree hJ
set_option maxHeartbeats 4000000 in
set_option maxRecDepth 100000 in
theorem bk_X7_isField {l : Launch} {D : va_G} {EXT : (Nat → Nat) → (Nat → Prop) → State → Heap → Prop} (hxo : mm_xo EXT) (hxe : ∀ ad A U H, EXT ad A U H → px_E0 ad A U H) {d : Nat} {C : mm_C} (hC : mm_CS l D pcl lw_T EXT px_tab d C) {p : Program} {e : Env} {s : State} {m : MethodId} {args : Array Value} {below : List Frame} {meth : Method} {c : Code} {A : Nat → Prop} {ad0 : Nat → Nat} {cA0 : Nat → ClassId} {μ0 : mm_M} {free : Addr → Prop} {Q : mm_Q} {J : mm_J} (X : mm_cx p (mm_rm (d + 1) 0 0) s m args c cX7_isField RX7 lw_T A D pcl 1) (hr : meth.sig.returnType = some .boolean) (hlk : meth.locks = false) (hnm : meth.name = "isField") (hfree : ∀ q, A q → free q) (hJ : ∀ t, mm_SK p l e (mm_rm (d + 1) 0 0) s m args below meth c (MQ below (mm_Qc D pcl Q ad0 cA0 μ0 0 A) args s 0 0 free) D pcl A 1 (mm_EX EXT A s ad0 cA0 (mm_n μ0)) (pp_X7_isField t) (J t)) : ∀ t, mm_SK p l e (mm_rm (d + 1) 0 0) s m args below meth c (MQ below (mm_Qc D pcl Q ad0 cA0 μ0 0 A) args s 0 0 free) D pcl A 1 (mm_EX EXT A s ad0 cA0 (mm_n μ0)) (pp_X7_isField t) (pb_X7_isField J C Q t) := by
  intro t
  match t with
  | 0 =>
    refine so_iload_n (pc := 0) (i := 0) X (by decide +kernel) ?_
    refine so_if_lt (pc := 1) (off := 12) (tgt := 13) X (by decide +kernel) (by decide) (hJ 1) ?_
    refine so_iload_n (pc := 4) (i := 0) X (by decide +kernel) ?_
    refine so_iconst (pc := 5) (n := 3) (v := 3) X (by decide +kernel) (by decide) ?_
    refine so_icmp_gt (pc := 6) (off := 7) (tgt := 13) X (by decide +kernel) (by decide) (hJ 1) ?_
    refine so_iconst (pc := 9) (n := 1) (v := 1) X (by decide +kernel) (by decide) ?_
    exact so_goto (pc := 10) (off := 4) (tgt := 14) X (by decide +kernel) (by decide) (hJ 2)
  | 1 =>
    refine so_iconst (pc := 13) (n := 0) (v := 0) X (by decide +kernel) (by decide) ?_
    exact so_fall X (hJ 2)
  | 2 =>
    exact so_rtz (pc := 14) X hlk hfree hr (by decide +kernel)
  | n + 3 => exact fun _ _ _ _ h => h.elim
theorem bs_X7_isField {l : Launch} {D : va_G} {EXT : (Nat → Nat) → (Nat → Prop) → State → Heap → Prop} (hxo : mm_xo EXT) (hxe : ∀ ad A U H, EXT ad A U H → px_E0 ad A U H) : mm_BS l D pcl lw_T EXT px_tab 98 pb_X7_isField pp_X7_isField := by
  intro d C hC p e s m args below meth c A ad0 cA0 μ0 free Q J
  rw [tb_98]
  exact fun X hr hlk hnm hfree hJ => bk_X7_isField hxo hxe hC X hr hlk hnm hfree hJ
set_option maxHeartbeats 4000000 in
set_option maxRecDepth 100000 in
theorem bk_X7_isSet {l : Launch} {D : va_G} {EXT : (Nat → Nat) → (Nat → Prop) → State → Heap → Prop} (hxo : mm_xo EXT) (hxe : ∀ ad A U H, EXT ad A U H → px_E0 ad A U H) {d : Nat} {C : mm_C} (hC : mm_CS l D pcl lw_T EXT px_tab d C) {p : Program} {e : Env} {s : State} {m : MethodId} {args : Array Value} {below : List Frame} {meth : Method} {c : Code} {A : Nat → Prop} {ad0 : Nat → Nat} {cA0 : Nat → ClassId} {μ0 : mm_M} {free : Addr → Prop} {Q : mm_Q} {J : mm_J} (X : mm_cx p (mm_rm (d + 1) 0 0) s m args c cX7_isSet RX7 lw_T A D pcl 2) (hr : meth.sig.returnType = some .boolean) (hlk : meth.locks = false) (hnm : meth.name = "isSet") (hfree : ∀ q, A q → free q) (hJ : ∀ t, mm_SK p l e (mm_rm (d + 1) 0 0) s m args below meth c (MQ below (mm_Qc D pcl Q ad0 cA0 μ0 0 A) args s 0 0 free) D pcl A 2 (mm_EX EXT A s ad0 cA0 (mm_n μ0)) (pp_X7_isSet t) (J t)) : ∀ t, mm_SK p l e (mm_rm (d + 1) 0 0) s m args below meth c (MQ below (mm_Qc D pcl Q ad0 cA0 μ0 0 A) args s 0 0 free) D pcl A 2 (mm_EX EXT A s ad0 cA0 (mm_n μ0)) (pp_X7_isSet t) (pb_X7_isSet J C Q t) := by
  intro t
  match t with
  | 0 =>
    refine so_iload_n (pc := 0) (i := 1) X (by decide +kernel) ?_
    refine so_if_le (pc := 1) (off := 17) (tgt := 18) X (by decide +kernel) (by decide) (hJ 1) ?_
    refine so_iload_n (pc := 4) (i := 1) X (by decide +kernel) ?_
    refine so_iconst (pc := 5) (n := 1) (v := 1) X (by decide +kernel) (by decide) ?_
    refine so_aload_n (pc := 6) (i := 0) X (by decide +kernel) ?_
    refine so_geti (pc := 7) (index := 65) (ci := 7) (f := 1) (N := 32) (C := RX7) (T := TX7) X rfl uX7 (by decide) (by decide) tw_392 rfl (by decide) (by decide +kernel) ?_
    refine so_ishl (pc := 10) X (by decide +kernel) ?_
    refine so_icmp_ge (pc := 11) (off := 7) (tgt := 18) X (by decide +kernel) (by decide) (hJ 1) ?_
    refine so_iconst (pc := 14) (n := 1) (v := 1) X (by decide +kernel) (by decide) ?_
    exact so_goto (pc := 15) (off := 4) (tgt := 19) X (by decide +kernel) (by decide) (hJ 2)
  | 1 =>
    refine so_iconst (pc := 18) (n := 0) (v := 0) X (by decide +kernel) (by decide) ?_
    exact so_fall X (hJ 2)
  | 2 =>
    exact so_rtz (pc := 19) X hlk hfree hr (by decide +kernel)
  | n + 3 => exact fun _ _ _ _ h => h.elim
theorem bs_X7_isSet {l : Launch} {D : va_G} {EXT : (Nat → Nat) → (Nat → Prop) → State → Heap → Prop} (hxo : mm_xo EXT) (hxe : ∀ ad A U H, EXT ad A U H → px_E0 ad A U H) : mm_BS l D pcl lw_T EXT px_tab 99 pb_X7_isSet pp_X7_isSet := by
  intro d C hC p e s m args below meth c A ad0 cA0 μ0 free Q J
  rw [tb_99]
  exact fun X hr hlk hnm hfree hJ => bk_X7_isSet hxo hxe hC X hr hlk hnm hfree hJ
set_option maxHeartbeats 4000000 in
set_option maxRecDepth 100000 in
theorem bk_X7_object {l : Launch} {D : va_G} {EXT : (Nat → Nat) → (Nat → Prop) → State → Heap → Prop} (hxo : mm_xo EXT) (hxe : ∀ ad A U H, EXT ad A U H → px_E0 ad A U H) {d : Nat} {C : mm_C} (hC : mm_CS l D pcl lw_T EXT px_tab d C) {p : Program} {e : Env} {s : State} {m : MethodId} {args : Array Value} {below : List Frame} {meth : Method} {c : Code} {A : Nat → Prop} {ad0 : Nat → Nat} {cA0 : Nat → ClassId} {μ0 : mm_M} {free : Addr → Prop} {Q : mm_Q} {J : mm_J} (X : mm_cx p (mm_rm (d + 1) 0 0) s m args c cX7_object RX7 lw_T A D pcl 2) (hr : meth.sig.returnType = some .int) (hlk : meth.locks = false) (hnm : meth.name = "object") (hfree : ∀ q, A q → free q) (hJ : ∀ t, mm_SK p l e (mm_rm (d + 1) 0 0) s m args below meth c (MQ below (mm_Qc D pcl Q ad0 cA0 μ0 0 A) args s 0 0 free) D pcl A 2 (mm_EX EXT A s ad0 cA0 (mm_n μ0)) (pp_X7_object t) (J t)) : ∀ t, mm_SK p l e (mm_rm (d + 1) 0 0) s m args below meth c (MQ below (mm_Qc D pcl Q ad0 cA0 μ0 0 A) args s 0 0 free) D pcl A 2 (mm_EX EXT A s ad0 cA0 (mm_n μ0)) (pp_X7_object t) (pb_X7_object J C Q t) := by
  intro t
  match t with
  | 0 =>
    refine so_aload_n (pc := 0) (i := 0) X (by decide +kernel) ?_
    refine so_iconst (pc := 1) (n := 0) (v := 0) X (by decide +kernel) (by decide) ?_
    refine so_puti (pc := 2) (index := 62) (ci := 7) (f := 0) (N := 32) (C := RX7) (T := TX7) X rfl uX7 (by decide) (by decide) tw_391 tyX7 tyX7_ok nmX7 rfl (by decide +kernel) rfl (by decide +kernel) ?_
    refine so_aload_n (pc := 5) (i := 0) X (by decide +kernel) ?_
    refine so_geti (pc := 6) (index := 71) (ci := 7) (f := 18) (N := 32) (C := RX7) (T := TX7) X rfl uX7 (by decide) (by decide) tw_394 rfl (by decide) (by decide +kernel) ?_
    refine so_if_le (pc := 9) (off := 6) (tgt := 15) X (by decide +kernel) (by decide) (hJ 1) ?_
    refine so_bipush (pc := 12) (n := (-5)) (v := (-5)) X (by decide +kernel) (by decide) ?_
    exact so_ret (pc := 14) X hlk hfree hr (by decide +kernel)
  | 1 =>
    refine so_aload_n (pc := 15) (i := 0) X (by decide +kernel) ?_
    refine so_geti (pc := 16) (index := 65) (ci := 7) (f := 1) (N := 32) (C := RX7) (T := TX7) X rfl uX7 (by decide) (by decide) tw_392 rfl (by decide) (by decide +kernel) ?_
    refine so_bipush (pc := 19) (n := 12) (v := 12) X (by decide +kernel) (by decide) ?_
    refine so_icmp_ne (pc := 21) (off := 6) (tgt := 27) X (by decide +kernel) (by decide) (hJ 2) ?_
    refine so_bipush (pc := 24) (n := (-4)) (v := (-4)) X (by decide +kernel) (by decide) ?_
    exact so_ret (pc := 26) X hlk hfree hr (by decide +kernel)
  | 2 =>
    refine so_iconst (pc := 27) (n := 0) (v := 0) X (by decide +kernel) (by decide) ?_
    refine so_istore_n (pc := 28) (i := 1) X (by decide +kernel) (by decide) ?_
    exact so_fall X (hJ 3)
  | 3 =>
    refine so_iload_n (pc := 29) (i := 1) X (by decide +kernel) ?_
    refine so_iconst (pc := 30) (n := 4) (v := 4) X (by decide +kernel) (by decide) ?_
    refine so_icmp_ge (pc := 31) (off := 23) (tgt := 54) X (by decide +kernel) (by decide) (hJ 4) ?_
    refine so_aload_n (pc := 34) (i := 0) X (by decide +kernel) ?_
    refine so_getr (pc := 35) (index := 7) (ci := 7) (f := 3) (N := 32) (C := RX7) (T := TX7) X rfl uX7 (by decide) (by decide) tw_374 rfl (by decide +kernel) ?_
    refine so_iconst (pc := 38) (n := 4) (v := 4) X (by decide +kernel) (by decide) ?_
    refine so_aload_n (pc := 39) (i := 0) X (by decide +kernel) ?_
    refine so_geti (pc := 40) (index := 65) (ci := 7) (f := 1) (N := 32) (C := RX7) (T := TX7) X rfl uX7 (by decide) (by decide) tw_392 rfl (by decide) (by decide +kernel) ?_
    refine so_imul (pc := 43) X (by decide +kernel) ?_
    refine so_iload_n (pc := 44) (i := 1) X (by decide +kernel) ?_
    refine so_iadd (pc := 45) X (by decide +kernel) ?_
    refine so_iconst (pc := 46) (n := 0) (v := 0) X (by decide +kernel) (by decide) ?_
    refine so_iast (pc := 47) X (by decide +kernel) ?_
    refine so_iinc (pc := 48) (i := 1) (n := 1) (y := 1) X (by decide +kernel) (by decide) (by decide) ?_
    exact so_goto (pc := 51) (off := (-22)) (tgt := 29) X (by decide +kernel) (by decide) (hJ 3)
  | 4 =>
    refine so_aload_n (pc := 54) (i := 0) X (by decide +kernel) ?_
    refine so_dup (pc := 55) X (by decide +kernel) ?_
    refine so_geti (pc := 56) (index := 65) (ci := 7) (f := 1) (N := 32) (C := RX7) (T := TX7) X rfl uX7 (by decide) (by decide) tw_392 rfl (by decide) (by decide +kernel) ?_
    refine so_iconst (pc := 59) (n := 1) (v := 1) X (by decide +kernel) (by decide) ?_
    refine so_iadd (pc := 60) X (by decide +kernel) ?_
    refine so_puti (pc := 61) (index := 65) (ci := 7) (f := 1) (N := 32) (C := RX7) (T := TX7) X rfl uX7 (by decide) (by decide) tw_392 tyX7 tyX7_ok nmX7 rfl (by decide +kernel) rfl (by decide +kernel) ?_
    refine so_aload_n (pc := 64) (i := 0) X (by decide +kernel) ?_
    refine so_geti (pc := 65) (index := 65) (ci := 7) (f := 1) (N := 32) (C := RX7) (T := TX7) X rfl uX7 (by decide) (by decide) tw_392 rfl (by decide) (by decide +kernel) ?_
    refine so_iconst (pc := 68) (n := 1) (v := 1) X (by decide +kernel) (by decide) ?_
    refine so_isub (pc := 69) X (by decide +kernel) ?_
    exact so_ret (pc := 70) X hlk hfree hr (by decide +kernel)
  | n + 5 => exact fun _ _ _ _ h => h.elim
theorem bs_X7_object {l : Launch} {D : va_G} {EXT : (Nat → Nat) → (Nat → Prop) → State → Heap → Prop} (hxo : mm_xo EXT) (hxe : ∀ ad A U H, EXT ad A U H → px_E0 ad A U H) : mm_BS l D pcl lw_T EXT px_tab 100 pb_X7_object pp_X7_object := by
  intro d C hC p e s m args below meth c A ad0 cA0 μ0 free Q J
  rw [tb_100]
  exact fun X hr hlk hnm hfree hJ => bk_X7_object hxo hxe hC X hr hlk hnm hfree hJ
set_option maxHeartbeats 4000000 in
set_option maxRecDepth 100000 in
theorem bk_X7_set {l : Launch} {D : va_G} {EXT : (Nat → Nat) → (Nat → Prop) → State → Heap → Prop} (hxo : mm_xo EXT) (hxe : ∀ ad A U H, EXT ad A U H → px_E0 ad A U H) {d : Nat} {C : mm_C} (hC : mm_CS l D pcl lw_T EXT px_tab d C) {p : Program} {e : Env} {s : State} {m : MethodId} {args : Array Value} {below : List Frame} {meth : Method} {c : Code} {A : Nat → Prop} {ad0 : Nat → Nat} {cA0 : Nat → ClassId} {μ0 : mm_M} {free : Addr → Prop} {Q : mm_Q} {J : mm_J} (X : mm_cx p (mm_rm (d + 1) 0 0) s m args c cX7_set RX7 lw_T A D pcl 4) (hr : meth.sig.returnType = some .int) (hlk : meth.locks = false) (hnm : meth.name = "set") (hfree : ∀ q, A q → free q) (hJ : ∀ t, mm_SK p l e (mm_rm (d + 1) 0 0) s m args below meth c (MQ below (mm_Qc D pcl Q ad0 cA0 μ0 0 A) args s 0 0 free) D pcl A 4 (mm_EX EXT A s ad0 cA0 (mm_n μ0)) (pp_X7_set t) (J t)) : ∀ t, mm_SK p l e (mm_rm (d + 1) 0 0) s m args below meth c (MQ below (mm_Qc D pcl Q ad0 cA0 μ0 0 A) args s 0 0 free) D pcl A 4 (mm_EX EXT A s ad0 cA0 (mm_n μ0)) (pp_X7_set t) (pb_X7_set J C Q t) := by
  intro t
  match t with
  | 0 =>
    refine so_aload_n (pc := 0) (i := 0) X (by decide +kernel) ?_
    refine so_iconst (pc := 1) (n := 0) (v := 0) X (by decide +kernel) (by decide) ?_
    refine so_puti (pc := 2) (index := 62) (ci := 7) (f := 0) (N := 32) (C := RX7) (T := TX7) X rfl uX7 (by decide) (by decide) tw_391 tyX7 tyX7_ok nmX7 rfl (by decide +kernel) rfl (by decide +kernel) ?_
    refine so_aload_n (pc := 5) (i := 0) X (by decide +kernel) ?_
    refine so_iload_n (pc := 6) (i := 1) X (by decide +kernel) ?_
    refine so_cav (pc := 7) (y := 96) (na := 2) (index := 74) (maxL := 2) (nm := yX7_isObject) (bytes := cX7_isObject) (ret := (some .boolean)) (ci := 7) (N := 32) (T := TX7) X hxo (fun _ _ _ _ h => h.1) hC lw_good (Nat.le_refl _) (mm_lo d) rfl (by decide) tw_395 tw_396 tw_397 rfl (by decide) tw_398 tw_399 (by decide +kernel) (by decide +kernel) ?_
    refine so_if_eq (pc := 10) (off := 10) (tgt := 20) X (by decide +kernel) (by decide) (hJ 1) ?_
    refine so_iload_n (pc := 13) (i := 2) X (by decide +kernel) ?_
    refine so_cas (pc := 14) (y := 98) (na := 1) (index := 78) (maxL := 1) (nm := yX7_isField) (bytes := cX7_isField) (ret := (some .boolean)) X hxo (fun _ _ _ _ h => h.1) hC lw_good (Nat.le_refl _) (mm_lo d) rfl (by decide) tw_400 tw_401 tw_397 tw_402 (by decide +kernel) (by decide +kernel) ?_
    refine so_if_ne (pc := 17) (off := 5) (tgt := 22) X (by decide +kernel) (by decide) (hJ 2) ?_
    exact so_fall X (hJ 1)
  | 1 =>
    refine so_iconst (pc := 20) (n := (-1)) (v := (-1)) X (by decide +kernel) (by decide) ?_
    exact so_ret (pc := 21) X hlk hfree hr (by decide +kernel)
  | 2 =>
    refine so_iload_n (pc := 22) (i := 3) X (by decide +kernel) ?_
    refine so_sipush (pc := 23) (n := (-1000)) (v := (-1000)) X (by decide +kernel) (by decide) ?_
    refine so_icmp_lt (pc := 26) (off := 10) (tgt := 36) X (by decide +kernel) (by decide) (hJ 3) ?_
    refine so_iload_n (pc := 29) (i := 3) X (by decide +kernel) ?_
    refine so_sipush (pc := 30) (n := 1000) (v := 1000) X (by decide +kernel) (by decide) ?_
    refine so_icmp_le (pc := 33) (off := 6) (tgt := 39) X (by decide +kernel) (by decide) (hJ 4) ?_
    exact so_fall X (hJ 3)
  | 3 =>
    refine so_bipush (pc := 36) (n := (-2)) (v := (-2)) X (by decide +kernel) (by decide) ?_
    exact so_ret (pc := 38) X hlk hfree hr (by decide +kernel)
  | 4 =>
    refine so_aload_n (pc := 39) (i := 0) X (by decide +kernel) ?_
    refine so_geti (pc := 40) (index := 71) (ci := 7) (f := 18) (N := 32) (C := RX7) (T := TX7) X rfl uX7 (by decide) (by decide) tw_394 rfl (by decide) (by decide +kernel) ?_
    refine so_if_le (pc := 43) (off := 6) (tgt := 49) X (by decide +kernel) (by decide) (hJ 5) ?_
    refine so_bipush (pc := 46) (n := (-5)) (v := (-5)) X (by decide +kernel) (by decide) ?_
    exact so_ret (pc := 48) X hlk hfree hr (by decide +kernel)
  | 5 =>
    refine so_aload_n (pc := 49) (i := 0) X (by decide +kernel) ?_
    refine so_getr (pc := 50) (index := 7) (ci := 7) (f := 3) (N := 32) (C := RX7) (T := TX7) X rfl uX7 (by decide) (by decide) tw_374 rfl (by decide +kernel) ?_
    refine so_iconst (pc := 53) (n := 4) (v := 4) X (by decide +kernel) (by decide) ?_
    refine so_iload_n (pc := 54) (i := 1) X (by decide +kernel) ?_
    refine so_imul (pc := 55) X (by decide +kernel) ?_
    refine so_iload_n (pc := 56) (i := 2) X (by decide +kernel) ?_
    refine so_iadd (pc := 57) X (by decide +kernel) ?_
    refine so_iload_n (pc := 58) (i := 3) X (by decide +kernel) ?_
    refine so_iast (pc := 59) X (by decide +kernel) ?_
    refine so_iconst (pc := 60) (n := 1) (v := 1) X (by decide +kernel) (by decide) ?_
    exact so_ret (pc := 61) X hlk hfree hr (by decide +kernel)
  | n + 6 => exact fun _ _ _ _ h => h.elim
theorem bs_X7_set {l : Launch} {D : va_G} {EXT : (Nat → Nat) → (Nat → Prop) → State → Heap → Prop} (hxo : mm_xo EXT) (hxe : ∀ ad A U H, EXT ad A U H → px_E0 ad A U H) : mm_BS l D pcl lw_T EXT px_tab 101 pb_X7_set pp_X7_set := by
  intro d C hC p e s m args below meth c A ad0 cA0 μ0 free Q J
  rw [tb_101]
  exact fun X hr hlk hnm hfree hJ => bk_X7_set hxo hxe hC X hr hlk hnm hfree hJ
set_option maxHeartbeats 4000000 in
set_option maxRecDepth 100000 in
theorem bk_X7_user {l : Launch} {D : va_G} {EXT : (Nat → Nat) → (Nat → Prop) → State → Heap → Prop} (hxo : mm_xo EXT) (hxe : ∀ ad A U H, EXT ad A U H → px_E0 ad A U H) {d : Nat} {C : mm_C} (hC : mm_CS l D pcl lw_T EXT px_tab d C) {p : Program} {e : Env} {s : State} {m : MethodId} {args : Array Value} {below : List Frame} {meth : Method} {c : Code} {A : Nat → Prop} {ad0 : Nat → Nat} {cA0 : Nat → ClassId} {μ0 : mm_M} {free : Addr → Prop} {Q : mm_Q} {J : mm_J} (X : mm_cx p (mm_rm (d + 1) 0 0) s m args c cX7_user RX7 lw_T A D pcl 1) (hr : meth.sig.returnType = some .int) (hlk : meth.locks = false) (hnm : meth.name = "user") (hfree : ∀ q, A q → free q) (hJ : ∀ t, mm_SK p l e (mm_rm (d + 1) 0 0) s m args below meth c (MQ below (mm_Qc D pcl Q ad0 cA0 μ0 0 A) args s 0 0 free) D pcl A 1 (mm_EX EXT A s ad0 cA0 (mm_n μ0)) (pp_X7_user t) (J t)) : ∀ t, mm_SK p l e (mm_rm (d + 1) 0 0) s m args below meth c (MQ below (mm_Qc D pcl Q ad0 cA0 μ0 0 A) args s 0 0 free) D pcl A 1 (mm_EX EXT A s ad0 cA0 (mm_n μ0)) (pp_X7_user t) (pb_X7_user J C Q t) := by
  intro t
  match t with
  | 0 =>
    refine so_aload_n (pc := 0) (i := 0) X (by decide +kernel) ?_
    refine so_iconst (pc := 1) (n := 0) (v := 0) X (by decide +kernel) (by decide) ?_
    refine so_puti (pc := 2) (index := 62) (ci := 7) (f := 0) (N := 32) (C := RX7) (T := TX7) X rfl uX7 (by decide) (by decide) tw_391 tyX7 tyX7_ok nmX7 rfl (by decide +kernel) rfl (by decide +kernel) ?_
    refine so_aload_n (pc := 5) (i := 0) X (by decide +kernel) ?_
    refine so_geti (pc := 6) (index := 68) (ci := 7) (f := 2) (N := 32) (C := RX7) (T := TX7) X rfl uX7 (by decide) (by decide) tw_393 rfl (by decide) (by decide +kernel) ?_
    refine so_iconst (pc := 9) (n := 4) (v := 4) X (by decide +kernel) (by decide) ?_
    refine so_icmp_ne (pc := 10) (off := 6) (tgt := 16) X (by decide +kernel) (by decide) (hJ 1) ?_
    refine so_bipush (pc := 13) (n := (-4)) (v := (-4)) X (by decide +kernel) (by decide) ?_
    exact so_ret (pc := 15) X hlk hfree hr (by decide +kernel)
  | 1 =>
    refine so_aload_n (pc := 16) (i := 0) X (by decide +kernel) ?_
    refine so_getr (pc := 17) (index := 21) (ci := 7) (f := 7) (N := 32) (C := RX7) (T := TX7) X rfl uX7 (by decide) (by decide) tw_378 rfl (by decide +kernel) ?_
    refine so_sipush (pc := 20) (n := 128) (v := 128) X (by decide +kernel) (by decide) ?_
    refine so_aload_n (pc := 23) (i := 0) X (by decide +kernel) ?_
    refine so_geti (pc := 24) (index := 68) (ci := 7) (f := 2) (N := 32) (C := RX7) (T := TX7) X rfl uX7 (by decide) (by decide) tw_393 rfl (by decide) (by decide +kernel) ?_
    refine so_imul (pc := 27) X (by decide +kernel) ?_
    refine so_bipush (pc := 28) (n := (-7)) (v := (-7)) X (by decide +kernel) (by decide) ?_
    refine so_iast (pc := 30) X (by decide +kernel) ?_
    refine so_aload_n (pc := 31) (i := 0) X (by decide +kernel) ?_
    refine so_getr (pc := 32) (index := 24) (ci := 7) (f := 8) (N := 32) (C := RX7) (T := TX7) X rfl uX7 (by decide) (by decide) tw_379 rfl (by decide +kernel) ?_
    refine so_iconst (pc := 35) (n := 2) (v := 2) X (by decide +kernel) (by decide) ?_
    refine so_aload_n (pc := 36) (i := 0) X (by decide +kernel) ?_
    refine so_geti (pc := 37) (index := 68) (ci := 7) (f := 2) (N := 32) (C := RX7) (T := TX7) X rfl uX7 (by decide) (by decide) tw_393 rfl (by decide) (by decide +kernel) ?_
    refine so_imul (pc := 40) X (by decide +kernel) ?_
    refine so_iconst (pc := 41) (n := 1) (v := 1) X (by decide +kernel) (by decide) ?_
    refine so_iast (pc := 42) X (by decide +kernel) ?_
    refine so_aload_n (pc := 43) (i := 0) X (by decide +kernel) ?_
    refine so_getr (pc := 44) (index := 27) (ci := 7) (f := 9) (N := 32) (C := RX7) (T := TX7) X rfl uX7 (by decide) (by decide) tw_380 rfl (by decide +kernel) ?_
    refine so_aload_n (pc := 47) (i := 0) X (by decide +kernel) ?_
    refine so_geti (pc := 48) (index := 68) (ci := 7) (f := 2) (N := 32) (C := RX7) (T := TX7) X rfl uX7 (by decide) (by decide) tw_393 rfl (by decide) (by decide +kernel) ?_
    refine so_iconst (pc := 51) (n := 0) (v := 0) X (by decide +kernel) (by decide) ?_
    refine so_iast (pc := 52) X (by decide +kernel) ?_
    refine so_aload_n (pc := 53) (i := 0) X (by decide +kernel) ?_
    refine so_getr (pc := 54) (index := 30) (ci := 7) (f := 10) (N := 32) (C := RX7) (T := TX7) X rfl uX7 (by decide) (by decide) tw_381 rfl (by decide +kernel) ?_
    refine so_aload_n (pc := 57) (i := 0) X (by decide +kernel) ?_
    refine so_geti (pc := 58) (index := 68) (ci := 7) (f := 2) (N := 32) (C := RX7) (T := TX7) X rfl uX7 (by decide) (by decide) tw_393 rfl (by decide) (by decide +kernel) ?_
    refine so_iconst (pc := 61) (n := 0) (v := 0) X (by decide +kernel) (by decide) ?_
    refine so_zast (pc := 62) X (by decide +kernel) ?_
    refine so_aload_n (pc := 63) (i := 0) X (by decide +kernel) ?_
    refine so_getr (pc := 64) (index := 34) (ci := 7) (f := 11) (N := 32) (C := RX7) (T := TX7) X rfl uX7 (by decide) (by decide) tw_382 rfl (by decide +kernel) ?_
    refine so_aload_n (pc := 67) (i := 0) X (by decide +kernel) ?_
    refine so_geti (pc := 68) (index := 68) (ci := 7) (f := 2) (N := 32) (C := RX7) (T := TX7) X rfl uX7 (by decide) (by decide) tw_393 rfl (by decide) (by decide +kernel) ?_
    refine so_iconst (pc := 71) (n := 0) (v := 0) X (by decide +kernel) (by decide) ?_
    refine so_iast (pc := 72) X (by decide +kernel) ?_
    refine so_aload_n (pc := 73) (i := 0) X (by decide +kernel) ?_
    refine so_dup (pc := 74) X (by decide +kernel) ?_
    refine so_geti (pc := 75) (index := 68) (ci := 7) (f := 2) (N := 32) (C := RX7) (T := TX7) X rfl uX7 (by decide) (by decide) tw_393 rfl (by decide) (by decide +kernel) ?_
    refine so_iconst (pc := 78) (n := 1) (v := 1) X (by decide +kernel) (by decide) ?_
    refine so_iadd (pc := 79) X (by decide +kernel) ?_
    refine so_puti (pc := 80) (index := 68) (ci := 7) (f := 2) (N := 32) (C := RX7) (T := TX7) X rfl uX7 (by decide) (by decide) tw_393 tyX7 tyX7_ok nmX7 rfl (by decide +kernel) rfl (by decide +kernel) ?_
    refine so_aload_n (pc := 83) (i := 0) X (by decide +kernel) ?_
    refine so_geti (pc := 84) (index := 68) (ci := 7) (f := 2) (N := 32) (C := RX7) (T := TX7) X rfl uX7 (by decide) (by decide) tw_393 rfl (by decide) (by decide +kernel) ?_
    refine so_iconst (pc := 87) (n := 1) (v := 1) X (by decide +kernel) (by decide) ?_
    refine so_isub (pc := 88) X (by decide +kernel) ?_
    exact so_ret (pc := 89) X hlk hfree hr (by decide +kernel)
  | n + 2 => exact fun _ _ _ _ h => h.elim
theorem bs_X7_user {l : Launch} {D : va_G} {EXT : (Nat → Nat) → (Nat → Prop) → State → Heap → Prop} (hxo : mm_xo EXT) (hxe : ∀ ad A U H, EXT ad A U H → px_E0 ad A U H) : mm_BS l D pcl lw_T EXT px_tab 102 pb_X7_user pp_X7_user := by
  intro d C hC p e s m args below meth c A ad0 cA0 μ0 free Q J
  rw [tb_102]
  exact fun X hr hlk hnm hfree hJ => bk_X7_user hxo hxe hC X hr hlk hnm hfree hJ
set_option maxHeartbeats 4000000 in
set_option maxRecDepth 100000 in
theorem bk_X7_type {l : Launch} {D : va_G} {EXT : (Nat → Nat) → (Nat → Prop) → State → Heap → Prop} (hxo : mm_xo EXT) (hxe : ∀ ad A U H, EXT ad A U H → px_E0 ad A U H) {d : Nat} {C : mm_C} (hC : mm_CS l D pcl lw_T EXT px_tab d C) {p : Program} {e : Env} {s : State} {m : MethodId} {args : Array Value} {below : List Frame} {meth : Method} {c : Code} {A : Nat → Prop} {ad0 : Nat → Nat} {cA0 : Nat → ClassId} {μ0 : mm_M} {free : Addr → Prop} {Q : mm_Q} {J : mm_J} (X : mm_cx p (mm_rm (d + 1) 0 0) s m args c cX7_type RX7 lw_T A D pcl 5) (hr : meth.sig.returnType = some .int) (hlk : meth.locks = false) (hnm : meth.name = "type") (hfree : ∀ q, A q → free q) (hJ : ∀ t, mm_SK p l e (mm_rm (d + 1) 0 0) s m args below meth c (MQ below (mm_Qc D pcl Q ad0 cA0 μ0 0 A) args s 0 0 free) D pcl A 5 (mm_EX EXT A s ad0 cA0 (mm_n μ0)) (pp_X7_type t) (J t)) : ∀ t, mm_SK p l e (mm_rm (d + 1) 0 0) s m args below meth c (MQ below (mm_Qc D pcl Q ad0 cA0 μ0 0 A) args s 0 0 free) D pcl A 5 (mm_EX EXT A s ad0 cA0 (mm_n μ0)) (pp_X7_type t) (pb_X7_type J C Q t) := by
  intro t
  match t with
  | 0 =>
    refine so_aload_n (pc := 0) (i := 0) X (by decide +kernel) ?_
    refine so_iconst (pc := 1) (n := 0) (v := 0) X (by decide +kernel) (by decide) ?_
    refine so_puti (pc := 2) (index := 62) (ci := 7) (f := 0) (N := 32) (C := RX7) (T := TX7) X rfl uX7 (by decide) (by decide) tw_391 tyX7 tyX7_ok nmX7 rfl (by decide +kernel) rfl (by decide +kernel) ?_
    refine so_iload_n (pc := 5) (i := 3) X (by decide +kernel) ?_
    refine so_if_lt (pc := 6) (off := 9) (tgt := 15) X (by decide +kernel) (by decide) (hJ 1) ?_
    refine so_iload_n (pc := 9) (i := 3) X (by decide +kernel) ?_
    refine so_bipush (pc := 10) (n := 8) (v := 8) X (by decide +kernel) (by decide) ?_
    refine so_icmp_le (pc := 12) (off := 6) (tgt := 18) X (by decide +kernel) (by decide) (hJ 2) ?_
    exact so_fall X (hJ 1)
  | 1 =>
    refine so_bipush (pc := 15) (n := (-2)) (v := (-2)) X (by decide +kernel) (by decide) ?_
    exact so_ret (pc := 17) X hlk hfree hr (by decide +kernel)
  | 2 =>
    refine so_iload_n (pc := 18) (i := 3) X (by decide +kernel) ?_
    refine so_if_ne (pc := 19) (off := 10) (tgt := 29) X (by decide +kernel) (by decide) (hJ 3) ?_
    refine so_aload_n (pc := 22) (i := 0) X (by decide +kernel) ?_
    refine so_iconst (pc := 23) (n := 0) (v := 0) X (by decide +kernel) (by decide) ?_
    refine so_puti (pc := 24) (index := 81) (ci := 7) (f := 5) (N := 32) (C := RX7) (T := TX7) X rfl uX7 (by decide) (by decide) tw_403 tyX7 tyX7_ok nmX7 rfl (by decide +kernel) rfl (by decide +kernel) ?_
    refine so_iconst (pc := 27) (n := 0) (v := 0) X (by decide +kernel) (by decide) ?_
    exact so_ret (pc := 28) X hlk hfree hr (by decide +kernel)
  | 3 =>
    refine so_aload_n (pc := 29) (i := 0) X (by decide +kernel) ?_
    refine so_geti (pc := 30) (index := 81) (ci := 7) (f := 5) (N := 32) (C := RX7) (T := TX7) X rfl uX7 (by decide) (by decide) tw_403 rfl (by decide) (by decide +kernel) ?_
    refine so_iload_n (pc := 33) (i := 3) X (by decide +kernel) ?_
    refine so_iadd (pc := 34) X (by decide +kernel) ?_
    refine so_sipush (pc := 35) (n := 300) (v := 300) X (by decide +kernel) (by decide) ?_
    refine so_icmp_le (pc := 38) (off := 6) (tgt := 44) X (by decide +kernel) (by decide) (hJ 4) ?_
    refine so_bipush (pc := 41) (n := (-4)) (v := (-4)) X (by decide +kernel) (by decide) ?_
    exact so_ret (pc := 43) X hlk hfree hr (by decide +kernel)
  | 4 =>
    refine so_iload_n (pc := 44) (i := 3) X (by decide +kernel) ?_
    refine so_iconst (pc := 45) (n := 1) (v := 1) X (by decide +kernel) (by decide) ?_
    refine so_isub (pc := 46) X (by decide +kernel) ?_
    refine so_istore (pc := 47) (i := 4) X (by decide +kernel) (by decide) ?_
    exact so_fall X (hJ 5)
  | 5 =>
    refine so_iload (pc := 49) (i := 4) X (by decide +kernel) ?_
    refine so_if_lt (pc := 51) (off := 37) (tgt := 88) X (by decide +kernel) (by decide) (hJ 6) ?_
    refine so_aload_n (pc := 54) (i := 0) X (by decide +kernel) ?_
    refine so_getr (pc := 55) (index := 13) (ci := 7) (f := 4) (N := 32) (C := RX7) (T := TX7) X rfl uX7 (by decide) (by decide) tw_376 rfl (by decide +kernel) ?_
    refine so_aload_n (pc := 58) (i := 0) X (by decide +kernel) ?_
    refine so_geti (pc := 59) (index := 81) (ci := 7) (f := 5) (N := 32) (C := RX7) (T := TX7) X rfl uX7 (by decide) (by decide) tw_403 rfl (by decide) (by decide +kernel) ?_
    refine so_lload_n (pc := 62) (i := 1) X (by decide +kernel) ?_
    refine so_bipush (pc := 63) (n := 8) (v := 8) X (by decide +kernel) (by decide) ?_
    refine so_iload (pc := 65) (i := 4) X (by decide +kernel) ?_
    refine so_imul (pc := 67) X (by decide +kernel) ?_
    refine so_lshr (pc := 68) X (by decide +kernel) ?_
    refine so_l2i (pc := 69) X (by decide +kernel) ?_
    refine so_i2b (pc := 70) X (by decide +kernel) ?_
    refine so_bast (pc := 71) X (by decide +kernel) ?_
    refine so_aload_n (pc := 72) (i := 0) X (by decide +kernel) ?_
    refine so_dup (pc := 73) X (by decide +kernel) ?_
    refine so_geti (pc := 74) (index := 81) (ci := 7) (f := 5) (N := 32) (C := RX7) (T := TX7) X rfl uX7 (by decide) (by decide) tw_403 rfl (by decide) (by decide +kernel) ?_
    refine so_iconst (pc := 77) (n := 1) (v := 1) X (by decide +kernel) (by decide) ?_
    refine so_iadd (pc := 78) X (by decide +kernel) ?_
    refine so_puti (pc := 79) (index := 81) (ci := 7) (f := 5) (N := 32) (C := RX7) (T := TX7) X rfl uX7 (by decide) (by decide) tw_403 tyX7 tyX7_ok nmX7 rfl (by decide +kernel) rfl (by decide +kernel) ?_
    refine so_iinc (pc := 82) (i := 4) (n := (-1)) (y := (-1)) X (by decide +kernel) (by decide) (by decide) ?_
    exact so_goto (pc := 85) (off := (-36)) (tgt := 49) X (by decide +kernel) (by decide) (hJ 5)
  | 6 =>
    refine so_aload_n (pc := 88) (i := 0) X (by decide +kernel) ?_
    refine so_geti (pc := 89) (index := 81) (ci := 7) (f := 5) (N := 32) (C := RX7) (T := TX7) X rfl uX7 (by decide) (by decide) tw_403 rfl (by decide) (by decide +kernel) ?_
    exact so_ret (pc := 92) X hlk hfree hr (by decide +kernel)
  | n + 7 => exact fun _ _ _ _ h => h.elim
theorem bs_X7_type {l : Launch} {D : va_G} {EXT : (Nat → Nat) → (Nat → Prop) → State → Heap → Prop} (hxo : mm_xo EXT) (hxe : ∀ ad A U H, EXT ad A U H → px_E0 ad A U H) : mm_BS l D pcl lw_T EXT px_tab 103 pb_X7_type pp_X7_type := by
  intro d C hC p e s m args below meth c A ad0 cA0 μ0 free Q J
  rw [tb_103]
  exact fun X hr hlk hnm hfree hJ => bk_X7_type hxo hxe hC X hr hlk hnm hfree hJ
set_option maxHeartbeats 4000000 in
set_option maxRecDepth 100000 in
theorem bk_X7_isLetter {l : Launch} {D : va_G} {EXT : (Nat → Nat) → (Nat → Prop) → State → Heap → Prop} (hxo : mm_xo EXT) (hxe : ∀ ad A U H, EXT ad A U H → px_E0 ad A U H) {d : Nat} {C : mm_C} (hC : mm_CS l D pcl lw_T EXT px_tab d C) {p : Program} {e : Env} {s : State} {m : MethodId} {args : Array Value} {below : List Frame} {meth : Method} {c : Code} {A : Nat → Prop} {ad0 : Nat → Nat} {cA0 : Nat → ClassId} {μ0 : mm_M} {free : Addr → Prop} {Q : mm_Q} {J : mm_J} (X : mm_cx p (mm_rm (d + 1) 0 0) s m args c cX7_isLetter RX7 lw_T A D pcl 1) (hr : meth.sig.returnType = some .boolean) (hlk : meth.locks = false) (hnm : meth.name = "isLetter") (hfree : ∀ q, A q → free q) (hJ : ∀ t, mm_SK p l e (mm_rm (d + 1) 0 0) s m args below meth c (MQ below (mm_Qc D pcl Q ad0 cA0 μ0 0 A) args s 0 0 free) D pcl A 1 (mm_EX EXT A s ad0 cA0 (mm_n μ0)) (pp_X7_isLetter t) (J t)) : ∀ t, mm_SK p l e (mm_rm (d + 1) 0 0) s m args below meth c (MQ below (mm_Qc D pcl Q ad0 cA0 μ0 0 A) args s 0 0 free) D pcl A 1 (mm_EX EXT A s ad0 cA0 (mm_n μ0)) (pp_X7_isLetter t) (pb_X7_isLetter J C Q t) := by
  intro t
  match t with
  | 0 =>
    refine so_iload_n (pc := 0) (i := 0) X (by decide +kernel) ?_
    refine so_bipush (pc := 1) (n := 97) (v := 97) X (by decide +kernel) (by decide) ?_
    refine so_icmp_lt (pc := 3) (off := 13) (tgt := 16) X (by decide +kernel) (by decide) (hJ 1) ?_
    refine so_iload_n (pc := 6) (i := 0) X (by decide +kernel) ?_
    refine so_bipush (pc := 7) (n := 122) (v := 122) X (by decide +kernel) (by decide) ?_
    refine so_icmp_gt (pc := 9) (off := 7) (tgt := 16) X (by decide +kernel) (by decide) (hJ 1) ?_
    refine so_iconst (pc := 12) (n := 1) (v := 1) X (by decide +kernel) (by decide) ?_
    exact so_goto (pc := 13) (off := 4) (tgt := 17) X (by decide +kernel) (by decide) (hJ 2)
  | 1 =>
    refine so_iconst (pc := 16) (n := 0) (v := 0) X (by decide +kernel) (by decide) ?_
    exact so_fall X (hJ 2)
  | 2 =>
    exact so_rtz (pc := 17) X hlk hfree hr (by decide +kernel)
  | n + 3 => exact fun _ _ _ _ h => h.elim
theorem bs_X7_isLetter {l : Launch} {D : va_G} {EXT : (Nat → Nat) → (Nat → Prop) → State → Heap → Prop} (hxo : mm_xo EXT) (hxe : ∀ ad A U H, EXT ad A U H → px_E0 ad A U H) : mm_BS l D pcl lw_T EXT px_tab 104 pb_X7_isLetter pp_X7_isLetter := by
  intro d C hC p e s m args below meth c A ad0 cA0 μ0 free Q J
  rw [tb_104]
  exact fun X hr hlk hnm hfree hJ => bk_X7_isLetter hxo hxe hC X hr hlk hnm hfree hJ
set_option maxHeartbeats 4000000 in
set_option maxRecDepth 100000 in
theorem bk_X7_isFigure {l : Launch} {D : va_G} {EXT : (Nat → Nat) → (Nat → Prop) → State → Heap → Prop} (hxo : mm_xo EXT) (hxe : ∀ ad A U H, EXT ad A U H → px_E0 ad A U H) {d : Nat} {C : mm_C} (hC : mm_CS l D pcl lw_T EXT px_tab d C) {p : Program} {e : Env} {s : State} {m : MethodId} {args : Array Value} {below : List Frame} {meth : Method} {c : Code} {A : Nat → Prop} {ad0 : Nat → Nat} {cA0 : Nat → ClassId} {μ0 : mm_M} {free : Addr → Prop} {Q : mm_Q} {J : mm_J} (X : mm_cx p (mm_rm (d + 1) 0 0) s m args c cX7_isFigure RX7 lw_T A D pcl 1) (hr : meth.sig.returnType = some .boolean) (hlk : meth.locks = false) (hnm : meth.name = "isFigure") (hfree : ∀ q, A q → free q) (hJ : ∀ t, mm_SK p l e (mm_rm (d + 1) 0 0) s m args below meth c (MQ below (mm_Qc D pcl Q ad0 cA0 μ0 0 A) args s 0 0 free) D pcl A 1 (mm_EX EXT A s ad0 cA0 (mm_n μ0)) (pp_X7_isFigure t) (J t)) : ∀ t, mm_SK p l e (mm_rm (d + 1) 0 0) s m args below meth c (MQ below (mm_Qc D pcl Q ad0 cA0 μ0 0 A) args s 0 0 free) D pcl A 1 (mm_EX EXT A s ad0 cA0 (mm_n μ0)) (pp_X7_isFigure t) (pb_X7_isFigure J C Q t) := by
  intro t
  match t with
  | 0 =>
    refine so_iload_n (pc := 0) (i := 0) X (by decide +kernel) ?_
    refine so_bipush (pc := 1) (n := 48) (v := 48) X (by decide +kernel) (by decide) ?_
    refine so_icmp_lt (pc := 3) (off := 13) (tgt := 16) X (by decide +kernel) (by decide) (hJ 1) ?_
    refine so_iload_n (pc := 6) (i := 0) X (by decide +kernel) ?_
    refine so_bipush (pc := 7) (n := 57) (v := 57) X (by decide +kernel) (by decide) ?_
    refine so_icmp_gt (pc := 9) (off := 7) (tgt := 16) X (by decide +kernel) (by decide) (hJ 1) ?_
    refine so_iconst (pc := 12) (n := 1) (v := 1) X (by decide +kernel) (by decide) ?_
    exact so_goto (pc := 13) (off := 4) (tgt := 17) X (by decide +kernel) (by decide) (hJ 2)
  | 1 =>
    refine so_iconst (pc := 16) (n := 0) (v := 0) X (by decide +kernel) (by decide) ?_
    exact so_fall X (hJ 2)
  | 2 =>
    exact so_rtz (pc := 17) X hlk hfree hr (by decide +kernel)
  | n + 3 => exact fun _ _ _ _ h => h.elim
theorem bs_X7_isFigure {l : Launch} {D : va_G} {EXT : (Nat → Nat) → (Nat → Prop) → State → Heap → Prop} (hxo : mm_xo EXT) (hxe : ∀ ad A U H, EXT ad A U H → px_E0 ad A U H) : mm_BS l D pcl lw_T EXT px_tab 105 pb_X7_isFigure pp_X7_isFigure := by
  intro d C hC p e s m args below meth c A ad0 cA0 μ0 free Q J
  rw [tb_105]
  exact fun X hr hlk hnm hfree hJ => bk_X7_isFigure hxo hxe hC X hr hlk hnm hfree hJ
