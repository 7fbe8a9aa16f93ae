set_option maxHeartbeats 4000000 in
set_option maxRecDepth 100000 in
theorem bk_X2_truth {l : Launch} {D : va_G} {EXT : (Nat → Nat) → (Nat → Prop) → State → Heap → Prop} (hxo : mm_xo EXT) (hxe : ∀ ad A U H, EXT ad A U H → px_E0 ad A U H) {d : Nat} {C : mm_C} (hC : mm_CS l D pcl lw_T EXT px_tab d C) {p : Program} {e : Env} {s : State} {m : MethodId} {args : Array Value} {below : List Frame} {meth : Method} {c : Code} {A : Nat → Prop} {ad0 : Nat → Nat} {cA0 : Nat → ClassId} {μ0 : mm_M} {free : Addr → Prop} {Q : mm_Q} {J : mm_J} (X : mm_cx p (mm_rm (d + 1) 0 0) s m args c cX2_truth RX2 lw_T A D pcl 5) (hr : meth.sig.returnType = some .int) (hlk : meth.locks = false) (hnm : meth.name = "truth") (hfree : ∀ q, A q → free q) (hJ : ∀ t, mm_SK p l e (mm_rm (d + 1) 0 0) s m args below meth c (MQ below (mm_Qc D pcl Q ad0 cA0 μ0 0 A) args s 0 0 free) D pcl A 5 (mm_EX EXT A s ad0 cA0 (mm_n μ0)) (pp_X2_truth t) (J t)) : ∀ t, mm_SK p l e (mm_rm (d + 1) 0 0) s m args below meth c (MQ below (mm_Qc D pcl Q ad0 cA0 μ0 0 A) args s 0 0 free) D pcl A 5 (mm_EX EXT A s ad0 cA0 (mm_n μ0)) (pp_X2_truth t) (pb_X2_truth J C Q t) := by
  intro t
  match t with
  | 0 =>
    refine so_aload_n (pc := 0) (i := 0) X (by decide +kernel) ?_
    refine so_iconst (pc := 1) (n := 0) (v := 0) X (by decide +kernel) (by decide) ?_
    refine so_puti (pc := 2) (index := 19) (ci := 2) (f := 2) (N := 3) (C := RX2) (T := TX2) X rfl uX2 (by decide) (by decide) tw_116 tyX2 tyX2_ok nmX2 rfl (by decide +kernel) rfl (by decide +kernel) ?_
    refine so_iconst (pc := 5) (n := 0) (v := 0) X (by decide +kernel) (by decide) ?_
    refine so_istore (pc := 6) (i := 4) X (by decide +kernel) (by decide) ?_
    exact so_fall X (hJ 1)
  | 1 =>
    refine so_iload (pc := 8) (i := 4) X (by decide +kernel) ?_
    refine so_aload_n (pc := 10) (i := 1) X (by decide +kernel) ?_
    refine so_geti (pc := 11) (index := 23) (ci := 4) (f := 2) (N := 4) (C := RX4) (T := TX4) X rfl uX4 (by decide) (by decide) tw_117 rfl (by decide) (by decide +kernel) ?_
    refine so_icmp_ge (pc := 14) (off := 29) (tgt := 43) X (by decide +kernel) (by decide) (hJ 2) ?_
    refine so_aload_n (pc := 17) (i := 0) X (by decide +kernel) ?_
    refine so_aload_n (pc := 18) (i := 1) X (by decide +kernel) ?_
    refine so_getr (pc := 19) (index := 28) (ci := 4) (f := 0) (N := 4) (C := RX4) (T := TX4) X rfl uX4 (by decide) (by decide) tw_118 rfl (by decide +kernel) ?_
    refine so_iload (pc := 22) (i := 4) X (by decide +kernel) ?_
    refine so_iald (pc := 24) X (by decide +kernel) ?_
    refine so_aload_n (pc := 25) (i := 1) X (by decide +kernel) ?_
    refine so_getr (pc := 26) (index := 32) (ci := 4) (f := 1) (N := 4) (C := RX4) (T := TX4) X rfl uX4 (by decide) (by decide) tw_119 rfl (by decide +kernel) ?_
    refine so_iload (pc := 29) (i := 4) X (by decide +kernel) ?_
    refine so_iald (pc := 31) X (by decide +kernel) ?_
    refine so_aload_n (pc := 32) (i := 2) X (by decide +kernel) ?_
    refine so_iload_n (pc := 33) (i := 3) X (by decide +kernel) ?_
    refine so_cav (pc := 34) (y := 24) (na := 5) (index := 34) (maxL := 5) (nm := yX2_carryOut) (bytes := cX2_carryOut) (ret := none) (ci := 2) (N := 3) (T := TX2) X hxo (fun _ _ _ _ h => h.1) hC lw_good (Nat.le_refl _) (mm_lo d) rfl (by decide) tw_120 tw_121 tw_122 rfl (by decide) tw_123 tw_124 (by decide +kernel) (by decide +kernel) ?_
    refine so_iinc (pc := 37) (i := 4) (n := 1) (y := 1) X (by decide +kernel) (by decide) (by decide) ?_
    exact so_goto (pc := 40) (off := (-32)) (tgt := 8) X (by decide +kernel) (by decide) (hJ 1)
  | 2 =>
    refine so_aload_n (pc := 43) (i := 0) X (by decide +kernel) ?_
    refine so_geti (pc := 44) (index := 19) (ci := 2) (f := 2) (N := 3) (C := RX2) (T := TX2) X rfl uX2 (by decide) (by decide) tw_116 rfl (by decide) (by decide +kernel) ?_
    refine so_iconst (pc := 47) (n := 1) (v := 1) X (by decide +kernel) (by decide) ?_
    refine so_icmp_lt (pc := 48) (off := 12) (tgt := 60) X (by decide +kernel) (by decide) (hJ 3) ?_
    refine so_aload_n (pc := 51) (i := 0) X (by decide +kernel) ?_
    refine so_getr (pc := 52) (index := 15) (ci := 2) (f := 1) (N := 3) (C := RX2) (T := TX2) X rfl uX2 (by decide) (by decide) tw_115 rfl (by decide +kernel) ?_
    refine so_iconst (pc := 55) (n := 0) (v := 0) X (by decide +kernel) (by decide) ?_
    refine so_zald (pc := 56) X (by decide +kernel) ?_
    refine so_if_eq (pc := 57) (off := 5) (tgt := 62) X (by decide +kernel) (by decide) (hJ 4) ?_
    exact so_fall X (hJ 3)
  | 3 =>
    refine so_iconst (pc := 60) (n := 2) (v := 2) X (by decide +kernel) (by decide) ?_
    exact so_ret (pc := 61) X hlk hfree hr (by decide +kernel)
  | 4 =>
    refine so_aload_n (pc := 62) (i := 0) X (by decide +kernel) ?_
    refine so_getr (pc := 63) (index := 9) (ci := 2) (f := 0) (N := 3) (C := RX2) (T := TX2) X rfl uX2 (by decide) (by decide) tw_113 rfl (by decide +kernel) ?_
    refine so_iconst (pc := 66) (n := 0) (v := 0) X (by decide +kernel) (by decide) ?_
    refine so_lald (pc := 67) X (by decide +kernel) ?_
    refine so_lconst (pc := 68) (n := 0) (v := 0) X (by decide +kernel) (by decide) ?_
    refine so_lcmp (pc := 69) X (by decide +kernel) ?_
    refine so_if_eq (pc := 70) (off := 7) (tgt := 77) X (by decide +kernel) (by decide) (hJ 5) ?_
    refine so_iconst (pc := 73) (n := 1) (v := 1) X (by decide +kernel) (by decide) ?_
    exact so_goto (pc := 74) (off := 4) (tgt := 78) X (by decide +kernel) (by decide) (hJ 6)
  | 5 =>
    refine so_iconst (pc := 77) (n := 0) (v := 0) X (by decide +kernel) (by decide) ?_
    exact so_fall X (hJ 6)
  | 6 =>
    exact so_ret (pc := 78) X hlk hfree hr (by decide +kernel)
  | n + 7 => exact fun _ _ _ _ h => h.elim
theorem bs_X2_truth {l : Launch} {D : va_G} {EXT : (Nat → Nat) → (Nat → Prop) → State → Heap → Prop} (hxo : mm_xo EXT) (hxe : ∀ ad A U H, EXT ad A U H → px_E0 ad A U H) : mm_BS l D pcl lw_T EXT px_tab 23 pb_X2_truth pp_X2_truth := by
  intro d C hC p e s m args below meth c A ad0 cA0 μ0 free Q J
  rw [tb_23]
  exact fun X hr hlk hnm hfree hJ => bk_X2_truth hxo hxe hC X hr hlk hnm hfree hJ
set_option maxHeartbeats 4000000 in
set_option maxRecDepth 100000 in
theorem bk_X2_carryOut {l : Launch} {D : va_G} {EXT : (Nat → Nat) → (Nat → Prop) → State → Heap → Prop} (hxo : mm_xo EXT) (hxe : ∀ ad A U H, EXT ad A U H → px_E0 ad A U H) {d : Nat} {C : mm_C} (hC : mm_CS l D pcl lw_T EXT px_tab d C) {p : Program} {e : Env} {s : State} {m : MethodId} {args : Array Value} {below : List Frame} {meth : Method} {c : Code} {A : Nat → Prop} {ad0 : Nat → Nat} {cA0 : Nat → ClassId} {μ0 : mm_M} {free : Addr → Prop} {Q : mm_Q} {J : mm_J} (X : mm_cx p (mm_rm (d + 1) 0 0) s m args c cX2_carryOut RX2 lw_T A D pcl 5) (hr : meth.sig.returnType = none) (hlk : meth.locks = false) (hnm : meth.name = "carryOut") (hfree : ∀ q, A q → free q) (hJ : ∀ t, mm_SK p l e (mm_rm (d + 1) 0 0) s m args below meth c (MQ below (mm_Qc D pcl Q ad0 cA0 μ0 0 A) args s 0 0 free) D pcl A 5 (mm_EX EXT A s ad0 cA0 (mm_n μ0)) (pp_X2_carryOut t) (J t)) : ∀ t, mm_SK p l e (mm_rm (d + 1) 0 0) s m args below meth c (MQ below (mm_Qc D pcl Q ad0 cA0 μ0 0 A) args s 0 0 free) D pcl A 5 (mm_EX EXT A s ad0 cA0 (mm_n μ0)) (pp_X2_carryOut t) (pb_X2_carryOut J C Q t) := by
  intro t
  match t with
  | 0 =>
    refine so_iload_n (pc := 0) (i := 1) X (by decide +kernel) ?_
    exact so_tsw (tts := []) (pc := 1) (len := 83) (dflt := 130) (lo := 2) (hi := 18) (offs := #[83, 92, 106, 114, 130, 130, 130, 130, 122, 130, 130, 130, 130, 130, 130, 130, 122]) (dt := 131) X (by decide +kernel) (by decide) (by decide) (hJ 6) (fun i t h => match i, t, h with | 0, _, h => by cases h; exact ⟨83, 84, rfl, by decide, hJ 1⟩ | 1, _, h => by cases h; exact ⟨92, 93, rfl, by decide, hJ 2⟩ | 2, _, h => by cases h; exact ⟨106, 107, rfl, by decide, hJ 3⟩ | 3, _, h => by cases h; exact ⟨114, 115, rfl, by decide, hJ 4⟩ | 4, _, h => by cases h; exact ⟨130, 131, rfl, by decide, hJ 6⟩ | 5, _, h => by cases h; exact ⟨130, 131, rfl, by decide, hJ 6⟩ | 6, _, h => by cases h; exact ⟨130, 131, rfl, by decide, hJ 6⟩ | 7, _, h => by cases h; exact ⟨130, 131, rfl, by decide, hJ 6⟩ | 8, _, h => by cases h; exact ⟨122, 123, rfl, by decide, hJ 5⟩ | 9, _, h => by cases h; exact ⟨130, 131, rfl, by decide, hJ 6⟩ | 10, _, h => by cases h; exact ⟨130, 131, rfl, by decide, hJ 6⟩ | 11, _, h => by cases h; exact ⟨130, 131, rfl, by decide, hJ 6⟩ | 12, _, h => by cases h; exact ⟨130, 131, rfl, by decide, hJ 6⟩ | 13, _, h => by cases h; exact ⟨130, 131, rfl, by decide, hJ 6⟩ | 14, _, h => by cases h; exact ⟨130, 131, rfl, by decide, hJ 6⟩ | 15, _, h => by cases h; exact ⟨130, 131, rfl, by decide, hJ 6⟩ | 16, _, h => by cases h; exact ⟨122, 123, rfl, by decide, hJ 5⟩ | n + 17, _, h => by simp at h)
  | 1 =>
    refine so_aload_n (pc := 84) (i := 0) X (by decide +kernel) ?_
    refine so_iload_n (pc := 85) (i := 2) X (by decide +kernel) ?_
    refine so_i2l (pc := 86) X (by decide +kernel) ?_
    refine so_cav (pc := 87) (y := 25) (na := 2) (index := 38) (maxL := 3) (nm := yX2_push) (bytes := cX2_push) (ret := none) (ci := 2) (N := 3) (T := TX2) X hxo (fun _ _ _ _ h => h.1) hC lw_good (Nat.le_refl _) (mm_lo d) rfl (by decide) tw_125 tw_126 tw_122 rfl (by decide) tw_127 tw_128 (by decide +kernel) (by decide +kernel) ?_
    exact so_goto (pc := 90) (off := 46) (tgt := 136) X (by decide +kernel) (by decide) (hJ 7)
  | 2 =>
    refine so_aload_n (pc := 93) (i := 0) X (by decide +kernel) ?_
    refine so_aload_n (pc := 94) (i := 3) X (by decide +kernel) ?_
    refine so_iload (pc := 95) (i := 4) X (by decide +kernel) ?_
    refine so_iload_n (pc := 97) (i := 2) X (by decide +kernel) ?_
    refine so_iadd (pc := 98) X (by decide +kernel) ?_
    refine so_iald (pc := 99) X (by decide +kernel) ?_
    refine so_i2l (pc := 100) X (by decide +kernel) ?_
    refine so_cav (pc := 101) (y := 25) (na := 2) (index := 38) (maxL := 3) (nm := yX2_push) (bytes := cX2_push) (ret := none) (ci := 2) (N := 3) (T := TX2) X hxo (fun _ _ _ _ h => h.1) hC lw_good (Nat.le_refl _) (mm_lo d) rfl (by decide) tw_125 tw_126 tw_122 rfl (by decide) tw_127 tw_128 (by decide +kernel) (by decide +kernel) ?_
    exact so_goto (pc := 104) (off := 32) (tgt := 136) X (by decide +kernel) (by decide) (hJ 7)
  | 3 =>
    refine so_aload_n (pc := 107) (i := 0) X (by decide +kernel) ?_
    refine so_lconst (pc := 108) (n := 1) (v := 1) X (by decide +kernel) (by decide) ?_
    refine so_cav (pc := 109) (y := 25) (na := 2) (index := 38) (maxL := 3) (nm := yX2_push) (bytes := cX2_push) (ret := none) (ci := 2) (N := 3) (T := TX2) X hxo (fun _ _ _ _ h => h.1) hC lw_good (Nat.le_refl _) (mm_lo d) rfl (by decide) tw_125 tw_126 tw_122 rfl (by decide) tw_127 tw_128 (by decide +kernel) (by decide +kernel) ?_
    exact so_goto (pc := 112) (off := 24) (tgt := 136) X (by decide +kernel) (by decide) (hJ 7)
  | 4 =>
    refine so_aload_n (pc := 115) (i := 0) X (by decide +kernel) ?_
    refine so_lconst (pc := 116) (n := 0) (v := 0) X (by decide +kernel) (by decide) ?_
    refine so_cav (pc := 117) (y := 25) (na := 2) (index := 38) (maxL := 3) (nm := yX2_push) (bytes := cX2_push) (ret := none) (ci := 2) (N := 3) (T := TX2) X hxo (fun _ _ _ _ h => h.1) hC lw_good (Nat.le_refl _) (mm_lo d) rfl (by decide) tw_125 tw_126 tw_122 rfl (by decide) tw_127 tw_128 (by decide +kernel) (by decide +kernel) ?_
    exact so_goto (pc := 120) (off := 16) (tgt := 136) X (by decide +kernel) (by decide) (hJ 7)
  | 5 =>
    refine so_aload_n (pc := 123) (i := 0) X (by decide +kernel) ?_
    refine so_iload_n (pc := 124) (i := 1) X (by decide +kernel) ?_
    refine so_cav (pc := 125) (y := 26) (na := 2) (index := 42) (maxL := 4) (nm := yX2_turn) (bytes := cX2_turn) (ret := none) (ci := 2) (N := 3) (T := TX2) X hxo (fun _ _ _ _ h => h.1) hC lw_good (Nat.le_refl _) (mm_lo d) rfl (by decide) tw_129 tw_130 tw_122 rfl (by decide) tw_131 tw_132 (by decide +kernel) (by decide +kernel) ?_
    exact so_goto (pc := 128) (off := 8) (tgt := 136) X (by decide +kernel) (by decide) (hJ 7)
  | 6 =>
    refine so_aload_n (pc := 131) (i := 0) X (by decide +kernel) ?_
    refine so_iload_n (pc := 132) (i := 1) X (by decide +kernel) ?_
    refine so_cav (pc := 133) (y := 27) (na := 2) (index := 46) (maxL := 5) (nm := yX2_join) (bytes := cX2_join) (ret := none) (ci := 2) (N := 3) (T := TX2) X hxo (fun _ _ _ _ h => h.1) hC lw_good (Nat.le_refl _) (mm_lo d) rfl (by decide) tw_133 tw_134 tw_122 rfl (by decide) tw_135 tw_136 (by decide +kernel) (by decide +kernel) ?_
    exact so_fall X (hJ 7)
  | 7 =>
    exact so_rtv (pc := 136) X hlk hfree hr (by decide +kernel)
  | n + 8 => exact fun _ _ _ _ h => h.elim
theorem bs_X2_carryOut {l : Launch} {D : va_G} {EXT : (Nat → Nat) → (Nat → Prop) → State → Heap → Prop} (hxo : mm_xo EXT) (hxe : ∀ ad A U H, EXT ad A U H → px_E0 ad A U H) : mm_BS l D pcl lw_T EXT px_tab 24 pb_X2_carryOut pp_X2_carryOut := by
  intro d C hC p e s m args below meth c A ad0 cA0 μ0 free Q J
  rw [tb_24]
  exact fun X hr hlk hnm hfree hJ => bk_X2_carryOut hxo hxe hC X hr hlk hnm hfree hJ
set_option maxHeartbeats 4000000 in
set_option maxRecDepth 100000 in
theorem bk_X2_push {l : Launch} {D : va_G} {EXT : (Nat → Nat) → (Nat → Prop) → State → Heap → Prop} (hxo : mm_xo EXT) (hxe : ∀ ad A U H, EXT ad A U H → px_E0 ad A U H) {d : Nat} {C : mm_C} (hC : mm_CS l D pcl lw_T EXT px_tab d C) {p : Program} {e : Env} {s : State} {m : MethodId} {args : Array Value} {below : List Frame} {meth : Method} {c : Code} {A : Nat → Prop} {ad0 : Nat → Nat} {cA0 : Nat → ClassId} {μ0 : mm_M} {free : Addr → Prop} {Q : mm_Q} {J : mm_J} (X : mm_cx p (mm_rm (d + 1) 0 0) s m args c cX2_push RX2 lw_T A D pcl 3) (hr : meth.sig.returnType = none) (hlk : meth.locks = false) (hnm : meth.name = "push") (hfree : ∀ q, A q → free q) (hJ : ∀ t, mm_SK p l e (mm_rm (d + 1) 0 0) s m args below meth c (MQ below (mm_Qc D pcl Q ad0 cA0 μ0 0 A) args s 0 0 free) D pcl A 3 (mm_EX EXT A s ad0 cA0 (mm_n μ0)) (pp_X2_push t) (J t)) : ∀ t, mm_SK p l e (mm_rm (d + 1) 0 0) s m args below meth c (MQ below (mm_Qc D pcl Q ad0 cA0 μ0 0 A) args s 0 0 free) D pcl A 3 (mm_EX EXT A s ad0 cA0 (mm_n μ0)) (pp_X2_push t) (pb_X2_push J C Q t) := by
  intro t
  match t with
  | 0 =>
    refine so_aload_n (pc := 0) (i := 0) X (by decide +kernel) ?_
    refine so_geti (pc := 1) (index := 19) (ci := 2) (f := 2) (N := 3) (C := RX2) (T := TX2) X rfl uX2 (by decide) (by decide) tw_116 rfl (by decide) (by decide +kernel) ?_
    refine so_bipush (pc := 4) (n := 60) (v := 60) X (by decide +kernel) (by decide) ?_
    refine so_icmp_ge (pc := 6) (off := 33) (tgt := 39) X (by decide +kernel) (by decide) (hJ 1) ?_
    refine so_aload_n (pc := 9) (i := 0) X (by decide +kernel) ?_
    refine so_getr (pc := 10) (index := 9) (ci := 2) (f := 0) (N := 3) (C := RX2) (T := TX2) X rfl uX2 (by decide) (by decide) tw_113 rfl (by decide +kernel) ?_
    refine so_aload_n (pc := 13) (i := 0) X (by decide +kernel) ?_
    refine so_geti (pc := 14) (index := 19) (ci := 2) (f := 2) (N := 3) (C := RX2) (T := TX2) X rfl uX2 (by decide) (by decide) tw_116 rfl (by decide) (by decide +kernel) ?_
    refine so_lload_n (pc := 17) (i := 1) X (by decide +kernel) ?_
    refine so_last (pc := 18) X (by decide +kernel) ?_
    refine so_aload_n (pc := 19) (i := 0) X (by decide +kernel) ?_
    refine so_getr (pc := 20) (index := 15) (ci := 2) (f := 1) (N := 3) (C := RX2) (T := TX2) X rfl uX2 (by decide) (by decide) tw_115 rfl (by decide +kernel) ?_
    refine so_aload_n (pc := 23) (i := 0) X (by decide +kernel) ?_
    refine so_geti (pc := 24) (index := 19) (ci := 2) (f := 2) (N := 3) (C := RX2) (T := TX2) X rfl uX2 (by decide) (by decide) tw_116 rfl (by decide) (by decide +kernel) ?_
    refine so_iconst (pc := 27) (n := 0) (v := 0) X (by decide +kernel) (by decide) ?_
    refine so_zast (pc := 28) X (by decide +kernel) ?_
    refine so_aload_n (pc := 29) (i := 0) X (by decide +kernel) ?_
    refine so_dup (pc := 30) X (by decide +kernel) ?_
    refine so_geti (pc := 31) (index := 19) (ci := 2) (f := 2) (N := 3) (C := RX2) (T := TX2) X rfl uX2 (by decide) (by decide) tw_116 rfl (by decide) (by decide +kernel) ?_
    refine so_iconst (pc := 34) (n := 1) (v := 1) X (by decide +kernel) (by decide) ?_
    refine so_iadd (pc := 35) X (by decide +kernel) ?_
    refine so_puti (pc := 36) (index := 19) (ci := 2) (f := 2) (N := 3) (C := RX2) (T := TX2) X rfl uX2 (by decide) (by decide) tw_116 tyX2 tyX2_ok nmX2 rfl (by decide +kernel) rfl (by decide +kernel) ?_
    exact so_fall X (hJ 1)
  | 1 =>
    exact so_rtv (pc := 39) X hlk hfree hr (by decide +kernel)
  | n + 2 => exact fun _ _ _ _ h => h.elim
theorem bs_X2_push {l : Launch} {D : va_G} {EXT : (Nat → Nat) → (Nat → Prop) → State → Heap → Prop} (hxo : mm_xo EXT) (hxe : ∀ ad A U H, EXT ad A U H → px_E0 ad A U H) : mm_BS l D pcl lw_T EXT px_tab 25 pb_X2_push pp_X2_push := by
  intro d C hC p e s m args below meth c A ad0 cA0 μ0 free Q J
  rw [tb_25]
  exact fun X hr hlk hnm hfree hJ => bk_X2_push hxo hxe hC X hr hlk hnm hfree hJ
set_option maxHeartbeats 4000000 in
set_option maxRecDepth 100000 in
theorem bk_X2_turn {l : Launch} {D : va_G} {EXT : (Nat → Nat) → (Nat → Prop) → State → Heap → Prop} (hxo : mm_xo EXT) (hxe : ∀ ad A U H, EXT ad A U H → px_E0 ad A U H) {d : Nat} {C : mm_C} (hC : mm_CS l D pcl lw_T EXT px_tab d C) {p : Program} {e : Env} {s : State} {m : MethodId} {args : Array Value} {below : List Frame} {meth : Method} {c : Code} {A : Nat → Prop} {ad0 : Nat → Nat} {cA0 : Nat → ClassId} {μ0 : mm_M} {free : Addr → Prop} {Q : mm_Q} {J : mm_J} (X : mm_cx p (mm_rm (d + 1) 0 0) s m args c cX2_turn RX2 lw_T A D pcl 4) (hr : meth.sig.returnType = none) (hlk : meth.locks = false) (hnm : meth.name = "turn") (hfree : ∀ q, A q → free q) (hJ : ∀ t, mm_SK p l e (mm_rm (d + 1) 0 0) s m args below meth c (MQ below (mm_Qc D pcl Q ad0 cA0 μ0 0 A) args s 0 0 free) D pcl A 4 (mm_EX EXT A s ad0 cA0 (mm_n μ0)) (pp_X2_turn t) (J t)) : ∀ t, mm_SK p l e (mm_rm (d + 1) 0 0) s m args below meth c (MQ below (mm_Qc D pcl Q ad0 cA0 μ0 0 A) args s 0 0 free) D pcl A 4 (mm_EX EXT A s ad0 cA0 (mm_n μ0)) (pp_X2_turn t) (pb_X2_turn J C Q t) := by
  intro t
  match t with
  | 0 =>
    refine so_aload_n (pc := 0) (i := 0) X (by decide +kernel) ?_
    refine so_geti (pc := 1) (index := 19) (ci := 2) (f := 2) (N := 3) (C := RX2) (T := TX2) X rfl uX2 (by decide) (by decide) tw_116 rfl (by decide) (by decide +kernel) ?_
    refine so_iconst (pc := 4) (n := 1) (v := 1) X (by decide +kernel) (by decide) ?_
    refine so_icmp_ge (pc := 5) (off := 4) (tgt := 9) X (by decide +kernel) (by decide) (hJ 1) ?_
    exact so_rtv (pc := 8) X hlk hfree hr (by decide +kernel)
  | 1 =>
    refine so_aload_n (pc := 9) (i := 0) X (by decide +kernel) ?_
    refine so_getr (pc := 10) (index := 9) (ci := 2) (f := 0) (N := 3) (C := RX2) (T := TX2) X rfl uX2 (by decide) (by decide) tw_113 rfl (by decide +kernel) ?_
    refine so_aload_n (pc := 13) (i := 0) X (by decide +kernel) ?_
    refine so_geti (pc := 14) (index := 19) (ci := 2) (f := 2) (N := 3) (C := RX2) (T := TX2) X rfl uX2 (by decide) (by decide) tw_116 rfl (by decide) (by decide +kernel) ?_
    refine so_iconst (pc := 17) (n := 1) (v := 1) X (by decide +kernel) (by decide) ?_
    refine so_isub (pc := 18) X (by decide +kernel) ?_
    refine so_lald (pc := 19) X (by decide +kernel) ?_
    refine so_lstore_n (pc := 20) (i := 2) X (by decide +kernel) (by decide) ?_
    refine so_aload_n (pc := 21) (i := 0) X (by decide +kernel) ?_
    refine so_getr (pc := 22) (index := 9) (ci := 2) (f := 0) (N := 3) (C := RX2) (T := TX2) X rfl uX2 (by decide) (by decide) tw_113 rfl (by decide +kernel) ?_
    refine so_aload_n (pc := 25) (i := 0) X (by decide +kernel) ?_
    refine so_geti (pc := 26) (index := 19) (ci := 2) (f := 2) (N := 3) (C := RX2) (T := TX2) X rfl uX2 (by decide) (by decide) tw_116 rfl (by decide) (by decide +kernel) ?_
    refine so_iconst (pc := 29) (n := 1) (v := 1) X (by decide +kernel) (by decide) ?_
    refine so_isub (pc := 30) X (by decide +kernel) ?_
    refine so_iload_n (pc := 31) (i := 1) X (by decide +kernel) ?_
    refine so_bipush (pc := 32) (n := 10) (v := 10) X (by decide +kernel) (by decide) ?_
    refine so_icmp_ne (pc := 34) (off := 9) (tgt := 43) X (by decide +kernel) (by decide) (hJ 2) ?_
    refine so_lconst (pc := 37) (n := 1) (v := 1) X (by decide +kernel) (by decide) ?_
    refine so_lload_n (pc := 38) (i := 2) X (by decide +kernel) ?_
    refine so_lsub (pc := 39) X (by decide +kernel) ?_
    exact so_goto (pc := 40) (off := 5) (tgt := 45) X (by decide +kernel) (by decide) (hJ 3)
  | 2 =>
    refine so_lload_n (pc := 43) (i := 2) X (by decide +kernel) ?_
    refine so_lneg (pc := 44) X (by decide +kernel) ?_
    exact so_fall X (hJ 3)
  | 3 =>
    refine so_last (pc := 45) X (by decide +kernel) ?_
    exact so_rtv (pc := 46) X hlk hfree hr (by decide +kernel)
  | n + 4 => exact fun _ _ _ _ h => h.elim
theorem bs_X2_turn {l : Launch} {D : va_G} {EXT : (Nat → Nat) → (Nat → Prop) → State → Heap → Prop} (hxo : mm_xo EXT) (hxe : ∀ ad A U H, EXT ad A U H → px_E0 ad A U H) : mm_BS l D pcl lw_T EXT px_tab 26 pb_X2_turn pp_X2_turn := by
  intro d C hC p e s m args below meth c A ad0 cA0 μ0 free Q J
  rw [tb_26]
  exact fun X hr hlk hnm hfree hJ => bk_X2_turn hxo hxe hC X hr hlk hnm hfree hJ
set_option maxHeartbeats 4000000 in
set_option maxRecDepth 100000 in
theorem bk_X2_join {l : Launch} {D : va_G} {EXT : (Nat → Nat) → (Nat → Prop) → State → Heap → Prop} (hxo : mm_xo EXT) (hxe : ∀ ad A U H, EXT ad A U H → px_E0 ad A U H) {d : Nat} {C : mm_C} (hC : mm_CS l D pcl lw_T EXT px_tab d C) {p : Program} {e : Env} {s : State} {m : MethodId} {args : Array Value} {below : List Frame} {meth : Method} {c : Code} {A : Nat → Prop} {ad0 : Nat → Nat} {cA0 : Nat → ClassId} {μ0 : mm_M} {free : Addr → Prop} {Q : mm_Q} {J : mm_J} (X : mm_cx p (mm_rm (d + 1) 0 0) s m args c cX2_join RX2 lw_T A D pcl 5) (hr : meth.sig.returnType = none) (hlk : meth.locks = false) (hnm : meth.name = "join") (hfree : ∀ q, A q → free q) (hJ : ∀ t, mm_SK p l e (mm_rm (d + 1) 0 0) s m args below meth c (MQ below (mm_Qc D pcl Q ad0 cA0 μ0 0 A) args s 0 0 free) D pcl A 5 (mm_EX EXT A s ad0 cA0 (mm_n μ0)) (pp_X2_join t) (J t)) : ∀ t, mm_SK p l e (mm_rm (d + 1) 0 0) s m args below meth c (MQ below (mm_Qc D pcl Q ad0 cA0 μ0 0 A) args s 0 0 free) D pcl A 5 (mm_EX EXT A s ad0 cA0 (mm_n μ0)) (pp_X2_join t) (pb_X2_join J C Q t) := by
  intro t
  match t with
  | 0 =>
    refine so_aload_n (pc := 0) (i := 0) X (by decide +kernel) ?_
    refine so_geti (pc := 1) (index := 19) (ci := 2) (f := 2) (N := 3) (C := RX2) (T := TX2) X rfl uX2 (by decide) (by decide) tw_116 rfl (by decide) (by decide +kernel) ?_
    refine so_iconst (pc := 4) (n := 2) (v := 2) X (by decide +kernel) (by decide) ?_
    refine so_icmp_ge (pc := 5) (off := 4) (tgt := 9) X (by decide +kernel) (by decide) (hJ 1) ?_
    exact so_rtv (pc := 8) X hlk hfree hr (by decide +kernel)
  | 1 =>
    refine so_aload_n (pc := 9) (i := 0) X (by decide +kernel) ?_
    refine so_dup (pc := 10) X (by decide +kernel) ?_
    refine so_geti (pc := 11) (index := 19) (ci := 2) (f := 2) (N := 3) (C := RX2) (T := TX2) X rfl uX2 (by decide) (by decide) tw_116 rfl (by decide) (by decide +kernel) ?_
    refine so_iconst (pc := 14) (n := 1) (v := 1) X (by decide +kernel) (by decide) ?_
    refine so_isub (pc := 15) X (by decide +kernel) ?_
    refine so_puti (pc := 16) (index := 19) (ci := 2) (f := 2) (N := 3) (C := RX2) (T := TX2) X rfl uX2 (by decide) (by decide) tw_116 tyX2 tyX2_ok nmX2 rfl (by decide +kernel) rfl (by decide +kernel) ?_
    refine so_iload_n (pc := 19) (i := 1) X (by decide +kernel) ?_
    refine so_bipush (pc := 20) (n := 9) (v := 9) X (by decide +kernel) (by decide) ?_
    refine so_icmp_eq (pc := 22) (off := 9) (tgt := 31) X (by decide +kernel) (by decide) (hJ 2) ?_
    refine so_iload_n (pc := 25) (i := 1) X (by decide +kernel) ?_
    refine so_bipush (pc := 26) (n := 8) (v := 8) X (by decide +kernel) (by decide) ?_
    refine so_icmp_ne (pc := 28) (off := 19) (tgt := 47) X (by decide +kernel) (by decide) (hJ 5) ?_
    exact so_fall X (hJ 2)
  | 2 =>
    refine so_aload_n (pc := 31) (i := 0) X (by decide +kernel) ?_
    refine so_iload_n (pc := 32) (i := 1) X (by decide +kernel) ?_
    refine so_bipush (pc := 33) (n := 8) (v := 8) X (by decide +kernel) (by decide) ?_
    refine so_icmp_ne (pc := 35) (off := 7) (tgt := 42) X (by decide +kernel) (by decide) (hJ 3) ?_
    refine so_iconst (pc := 38) (n := 1) (v := 1) X (by decide +kernel) (by decide) ?_
    exact so_goto (pc := 39) (off := 4) (tgt := 43) X (by decide +kernel) (by decide) (hJ 4)
  | 3 =>
    refine so_iconst (pc := 42) (n := 0) (v := 0) X (by decide +kernel) (by decide) ?_
    exact so_fall X (hJ 4)
  | 4 =>
    refine so_cav (pc := 43) (y := 28) (na := 2) (index := 49) (maxL := 4) (nm := yX2_joinTruths) (bytes := cX2_joinTruths) (ret := none) (ci := 2) (N := 3) (T := TX2) X hxo (fun _ _ _ _ h => h.1) hC lw_good (Nat.le_refl _) (mm_lo d) rfl (by decide) tw_137 tw_138 tw_122 rfl (by decide) tw_139 tw_140 (by decide +kernel) (by decide +kernel) ?_
    exact so_rtv (pc := 46) X hlk hfree hr (by decide +kernel)
  | 5 =>
    refine so_aload_n (pc := 47) (i := 0) X (by decide +kernel) ?_
    refine so_getr (pc := 48) (index := 9) (ci := 2) (f := 0) (N := 3) (C := RX2) (T := TX2) X rfl uX2 (by decide) (by decide) tw_113 rfl (by decide +kernel) ?_
    refine so_aload_n (pc := 51) (i := 0) X (by decide +kernel) ?_
    refine so_geti (pc := 52) (index := 19) (ci := 2) (f := 2) (N := 3) (C := RX2) (T := TX2) X rfl uX2 (by decide) (by decide) tw_116 rfl (by decide) (by decide +kernel) ?_
    refine so_lald (pc := 55) X (by decide +kernel) ?_
    refine so_lstore_n (pc := 56) (i := 2) X (by decide +kernel) (by decide) ?_
    refine so_aload_n (pc := 57) (i := 0) X (by decide +kernel) ?_
    refine so_getr (pc := 58) (index := 15) (ci := 2) (f := 1) (N := 3) (C := RX2) (T := TX2) X rfl uX2 (by decide) (by decide) tw_115 rfl (by decide +kernel) ?_
    refine so_aload_n (pc := 61) (i := 0) X (by decide +kernel) ?_
    refine so_geti (pc := 62) (index := 19) (ci := 2) (f := 2) (N := 3) (C := RX2) (T := TX2) X rfl uX2 (by decide) (by decide) tw_116 rfl (by decide) (by decide +kernel) ?_
    refine so_iconst (pc := 65) (n := 1) (v := 1) X (by decide +kernel) (by decide) ?_
    refine so_isub (pc := 66) X (by decide +kernel) ?_
    refine so_zald (pc := 67) X (by decide +kernel) ?_
    refine so_if_ne (pc := 68) (off := 27) (tgt := 95) X (by decide +kernel) (by decide) (hJ 6) ?_
    refine so_aload_n (pc := 71) (i := 0) X (by decide +kernel) ?_
    refine so_getr (pc := 72) (index := 15) (ci := 2) (f := 1) (N := 3) (C := RX2) (T := TX2) X rfl uX2 (by decide) (by decide) tw_115 rfl (by decide +kernel) ?_
    refine so_aload_n (pc := 75) (i := 0) X (by decide +kernel) ?_
    refine so_geti (pc := 76) (index := 19) (ci := 2) (f := 2) (N := 3) (C := RX2) (T := TX2) X rfl uX2 (by decide) (by decide) tw_116 rfl (by decide) (by decide +kernel) ?_
    refine so_zald (pc := 79) X (by decide +kernel) ?_
    refine so_if_ne (pc := 80) (off := 15) (tgt := 95) X (by decide +kernel) (by decide) (hJ 6) ?_
    refine so_iload_n (pc := 83) (i := 1) X (by decide +kernel) ?_
    refine so_bipush (pc := 84) (n := 17) (v := 17) X (by decide +kernel) (by decide) ?_
    refine so_icmp_ne (pc := 86) (off := 13) (tgt := 99) X (by decide +kernel) (by decide) (hJ 7) ?_
    refine so_lload_n (pc := 89) (i := 2) X (by decide +kernel) ?_
    refine so_lconst (pc := 90) (n := 0) (v := 0) X (by decide +kernel) (by decide) ?_
    refine so_lcmp (pc := 91) X (by decide +kernel) ?_
    refine so_if_ne (pc := 92) (off := 7) (tgt := 99) X (by decide +kernel) (by decide) (hJ 7) ?_
    exact so_fall X (hJ 6)
  | 6 =>
    refine so_iconst (pc := 95) (n := 1) (v := 1) X (by decide +kernel) (by decide) ?_
    exact so_goto (pc := 96) (off := 4) (tgt := 100) X (by decide +kernel) (by decide) (hJ 8)
  | 7 =>
    refine so_iconst (pc := 99) (n := 0) (v := 0) X (by decide +kernel) (by decide) ?_
    exact so_fall X (hJ 8)
  | 8 =>
    refine so_istore (pc := 100) (i := 4) X (by decide +kernel) (by decide) ?_
    refine so_aload_n (pc := 102) (i := 0) X (by decide +kernel) ?_
    refine so_getr (pc := 103) (index := 9) (ci := 2) (f := 0) (N := 3) (C := RX2) (T := TX2) X rfl uX2 (by decide) (by decide) tw_113 rfl (by decide +kernel) ?_
    refine so_aload_n (pc := 106) (i := 0) X (by decide +kernel) ?_
    refine so_geti (pc := 107) (index := 19) (ci := 2) (f := 2) (N := 3) (C := RX2) (T := TX2) X rfl uX2 (by decide) (by decide) tw_116 rfl (by decide) (by decide +kernel) ?_
    refine so_iconst (pc := 110) (n := 1) (v := 1) X (by decide +kernel) (by decide) ?_
    refine so_isub (pc := 111) X (by decide +kernel) ?_
    refine so_iload (pc := 112) (i := 4) X (by decide +kernel) ?_
    refine so_if_eq (pc := 114) (off := 7) (tgt := 121) X (by decide +kernel) (by decide) (hJ 9) ?_
    refine so_lconst (pc := 117) (n := 0) (v := 0) X (by decide +kernel) (by decide) ?_
    exact so_goto (pc := 118) (off := 19) (tgt := 137) X (by decide +kernel) (by decide) (hJ 10)
  | 9 =>
    refine so_iload_n (pc := 121) (i := 1) X (by decide +kernel) ?_
    refine so_aload_n (pc := 122) (i := 0) X (by decide +kernel) ?_
    refine so_getr (pc := 123) (index := 9) (ci := 2) (f := 0) (N := 3) (C := RX2) (T := TX2) X rfl uX2 (by decide) (by decide) tw_113 rfl (by decide +kernel) ?_
    refine so_aload_n (pc := 126) (i := 0) X (by decide +kernel) ?_
    refine so_geti (pc := 127) (index := 19) (ci := 2) (f := 2) (N := 3) (C := RX2) (T := TX2) X rfl uX2 (by decide) (by decide) tw_116 rfl (by decide) (by decide +kernel) ?_
    refine so_iconst (pc := 130) (n := 1) (v := 1) X (by decide +kernel) (by decide) ?_
    refine so_isub (pc := 131) X (by decide +kernel) ?_
    refine so_lald (pc := 132) X (by decide +kernel) ?_
    refine so_lload_n (pc := 133) (i := 2) X (by decide +kernel) ?_
    refine so_cas (pc := 134) (y := 29) (na := 3) (index := 52) (maxL := 5) (nm := yX2_reckon) (bytes := cX2_reckon) (ret := (some .long)) X hxo (fun _ _ _ _ h => h.1) hC lw_good (Nat.le_refl _) (mm_lo d) rfl (by decide) tw_141 tw_142 tw_122 tw_143 (by decide +kernel) (by decide +kernel) ?_
    exact so_fall X (hJ 10)
  | 10 =>
    refine so_last (pc := 137) X (by decide +kernel) ?_
    refine so_aload_n (pc := 138) (i := 0) X (by decide +kernel) ?_
    refine so_getr (pc := 139) (index := 15) (ci := 2) (f := 1) (N := 3) (C := RX2) (T := TX2) X rfl uX2 (by decide) (by decide) tw_115 rfl (by decide +kernel) ?_
    refine so_aload_n (pc := 142) (i := 0) X (by decide +kernel) ?_
    refine so_geti (pc := 143) (index := 19) (ci := 2) (f := 2) (N := 3) (C := RX2) (T := TX2) X rfl uX2 (by decide) (by decide) tw_116 rfl (by decide) (by decide +kernel) ?_
    refine so_iconst (pc := 146) (n := 1) (v := 1) X (by decide +kernel) (by decide) ?_
    refine so_isub (pc := 147) X (by decide +kernel) ?_
    refine so_iload (pc := 148) (i := 4) X (by decide +kernel) ?_
    refine so_zast (pc := 150) X (by decide +kernel) ?_
    exact so_rtv (pc := 151) X hlk hfree hr (by decide +kernel)
  | n + 11 => exact fun _ _ _ _ h => h.elim
theorem bs_X2_join {l : Launch} {D : va_G} {EXT : (Nat → Nat) → (Nat → Prop) → State → Heap → Prop} (hxo : mm_xo EXT) (hxe : ∀ ad A U H, EXT ad A U H → px_E0 ad A U H) : mm_BS l D pcl lw_T EXT px_tab 27 pb_X2_join pp_X2_join := by
  intro d C hC p e s m args below meth c A ad0 cA0 μ0 free Q J
  rw [tb_27]
  exact fun X hr hlk hnm hfree hJ => bk_X2_join hxo hxe hC X hr hlk hnm hfree hJ
set_option maxHeartbeats 4000000 in
set_option maxRecDepth 100000 in
theorem bk_X2_joinTruths {l : Launch} {D : va_G} {EXT : (Nat → Nat) → (Nat → Prop) → State → Heap → Prop} (hxo : mm_xo EXT) (hxe : ∀ ad A U H, EXT ad A U H → px_E0 ad A U H) {d : Nat} {C : mm_C} (hC : mm_CS l D pcl lw_T EXT px_tab d C) {p : Program} {e : Env} {s : State} {m : MethodId} {args : Array Value} {below : List Frame} {meth : Method} {c : Code} {A : Nat → Prop} {ad0 : Nat → Nat} {cA0 : Nat → ClassId} {μ0 : mm_M} {free : Addr → Prop} {Q : mm_Q} {J : mm_J} (X : mm_cx p (mm_rm (d + 1) 0 0) s m args c cX2_joinTruths RX2 lw_T A D pcl 4) (hr : meth.sig.returnType = none) (hlk : meth.locks = false) (hnm : meth.name = "joinTruths") (hfree : ∀ q, A q → free q) (hJ : ∀ t, mm_SK p l e (mm_rm (d + 1) 0 0) s m args below meth c (MQ below (mm_Qc D pcl Q ad0 cA0 μ0 0 A) args s 0 0 free) D pcl A 4 (mm_EX EXT A s ad0 cA0 (mm_n μ0)) (pp_X2_joinTruths t) (J t)) : ∀ t, mm_SK p l e (mm_rm (d + 1) 0 0) s m args below meth c (MQ below (mm_Qc D pcl Q ad0 cA0 μ0 0 A) args s 0 0 free) D pcl A 4 (mm_EX EXT A s ad0 cA0 (mm_n μ0)) (pp_X2_joinTruths t) (pb_X2_joinTruths J C Q t) := by
  intro t
  match t with
  | 0 =>
    refine so_aload_n (pc := 0) (i := 0) X (by decide +kernel) ?_
    refine so_geti (pc := 1) (index := 19) (ci := 2) (f := 2) (N := 3) (C := RX2) (T := TX2) X rfl uX2 (by decide) (by decide) tw_116 rfl (by decide) (by decide +kernel) ?_
    refine so_iconst (pc := 4) (n := 1) (v := 1) X (by decide +kernel) (by decide) ?_
    refine so_isub (pc := 5) X (by decide +kernel) ?_
    refine so_istore_n (pc := 6) (i := 2) X (by decide +kernel) (by decide) ?_
    refine so_aload_n (pc := 7) (i := 0) X (by decide +kernel) ?_
    refine so_getr (pc := 8) (index := 15) (ci := 2) (f := 1) (N := 3) (C := RX2) (T := TX2) X rfl uX2 (by decide) (by decide) tw_115 rfl (by decide +kernel) ?_
    refine so_iload_n (pc := 11) (i := 2) X (by decide +kernel) ?_
    refine so_zald (pc := 12) X (by decide +kernel) ?_
    refine so_if_ne (pc := 13) (off := 15) (tgt := 28) X (by decide +kernel) (by decide) (hJ 1) ?_
    refine so_aload_n (pc := 16) (i := 0) X (by decide +kernel) ?_
    refine so_getr (pc := 17) (index := 9) (ci := 2) (f := 0) (N := 3) (C := RX2) (T := TX2) X rfl uX2 (by decide) (by decide) tw_113 rfl (by decide +kernel) ?_
    refine so_iload_n (pc := 20) (i := 2) X (by decide +kernel) ?_
    refine so_lald (pc := 21) X (by decide +kernel) ?_
    refine so_iload_n (pc := 22) (i := 1) X (by decide +kernel) ?_
    refine so_i2l (pc := 23) X (by decide +kernel) ?_
    refine so_lcmp (pc := 24) X (by decide +kernel) ?_
    refine so_if_eq (pc := 25) (off := 30) (tgt := 55) X (by decide +kernel) (by decide) (hJ 2) ?_
    exact so_fall X (hJ 1)
  | 1 =>
    refine so_aload_n (pc := 28) (i := 0) X (by decide +kernel) ?_
    refine so_getr (pc := 29) (index := 15) (ci := 2) (f := 1) (N := 3) (C := RX2) (T := TX2) X rfl uX2 (by decide) (by decide) tw_115 rfl (by decide +kernel) ?_
    refine so_aload_n (pc := 32) (i := 0) X (by decide +kernel) ?_
    refine so_geti (pc := 33) (index := 19) (ci := 2) (f := 2) (N := 3) (C := RX2) (T := TX2) X rfl uX2 (by decide) (by decide) tw_116 rfl (by decide) (by decide +kernel) ?_
    refine so_zald (pc := 36) X (by decide +kernel) ?_
    refine so_if_ne (pc := 37) (off := 22) (tgt := 59) X (by decide +kernel) (by decide) (hJ 3) ?_
    refine so_aload_n (pc := 40) (i := 0) X (by decide +kernel) ?_
    refine so_getr (pc := 41) (index := 9) (ci := 2) (f := 0) (N := 3) (C := RX2) (T := TX2) X rfl uX2 (by decide) (by decide) tw_113 rfl (by decide +kernel) ?_
    refine so_aload_n (pc := 44) (i := 0) X (by decide +kernel) ?_
    refine so_geti (pc := 45) (index := 19) (ci := 2) (f := 2) (N := 3) (C := RX2) (T := TX2) X rfl uX2 (by decide) (by decide) tw_116 rfl (by decide) (by decide +kernel) ?_
    refine so_lald (pc := 48) X (by decide +kernel) ?_
    refine so_iload_n (pc := 49) (i := 1) X (by decide +kernel) ?_
    refine so_i2l (pc := 50) X (by decide +kernel) ?_
    refine so_lcmp (pc := 51) X (by decide +kernel) ?_
    refine so_if_ne (pc := 52) (off := 7) (tgt := 59) X (by decide +kernel) (by decide) (hJ 3) ?_
    exact so_fall X (hJ 2)
  | 2 =>
    refine so_iconst (pc := 55) (n := 1) (v := 1) X (by decide +kernel) (by decide) ?_
    exact so_goto (pc := 56) (off := 4) (tgt := 60) X (by decide +kernel) (by decide) (hJ 4)
  | 3 =>
    refine so_iconst (pc := 59) (n := 0) (v := 0) X (by decide +kernel) (by decide) ?_
    exact so_fall X (hJ 4)
  | 4 =>
    refine so_istore_n (pc := 60) (i := 3) X (by decide +kernel) (by decide) ?_
    refine so_aload_n (pc := 61) (i := 0) X (by decide +kernel) ?_
    refine so_getr (pc := 62) (index := 15) (ci := 2) (f := 1) (N := 3) (C := RX2) (T := TX2) X rfl uX2 (by decide) (by decide) tw_115 rfl (by decide +kernel) ?_
    refine so_iload_n (pc := 65) (i := 2) X (by decide +kernel) ?_
    refine so_iload_n (pc := 66) (i := 3) X (by decide +kernel) ?_
    refine so_if_ne (pc := 67) (off := 28) (tgt := 95) X (by decide +kernel) (by decide) (hJ 6) ?_
    refine so_aload_n (pc := 70) (i := 0) X (by decide +kernel) ?_
    refine so_getr (pc := 71) (index := 15) (ci := 2) (f := 1) (N := 3) (C := RX2) (T := TX2) X rfl uX2 (by decide) (by decide) tw_115 rfl (by decide +kernel) ?_
    refine so_iload_n (pc := 74) (i := 2) X (by decide +kernel) ?_
    refine so_zald (pc := 75) X (by decide +kernel) ?_
    refine so_if_ne (pc := 76) (off := 15) (tgt := 91) X (by decide +kernel) (by decide) (hJ 5) ?_
    refine so_aload_n (pc := 79) (i := 0) X (by decide +kernel) ?_
    refine so_getr (pc := 80) (index := 15) (ci := 2) (f := 1) (N := 3) (C := RX2) (T := TX2) X rfl uX2 (by decide) (by decide) tw_115 rfl (by decide +kernel) ?_
    refine so_aload_n (pc := 83) (i := 0) X (by decide +kernel) ?_
    refine so_geti (pc := 84) (index := 19) (ci := 2) (f := 2) (N := 3) (C := RX2) (T := TX2) X rfl uX2 (by decide) (by decide) tw_116 rfl (by decide) (by decide +kernel) ?_
    refine so_zald (pc := 87) X (by decide +kernel) ?_
    refine so_if_eq (pc := 88) (off := 7) (tgt := 95) X (by decide +kernel) (by decide) (hJ 6) ?_
    exact so_fall X (hJ 5)
  | 5 =>
    refine so_iconst (pc := 91) (n := 1) (v := 1) X (by decide +kernel) (by decide) ?_
    exact so_goto (pc := 92) (off := 4) (tgt := 96) X (by decide +kernel) (by decide) (hJ 7)
  | 6 =>
    refine so_iconst (pc := 95) (n := 0) (v := 0) X (by decide +kernel) (by decide) ?_
    exact so_fall X (hJ 7)
  | 7 =>
    refine so_zast (pc := 96) X (by decide +kernel) ?_
    refine so_aload_n (pc := 97) (i := 0) X (by decide +kernel) ?_
    refine so_getr (pc := 98) (index := 9) (ci := 2) (f := 0) (N := 3) (C := RX2) (T := TX2) X rfl uX2 (by decide) (by decide) tw_113 rfl (by decide +kernel) ?_
    refine so_iload_n (pc := 101) (i := 2) X (by decide +kernel) ?_
    refine so_iload_n (pc := 102) (i := 3) X (by decide +kernel) ?_
    refine so_if_eq (pc := 103) (off := 8) (tgt := 111) X (by decide +kernel) (by decide) (hJ 8) ?_
    refine so_iload_n (pc := 106) (i := 1) X (by decide +kernel) ?_
    refine so_i2l (pc := 107) X (by decide +kernel) ?_
    exact so_goto (pc := 108) (off := 7) (tgt := 115) X (by decide +kernel) (by decide) (hJ 9)
  | 8 =>
    refine so_iconst (pc := 111) (n := 1) (v := 1) X (by decide +kernel) (by decide) ?_
    refine so_iload_n (pc := 112) (i := 1) X (by decide +kernel) ?_
    refine so_isub (pc := 113) X (by decide +kernel) ?_
    refine so_i2l (pc := 114) X (by decide +kernel) ?_
    exact so_fall X (hJ 9)
  | 9 =>
    refine so_last (pc := 115) X (by decide +kernel) ?_
    exact so_rtv (pc := 116) X hlk hfree hr (by decide +kernel)
  | n + 10 => exact fun _ _ _ _ h => h.elim
theorem bs_X2_joinTruths {l : Launch} {D : va_G} {EXT : (Nat → Nat) → (Nat → Prop) → State → Heap → Prop} (hxo : mm_xo EXT) (hxe : ∀ ad A U H, EXT ad A U H → px_E0 ad A U H) : mm_BS l D pcl lw_T EXT px_tab 28 pb_X2_joinTruths pp_X2_joinTruths := by
  intro d C hC p e s m args below meth c A ad0 cA0 μ0 free Q J
  rw [tb_28]
  exact fun X hr hlk hnm hfree hJ => bk_X2_joinTruths hxo hxe hC X hr hlk hnm hfree hJ
set_option maxHeartbeats 4000000 in
set_option maxRecDepth 100000 in
theorem bk_X2_reckon {l : Launch} {D : va_G} {EXT : (Nat → Nat) → (Nat → Prop) → State → Heap → Prop} (hxo : mm_xo EXT) (hxe : ∀ ad A U H, EXT ad A U H → px_E0 ad A U H) {d : Nat} {C : mm_C} (hC : mm_CS l D pcl lw_T EXT px_tab d C) {p : Program} {e : Env} {s : State} {m : MethodId} {args : Array Value} {below : List Frame} {meth : Method} {c : Code} {A : Nat → Prop} {ad0 : Nat → Nat} {cA0 : Nat → ClassId} {μ0 : mm_M} {free : Addr → Prop} {Q : mm_Q} {J : mm_J} (X : mm_cx p (mm_rm (d + 1) 0 0) s m args c cX2_reckon RX2 lw_T A D pcl 5) (hr : meth.sig.returnType = some .long) (hlk : meth.locks = false) (hnm : meth.name = "reckon") (hfree : ∀ q, A q → free q) (hJ : ∀ t, mm_SK p l e (mm_rm (d + 1) 0 0) s m args below meth c (MQ below (mm_Qc D pcl Q ad0 cA0 μ0 0 A) args s 0 0 free) D pcl A 5 (mm_EX EXT A s ad0 cA0 (mm_n μ0)) (pp_X2_reckon t) (J t)) : ∀ t, mm_SK p l e (mm_rm (d + 1) 0 0) s m args below meth c (MQ below (mm_Qc D pcl Q ad0 cA0 μ0 0 A) args s 0 0 free) D pcl A 5 (mm_EX EXT A s ad0 cA0 (mm_n μ0)) (pp_X2_reckon t) (pb_X2_reckon J C Q t) := by
  intro t
  match t with
  | 0 =>
    refine so_iload_n (pc := 0) (i := 0) X (by decide +kernel) ?_
    exact so_tsw (tts := []) (pc := 1) (len := 43) (dflt := 93) (lo := 11) (hi := 17) (offs := #[69, 81, 93, 43, 47, 51, 55]) (dt := 94) X (by decide +kernel) (by decide) (by decide) (hJ 13) (fun i t h => match i, t, h with | 0, _, h => by cases h; exact ⟨69, 70, rfl, by decide, hJ 7⟩ | 1, _, h => by cases h; exact ⟨81, 82, rfl, by decide, hJ 10⟩ | 2, _, h => by cases h; exact ⟨93, 94, rfl, by decide, hJ 13⟩ | 3, _, h => by cases h; exact ⟨43, 44, rfl, by decide, hJ 1⟩ | 4, _, h => by cases h; exact ⟨47, 48, rfl, by decide, hJ 2⟩ | 5, _, h => by cases h; exact ⟨51, 52, rfl, by decide, hJ 3⟩ | 6, _, h => by cases h; exact ⟨55, 56, rfl, by decide, hJ 4⟩ | n + 7, _, h => by simp at h)
  | 1 =>
    refine so_lload_n (pc := 44) (i := 1) X (by decide +kernel) ?_
    refine so_lload_n (pc := 45) (i := 3) X (by decide +kernel) ?_
    refine so_ladd (pc := 46) X (by decide +kernel) ?_
    exact so_rtl (pc := 47) X hlk hfree hr (by decide +kernel)
  | 2 =>
    refine so_lload_n (pc := 48) (i := 1) X (by decide +kernel) ?_
    refine so_lload_n (pc := 49) (i := 3) X (by decide +kernel) ?_
    refine so_lsub (pc := 50) X (by decide +kernel) ?_
    exact so_rtl (pc := 51) X hlk hfree hr (by decide +kernel)
  | 3 =>
    refine so_lload_n (pc := 52) (i := 1) X (by decide +kernel) ?_
    refine so_lload_n (pc := 53) (i := 3) X (by decide +kernel) ?_
    refine so_lmul (pc := 54) X (by decide +kernel) ?_
    exact so_rtl (pc := 55) X hlk hfree hr (by decide +kernel)
  | 4 =>
    refine so_lload_n (pc := 56) (i := 3) X (by decide +kernel) ?_
    refine so_lconst (pc := 57) (n := 0) (v := 0) X (by decide +kernel) (by decide) ?_
    refine so_lcmp (pc := 58) X (by decide +kernel) ?_
    refine so_if_ne (pc := 59) (off := 7) (tgt := 66) X (by decide +kernel) (by decide) (hJ 5) ?_
    refine so_lconst (pc := 62) (n := 0) (v := 0) X (by decide +kernel) (by decide) ?_
    exact so_goto (pc := 63) (off := 6) (tgt := 69) X (by decide +kernel) (by decide) (hJ 6)
  | 5 =>
    refine so_lload_n (pc := 66) (i := 1) X (by decide +kernel) ?_
    refine so_lload_n (pc := 67) (i := 3) X (by decide +kernel) ?_
    refine so_ldiv (pc := 68) X (by decide +kernel) ?_
    exact so_fall X (hJ 6)
  | 6 =>
    exact so_rtl (pc := 69) X hlk hfree hr (by decide +kernel)
  | 7 =>
    refine so_lload_n (pc := 70) (i := 1) X (by decide +kernel) ?_
    refine so_lload_n (pc := 71) (i := 3) X (by decide +kernel) ?_
    refine so_lcmp (pc := 72) X (by decide +kernel) ?_
    refine so_if_ge (pc := 73) (off := 7) (tgt := 80) X (by decide +kernel) (by decide) (hJ 8) ?_
    refine so_lconst (pc := 76) (n := 1) (v := 1) X (by decide +kernel) (by decide) ?_
    exact so_goto (pc := 77) (off := 4) (tgt := 81) X (by decide +kernel) (by decide) (hJ 9)
  | 8 =>
    refine so_lconst (pc := 80) (n := 0) (v := 0) X (by decide +kernel) (by decide) ?_
    exact so_fall X (hJ 9)
  | 9 =>
    exact so_rtl (pc := 81) X hlk hfree hr (by decide +kernel)
  | 10 =>
    refine so_lload_n (pc := 82) (i := 1) X (by decide +kernel) ?_
    refine so_lload_n (pc := 83) (i := 3) X (by decide +kernel) ?_
    refine so_lcmp (pc := 84) X (by decide +kernel) ?_
    refine so_if_ne (pc := 85) (off := 7) (tgt := 92) X (by decide +kernel) (by decide) (hJ 11) ?_
    refine so_lconst (pc := 88) (n := 1) (v := 1) X (by decide +kernel) (by decide) ?_
    exact so_goto (pc := 89) (off := 4) (tgt := 93) X (by decide +kernel) (by decide) (hJ 12)
  | 11 =>
    refine so_lconst (pc := 92) (n := 0) (v := 0) X (by decide +kernel) (by decide) ?_
    exact so_fall X (hJ 12)
  | 12 =>
    exact so_rtl (pc := 93) X hlk hfree hr (by decide +kernel)
  | 13 =>
    refine so_lload_n (pc := 94) (i := 1) X (by decide +kernel) ?_
    refine so_lload_n (pc := 95) (i := 3) X (by decide +kernel) ?_
    refine so_lcmp (pc := 96) X (by decide +kernel) ?_
    refine so_if_le (pc := 97) (off := 7) (tgt := 104) X (by decide +kernel) (by decide) (hJ 14) ?_
    refine so_lconst (pc := 100) (n := 1) (v := 1) X (by decide +kernel) (by decide) ?_
    exact so_goto (pc := 101) (off := 4) (tgt := 105) X (by decide +kernel) (by decide) (hJ 15)
  | 14 =>
    refine so_lconst (pc := 104) (n := 0) (v := 0) X (by decide +kernel) (by decide) ?_
    exact so_fall X (hJ 15)
  | 15 =>
    exact so_rtl (pc := 105) X hlk hfree hr (by decide +kernel)
  | n + 16 => exact fun _ _ _ _ h => h.elim
theorem bs_X2_reckon {l : Launch} {D : va_G} {EXT : (Nat → Nat) → (Nat → Prop) → State → Heap → Prop} (hxo : mm_xo EXT) (hxe : ∀ ad A U H, EXT ad A U H → px_E0 ad A U H) : mm_BS l D pcl lw_T EXT px_tab 29 pb_X2_reckon pp_X2_reckon := by
  intro d C hC p e s m args below meth c A ad0 cA0 μ0 free Q J
  rw [tb_29]
  exact fun X hr hlk hnm hfree hJ => bk_X2_reckon hxo hxe hC X hr hlk hnm hfree hJ
set_option maxHeartbeats 4000000 in
set_option maxRecDepth 100000 in
theorem bk_X3_init {l : Launch} {D : va_G} {EXT : (Nat → Nat) → (Nat → Prop) → State → Heap → Prop} (hxo : mm_xo EXT) (hxe : ∀ ad A U H, EXT ad A U H → px_E0 ad A U H) {d : Nat} {C : mm_C} (hC : mm_CS l D pcl lw_T EXT px_tab d C) {p : Program} {e : Env} {s : State} {m : MethodId} {args : Array Value} {below : List Frame} {meth : Method} {c : Code} {A : Nat → Prop} {ad0 : Nat → Nat} {cA0 : Nat → ClassId} {μ0 : mm_M} {free : Addr → Prop} {Q : mm_Q} {J : mm_J} (X : mm_cx p (mm_rm (d + 1) 1 156) s m args c cX3_init RX3 lw_T A D pcl 1) (hr : meth.sig.returnType = none) (hlk : meth.locks = false) (hnm : meth.name = "<init>") (hfree : ∀ q, A q → free q) (hJ : ∀ t, mm_SK p l e (mm_rm (d + 1) 1 156) s m args below meth c (MQ below (mm_Qc D pcl Q ad0 cA0 μ0 1 A) args s 1 156 free) D pcl A 1 (mm_EX EXT A s ad0 cA0 (mm_n μ0)) (pp_X3_init t) (J t)) : ∀ t, mm_SK p l e (mm_rm (d + 1) 1 156) s m args below meth c (MQ below (mm_Qc D pcl Q ad0 cA0 μ0 1 A) args s 1 156 free) D pcl A 1 (mm_EX EXT A s ad0 cA0 (mm_n μ0)) (pp_X3_init t) (pb_X3_init J C Q t) := by
  intro t
  match t with
  | 0 =>
    refine so_aload_n (pc := 0) (i := 0) X (by decide +kernel) ?_
    refine so_obi (pc := 1) (index := 3) X tw_144 tw_1 tw_2 (mm_fr1 d) (mm_lo20 d) (by decide +kernel) ?_
    refine so_aload_n (pc := 4) (i := 0) X (by decide +kernel) ?_
    refine so_sipush (pc := 5) (n := 156) (v := 156) X (by decide +kernel) (by decide) ?_
    refine so_nalong (pc := 8) (B := (1, 156)) X (mm_EX_cl hxo) ⟨Nat.le_refl _, Nat.le_refl _⟩ tw_112 (by decide +kernel) ?_
    refine so_putr (pc := 10) (index := 9) (ci := 3) (f := 0) (N := 1) (C := RX3) (T := TX3) (ty := tyX3 0) X rfl uX3 (by decide) (by decide) tw_145 tyX3 tyX3_ok nmX3 rfl hnm rfl (tyX3_ok 0 (by decide)) (fun _ => ⟨rfl, rfl⟩) rfl (by decide +kernel) ?_
    exact so_rtv (pc := 13) X hlk hfree hr (by decide +kernel)
  | n + 1 => exact fun _ _ _ _ h => h.elim
theorem bs_X3_init {l : Launch} {D : va_G} {EXT : (Nat → Nat) → (Nat → Prop) → State → Heap → Prop} (hxo : mm_xo EXT) (hxe : ∀ ad A U H, EXT ad A U H → px_E0 ad A U H) : mm_BS l D pcl lw_T EXT px_tab 30 pb_X3_init pp_X3_init := by
  intro d C hC p e s m args below meth c A ad0 cA0 μ0 free Q J
  rw [tb_30]
  exact fun X hr hlk hnm hfree hJ => bk_X3_init hxo hxe hC X hr hlk hnm hfree hJ
set_option maxHeartbeats 4000000 in
set_option maxRecDepth 100000 in
theorem bk_X3_forget {l : Launch} {D : va_G} {EXT : (Nat → Nat) → (Nat → Prop) → State → Heap → Prop} (hxo : mm_xo EXT) (hxe : ∀ ad A U H, EXT ad A U H → px_E0 ad A U H) {d : Nat} {C : mm_C} (hC : mm_CS l D pcl lw_T EXT px_tab d C) {p : Program} {e : Env} {s : State} {m : MethodId} {args : Array Value} {below : List Frame} {meth : Method} {c : Code} {A : Nat → Prop} {ad0 : Nat → Nat} {cA0 : Nat → ClassId} {μ0 : mm_M} {free : Addr → Prop} {Q : mm_Q} {J : mm_J} (X : mm_cx p (mm_rm (d + 1) 0 0) s m args c cX3_forget RX3 lw_T A D pcl 1) (hr : meth.sig.returnType = none) (hlk : meth.locks = false) (hnm : meth.name = "forget") (hfree : ∀ q, A q → free q) (hJ : ∀ t, mm_SK p l e (mm_rm (d + 1) 0 0) s m args below meth c (MQ below (mm_Qc D pcl Q ad0 cA0 μ0 0 A) args s 0 0 free) D pcl A 1 (mm_EX EXT A s ad0 cA0 (mm_n μ0)) (pp_X3_forget t) (J t)) : ∀ t, mm_SK p l e (mm_rm (d + 1) 0 0) s m args below meth c (MQ below (mm_Qc D pcl Q ad0 cA0 μ0 0 A) args s 0 0 free) D pcl A 1 (mm_EX EXT A s ad0 cA0 (mm_n μ0)) (pp_X3_forget t) (pb_X3_forget J C Q t) := by
  intro t
  match t with
  | 0 =>
    refine so_aload_n (pc := 0) (i := 0) X (by decide +kernel) ?_
    refine so_getr (pc := 1) (index := 9) (ci := 3) (f := 0) (N := 1) (C := RX3) (T := TX3) X rfl uX3 (by decide) (by decide) tw_145 rfl (by decide +kernel) ?_
    refine so_lconst (pc := 4) (n := 0) (v := 0) X (by decide +kernel) (by decide) ?_
    refine so_cas (pc := 5) (y := 158) (na := 2) (index := 15) (maxL := 5) (nm := yJ7_fill_d0a16) (bytes := cJ7_fill_d0a16) (ret := none) X hxo (fun _ _ _ _ h => h.1) hC lw_good (Nat.le_refl _) (mm_lo d) rfl (by decide) tw_146 tw_147 tw_148 tw_149 (by decide +kernel) (by decide +kernel) ?_
    exact so_rtv (pc := 8) X hlk hfree hr (by decide +kernel)
  | n + 1 => exact fun _ _ _ _ h => h.elim
theorem bs_X3_forget {l : Launch} {D : va_G} {EXT : (Nat → Nat) → (Nat → Prop) → State → Heap → Prop} (hxo : mm_xo EXT) (hxe : ∀ ad A U H, EXT ad A U H → px_E0 ad A U H) : mm_BS l D pcl lw_T EXT px_tab 31 pb_X3_forget pp_X3_forget := by
  intro d C hC p e s m args below meth c A ad0 cA0 μ0 free Q J
  rw [tb_31]
  exact fun X hr hlk hnm hfree hJ => bk_X3_forget hxo hxe hC X hr hlk hnm hfree hJ
set_option maxHeartbeats 4000000 in
set_option maxRecDepth 100000 in
theorem bk_X3_copyFrom {l : Launch} {D : va_G} {EXT : (Nat → Nat) → (Nat → Prop) → State → Heap → Prop} (hxo : mm_xo EXT) (hxe : ∀ ad A U H, EXT ad A U H → px_E0 ad A U H) {d : Nat} {C : mm_C} (hC : mm_CS l D pcl lw_T EXT px_tab d C) {p : Program} {e : Env} {s : State} {m : MethodId} {args : Array Value} {below : List Frame} {meth : Method} {c : Code} {A : Nat → Prop} {ad0 : Nat → Nat} {cA0 : Nat → ClassId} {μ0 : mm_M} {free : Addr → Prop} {Q : mm_Q} {J : mm_J} (X : mm_cx p (mm_rm (d + 1) 0 0) s m args c cX3_copyFrom RX3 lw_T A D pcl 2) (hr : meth.sig.returnType = none) (hlk : meth.locks = false) (hnm : meth.name = "copyFrom") (hfree : ∀ q, A q → free q) (hJ : ∀ t, mm_SK p l e (mm_rm (d + 1) 0 0) s m args below meth c (MQ below (mm_Qc D pcl Q ad0 cA0 μ0 0 A) args s 0 0 free) D pcl A 2 (mm_EX EXT A s ad0 cA0 (mm_n μ0)) (pp_X3_copyFrom t) (J t)) : ∀ t, mm_SK p l e (mm_rm (d + 1) 0 0) s m args below meth c (MQ below (mm_Qc D pcl Q ad0 cA0 μ0 0 A) args s 0 0 free) D pcl A 2 (mm_EX EXT A s ad0 cA0 (mm_n μ0)) (pp_X3_copyFrom t) (pb_X3_copyFrom J C Q t) := by
  intro t
  match t with
  | 0 =>
    refine so_aload_n (pc := 0) (i := 1) X (by decide +kernel) ?_
    refine so_getr (pc := 1) (index := 9) (ci := 3) (f := 0) (N := 1) (C := RX3) (T := TX3) X rfl uX3 (by decide) (by decide) tw_145 rfl (by decide +kernel) ?_
    refine so_iconst (pc := 4) (n := 0) (v := 0) X (by decide +kernel) (by decide) ?_
    refine so_aload_n (pc := 5) (i := 0) X (by decide +kernel) ?_
    refine so_getr (pc := 6) (index := 9) (ci := 3) (f := 0) (N := 1) (C := RX3) (T := TX3) X rfl uX3 (by decide) (by decide) tw_145 rfl (by decide +kernel) ?_
    refine so_iconst (pc := 9) (n := 0) (v := 0) X (by decide +kernel) (by decide) ?_
    refine so_aload_n (pc := 10) (i := 0) X (by decide +kernel) ?_
    refine so_getr (pc := 11) (index := 9) (ci := 3) (f := 0) (N := 1) (C := RX3) (T := TX3) X rfl uX3 (by decide) (by decide) tw_145 rfl (by decide +kernel) ?_
    refine so_len (pc := 14) X (by decide +kernel) ?_
    refine so_cpl (pc := 15) (index := 21) X tw_150 tw_151 tw_152 tw_153 (mm_fr1 d) (mm_lo64 d) (by decide +kernel) ?_
    exact so_rtv (pc := 18) X hlk hfree hr (by decide +kernel)
  | n + 1 => exact fun _ _ _ _ h => h.elim
theorem bs_X3_copyFrom {l : Launch} {D : va_G} {EXT : (Nat → Nat) → (Nat → Prop) → State → Heap → Prop} (hxo : mm_xo EXT) (hxe : ∀ ad A U H, EXT ad A U H → px_E0 ad A U H) : mm_BS l D pcl lw_T EXT px_tab 32 pb_X3_copyFrom pp_X3_copyFrom := by
  intro d C hC p e s m args below meth c A ad0 cA0 μ0 free Q J
  rw [tb_32]
  exact fun X hr hlk hnm hfree hJ => bk_X3_copyFrom hxo hxe hC X hr hlk hnm hfree hJ
set_option maxHeartbeats 4000000 in
set_option maxRecDepth 100000 in
theorem bk_X3_countRows {l : Launch} {D : va_G} {EXT : (Nat → Nat) → (Nat → Prop) → State → Heap → Prop} (hxo : mm_xo EXT) (hxe : ∀ ad A U H, EXT ad A U H → px_E0 ad A U H) {d : Nat} {C : mm_C} (hC : mm_CS l D pcl lw_T EXT px_tab d C) {p : Program} {e : Env} {s : State} {m : MethodId} {args : Array Value} {below : List Frame} {meth : Method} {c : Code} {A : Nat → Prop} {ad0 : Nat → Nat} {cA0 : Nat → ClassId} {μ0 : mm_M} {free : Addr → Prop} {Q : mm_Q} {J : mm_J} (X : mm_cx p (mm_rm (d + 1) 0 0) s m args c cX3_countRows RX3 lw_T A D pcl 3) (hr : meth.sig.returnType = some .int) (hlk : meth.locks = false) (hnm : meth.name = "countRows") (hfree : ∀ q, A q → free q) (hJ : ∀ t, mm_SK p l e (mm_rm (d + 1) 0 0) s m args below meth c (MQ below (mm_Qc D pcl Q ad0 cA0 μ0 0 A) args s 0 0 free) D pcl A 3 (mm_EX EXT A s ad0 cA0 (mm_n μ0)) (pp_X3_countRows t) (J t)) : ∀ t, mm_SK p l e (mm_rm (d + 1) 0 0) s m args below meth c (MQ below (mm_Qc D pcl Q ad0 cA0 μ0 0 A) args s 0 0 free) D pcl A 3 (mm_EX EXT A s ad0 cA0 (mm_n μ0)) (pp_X3_countRows t) (pb_X3_countRows J C Q t) := by
  intro t
  match t with
  | 0 =>
    refine so_iconst (pc := 0) (n := 0) (v := 0) X (by decide +kernel) (by decide) ?_
    refine so_istore_n (pc := 1) (i := 1) X (by decide +kernel) (by decide) ?_
    refine so_iconst (pc := 2) (n := 0) (v := 0) X (by decide +kernel) (by decide) ?_
    refine so_istore_n (pc := 3) (i := 2) X (by decide +kernel) (by decide) ?_
    exact so_fall X (hJ 1)
  | 1 =>
    refine so_iload_n (pc := 4) (i := 2) X (by decide +kernel) ?_
    refine so_bipush (pc := 5) (n := 12) (v := 12) X (by decide +kernel) (by decide) ?_
    refine so_icmp_ge (pc := 7) (off := 20) (tgt := 27) X (by decide +kernel) (by decide) (hJ 3) ?_
    refine so_aload_n (pc := 10) (i := 0) X (by decide +kernel) ?_
    refine so_iload_n (pc := 11) (i := 2) X (by decide +kernel) ?_
    refine so_cav (pc := 12) (y := 40) (na := 2) (index := 27) (maxL := 2) (nm := yX3_isPivot) (bytes := cX3_isPivot) (ret := (some .boolean)) (ci := 3) (N := 1) (T := TX3) X hxo (fun _ _ _ _ h => h.1) hC lw_good (Nat.le_refl _) (mm_lo d) rfl (by decide) tw_154 tw_155 tw_156 rfl (by decide) tw_157 tw_158 (by decide +kernel) (by decide +kernel) ?_
    refine so_if_eq (pc := 15) (off := 6) (tgt := 21) X (by decide +kernel) (by decide) (hJ 2) ?_
    refine so_iinc (pc := 18) (i := 1) (n := 1) (y := 1) X (by decide +kernel) (by decide) (by decide) ?_
    exact so_fall X (hJ 2)
  | 2 =>
    refine so_iinc (pc := 21) (i := 2) (n := 1) (y := 1) X (by decide +kernel) (by decide) (by decide) ?_
    exact so_goto (pc := 24) (off := (-20)) (tgt := 4) X (by decide +kernel) (by decide) (hJ 1)
  | 3 =>
    refine so_iload_n (pc := 27) (i := 1) X (by decide +kernel) ?_
    exact so_ret (pc := 28) X hlk hfree hr (by decide +kernel)
  | n + 4 => exact fun _ _ _ _ h => h.elim
theorem bs_X3_countRows {l : Launch} {D : va_G} {EXT : (Nat → Nat) → (Nat → Prop) → State → Heap → Prop} (hxo : mm_xo EXT) (hxe : ∀ ad A U H, EXT ad A U H → px_E0 ad A U H) : mm_BS l D pcl lw_T EXT px_tab 33 pb_X3_countRows pp_X3_countRows := by
  intro d C hC p e s m args below meth c A ad0 cA0 μ0 free Q J
  rw [tb_33]
  exact fun X hr hlk hnm hfree hJ => bk_X3_countRows hxo hxe hC X hr hlk hnm hfree hJ
set_option maxHeartbeats 4000000 in
set_option maxRecDepth 100000 in
theorem bk_X3_isSolved {l : Launch} {D : va_G} {EXT : (Nat → Nat) → (Nat → Prop) → State → Heap → Prop} (hxo : mm_xo EXT) (hxe : ∀ ad A U H, EXT ad A U H → px_E0 ad A U H) {d : Nat} {C : mm_C} (hC : mm_CS l D pcl lw_T EXT px_tab d C) {p : Program} {e : Env} {s : State} {m : MethodId} {args : Array Value} {below : List Frame} {meth : Method} {c : Code} {A : Nat → Prop} {ad0 : Nat → Nat} {cA0 : Nat → ClassId} {μ0 : mm_M} {free : Addr → Prop} {Q : mm_Q} {J : mm_J} (X : mm_cx p (mm_rm (d + 1) 0 0) s m args c cX3_isSolved RX3 lw_T A D pcl 2) (hr : meth.sig.returnType = some .boolean) (hlk : meth.locks = false) (hnm : meth.name = "isSolved") (hfree : ∀ q, A q → free q) (hJ : ∀ t, mm_SK p l e (mm_rm (d + 1) 0 0) s m args below meth c (MQ below (mm_Qc D pcl Q ad0 cA0 μ0 0 A) args s 0 0 free) D pcl A 2 (mm_EX EXT A s ad0 cA0 (mm_n μ0)) (pp_X3_isSolved t) (J t)) : ∀ t, mm_SK p l e (mm_rm (d + 1) 0 0) s m args below meth c (MQ below (mm_Qc D pcl Q ad0 cA0 μ0 0 A) args s 0 0 free) D pcl A 2 (mm_EX EXT A s ad0 cA0 (mm_n μ0)) (pp_X3_isSolved t) (pb_X3_isSolved J C Q t) := by
  intro t
  match t with
  | 0 =>
    refine so_aload_n (pc := 0) (i := 0) X (by decide +kernel) ?_
    refine so_iload_n (pc := 1) (i := 1) X (by decide +kernel) ?_
    refine so_cav (pc := 2) (y := 40) (na := 2) (index := 27) (maxL := 2) (nm := yX3_isPivot) (bytes := cX3_isPivot) (ret := (some .boolean)) (ci := 3) (N := 1) (T := TX3) X hxo (fun _ _ _ _ h => h.1) hC lw_good (Nat.le_refl _) (mm_lo d) rfl (by decide) tw_154 tw_155 tw_156 rfl (by decide) tw_157 tw_158 (by decide +kernel) (by decide +kernel) ?_
    refine so_if_eq (pc := 5) (off := 16) (tgt := 21) X (by decide +kernel) (by decide) (hJ 1) ?_
    refine so_aload_n (pc := 8) (i := 0) X (by decide +kernel) ?_
    refine so_iload_n (pc := 9) (i := 1) X (by decide +kernel) ?_
    refine so_cav (pc := 10) (y := 41) (na := 2) (index := 31) (maxL := 2) (nm := yX3_firstBehind) (bytes := cX3_firstBehind) (ret := (some .int)) (ci := 3) (N := 1) (T := TX3) X hxo (fun _ _ _ _ h => h.1) hC lw_good (Nat.le_refl _) (mm_lo d) rfl (by decide) tw_159 tw_160 tw_156 rfl (by decide) tw_161 tw_162 (by decide +kernel) (by decide +kernel) ?_
    refine so_iconst (pc := 13) (n := (-1)) (v := (-1)) X (by decide +kernel) (by decide) ?_
    refine so_icmp_ne (pc := 14) (off := 7) (tgt := 21) X (by decide +kernel) (by decide) (hJ 1) ?_
    refine so_iconst (pc := 17) (n := 1) (v := 1) X (by decide +kernel) (by decide) ?_
    exact so_goto (pc := 18) (off := 4) (tgt := 22) X (by decide +kernel) (by decide) (hJ 2)
  | 1 =>
    refine so_iconst (pc := 21) (n := 0) (v := 0) X (by decide +kernel) (by decide) ?_
    exact so_fall X (hJ 2)
  | 2 =>
    exact so_rtz (pc := 22) X hlk hfree hr (by decide +kernel)
  | n + 3 => exact fun _ _ _ _ h => h.elim
theorem bs_X3_isSolved {l : Launch} {D : va_G} {EXT : (Nat → Nat) → (Nat → Prop) → State → Heap → Prop} (hxo : mm_xo EXT) (hxe : ∀ ad A U H, EXT ad A U H → px_E0 ad A U H) : mm_BS l D pcl lw_T EXT px_tab 34 pb_X3_isSolved pp_X3_isSolved := by
  intro d C hC p e s m args below meth c A ad0 cA0 μ0 free Q J
  rw [tb_34]
  exact fun X hr hlk hnm hfree hJ => bk_X3_isSolved hxo hxe hC X hr hlk hnm hfree hJ
