set_option maxHeartbeats 4000000 in
set_option maxRecDepth 100000 in
theorem bk_X6_audit {l : Launch} {D : va_G} {EXT : (Nat → Nat) → (Nat → Prop) → State → Heap → Prop} (hxo : mm_xo EXT) (hxe : ∀ ad A U H, EXT ad A U H → px_E0 ad A U H) {d : Nat} {C : mm_C} (hC : mm_CS l D pcl lw_T EXT px_tab d C) {p : Program} {e : Env} {s : State} {m : MethodId} {args : Array Value} {below : List Frame} {meth : Method} {c : Code} {A : Nat → Prop} {ad0 : Nat → Nat} {cA0 : Nat → ClassId} {μ0 : mm_M} {free : Addr → Prop} {Q : mm_Q} {J : mm_J} (X : mm_cx p (mm_rm (d + 1) 0 0) s m args c cX6_audit RX6 lw_T A D pcl 3) (hr : meth.sig.returnType = some .int) (hlk : meth.locks = false) (hnm : meth.name = "audit") (hfree : ∀ q, A q → free q) (hJ : ∀ t, mm_SK p l e (mm_rm (d + 1) 0 0) s m args below meth c (MQ below (mm_Qc D pcl Q ad0 cA0 μ0 0 A) args s 0 0 free) D pcl A 3 (mm_EX EXT A s ad0 cA0 (mm_n μ0)) (pp_X6_audit t) (J t)) : ∀ t, mm_SK p l e (mm_rm (d + 1) 0 0) s m args below meth c (MQ below (mm_Qc D pcl Q ad0 cA0 μ0 0 A) args s 0 0 free) D pcl A 3 (mm_EX EXT A s ad0 cA0 (mm_n μ0)) (pp_X6_audit t) (pb_X6_audit J C Q t) := by
  intro t
  match t with
  | 0 =>
    refine so_iload_n (pc := 0) (i := 1) X (by decide +kernel) ?_
    refine so_if_lt (pc := 1) (off := 14) (tgt := 15) X (by decide +kernel) (by decide) (hJ 1) ?_
    refine so_iload_n (pc := 4) (i := 1) X (by decide +kernel) ?_
    refine so_aload_n (pc := 5) (i := 0) X (by decide +kernel) ?_
    refine so_getr (pc := 6) (index := 32) (ci := 6) (f := 10) (N := 14) (C := RX6) (T := TX6) X rfl uX6 (by decide) (by decide) tw_237 rfl (by decide +kernel) ?_
    refine so_geti (pc := 9) (index := 206) (ci := 0) (f := 1) (N := 2) (C := RX0) (T := TX0) X rfl uX0 (by decide) (by decide) tw_340 rfl (by decide) (by decide +kernel) ?_
    refine so_icmp_lt (pc := 12) (off := 5) (tgt := 17) X (by decide +kernel) (by decide) (hJ 2) ?_
    exact so_fall X (hJ 1)
  | 1 =>
    refine so_iconst (pc := 15) (n := (-1)) (v := (-1)) X (by decide +kernel) (by decide) ?_
    exact so_ret (pc := 16) X hlk hfree hr (by decide +kernel)
  | 2 =>
    refine so_iload_n (pc := 17) (i := 2) X (by decide +kernel) ?_
    refine so_if_lt (pc := 18) (off := 8) (tgt := 26) X (by decide +kernel) (by decide) (hJ 3) ?_
    refine so_iload_n (pc := 21) (i := 2) X (by decide +kernel) ?_
    refine so_iconst (pc := 22) (n := 5) (v := 5) X (by decide +kernel) (by decide) ?_
    refine so_icmp_lt (pc := 23) (off := 6) (tgt := 29) X (by decide +kernel) (by decide) (hJ 4) ?_
    exact so_fall X (hJ 3)
  | 3 =>
    refine so_bipush (pc := 26) (n := (-2)) (v := (-2)) X (by decide +kernel) (by decide) ?_
    exact so_ret (pc := 28) X hlk hfree hr (by decide +kernel)
  | 4 =>
    refine so_aload_n (pc := 29) (i := 0) X (by decide +kernel) ?_
    refine so_getr (pc := 30) (index := 32) (ci := 6) (f := 10) (N := 14) (C := RX6) (T := TX6) X rfl uX6 (by decide) (by decide) tw_237 rfl (by decide +kernel) ?_
    refine so_getr (pc := 33) (index := 209) (ci := 0) (f := 0) (N := 2) (C := RX0) (T := TX0) X rfl uX0 (by decide) (by decide) tw_341 rfl (by decide +kernel) ?_
    refine so_iload_n (pc := 36) (i := 1) X (by decide +kernel) ?_
    refine so_iconst (pc := 37) (n := 5) (v := 5) X (by decide +kernel) (by decide) ?_
    refine so_imul (pc := 38) X (by decide +kernel) ?_
    refine so_iload_n (pc := 39) (i := 2) X (by decide +kernel) ?_
    refine so_iadd (pc := 40) X (by decide +kernel) ?_
    refine so_iald (pc := 41) X (by decide +kernel) ?_
    exact so_ret (pc := 42) X hlk hfree hr (by decide +kernel)
  | n + 5 => exact fun _ _ _ _ h => h.elim
theorem bs_X6_audit {l : Launch} {D : va_G} {EXT : (Nat → Nat) → (Nat → Prop) → State → Heap → Prop} (hxo : mm_xo EXT) (hxe : ∀ ad A U H, EXT ad A U H → px_E0 ad A U H) : mm_BS l D pcl lw_T EXT px_tab 76 pb_X6_audit pp_X6_audit := by
  intro d C hC p e s m args below meth c A ad0 cA0 μ0 free Q J
  rw [tb_76]
  exact fun X hr hlk hnm hfree hJ => bk_X6_audit hxo hxe hC X hr hlk hnm hfree hJ
set_option maxHeartbeats 4000000 in
set_option maxRecDepth 100000 in
theorem bk_X6_told {l : Launch} {D : va_G} {EXT : (Nat → Nat) → (Nat → Prop) → State → Heap → Prop} (hxo : mm_xo EXT) (hxe : ∀ ad A U H, EXT ad A U H → px_E0 ad A U H) {d : Nat} {C : mm_C} (hC : mm_CS l D pcl lw_T EXT px_tab d C) {p : Program} {e : Env} {s : State} {m : MethodId} {args : Array Value} {below : List Frame} {meth : Method} {c : Code} {A : Nat → Prop} {ad0 : Nat → Nat} {cA0 : Nat → ClassId} {μ0 : mm_M} {free : Addr → Prop} {Q : mm_Q} {J : mm_J} (X : mm_cx p (mm_rm (d + 1) 0 0) s m args c cX6_told RX6 lw_T A D pcl 2) (hr : meth.sig.returnType = some .int) (hlk : meth.locks = false) (hnm : meth.name = "told") (hfree : ∀ q, A q → free q) (hJ : ∀ t, mm_SK p l e (mm_rm (d + 1) 0 0) s m args below meth c (MQ below (mm_Qc D pcl Q ad0 cA0 μ0 0 A) args s 0 0 free) D pcl A 2 (mm_EX EXT A s ad0 cA0 (mm_n μ0)) (pp_X6_told t) (J t)) : ∀ t, mm_SK p l e (mm_rm (d + 1) 0 0) s m args below meth c (MQ below (mm_Qc D pcl Q ad0 cA0 μ0 0 A) args s 0 0 free) D pcl A 2 (mm_EX EXT A s ad0 cA0 (mm_n μ0)) (pp_X6_told t) (pb_X6_told J C Q t) := by
  intro t
  match t with
  | 0 =>
    refine so_iload_n (pc := 0) (i := 1) X (by decide +kernel) ?_
    exact so_tsw (tts := []) (pc := 1) (len := 35) (dflt := 71) (lo := 0) (hi := 4) (offs := #[35, 40, 45, 50, 58]) (dt := 72) X (by decide +kernel) (by decide) (by decide) (hJ 8) (fun i t h => match i, t, h with | 0, _, h => by cases h; exact ⟨35, 36, rfl, by decide, hJ 1⟩ | 1, _, h => by cases h; exact ⟨40, 41, rfl, by decide, hJ 2⟩ | 2, _, h => by cases h; exact ⟨45, 46, rfl, by decide, hJ 3⟩ | 3, _, h => by cases h; exact ⟨50, 51, rfl, by decide, hJ 4⟩ | 4, _, h => by cases h; exact ⟨58, 59, rfl, by decide, hJ 5⟩ | n + 5, _, h => by simp at h)
  | 1 =>
    refine so_aload_n (pc := 36) (i := 0) X (by decide +kernel) ?_
    refine so_geti (pc := 37) (index := 62) (ci := 6) (f := 1) (N := 14) (C := RX6) (T := TX6) X rfl uX6 (by decide) (by decide) tw_256 rfl (by decide) (by decide +kernel) ?_
    exact so_ret (pc := 40) X hlk hfree hr (by decide +kernel)
  | 2 =>
    refine so_aload_n (pc := 41) (i := 0) X (by decide +kernel) ?_
    refine so_geti (pc := 42) (index := 72) (ci := 6) (f := 3) (N := 14) (C := RX6) (T := TX6) X rfl uX6 (by decide) (by decide) tw_265 rfl (by decide) (by decide +kernel) ?_
    exact so_ret (pc := 45) X hlk hfree hr (by decide +kernel)
  | 3 =>
    refine so_aload_n (pc := 46) (i := 0) X (by decide +kernel) ?_
    refine so_geti (pc := 47) (index := 78) (ci := 6) (f := 5) (N := 14) (C := RX6) (T := TX6) X rfl uX6 (by decide) (by decide) tw_270 rfl (by decide) (by decide +kernel) ?_
    exact so_ret (pc := 50) X hlk hfree hr (by decide +kernel)
  | 4 =>
    refine so_aload_n (pc := 51) (i := 0) X (by decide +kernel) ?_
    refine so_getr (pc := 52) (index := 32) (ci := 6) (f := 10) (N := 14) (C := RX6) (T := TX6) X rfl uX6 (by decide) (by decide) tw_237 rfl (by decide +kernel) ?_
    refine so_geti (pc := 55) (index := 206) (ci := 0) (f := 1) (N := 2) (C := RX0) (T := TX0) X rfl uX0 (by decide) (by decide) tw_340 rfl (by decide) (by decide +kernel) ?_
    exact so_ret (pc := 58) X hlk hfree hr (by decide +kernel)
  | 5 =>
    refine so_aload_n (pc := 59) (i := 0) X (by decide +kernel) ?_
    refine so_geti (pc := 60) (index := 58) (ci := 6) (f := 9) (N := 14) (C := RX6) (T := TX6) X rfl uX6 (by decide) (by decide) tw_255 rfl (by decide) (by decide +kernel) ?_
    refine so_if_eq (pc := 63) (off := 7) (tgt := 70) X (by decide +kernel) (by decide) (hJ 6) ?_
    refine so_iconst (pc := 66) (n := 1) (v := 1) X (by decide +kernel) (by decide) ?_
    exact so_goto (pc := 67) (off := 4) (tgt := 71) X (by decide +kernel) (by decide) (hJ 7)
  | 6 =>
    refine so_iconst (pc := 70) (n := 0) (v := 0) X (by decide +kernel) (by decide) ?_
    exact so_fall X (hJ 7)
  | 7 =>
    exact so_ret (pc := 71) X hlk hfree hr (by decide +kernel)
  | 8 =>
    refine so_bipush (pc := 72) (n := (-2)) (v := (-2)) X (by decide +kernel) (by decide) ?_
    exact so_ret (pc := 74) X hlk hfree hr (by decide +kernel)
  | n + 9 => exact fun _ _ _ _ h => h.elim
theorem bs_X6_told {l : Launch} {D : va_G} {EXT : (Nat → Nat) → (Nat → Prop) → State → Heap → Prop} (hxo : mm_xo EXT) (hxe : ∀ ad A U H, EXT ad A U H → px_E0 ad A U H) : mm_BS l D pcl lw_T EXT px_tab 77 pb_X6_told pp_X6_told := by
  intro d C hC p e s m args below meth c A ad0 cA0 μ0 free Q J
  rw [tb_77]
  exact fun X hr hlk hnm hfree hJ => bk_X6_told hxo hxe hC X hr hlk hnm hfree hJ
set_option maxHeartbeats 4000000 in
set_option maxRecDepth 100000 in
theorem bk_X6_clear {l : Launch} {D : va_G} {EXT : (Nat → Nat) → (Nat → Prop) → State → Heap → Prop} (hxo : mm_xo EXT) (hxe : ∀ ad A U H, EXT ad A U H → px_E0 ad A U H) {d : Nat} {C : mm_C} (hC : mm_CS l D pcl lw_T EXT px_tab d C) {p : Program} {e : Env} {s : State} {m : MethodId} {args : Array Value} {below : List Frame} {meth : Method} {c : Code} {A : Nat → Prop} {ad0 : Nat → Nat} {cA0 : Nat → ClassId} {μ0 : mm_M} {free : Addr → Prop} {Q : mm_Q} {J : mm_J} (X : mm_cx p (mm_rm (d + 1) 0 0) s m args c cX6_clear RX6 lw_T A D pcl 1) (hr : meth.sig.returnType = none) (hlk : meth.locks = false) (hnm : meth.name = "clear") (hfree : ∀ q, A q → free q) (hJ : ∀ t, mm_SK p l e (mm_rm (d + 1) 0 0) s m args below meth c (MQ below (mm_Qc D pcl Q ad0 cA0 μ0 0 A) args s 0 0 free) D pcl A 1 (mm_EX EXT A s ad0 cA0 (mm_n μ0)) (pp_X6_clear t) (J t)) : ∀ t, mm_SK p l e (mm_rm (d + 1) 0 0) s m args below meth c (MQ below (mm_Qc D pcl Q ad0 cA0 μ0 0 A) args s 0 0 free) D pcl A 1 (mm_EX EXT A s ad0 cA0 (mm_n μ0)) (pp_X6_clear t) (pb_X6_clear J C Q t) := by
  intro t
  match t with
  | 0 =>
    refine so_aload_n (pc := 0) (i := 0) X (by decide +kernel) ?_
    refine so_iconst (pc := 1) (n := 0) (v := 0) X (by decide +kernel) (by decide) ?_
    refine so_puti (pc := 2) (index := 62) (ci := 6) (f := 1) (N := 14) (C := RX6) (T := TX6) X rfl uX6 (by decide) (by decide) tw_256 tyX6 tyX6_ok nmX6 rfl (by decide +kernel) rfl (by decide +kernel) ?_
    refine so_aload_n (pc := 5) (i := 0) X (by decide +kernel) ?_
    refine so_iconst (pc := 6) (n := 0) (v := 0) X (by decide +kernel) (by decide) ?_
    refine so_puti (pc := 7) (index := 72) (ci := 6) (f := 3) (N := 14) (C := RX6) (T := TX6) X rfl uX6 (by decide) (by decide) tw_265 tyX6 tyX6_ok nmX6 rfl (by decide +kernel) rfl (by decide +kernel) ?_
    refine so_aload_n (pc := 10) (i := 0) X (by decide +kernel) ?_
    refine so_iconst (pc := 11) (n := 0) (v := 0) X (by decide +kernel) (by decide) ?_
    refine so_puti (pc := 12) (index := 78) (ci := 6) (f := 5) (N := 14) (C := RX6) (T := TX6) X rfl uX6 (by decide) (by decide) tw_270 tyX6 tyX6_ok nmX6 rfl (by decide +kernel) rfl (by decide +kernel) ?_
    refine so_aload_n (pc := 15) (i := 0) X (by decide +kernel) ?_
    refine so_iconst (pc := 16) (n := (-1)) (v := (-1)) X (by decide +kernel) (by decide) ?_
    refine so_puti (pc := 17) (index := 22) (ci := 6) (f := 6) (N := 14) (C := RX6) (T := TX6) X rfl uX6 (by decide) (by decide) tw_231 tyX6 tyX6_ok nmX6 rfl (by decide +kernel) rfl (by decide +kernel) ?_
    refine so_aload_n (pc := 20) (i := 0) X (by decide +kernel) ?_
    refine so_iconst (pc := 21) (n := 0) (v := 0) X (by decide +kernel) (by decide) ?_
    refine so_puti (pc := 22) (index := 116) (ci := 6) (f := 8) (N := 14) (C := RX6) (T := TX6) X rfl uX6 (by decide) (by decide) tw_292 tyX6 tyX6_ok nmX6 rfl (by decide +kernel) rfl (by decide +kernel) ?_
    refine so_aload_n (pc := 25) (i := 0) X (by decide +kernel) ?_
    refine so_iconst (pc := 26) (n := 0) (v := 0) X (by decide +kernel) (by decide) ?_
    refine so_putz (pc := 27) (index := 58) (ci := 6) (f := 9) (N := 14) (C := RX6) (T := TX6) X rfl uX6 (by decide) (by decide) tw_255 tyX6 tyX6_ok nmX6 rfl (by decide +kernel) rfl (by decide +kernel) ?_
    refine so_aload_n (pc := 30) (i := 0) X (by decide +kernel) ?_
    refine so_getr (pc := 31) (index := 32) (ci := 6) (f := 10) (N := 14) (C := RX6) (T := TX6) X rfl uX6 (by decide) (by decide) tw_237 rfl (by decide +kernel) ?_
    refine so_iconst (pc := 34) (n := 0) (v := 0) X (by decide +kernel) (by decide) ?_
    refine so_puti (pc := 35) (index := 206) (ci := 0) (f := 1) (N := 2) (C := RX0) (T := TX0) X rfl uX0 (by decide) (by decide) tw_340 tyX0 tyX0_ok nmX0 rfl (by decide +kernel) rfl (by decide +kernel) ?_
    exact so_rtv (pc := 38) X hlk hfree hr (by decide +kernel)
  | n + 1 => exact fun _ _ _ _ h => h.elim
theorem bs_X6_clear {l : Launch} {D : va_G} {EXT : (Nat → Nat) → (Nat → Prop) → State → Heap → Prop} (hxo : mm_xo EXT) (hxe : ∀ ad A U H, EXT ad A U H → px_E0 ad A U H) : mm_BS l D pcl lw_T EXT px_tab 78 pb_X6_clear pp_X6_clear := by
  intro d C hC p e s m args below meth c A ad0 cA0 μ0 free Q J
  rw [tb_78]
  exact fun X hr hlk hnm hfree hJ => bk_X6_clear hxo hxe hC X hr hlk hnm hfree hJ
set_option maxHeartbeats 4000000 in
set_option maxRecDepth 100000 in
theorem bk_X6_isObject {l : Launch} {D : va_G} {EXT : (Nat → Nat) → (Nat → Prop) → State → Heap → Prop} (hxo : mm_xo EXT) (hxe : ∀ ad A U H, EXT ad A U H → px_E0 ad A U H) {d : Nat} {C : mm_C} (hC : mm_CS l D pcl lw_T EXT px_tab d C) {p : Program} {e : Env} {s : State} {m : MethodId} {args : Array Value} {below : List Frame} {meth : Method} {c : Code} {A : Nat → Prop} {ad0 : Nat → Nat} {cA0 : Nat → ClassId} {μ0 : mm_M} {free : Addr → Prop} {Q : mm_Q} {J : mm_J} (X : mm_cx p (mm_rm (d + 1) 0 0) s m args c cX6_isObject RX6 lw_T A D pcl 2) (hr : meth.sig.returnType = some .boolean) (hlk : meth.locks = false) (hnm : meth.name = "isObject") (hfree : ∀ q, A q → free q) (hJ : ∀ t, mm_SK p l e (mm_rm (d + 1) 0 0) s m args below meth c (MQ below (mm_Qc D pcl Q ad0 cA0 μ0 0 A) args s 0 0 free) D pcl A 2 (mm_EX EXT A s ad0 cA0 (mm_n μ0)) (pp_X6_isObject t) (J t)) : ∀ t, mm_SK p l e (mm_rm (d + 1) 0 0) s m args below meth c (MQ below (mm_Qc D pcl Q ad0 cA0 μ0 0 A) args s 0 0 free) D pcl A 2 (mm_EX EXT A s ad0 cA0 (mm_n μ0)) (pp_X6_isObject t) (pb_X6_isObject J C Q t) := by
  intro t
  match t with
  | 0 =>
    refine so_iload_n (pc := 0) (i := 1) X (by decide +kernel) ?_
    refine so_if_lt (pc := 1) (off := 15) (tgt := 16) X (by decide +kernel) (by decide) (hJ 1) ?_
    refine so_iload_n (pc := 4) (i := 1) X (by decide +kernel) ?_
    refine so_aload_n (pc := 5) (i := 0) X (by decide +kernel) ?_
    refine so_geti (pc := 6) (index := 62) (ci := 6) (f := 1) (N := 14) (C := RX6) (T := TX6) X rfl uX6 (by decide) (by decide) tw_256 rfl (by decide) (by decide +kernel) ?_
    refine so_icmp_ge (pc := 9) (off := 7) (tgt := 16) X (by decide +kernel) (by decide) (hJ 1) ?_
    refine so_iconst (pc := 12) (n := 1) (v := 1) X (by decide +kernel) (by decide) ?_
    exact so_goto (pc := 13) (off := 4) (tgt := 17) X (by decide +kernel) (by decide) (hJ 2)
  | 1 =>
    refine so_iconst (pc := 16) (n := 0) (v := 0) X (by decide +kernel) (by decide) ?_
    exact so_fall X (hJ 2)
  | 2 =>
    exact so_rtz (pc := 17) X hlk hfree hr (by decide +kernel)
  | n + 3 => exact fun _ _ _ _ h => h.elim
theorem bs_X6_isObject {l : Launch} {D : va_G} {EXT : (Nat → Nat) → (Nat → Prop) → State → Heap → Prop} (hxo : mm_xo EXT) (hxe : ∀ ad A U H, EXT ad A U H → px_E0 ad A U H) : mm_BS l D pcl lw_T EXT px_tab 79 pb_X6_isObject pp_X6_isObject := by
  intro d C hC p e s m args below meth c A ad0 cA0 μ0 free Q J
  rw [tb_79]
  exact fun X hr hlk hnm hfree hJ => bk_X6_isObject hxo hxe hC X hr hlk hnm hfree hJ
set_option maxHeartbeats 4000000 in
set_option maxRecDepth 100000 in
theorem bk_X6_isUser {l : Launch} {D : va_G} {EXT : (Nat → Nat) → (Nat → Prop) → State → Heap → Prop} (hxo : mm_xo EXT) (hxe : ∀ ad A U H, EXT ad A U H → px_E0 ad A U H) {d : Nat} {C : mm_C} (hC : mm_CS l D pcl lw_T EXT px_tab d C) {p : Program} {e : Env} {s : State} {m : MethodId} {args : Array Value} {below : List Frame} {meth : Method} {c : Code} {A : Nat → Prop} {ad0 : Nat → Nat} {cA0 : Nat → ClassId} {μ0 : mm_M} {free : Addr → Prop} {Q : mm_Q} {J : mm_J} (X : mm_cx p (mm_rm (d + 1) 0 0) s m args c cX6_isUser RX6 lw_T A D pcl 2) (hr : meth.sig.returnType = some .boolean) (hlk : meth.locks = false) (hnm : meth.name = "isUser") (hfree : ∀ q, A q → free q) (hJ : ∀ t, mm_SK p l e (mm_rm (d + 1) 0 0) s m args below meth c (MQ below (mm_Qc D pcl Q ad0 cA0 μ0 0 A) args s 0 0 free) D pcl A 2 (mm_EX EXT A s ad0 cA0 (mm_n μ0)) (pp_X6_isUser t) (J t)) : ∀ t, mm_SK p l e (mm_rm (d + 1) 0 0) s m args below meth c (MQ below (mm_Qc D pcl Q ad0 cA0 μ0 0 A) args s 0 0 free) D pcl A 2 (mm_EX EXT A s ad0 cA0 (mm_n μ0)) (pp_X6_isUser t) (pb_X6_isUser J C Q t) := by
  intro t
  match t with
  | 0 =>
    refine so_iload_n (pc := 0) (i := 1) X (by decide +kernel) ?_
    refine so_if_lt (pc := 1) (off := 15) (tgt := 16) X (by decide +kernel) (by decide) (hJ 1) ?_
    refine so_iload_n (pc := 4) (i := 1) X (by decide +kernel) ?_
    refine so_aload_n (pc := 5) (i := 0) X (by decide +kernel) ?_
    refine so_geti (pc := 6) (index := 72) (ci := 6) (f := 3) (N := 14) (C := RX6) (T := TX6) X rfl uX6 (by decide) (by decide) tw_265 rfl (by decide) (by decide +kernel) ?_
    refine so_icmp_ge (pc := 9) (off := 7) (tgt := 16) X (by decide +kernel) (by decide) (hJ 1) ?_
    refine so_iconst (pc := 12) (n := 1) (v := 1) X (by decide +kernel) (by decide) ?_
    exact so_goto (pc := 13) (off := 4) (tgt := 17) X (by decide +kernel) (by decide) (hJ 2)
  | 1 =>
    refine so_iconst (pc := 16) (n := 0) (v := 0) X (by decide +kernel) (by decide) ?_
    exact so_fall X (hJ 2)
  | 2 =>
    exact so_rtz (pc := 17) X hlk hfree hr (by decide +kernel)
  | n + 3 => exact fun _ _ _ _ h => h.elim
theorem bs_X6_isUser {l : Launch} {D : va_G} {EXT : (Nat → Nat) → (Nat → Prop) → State → Heap → Prop} (hxo : mm_xo EXT) (hxe : ∀ ad A U H, EXT ad A U H → px_E0 ad A U H) : mm_BS l D pcl lw_T EXT px_tab 80 pb_X6_isUser pp_X6_isUser := by
  intro d C hC p e s m args below meth c A ad0 cA0 μ0 free Q J
  rw [tb_80]
  exact fun X hr hlk hnm hfree hJ => bk_X6_isUser hxo hxe hC X hr hlk hnm hfree hJ
set_option maxHeartbeats 4000000 in
set_option maxRecDepth 100000 in
theorem bk_X6_isField {l : Launch} {D : va_G} {EXT : (Nat → Nat) → (Nat → Prop) → State → Heap → Prop} (hxo : mm_xo EXT) (hxe : ∀ ad A U H, EXT ad A U H → px_E0 ad A U H) {d : Nat} {C : mm_C} (hC : mm_CS l D pcl lw_T EXT px_tab d C) {p : Program} {e : Env} {s : State} {m : MethodId} {args : Array Value} {below : List Frame} {meth : Method} {c : Code} {A : Nat → Prop} {ad0 : Nat → Nat} {cA0 : Nat → ClassId} {μ0 : mm_M} {free : Addr → Prop} {Q : mm_Q} {J : mm_J} (X : mm_cx p (mm_rm (d + 1) 0 0) s m args c cX6_isField RX6 lw_T A D pcl 1) (hr : meth.sig.returnType = some .boolean) (hlk : meth.locks = false) (hnm : meth.name = "isField") (hfree : ∀ q, A q → free q) (hJ : ∀ t, mm_SK p l e (mm_rm (d + 1) 0 0) s m args below meth c (MQ below (mm_Qc D pcl Q ad0 cA0 μ0 0 A) args s 0 0 free) D pcl A 1 (mm_EX EXT A s ad0 cA0 (mm_n μ0)) (pp_X6_isField t) (J t)) : ∀ t, mm_SK p l e (mm_rm (d + 1) 0 0) s m args below meth c (MQ below (mm_Qc D pcl Q ad0 cA0 μ0 0 A) args s 0 0 free) D pcl A 1 (mm_EX EXT A s ad0 cA0 (mm_n μ0)) (pp_X6_isField t) (pb_X6_isField J C Q t) := by
  intro t
  match t with
  | 0 =>
    refine so_iload_n (pc := 0) (i := 0) X (by decide +kernel) ?_
    refine so_if_lt (pc := 1) (off := 12) (tgt := 13) X (by decide +kernel) (by decide) (hJ 1) ?_
    refine so_iload_n (pc := 4) (i := 0) X (by decide +kernel) ?_
    refine so_iconst (pc := 5) (n := 4) (v := 4) X (by decide +kernel) (by decide) ?_
    refine so_icmp_ge (pc := 6) (off := 7) (tgt := 13) X (by decide +kernel) (by decide) (hJ 1) ?_
    refine so_iconst (pc := 9) (n := 1) (v := 1) X (by decide +kernel) (by decide) ?_
    exact so_goto (pc := 10) (off := 4) (tgt := 14) X (by decide +kernel) (by decide) (hJ 2)
  | 1 =>
    refine so_iconst (pc := 13) (n := 0) (v := 0) X (by decide +kernel) (by decide) ?_
    exact so_fall X (hJ 2)
  | 2 =>
    exact so_rtz (pc := 14) X hlk hfree hr (by decide +kernel)
  | n + 3 => exact fun _ _ _ _ h => h.elim
theorem bs_X6_isField {l : Launch} {D : va_G} {EXT : (Nat → Nat) → (Nat → Prop) → State → Heap → Prop} (hxo : mm_xo EXT) (hxe : ∀ ad A U H, EXT ad A U H → px_E0 ad A U H) : mm_BS l D pcl lw_T EXT px_tab 81 pb_X6_isField pp_X6_isField := by
  intro d C hC p e s m args below meth c A ad0 cA0 μ0 free Q J
  rw [tb_81]
  exact fun X hr hlk hnm hfree hJ => bk_X6_isField hxo hxe hC X hr hlk hnm hfree hJ
set_option maxHeartbeats 4000000 in
set_option maxRecDepth 100000 in
theorem bk_X6_isSet {l : Launch} {D : va_G} {EXT : (Nat → Nat) → (Nat → Prop) → State → Heap → Prop} (hxo : mm_xo EXT) (hxe : ∀ ad A U H, EXT ad A U H → px_E0 ad A U H) {d : Nat} {C : mm_C} (hC : mm_CS l D pcl lw_T EXT px_tab d C) {p : Program} {e : Env} {s : State} {m : MethodId} {args : Array Value} {below : List Frame} {meth : Method} {c : Code} {A : Nat → Prop} {ad0 : Nat → Nat} {cA0 : Nat → ClassId} {μ0 : mm_M} {free : Addr → Prop} {Q : mm_Q} {J : mm_J} (X : mm_cx p (mm_rm (d + 1) 0 0) s m args c cX6_isSet RX6 lw_T A D pcl 2) (hr : meth.sig.returnType = some .boolean) (hlk : meth.locks = false) (hnm : meth.name = "isSet") (hfree : ∀ q, A q → free q) (hJ : ∀ t, mm_SK p l e (mm_rm (d + 1) 0 0) s m args below meth c (MQ below (mm_Qc D pcl Q ad0 cA0 μ0 0 A) args s 0 0 free) D pcl A 2 (mm_EX EXT A s ad0 cA0 (mm_n μ0)) (pp_X6_isSet t) (J t)) : ∀ t, mm_SK p l e (mm_rm (d + 1) 0 0) s m args below meth c (MQ below (mm_Qc D pcl Q ad0 cA0 μ0 0 A) args s 0 0 free) D pcl A 2 (mm_EX EXT A s ad0 cA0 (mm_n μ0)) (pp_X6_isSet t) (pb_X6_isSet J C Q t) := by
  intro t
  match t with
  | 0 =>
    refine so_iload_n (pc := 0) (i := 1) X (by decide +kernel) ?_
    refine so_if_eq (pc := 1) (off := 16) (tgt := 17) X (by decide +kernel) (by decide) (hJ 1) ?_
    refine so_iload_n (pc := 4) (i := 1) X (by decide +kernel) ?_
    refine so_aload_n (pc := 5) (i := 0) X (by decide +kernel) ?_
    refine so_geti (pc := 6) (index := 62) (ci := 6) (f := 1) (N := 14) (C := RX6) (T := TX6) X rfl uX6 (by decide) (by decide) tw_256 rfl (by decide) (by decide +kernel) ?_
    refine so_iushr (pc := 9) X (by decide +kernel) ?_
    refine so_if_ne (pc := 10) (off := 7) (tgt := 17) X (by decide +kernel) (by decide) (hJ 1) ?_
    refine so_iconst (pc := 13) (n := 1) (v := 1) X (by decide +kernel) (by decide) ?_
    exact so_goto (pc := 14) (off := 4) (tgt := 18) X (by decide +kernel) (by decide) (hJ 2)
  | 1 =>
    refine so_iconst (pc := 17) (n := 0) (v := 0) X (by decide +kernel) (by decide) ?_
    exact so_fall X (hJ 2)
  | 2 =>
    exact so_rtz (pc := 18) X hlk hfree hr (by decide +kernel)
  | n + 3 => exact fun _ _ _ _ h => h.elim
theorem bs_X6_isSet {l : Launch} {D : va_G} {EXT : (Nat → Nat) → (Nat → Prop) → State → Heap → Prop} (hxo : mm_xo EXT) (hxe : ∀ ad A U H, EXT ad A U H → px_E0 ad A U H) : mm_BS l D pcl lw_T EXT px_tab 82 pb_X6_isSet pp_X6_isSet := by
  intro d C hC p e s m args below meth c A ad0 cA0 μ0 free Q J
  rw [tb_82]
  exact fun X hr hlk hnm hfree hJ => bk_X6_isSet hxo hxe hC X hr hlk hnm hfree hJ
set_option maxHeartbeats 4000000 in
set_option maxRecDepth 100000 in
theorem bk_X6_takeTape {l : Launch} {D : va_G} {EXT : (Nat → Nat) → (Nat → Prop) → State → Heap → Prop} (hxo : mm_xo EXT) (hxe : ∀ ad A U H, EXT ad A U H → px_E0 ad A U H) {d : Nat} {C : mm_C} (hC : mm_CS l D pcl lw_T EXT px_tab d C) {p : Program} {e : Env} {s : State} {m : MethodId} {args : Array Value} {below : List Frame} {meth : Method} {c : Code} {A : Nat → Prop} {ad0 : Nat → Nat} {cA0 : Nat → ClassId} {μ0 : mm_M} {free : Addr → Prop} {Q : mm_Q} {J : mm_J} (X : mm_cx p (mm_rm (d + 1) 0 0) s m args c cX6_takeTape RX6 lw_T A D pcl 1) (hr : meth.sig.returnType = some .int) (hlk : meth.locks = false) (hnm : meth.name = "takeTape") (hfree : ∀ q, A q → free q) (hJ : ∀ t, mm_SK p l e (mm_rm (d + 1) 0 0) s m args below meth c (MQ below (mm_Qc D pcl Q ad0 cA0 μ0 0 A) args s 0 0 free) D pcl A 1 (mm_EX EXT A s ad0 cA0 (mm_n μ0)) (pp_X6_takeTape t) (J t)) : ∀ t, mm_SK p l e (mm_rm (d + 1) 0 0) s m args below meth c (MQ below (mm_Qc D pcl Q ad0 cA0 μ0 0 A) args s 0 0 free) D pcl A 1 (mm_EX EXT A s ad0 cA0 (mm_n μ0)) (pp_X6_takeTape t) (pb_X6_takeTape J C Q t) := by
  intro t
  match t with
  | 0 =>
    refine so_aload_n (pc := 0) (i := 0) X (by decide +kernel) ?_
    refine so_getr (pc := 1) (index := 39) (ci := 6) (f := 11) (N := 14) (C := RX6) (T := TX6) X rfl uX6 (by decide) (by decide) tw_242 rfl (by decide +kernel) ?_
    refine so_aload_n (pc := 4) (i := 0) X (by decide +kernel) ?_
    refine so_getr (pc := 5) (index := 19) (ci := 6) (f := 4) (N := 14) (C := RX6) (T := TX6) X rfl uX6 (by decide) (by decide) tw_230 rfl (by decide +kernel) ?_
    refine so_aload_n (pc := 8) (i := 0) X (by decide +kernel) ?_
    refine so_geti (pc := 9) (index := 78) (ci := 6) (f := 5) (N := 14) (C := RX6) (T := TX6) X rfl uX6 (by decide) (by decide) tw_270 rfl (by decide) (by decide +kernel) ?_
    refine so_cav (pc := 12) (y := 4) (na := 3) (index := 212) (maxL := 5) (nm := yX1_read) (bytes := cX1_read) (ret := none) (ci := 1) (N := 11) (T := TX1) X hxo (fun _ _ _ _ h => h.1) hC lw_good (Nat.le_refl _) (mm_lo d) rfl (by decide) tw_342 tw_343 tw_30 rfl (by decide) tw_344 tw_345 (by decide +kernel) (by decide +kernel) ?_
    refine so_aload_n (pc := 15) (i := 0) X (by decide +kernel) ?_
    refine so_iconst (pc := 16) (n := 0) (v := 0) X (by decide +kernel) (by decide) ?_
    refine so_puti (pc := 17) (index := 78) (ci := 6) (f := 5) (N := 14) (C := RX6) (T := TX6) X rfl uX6 (by decide) (by decide) tw_270 tyX6 tyX6_ok nmX6 rfl (by decide +kernel) rfl (by decide +kernel) ?_
    refine so_aload_n (pc := 20) (i := 0) X (by decide +kernel) ?_
    refine so_aload_n (pc := 21) (i := 0) X (by decide +kernel) ?_
    refine so_getr (pc := 22) (index := 39) (ci := 6) (f := 11) (N := 14) (C := RX6) (T := TX6) X rfl uX6 (by decide) (by decide) tw_242 rfl (by decide +kernel) ?_
    refine so_geti (pc := 25) (index := 216) (ci := 1) (f := 1) (N := 11) (C := RX1) (T := TX1) X rfl uX1 (by decide) (by decide) tw_346 rfl (by decide) (by decide +kernel) ?_
    refine so_if_ne (pc := 28) (off := 7) (tgt := 35) X (by decide +kernel) (by decide) (hJ 1) ?_
    refine so_iconst (pc := 31) (n := (-1)) (v := (-1)) X (by decide +kernel) (by decide) ?_
    exact so_goto (pc := 32) (off := 10) (tgt := 42) X (by decide +kernel) (by decide) (hJ 2)
  | 1 =>
    refine so_aload_n (pc := 35) (i := 0) X (by decide +kernel) ?_
    refine so_getr (pc := 36) (index := 39) (ci := 6) (f := 11) (N := 14) (C := RX6) (T := TX6) X rfl uX6 (by decide) (by decide) tw_242 rfl (by decide +kernel) ?_
    refine so_geti (pc := 39) (index := 219) (ci := 1) (f := 2) (N := 11) (C := RX1) (T := TX1) X rfl uX1 (by decide) (by decide) tw_347 rfl (by decide) (by decide +kernel) ?_
    exact so_fall X (hJ 2)
  | 2 =>
    refine so_puti (pc := 42) (index := 22) (ci := 6) (f := 6) (N := 14) (C := RX6) (T := TX6) X rfl uX6 (by decide) (by decide) tw_231 tyX6 tyX6_ok nmX6 rfl (by decide +kernel) rfl (by decide +kernel) ?_
    refine so_aload_n (pc := 45) (i := 0) X (by decide +kernel) ?_
    refine so_getr (pc := 46) (index := 39) (ci := 6) (f := 11) (N := 14) (C := RX6) (T := TX6) X rfl uX6 (by decide) (by decide) tw_242 rfl (by decide +kernel) ?_
    refine so_geti (pc := 49) (index := 216) (ci := 1) (f := 1) (N := 11) (C := RX1) (T := TX1) X rfl uX1 (by decide) (by decide) tw_346 rfl (by decide) (by decide +kernel) ?_
    exact so_ret (pc := 52) X hlk hfree hr (by decide +kernel)
  | n + 3 => exact fun _ _ _ _ h => h.elim
theorem bs_X6_takeTape {l : Launch} {D : va_G} {EXT : (Nat → Nat) → (Nat → Prop) → State → Heap → Prop} (hxo : mm_xo EXT) (hxe : ∀ ad A U H, EXT ad A U H → px_E0 ad A U H) : mm_BS l D pcl lw_T EXT px_tab 83 pb_X6_takeTape pp_X6_takeTape := by
  intro d C hC p e s m args below meth c A ad0 cA0 μ0 free Q J
  rw [tb_83]
  exact fun X hr hlk hnm hfree hJ => bk_X6_takeTape hxo hxe hC X hr hlk hnm hfree hJ
set_option maxHeartbeats 4000000 in
set_option maxRecDepth 100000 in
theorem bk_X6_takeQuery {l : Launch} {D : va_G} {EXT : (Nat → Nat) → (Nat → Prop) → State → Heap → Prop} (hxo : mm_xo EXT) (hxe : ∀ ad A U H, EXT ad A U H → px_E0 ad A U H) {d : Nat} {C : mm_C} (hC : mm_CS l D pcl lw_T EXT px_tab d C) {p : Program} {e : Env} {s : State} {m : MethodId} {args : Array Value} {below : List Frame} {meth : Method} {c : Code} {A : Nat → Prop} {ad0 : Nat → Nat} {cA0 : Nat → ClassId} {μ0 : mm_M} {free : Addr → Prop} {Q : mm_Q} {J : mm_J} (X : mm_cx p (mm_rm (d + 1) 0 0) s m args c cX6_takeQuery RX6 lw_T A D pcl 4) (hr : meth.sig.returnType = some .int) (hlk : meth.locks = false) (hnm : meth.name = "takeQuery") (hfree : ∀ q, A q → free q) (hJ : ∀ t, mm_SK p l e (mm_rm (d + 1) 0 0) s m args below meth c (MQ below (mm_Qc D pcl Q ad0 cA0 μ0 0 A) args s 0 0 free) D pcl A 4 (mm_EX EXT A s ad0 cA0 (mm_n μ0)) (pp_X6_takeQuery t) (J t)) : ∀ t, mm_SK p l e (mm_rm (d + 1) 0 0) s m args below meth c (MQ below (mm_Qc D pcl Q ad0 cA0 μ0 0 A) args s 0 0 free) D pcl A 4 (mm_EX EXT A s ad0 cA0 (mm_n μ0)) (pp_X6_takeQuery t) (pb_X6_takeQuery J C Q t) := by
  intro t
  match t with
  | 0 =>
    refine so_aload_n (pc := 0) (i := 0) X (by decide +kernel) ?_
    refine so_cav (pc := 1) (y := 83) (na := 1) (index := 84) (maxL := 1) (nm := yX6_takeTape) (bytes := cX6_takeTape) (ret := (some .int)) (ci := 6) (N := 14) (T := TX6) X hxo (fun _ _ _ _ h => h.1) hC lw_good (Nat.le_refl _) (mm_lo d) rfl (by decide) tw_275 tw_276 tw_259 rfl (by decide) tw_277 tw_278 (by decide +kernel) (by decide +kernel) ?_
    refine so_istore_n (pc := 4) (i := 3) X (by decide +kernel) (by decide) ?_
    refine so_iload_n (pc := 5) (i := 3) X (by decide +kernel) ?_
    refine so_if_eq (pc := 6) (off := 20) (tgt := 26) X (by decide +kernel) (by decide) (hJ 1) ?_
    refine so_aload_n (pc := 9) (i := 0) X (by decide +kernel) ?_
    refine so_getr (pc := 10) (index := 32) (ci := 6) (f := 10) (N := 14) (C := RX6) (T := TX6) X rfl uX6 (by decide) (by decide) tw_237 rfl (by decide +kernel) ?_
    refine so_iload_n (pc := 13) (i := 1) X (by decide +kernel) ?_
    refine so_iload_n (pc := 14) (i := 2) X (by decide +kernel) ?_
    refine so_iconst (pc := 15) (n := 0) (v := 0) X (by decide +kernel) (by decide) ?_
    refine so_iconst (pc := 16) (n := 0) (v := 0) X (by decide +kernel) (by decide) ?_
    refine so_iconst (pc := 17) (n := 3) (v := 3) X (by decide +kernel) (by decide) ?_
    refine so_cav (pc := 18) (y := 2) (na := 6) (index := 142) (maxL := 7) (nm := yX0_enter) (bytes := cX0_enter) (ret := none) (ci := 0) (N := 2) (T := TX0) X hxo (fun _ _ _ _ h => h.1) hC lw_good (Nat.le_refl _) (mm_lo d) rfl (by decide) tw_301 tw_302 tw_8 rfl (by decide) tw_303 tw_304 (by decide +kernel) (by decide +kernel) ?_
    refine so_bipush (pc := 21) (n := (-10)) (v := (-10)) X (by decide +kernel) (by decide) ?_
    refine so_iload_n (pc := 23) (i := 3) X (by decide +kernel) ?_
    refine so_isub (pc := 24) X (by decide +kernel) ?_
    exact so_ret (pc := 25) X hlk hfree hr (by decide +kernel)
  | 1 =>
    refine so_aload_n (pc := 26) (i := 0) X (by decide +kernel) ?_
    refine so_getr (pc := 27) (index := 15) (ci := 6) (f := 2) (N := 14) (C := RX6) (T := TX6) X rfl uX6 (by decide) (by decide) tw_229 rfl (by decide +kernel) ?_
    refine so_iload_n (pc := 30) (i := 1) X (by decide +kernel) ?_
    refine so_rald (pc := 31) (C := "HiddenSums$User") X (by decide +kernel) ?_
    refine so_aload_n (pc := 32) (i := 0) X (by decide +kernel) ?_
    refine so_getr (pc := 33) (index := 39) (ci := 6) (f := 11) (N := 14) (C := RX6) (T := TX6) X rfl uX6 (by decide) (by decide) tw_242 rfl (by decide +kernel) ?_
    refine so_getr (pc := 36) (index := 92) (ci := 1) (f := 0) (N := 11) (C := RX1) (T := TX1) X rfl uX1 (by decide) (by decide) tw_280 rfl (by decide +kernel) ?_
    refine so_geti (pc := 39) (index := 177) (ci := 4) (f := 3) (N := 4) (C := RX4) (T := TX4) X rfl uX4 (by decide) (by decide) tw_315 rfl (by decide) (by decide +kernel) ?_
    refine so_cav (pc := 42) (y := 54) (na := 2) (index := 161) (maxL := 2) (nm := yX5_hasClosed) (bytes := cX5_hasClosed) (ret := (some .boolean)) (ci := 5) (N := 6) (T := TX5) X hxo (fun _ _ _ _ h => h.1) hC lw_good (Nat.le_refl _) (mm_lo d) rfl (by decide) tw_297 tw_298 tw_251 rfl (by decide) tw_299 tw_300 (by decide +kernel) (by decide +kernel) ?_
    refine so_if_eq (pc := 45) (off := 18) (tgt := 63) X (by decide +kernel) (by decide) (hJ 2) ?_
    refine so_aload_n (pc := 48) (i := 0) X (by decide +kernel) ?_
    refine so_getr (pc := 49) (index := 32) (ci := 6) (f := 10) (N := 14) (C := RX6) (T := TX6) X rfl uX6 (by decide) (by decide) tw_237 rfl (by decide +kernel) ?_
    refine so_iload_n (pc := 52) (i := 1) X (by decide +kernel) ?_
    refine so_iload_n (pc := 53) (i := 2) X (by decide +kernel) ?_
    refine so_iconst (pc := 54) (n := 0) (v := 0) X (by decide +kernel) (by decide) ?_
    refine so_iconst (pc := 55) (n := 0) (v := 0) X (by decide +kernel) (by decide) ?_
    refine so_iconst (pc := 56) (n := 2) (v := 2) X (by decide +kernel) (by decide) ?_
    refine so_cav (pc := 57) (y := 2) (na := 6) (index := 142) (maxL := 7) (nm := yX0_enter) (bytes := cX0_enter) (ret := none) (ci := 0) (N := 2) (T := TX0) X hxo (fun _ _ _ _ h => h.1) hC lw_good (Nat.le_refl _) (mm_lo d) rfl (by decide) tw_301 tw_302 tw_8 rfl (by decide) tw_303 tw_304 (by decide +kernel) (by decide +kernel) ?_
    refine so_bipush (pc := 60) (n := (-6)) (v := (-6)) X (by decide +kernel) (by decide) ?_
    exact so_ret (pc := 62) X hlk hfree hr (by decide +kernel)
  | 2 =>
    refine so_aload_n (pc := 63) (i := 0) X (by decide +kernel) ?_
    refine so_getr (pc := 64) (index := 32) (ci := 6) (f := 10) (N := 14) (C := RX6) (T := TX6) X rfl uX6 (by decide) (by decide) tw_237 rfl (by decide +kernel) ?_
    refine so_iload_n (pc := 67) (i := 1) X (by decide +kernel) ?_
    refine so_iload_n (pc := 68) (i := 2) X (by decide +kernel) ?_
    refine so_iconst (pc := 69) (n := 0) (v := 0) X (by decide +kernel) (by decide) ?_
    refine so_iconst (pc := 70) (n := 0) (v := 0) X (by decide +kernel) (by decide) ?_
    refine so_iconst (pc := 71) (n := 0) (v := 0) X (by decide +kernel) (by decide) ?_
    refine so_cav (pc := 72) (y := 2) (na := 6) (index := 142) (maxL := 7) (nm := yX0_enter) (bytes := cX0_enter) (ret := none) (ci := 0) (N := 2) (T := TX0) X hxo (fun _ _ _ _ h => h.1) hC lw_good (Nat.le_refl _) (mm_lo d) rfl (by decide) tw_301 tw_302 tw_8 rfl (by decide) tw_303 tw_304 (by decide +kernel) (by decide +kernel) ?_
    refine so_iconst (pc := 75) (n := 0) (v := 0) X (by decide +kernel) (by decide) ?_
    exact so_ret (pc := 76) X hlk hfree hr (by decide +kernel)
  | n + 3 => exact fun _ _ _ _ h => h.elim
theorem bs_X6_takeQuery {l : Launch} {D : va_G} {EXT : (Nat → Nat) → (Nat → Prop) → State → Heap → Prop} (hxo : mm_xo EXT) (hxe : ∀ ad A U H, EXT ad A U H → px_E0 ad A U H) : mm_BS l D pcl lw_T EXT px_tab 84 pb_X6_takeQuery pp_X6_takeQuery := by
  intro d C hC p e s m args below meth c A ad0 cA0 μ0 free Q J
  rw [tb_84]
  exact fun X hr hlk hnm hfree hJ => bk_X6_takeQuery hxo hxe hC X hr hlk hnm hfree hJ
set_option maxHeartbeats 4000000 in
set_option maxRecDepth 100000 in
theorem bk_X6_isSeen {l : Launch} {D : va_G} {EXT : (Nat → Nat) → (Nat → Prop) → State → Heap → Prop} (hxo : mm_xo EXT) (hxe : ∀ ad A U H, EXT ad A U H → px_E0 ad A U H) {d : Nat} {C : mm_C} (hC : mm_CS l D pcl lw_T EXT px_tab d C) {p : Program} {e : Env} {s : State} {m : MethodId} {args : Array Value} {below : List Frame} {meth : Method} {c : Code} {A : Nat → Prop} {ad0 : Nat → Nat} {cA0 : Nat → ClassId} {μ0 : mm_M} {free : Addr → Prop} {Q : mm_Q} {J : mm_J} (X : mm_cx p (mm_rm (d + 1) 0 0) s m args c cX6_isSeen RX6 lw_T A D pcl 3) (hr : meth.sig.returnType = some .boolean) (hlk : meth.locks = false) (hnm : meth.name = "isSeen") (hfree : ∀ q, A q → free q) (hJ : ∀ t, mm_SK p l e (mm_rm (d + 1) 0 0) s m args below meth c (MQ below (mm_Qc D pcl Q ad0 cA0 μ0 0 A) args s 0 0 free) D pcl A 3 (mm_EX EXT A s ad0 cA0 (mm_n μ0)) (pp_X6_isSeen t) (J t)) : ∀ t, mm_SK p l e (mm_rm (d + 1) 0 0) s m args below meth c (MQ below (mm_Qc D pcl Q ad0 cA0 μ0 0 A) args s 0 0 free) D pcl A 3 (mm_EX EXT A s ad0 cA0 (mm_n μ0)) (pp_X6_isSeen t) (pb_X6_isSeen J C Q t) := by
  intro t
  match t with
  | 0 =>
    refine so_aload_n (pc := 0) (i := 0) X (by decide +kernel) ?_
    refine so_getr (pc := 1) (index := 46) (ci := 6) (f := 12) (N := 14) (C := RX6) (T := TX6) X rfl uX6 (by decide) (by decide) tw_247 rfl (by decide +kernel) ?_
    refine so_aload_n (pc := 4) (i := 1) X (by decide +kernel) ?_
    refine so_getr (pc := 5) (index := 88) (ci := 5) (f := 0) (N := 6) (C := RX5) (T := TX5) X rfl uX5 (by decide) (by decide) tw_279 rfl (by decide +kernel) ?_
    refine so_aload_n (pc := 8) (i := 0) X (by decide +kernel) ?_
    refine so_getr (pc := 9) (index := 9) (ci := 6) (f := 0) (N := 14) (C := RX6) (T := TX6) X rfl uX6 (by decide) (by decide) tw_227 rfl (by decide +kernel) ?_
    refine so_iload_n (pc := 12) (i := 2) X (by decide +kernel) ?_
    refine so_iconst (pc := 13) (n := 4) (v := 4) X (by decide +kernel) (by decide) ?_
    refine so_imul (pc := 14) X (by decide +kernel) ?_
    refine so_cav (pc := 15) (y := 23) (na := 4) (index := 222) (maxL := 5) (nm := yX2_truth) (bytes := cX2_truth) (ret := (some .int)) (ci := 2) (N := 3) (T := TX2) X hxo (fun _ _ _ _ h => h.1) hC lw_good (Nat.le_refl _) (mm_lo d) rfl (by decide) tw_348 tw_349 tw_122 rfl (by decide) tw_350 tw_351 (by decide +kernel) (by decide +kernel) ?_
    refine so_iconst (pc := 18) (n := 1) (v := 1) X (by decide +kernel) (by decide) ?_
    refine so_icmp_ne (pc := 19) (off := 7) (tgt := 26) X (by decide +kernel) (by decide) (hJ 1) ?_
    refine so_iconst (pc := 22) (n := 1) (v := 1) X (by decide +kernel) (by decide) ?_
    exact so_goto (pc := 23) (off := 4) (tgt := 27) X (by decide +kernel) (by decide) (hJ 2)
  | 1 =>
    refine so_iconst (pc := 26) (n := 0) (v := 0) X (by decide +kernel) (by decide) ?_
    exact so_fall X (hJ 2)
  | 2 =>
    exact so_rtz (pc := 27) X hlk hfree hr (by decide +kernel)
  | n + 3 => exact fun _ _ _ _ h => h.elim
theorem bs_X6_isSeen {l : Launch} {D : va_G} {EXT : (Nat → Nat) → (Nat → Prop) → State → Heap → Prop} (hxo : mm_xo EXT) (hxe : ∀ ad A U H, EXT ad A U H → px_E0 ad A U H) : mm_BS l D pcl lw_T EXT px_tab 85 pb_X6_isSeen pp_X6_isSeen := by
  intro d C hC p e s m args below meth c A ad0 cA0 μ0 free Q J
  rw [tb_85]
  exact fun X hr hlk hnm hfree hJ => bk_X6_isSeen hxo hxe hC X hr hlk hnm hfree hJ
set_option maxHeartbeats 4000000 in
set_option maxRecDepth 100000 in
theorem bk_X6_isMatch {l : Launch} {D : va_G} {EXT : (Nat → Nat) → (Nat → Prop) → State → Heap → Prop} (hxo : mm_xo EXT) (hxe : ∀ ad A U H, EXT ad A U H → px_E0 ad A U H) {d : Nat} {C : mm_C} (hC : mm_CS l D pcl lw_T EXT px_tab d C) {p : Program} {e : Env} {s : State} {m : MethodId} {args : Array Value} {below : List Frame} {meth : Method} {c : Code} {A : Nat → Prop} {ad0 : Nat → Nat} {cA0 : Nat → ClassId} {μ0 : mm_M} {free : Addr → Prop} {Q : mm_Q} {J : mm_J} (X : mm_cx p (mm_rm (d + 1) 0 0) s m args c cX6_isMatch RX6 lw_T A D pcl 4) (hr : meth.sig.returnType = some .boolean) (hlk : meth.locks = false) (hnm : meth.name = "isMatch") (hfree : ∀ q, A q → free q) (hJ : ∀ t, mm_SK p l e (mm_rm (d + 1) 0 0) s m args below meth c (MQ below (mm_Qc D pcl Q ad0 cA0 μ0 0 A) args s 0 0 free) D pcl A 4 (mm_EX EXT A s ad0 cA0 (mm_n μ0)) (pp_X6_isMatch t) (J t)) : ∀ t, mm_SK p l e (mm_rm (d + 1) 0 0) s m args below meth c (MQ below (mm_Qc D pcl Q ad0 cA0 μ0 0 A) args s 0 0 free) D pcl A 4 (mm_EX EXT A s ad0 cA0 (mm_n μ0)) (pp_X6_isMatch t) (pb_X6_isMatch J C Q t) := by
  intro t
  match t with
  | 0 =>
    refine so_aload_n (pc := 0) (i := 0) X (by decide +kernel) ?_
    refine so_aload_n (pc := 1) (i := 1) X (by decide +kernel) ?_
    refine so_iload_n (pc := 2) (i := 3) X (by decide +kernel) ?_
    refine so_cav (pc := 3) (y := 85) (na := 3) (index := 226) (maxL := 3) (nm := yX6_isSeen) (bytes := cX6_isSeen) (ret := (some .boolean)) (ci := 6) (N := 14) (T := TX6) X hxo (fun _ _ _ _ h => h.1) hC lw_good (Nat.le_refl _) (mm_lo d) rfl (by decide) tw_352 tw_353 tw_259 rfl (by decide) tw_354 tw_355 (by decide +kernel) (by decide +kernel) ?_
    refine so_if_eq (pc := 6) (off := 26) (tgt := 32) X (by decide +kernel) (by decide) (hJ 1) ?_
    refine so_aload_n (pc := 9) (i := 0) X (by decide +kernel) ?_
    refine so_getr (pc := 10) (index := 46) (ci := 6) (f := 12) (N := 14) (C := RX6) (T := TX6) X rfl uX6 (by decide) (by decide) tw_247 rfl (by decide +kernel) ?_
    refine so_aload_n (pc := 13) (i := 2) X (by decide +kernel) ?_
    refine so_aload_n (pc := 14) (i := 0) X (by decide +kernel) ?_
    refine so_getr (pc := 15) (index := 9) (ci := 6) (f := 0) (N := 14) (C := RX6) (T := TX6) X rfl uX6 (by decide) (by decide) tw_227 rfl (by decide +kernel) ?_
    refine so_iload_n (pc := 18) (i := 3) X (by decide +kernel) ?_
    refine so_iconst (pc := 19) (n := 4) (v := 4) X (by decide +kernel) (by decide) ?_
    refine so_imul (pc := 20) X (by decide +kernel) ?_
    refine so_cav (pc := 21) (y := 23) (na := 4) (index := 222) (maxL := 5) (nm := yX2_truth) (bytes := cX2_truth) (ret := (some .int)) (ci := 2) (N := 3) (T := TX2) X hxo (fun _ _ _ _ h => h.1) hC lw_good (Nat.le_refl _) (mm_lo d) rfl (by decide) tw_348 tw_349 tw_122 rfl (by decide) tw_350 tw_351 (by decide +kernel) (by decide +kernel) ?_
    refine so_iconst (pc := 24) (n := 1) (v := 1) X (by decide +kernel) (by decide) ?_
    refine so_icmp_ne (pc := 25) (off := 7) (tgt := 32) X (by decide +kernel) (by decide) (hJ 1) ?_
    refine so_iconst (pc := 28) (n := 1) (v := 1) X (by decide +kernel) (by decide) ?_
    exact so_goto (pc := 29) (off := 4) (tgt := 33) X (by decide +kernel) (by decide) (hJ 2)
  | 1 =>
    refine so_iconst (pc := 32) (n := 0) (v := 0) X (by decide +kernel) (by decide) ?_
    exact so_fall X (hJ 2)
  | 2 =>
    exact so_rtz (pc := 33) X hlk hfree hr (by decide +kernel)
  | n + 3 => exact fun _ _ _ _ h => h.elim
theorem bs_X6_isMatch {l : Launch} {D : va_G} {EXT : (Nat → Nat) → (Nat → Prop) → State → Heap → Prop} (hxo : mm_xo EXT) (hxe : ∀ ad A U H, EXT ad A U H → px_E0 ad A U H) : mm_BS l D pcl lw_T EXT px_tab 86 pb_X6_isMatch pp_X6_isMatch := by
  intro d C hC p e s m args below meth c A ad0 cA0 μ0 free Q J
  rw [tb_86]
  exact fun X hr hlk hnm hfree hJ => bk_X6_isMatch hxo hxe hC X hr hlk hnm hfree hJ
set_option maxHeartbeats 4000000 in
set_option maxRecDepth 100000 in
theorem bk_X6_countByRule {l : Launch} {D : va_G} {EXT : (Nat → Nat) → (Nat → Prop) → State → Heap → Prop} (hxo : mm_xo EXT) (hxe : ∀ ad A U H, EXT ad A U H → px_E0 ad A U H) {d : Nat} {C : mm_C} (hC : mm_CS l D pcl lw_T EXT px_tab d C) {p : Program} {e : Env} {s : State} {m : MethodId} {args : Array Value} {below : List Frame} {meth : Method} {c : Code} {A : Nat → Prop} {ad0 : Nat → Nat} {cA0 : Nat → ClassId} {μ0 : mm_M} {free : Addr → Prop} {Q : mm_Q} {J : mm_J} (X : mm_cx p (mm_rm (d + 1) 0 0) s m args c cX6_countByRule RX6 lw_T A D pcl 5) (hr : meth.sig.returnType = some .int) (hlk : meth.locks = false) (hnm : meth.name = "countByRule") (hfree : ∀ q, A q → free q) (hJ : ∀ t, mm_SK p l e (mm_rm (d + 1) 0 0) s m args below meth c (MQ below (mm_Qc D pcl Q ad0 cA0 μ0 0 A) args s 0 0 free) D pcl A 5 (mm_EX EXT A s ad0 cA0 (mm_n μ0)) (pp_X6_countByRule t) (J t)) : ∀ t, mm_SK p l e (mm_rm (d + 1) 0 0) s m args below meth c (MQ below (mm_Qc D pcl Q ad0 cA0 μ0 0 A) args s 0 0 free) D pcl A 5 (mm_EX EXT A s ad0 cA0 (mm_n μ0)) (pp_X6_countByRule t) (pb_X6_countByRule J C Q t) := by
  intro t
  match t with
  | 0 =>
    refine so_iconst (pc := 0) (n := 0) (v := 0) X (by decide +kernel) (by decide) ?_
    refine so_istore_n (pc := 1) (i := 3) X (by decide +kernel) (by decide) ?_
    refine so_iconst (pc := 2) (n := 0) (v := 0) X (by decide +kernel) (by decide) ?_
    refine so_istore (pc := 3) (i := 4) X (by decide +kernel) (by decide) ?_
    exact so_fall X (hJ 1)
  | 1 =>
    refine so_iload (pc := 5) (i := 4) X (by decide +kernel) ?_
    refine so_aload_n (pc := 7) (i := 0) X (by decide +kernel) ?_
    refine so_geti (pc := 8) (index := 62) (ci := 6) (f := 1) (N := 14) (C := RX6) (T := TX6) X rfl uX6 (by decide) (by decide) tw_256 rfl (by decide) (by decide +kernel) ?_
    refine so_icmp_ge (pc := 11) (off := 35) (tgt := 46) X (by decide +kernel) (by decide) (hJ 3) ?_
    refine so_aload_n (pc := 14) (i := 0) X (by decide +kernel) ?_
    refine so_getr (pc := 15) (index := 46) (ci := 6) (f := 12) (N := 14) (C := RX6) (T := TX6) X rfl uX6 (by decide) (by decide) tw_247 rfl (by decide +kernel) ?_
    refine so_aload_n (pc := 18) (i := 1) X (by decide +kernel) ?_
    refine so_getr (pc := 19) (index := 88) (ci := 5) (f := 0) (N := 6) (C := RX5) (T := TX5) X rfl uX5 (by decide) (by decide) tw_279 rfl (by decide +kernel) ?_
    refine so_aload_n (pc := 22) (i := 0) X (by decide +kernel) ?_
    refine so_getr (pc := 23) (index := 9) (ci := 6) (f := 0) (N := 14) (C := RX6) (T := TX6) X rfl uX6 (by decide) (by decide) tw_227 rfl (by decide +kernel) ?_
    refine so_iload (pc := 26) (i := 4) X (by decide +kernel) ?_
    refine so_iconst (pc := 28) (n := 4) (v := 4) X (by decide +kernel) (by decide) ?_
    refine so_imul (pc := 29) X (by decide +kernel) ?_
    refine so_cav (pc := 30) (y := 23) (na := 4) (index := 222) (maxL := 5) (nm := yX2_truth) (bytes := cX2_truth) (ret := (some .int)) (ci := 2) (N := 3) (T := TX2) X hxo (fun _ _ _ _ h => h.1) hC lw_good (Nat.le_refl _) (mm_lo d) rfl (by decide) tw_348 tw_349 tw_122 rfl (by decide) tw_350 tw_351 (by decide +kernel) (by decide +kernel) ?_
    refine so_iload_n (pc := 33) (i := 2) X (by decide +kernel) ?_
    refine so_icmp_ne (pc := 34) (off := 6) (tgt := 40) X (by decide +kernel) (by decide) (hJ 2) ?_
    refine so_iinc (pc := 37) (i := 3) (n := 1) (y := 1) X (by decide +kernel) (by decide) (by decide) ?_
    exact so_fall X (hJ 2)
  | 2 =>
    refine so_iinc (pc := 40) (i := 4) (n := 1) (y := 1) X (by decide +kernel) (by decide) (by decide) ?_
    exact so_goto (pc := 43) (off := (-38)) (tgt := 5) X (by decide +kernel) (by decide) (hJ 1)
  | 3 =>
    refine so_iload_n (pc := 46) (i := 3) X (by decide +kernel) ?_
    exact so_ret (pc := 47) X hlk hfree hr (by decide +kernel)
  | n + 4 => exact fun _ _ _ _ h => h.elim
theorem bs_X6_countByRule {l : Launch} {D : va_G} {EXT : (Nat → Nat) → (Nat → Prop) → State → Heap → Prop} (hxo : mm_xo EXT) (hxe : ∀ ad A U H, EXT ad A U H → px_E0 ad A U H) : mm_BS l D pcl lw_T EXT px_tab 87 pb_X6_countByRule pp_X6_countByRule := by
  intro d C hC p e s m args below meth c A ad0 cA0 μ0 free Q J
  rw [tb_87]
  exact fun X hr hlk hnm hfree hJ => bk_X6_countByRule hxo hxe hC X hr hlk hnm hfree hJ
set_option maxHeartbeats 4000000 in
set_option maxRecDepth 100000 in
theorem bk_X6_countBetween {l : Launch} {D : va_G} {EXT : (Nat → Nat) → (Nat → Prop) → State → Heap → Prop} (hxo : mm_xo EXT) (hxe : ∀ ad A U H, EXT ad A U H → px_E0 ad A U H) {d : Nat} {C : mm_C} (hC : mm_CS l D pcl lw_T EXT px_tab d C) {p : Program} {e : Env} {s : State} {m : MethodId} {args : Array Value} {below : List Frame} {meth : Method} {c : Code} {A : Nat → Prop} {ad0 : Nat → Nat} {cA0 : Nat → ClassId} {μ0 : mm_M} {free : Addr → Prop} {Q : mm_Q} {J : mm_J} (X : mm_cx p (mm_rm (d + 1) 0 0) s m args c cX6_countBetween RX6 lw_T A D pcl 8) (hr : meth.sig.returnType = some .int) (hlk : meth.locks = false) (hnm : meth.name = "countBetween") (hfree : ∀ q, A q → free q) (hJ : ∀ t, mm_SK p l e (mm_rm (d + 1) 0 0) s m args below meth c (MQ below (mm_Qc D pcl Q ad0 cA0 μ0 0 A) args s 0 0 free) D pcl A 8 (mm_EX EXT A s ad0 cA0 (mm_n μ0)) (pp_X6_countBetween t) (J t)) : ∀ t, mm_SK p l e (mm_rm (d + 1) 0 0) s m args below meth c (MQ below (mm_Qc D pcl Q ad0 cA0 μ0 0 A) args s 0 0 free) D pcl A 8 (mm_EX EXT A s ad0 cA0 (mm_n μ0)) (pp_X6_countBetween t) (pb_X6_countBetween J C Q t) := by
  intro t
  match t with
  | 0 =>
    refine so_iconst (pc := 0) (n := 0) (v := 0) X (by decide +kernel) (by decide) ?_
    refine so_istore (pc := 1) (i := 5) X (by decide +kernel) (by decide) ?_
    refine so_iconst (pc := 3) (n := 0) (v := 0) X (by decide +kernel) (by decide) ?_
    refine so_istore (pc := 4) (i := 6) X (by decide +kernel) (by decide) ?_
    exact so_fall X (hJ 1)
  | 1 =>
    refine so_iload (pc := 6) (i := 6) X (by decide +kernel) ?_
    refine so_aload_n (pc := 8) (i := 0) X (by decide +kernel) ?_
    refine so_geti (pc := 9) (index := 62) (ci := 6) (f := 1) (N := 14) (C := RX6) (T := TX6) X rfl uX6 (by decide) (by decide) tw_256 rfl (by decide) (by decide +kernel) ?_
    refine so_icmp_ge (pc := 12) (off := 48) (tgt := 60) X (by decide +kernel) (by decide) (hJ 3) ?_
    refine so_aload_n (pc := 15) (i := 0) X (by decide +kernel) ?_
    refine so_getr (pc := 16) (index := 9) (ci := 6) (f := 0) (N := 14) (C := RX6) (T := TX6) X rfl uX6 (by decide) (by decide) tw_227 rfl (by decide +kernel) ?_
    refine so_iload (pc := 19) (i := 6) X (by decide +kernel) ?_
    refine so_iconst (pc := 21) (n := 4) (v := 4) X (by decide +kernel) (by decide) ?_
    refine so_imul (pc := 22) X (by decide +kernel) ?_
    refine so_iload_n (pc := 23) (i := 2) X (by decide +kernel) ?_
    refine so_iadd (pc := 24) X (by decide +kernel) ?_
    refine so_iald (pc := 25) X (by decide +kernel) ?_
    refine so_istore (pc := 26) (i := 7) X (by decide +kernel) (by decide) ?_
    refine so_iload (pc := 28) (i := 7) X (by decide +kernel) ?_
    refine so_iload_n (pc := 30) (i := 3) X (by decide +kernel) ?_
    refine so_icmp_lt (pc := 31) (off := 23) (tgt := 54) X (by decide +kernel) (by decide) (hJ 2) ?_
    refine so_iload (pc := 34) (i := 7) X (by decide +kernel) ?_
    refine so_iload (pc := 36) (i := 4) X (by decide +kernel) ?_
    refine so_icmp_gt (pc := 38) (off := 16) (tgt := 54) X (by decide +kernel) (by decide) (hJ 2) ?_
    refine so_aload_n (pc := 41) (i := 0) X (by decide +kernel) ?_
    refine so_aload_n (pc := 42) (i := 1) X (by decide +kernel) ?_
    refine so_iload (pc := 43) (i := 6) X (by decide +kernel) ?_
    refine so_cav (pc := 45) (y := 85) (na := 3) (index := 226) (maxL := 3) (nm := yX6_isSeen) (bytes := cX6_isSeen) (ret := (some .boolean)) (ci := 6) (N := 14) (T := TX6) X hxo (fun _ _ _ _ h => h.1) hC lw_good (Nat.le_refl _) (mm_lo d) rfl (by decide) tw_352 tw_353 tw_259 rfl (by decide) tw_354 tw_355 (by decide +kernel) (by decide +kernel) ?_
    refine so_if_eq (pc := 48) (off := 6) (tgt := 54) X (by decide +kernel) (by decide) (hJ 2) ?_
    refine so_iinc (pc := 51) (i := 5) (n := 1) (y := 1) X (by decide +kernel) (by decide) (by decide) ?_
    exact so_fall X (hJ 2)
  | 2 =>
    refine so_iinc (pc := 54) (i := 6) (n := 1) (y := 1) X (by decide +kernel) (by decide) (by decide) ?_
    exact so_goto (pc := 57) (off := (-51)) (tgt := 6) X (by decide +kernel) (by decide) (hJ 1)
  | 3 =>
    refine so_iload (pc := 60) (i := 5) X (by decide +kernel) ?_
    exact so_ret (pc := 62) X hlk hfree hr (by decide +kernel)
  | n + 4 => exact fun _ _ _ _ h => h.elim
theorem bs_X6_countBetween {l : Launch} {D : va_G} {EXT : (Nat → Nat) → (Nat → Prop) → State → Heap → Prop} (hxo : mm_xo EXT) (hxe : ∀ ad A U H, EXT ad A U H → px_E0 ad A U H) : mm_BS l D pcl lw_T EXT px_tab 88 pb_X6_countBetween pp_X6_countBetween := by
  intro d C hC p e s m args below meth c A ad0 cA0 μ0 free Q J
  rw [tb_88]
  exact fun X hr hlk hnm hfree hJ => bk_X6_countBetween hxo hxe hC X hr hlk hnm hfree hJ
set_option maxHeartbeats 4000000 in
set_option maxRecDepth 100000 in
theorem bk_X6_moveCursor {l : Launch} {D : va_G} {EXT : (Nat → Nat) → (Nat → Prop) → State → Heap → Prop} (hxo : mm_xo EXT) (hxe : ∀ ad A U H, EXT ad A U H → px_E0 ad A U H) {d : Nat} {C : mm_C} (hC : mm_CS l D pcl lw_T EXT px_tab d C) {p : Program} {e : Env} {s : State} {m : MethodId} {args : Array Value} {below : List Frame} {meth : Method} {c : Code} {A : Nat → Prop} {ad0 : Nat → Nat} {cA0 : Nat → ClassId} {μ0 : mm_M} {free : Addr → Prop} {Q : mm_Q} {J : mm_J} (X : mm_cx p (mm_rm (d + 1) 0 0) s m args c cX6_moveCursor RX6 lw_T A D pcl 3) (hr : meth.sig.returnType = some .int) (hlk : meth.locks = false) (hnm : meth.name = "moveCursor") (hfree : ∀ q, A q → free q) (hJ : ∀ t, mm_SK p l e (mm_rm (d + 1) 0 0) s m args below meth c (MQ below (mm_Qc D pcl Q ad0 cA0 μ0 0 A) args s 0 0 free) D pcl A 3 (mm_EX EXT A s ad0 cA0 (mm_n μ0)) (pp_X6_moveCursor t) (J t)) : ∀ t, mm_SK p l e (mm_rm (d + 1) 0 0) s m args below meth c (MQ below (mm_Qc D pcl Q ad0 cA0 μ0 0 A) args s 0 0 free) D pcl A 3 (mm_EX EXT A s ad0 cA0 (mm_n μ0)) (pp_X6_moveCursor t) (pb_X6_moveCursor J C Q t) := by
  intro t
  match t with
  | 0 =>
    refine so_aload_n (pc := 0) (i := 1) X (by decide +kernel) ?_
    refine so_geti (pc := 1) (index := 230) (ci := 5) (f := 5) (N := 6) (C := RX5) (T := TX5) X rfl uX5 (by decide) (by decide) tw_356 rfl (by decide) (by decide +kernel) ?_
    refine so_iconst (pc := 4) (n := 1) (v := 1) X (by decide +kernel) (by decide) ?_
    refine so_iadd (pc := 5) X (by decide +kernel) ?_
    refine so_istore_n (pc := 6) (i := 2) X (by decide +kernel) (by decide) ?_
    exact so_fall X (hJ 1)
  | 1 =>
    refine so_iload_n (pc := 7) (i := 2) X (by decide +kernel) ?_
    refine so_aload_n (pc := 8) (i := 0) X (by decide +kernel) ?_
    refine so_geti (pc := 9) (index := 62) (ci := 6) (f := 1) (N := 14) (C := RX6) (T := TX6) X rfl uX6 (by decide) (by decide) tw_256 rfl (by decide) (by decide +kernel) ?_
    refine so_icmp_ge (pc := 12) (off := 29) (tgt := 41) X (by decide +kernel) (by decide) (hJ 3) ?_
    refine so_aload_n (pc := 15) (i := 0) X (by decide +kernel) ?_
    refine so_aload_n (pc := 16) (i := 1) X (by decide +kernel) ?_
    refine so_aload_n (pc := 17) (i := 1) X (by decide +kernel) ?_
    refine so_getr (pc := 18) (index := 174) (ci := 5) (f := 1) (N := 6) (C := RX5) (T := TX5) X rfl uX5 (by decide) (by decide) tw_314 rfl (by decide +kernel) ?_
    refine so_iload_n (pc := 21) (i := 2) X (by decide +kernel) ?_
    refine so_cav (pc := 22) (y := 86) (na := 4) (index := 119) (maxL := 4) (nm := yX6_isMatch) (bytes := cX6_isMatch) (ret := (some .boolean)) (ci := 6) (N := 14) (T := TX6) X hxo (fun _ _ _ _ h => h.1) hC lw_good (Nat.le_refl _) (mm_lo d) rfl (by decide) tw_293 tw_294 tw_259 rfl (by decide) tw_295 tw_296 (by decide +kernel) (by decide +kernel) ?_
    refine so_if_eq (pc := 25) (off := 10) (tgt := 35) X (by decide +kernel) (by decide) (hJ 2) ?_
    refine so_aload_n (pc := 28) (i := 1) X (by decide +kernel) ?_
    refine so_iload_n (pc := 29) (i := 2) X (by decide +kernel) ?_
    refine so_puti (pc := 30) (index := 230) (ci := 5) (f := 5) (N := 6) (C := RX5) (T := TX5) X rfl uX5 (by decide) (by decide) tw_356 tyX5 tyX5_ok nmX5 rfl (by decide +kernel) rfl (by decide +kernel) ?_
    refine so_iload_n (pc := 33) (i := 2) X (by decide +kernel) ?_
    exact so_ret (pc := 34) X hlk hfree hr (by decide +kernel)
  | 2 =>
    refine so_iinc (pc := 35) (i := 2) (n := 1) (y := 1) X (by decide +kernel) (by decide) (by decide) ?_
    exact so_goto (pc := 38) (off := (-31)) (tgt := 7) X (by decide +kernel) (by decide) (hJ 1)
  | 3 =>
    refine so_aload_n (pc := 41) (i := 1) X (by decide +kernel) ?_
    refine so_aload_n (pc := 42) (i := 0) X (by decide +kernel) ?_
    refine so_geti (pc := 43) (index := 62) (ci := 6) (f := 1) (N := 14) (C := RX6) (T := TX6) X rfl uX6 (by decide) (by decide) tw_256 rfl (by decide) (by decide +kernel) ?_
    refine so_iconst (pc := 46) (n := 1) (v := 1) X (by decide +kernel) (by decide) ?_
    refine so_isub (pc := 47) X (by decide +kernel) ?_
    refine so_puti (pc := 48) (index := 230) (ci := 5) (f := 5) (N := 6) (C := RX5) (T := TX5) X rfl uX5 (by decide) (by decide) tw_356 tyX5 tyX5_ok nmX5 rfl (by decide +kernel) rfl (by decide +kernel) ?_
    refine so_bipush (pc := 51) (n := (-3)) (v := (-3)) X (by decide +kernel) (by decide) ?_
    exact so_ret (pc := 53) X hlk hfree hr (by decide +kernel)
  | n + 4 => exact fun _ _ _ _ h => h.elim
theorem bs_X6_moveCursor {l : Launch} {D : va_G} {EXT : (Nat → Nat) → (Nat → Prop) → State → Heap → Prop} (hxo : mm_xo EXT) (hxe : ∀ ad A U H, EXT ad A U H → px_E0 ad A U H) : mm_BS l D pcl lw_T EXT px_tab 89 pb_X6_moveCursor pp_X6_moveCursor := by
  intro d C hC p e s m args below meth c A ad0 cA0 μ0 free Q J
  rw [tb_89]
  exact fun X hr hlk hnm hfree hJ => bk_X6_moveCursor hxo hxe hC X hr hlk hnm hfree hJ
set_option maxHeartbeats 4000000 in
set_option maxRecDepth 100000 in
theorem bk_X6_hiddenFrom {l : Launch} {D : va_G} {EXT : (Nat → Nat) → (Nat → Prop) → State → Heap → Prop} (hxo : mm_xo EXT) (hxe : ∀ ad A U H, EXT ad A U H → px_E0 ad A U H) {d : Nat} {C : mm_C} (hC : mm_CS l D pcl lw_T EXT px_tab d C) {p : Program} {e : Env} {s : State} {m : MethodId} {args : Array Value} {below : List Frame} {meth : Method} {c : Code} {A : Nat → Prop} {ad0 : Nat → Nat} {cA0 : Nat → ClassId} {μ0 : mm_M} {free : Addr → Prop} {Q : mm_Q} {J : mm_J} (X : mm_cx p (mm_rm (d + 1) 0 0) s m args c cX6_hiddenFrom RX6 lw_T A D pcl 6) (hr : meth.sig.returnType = some .int) (hlk : meth.locks = false) (hnm : meth.name = "hiddenFrom") (hfree : ∀ q, A q → free q) (hJ : ∀ t, mm_SK p l e (mm_rm (d + 1) 0 0) s m args below meth c (MQ below (mm_Qc D pcl Q ad0 cA0 μ0 0 A) args s 0 0 free) D pcl A 6 (mm_EX EXT A s ad0 cA0 (mm_n μ0)) (pp_X6_hiddenFrom t) (J t)) : ∀ t, mm_SK p l e (mm_rm (d + 1) 0 0) s m args below meth c (MQ below (mm_Qc D pcl Q ad0 cA0 μ0 0 A) args s 0 0 free) D pcl A 6 (mm_EX EXT A s ad0 cA0 (mm_n μ0)) (pp_X6_hiddenFrom t) (pb_X6_hiddenFrom J C Q t) := by
  intro t
  match t with
  | 0 =>
    refine so_aload_n (pc := 0) (i := 1) X (by decide +kernel) ?_
    refine so_iconst (pc := 1) (n := 1) (v := 1) X (by decide +kernel) (by decide) ?_
    refine so_iload_n (pc := 2) (i := 2) X (by decide +kernel) ?_
    refine so_ishl (pc := 3) X (by decide +kernel) ?_
    refine so_cav (pc := 4) (y := 54) (na := 2) (index := 161) (maxL := 2) (nm := yX5_hasClosed) (bytes := cX5_hasClosed) (ret := (some .boolean)) (ci := 5) (N := 6) (T := TX5) X hxo (fun _ _ _ _ h => h.1) hC lw_good (Nat.le_refl _) (mm_lo d) rfl (by decide) tw_297 tw_298 tw_251 rfl (by decide) tw_299 tw_300 (by decide +kernel) (by decide +kernel) ?_
    refine so_istore_n (pc := 7) (i := 3) X (by decide +kernel) (by decide) ?_
    refine so_iconst (pc := 8) (n := 0) (v := 0) X (by decide +kernel) (by decide) ?_
    refine so_istore (pc := 9) (i := 4) X (by decide +kernel) (by decide) ?_
    refine so_iconst (pc := 11) (n := 0) (v := 0) X (by decide +kernel) (by decide) ?_
    refine so_istore (pc := 12) (i := 5) X (by decide +kernel) (by decide) ?_
    exact so_fall X (hJ 1)
  | 1 =>
    refine so_iload (pc := 14) (i := 5) X (by decide +kernel) ?_
    refine so_aload_n (pc := 16) (i := 0) X (by decide +kernel) ?_
    refine so_geti (pc := 17) (index := 62) (ci := 6) (f := 1) (N := 14) (C := RX6) (T := TX6) X rfl uX6 (by decide) (by decide) tw_256 rfl (by decide) (by decide +kernel) ?_
    refine so_icmp_ge (pc := 20) (off := 32) (tgt := 52) X (by decide +kernel) (by decide) (hJ 4) ?_
    refine so_iload_n (pc := 23) (i := 3) X (by decide +kernel) ?_
    refine so_if_ne (pc := 24) (off := 13) (tgt := 37) X (by decide +kernel) (by decide) (hJ 2) ?_
    refine so_aload_n (pc := 27) (i := 0) X (by decide +kernel) ?_
    refine so_aload_n (pc := 28) (i := 1) X (by decide +kernel) ?_
    refine so_iload (pc := 29) (i := 5) X (by decide +kernel) ?_
    refine so_cav (pc := 31) (y := 85) (na := 3) (index := 226) (maxL := 3) (nm := yX6_isSeen) (bytes := cX6_isSeen) (ret := (some .boolean)) (ci := 6) (N := 14) (T := TX6) X hxo (fun _ _ _ _ h => h.1) hC lw_good (Nat.le_refl _) (mm_lo d) rfl (by decide) tw_352 tw_353 tw_259 rfl (by decide) tw_354 tw_355 (by decide +kernel) (by decide +kernel) ?_
    refine so_if_ne (pc := 34) (off := 12) (tgt := 46) X (by decide +kernel) (by decide) (hJ 3) ?_
    exact so_fall X (hJ 2)
  | 2 =>
    refine so_iload (pc := 37) (i := 4) X (by decide +kernel) ?_
    refine so_iconst (pc := 39) (n := 1) (v := 1) X (by decide +kernel) (by decide) ?_
    refine so_iload (pc := 40) (i := 5) X (by decide +kernel) ?_
    refine so_ishl (pc := 42) X (by decide +kernel) ?_
    refine so_ior (pc := 43) X (by decide +kernel) ?_
    refine so_istore (pc := 44) (i := 4) X (by decide +kernel) (by decide) ?_
    exact so_fall X (hJ 3)
  | 3 =>
    refine so_iinc (pc := 46) (i := 5) (n := 1) (y := 1) X (by decide +kernel) (by decide) (by decide) ?_
    exact so_goto (pc := 49) (off := (-35)) (tgt := 14) X (by decide +kernel) (by decide) (hJ 1)
  | 4 =>
    refine so_iload (pc := 52) (i := 4) X (by decide +kernel) ?_
    exact so_ret (pc := 54) X hlk hfree hr (by decide +kernel)
  | n + 5 => exact fun _ _ _ _ h => h.elim
theorem bs_X6_hiddenFrom {l : Launch} {D : va_G} {EXT : (Nat → Nat) → (Nat → Prop) → State → Heap → Prop} (hxo : mm_xo EXT) (hxe : ∀ ad A U H, EXT ad A U H → px_E0 ad A U H) : mm_BS l D pcl lw_T EXT px_tab 90 pb_X6_hiddenFrom pp_X6_hiddenFrom := by
  intro d C hC p e s m args below meth c A ad0 cA0 μ0 free Q J
  rw [tb_90]
  exact fun X hr hlk hnm hfree hJ => bk_X6_hiddenFrom hxo hxe hC X hr hlk hnm hfree hJ
set_option maxHeartbeats 4000000 in
set_option maxRecDepth 100000 in
theorem bk_X6_total {l : Launch} {D : va_G} {EXT : (Nat → Nat) → (Nat → Prop) → State → Heap → Prop} (hxo : mm_xo EXT) (hxe : ∀ ad A U H, EXT ad A U H → px_E0 ad A U H) {d : Nat} {C : mm_C} (hC : mm_CS l D pcl lw_T EXT px_tab d C) {p : Program} {e : Env} {s : State} {m : MethodId} {args : Array Value} {below : List Frame} {meth : Method} {c : Code} {A : Nat → Prop} {ad0 : Nat → Nat} {cA0 : Nat → ClassId} {μ0 : mm_M} {free : Addr → Prop} {Q : mm_Q} {J : mm_J} (X : mm_cx p (mm_rm (d + 1) 0 0) s m args c cX6_total RX6 lw_T A D pcl 5) (hr : meth.sig.returnType = some .int) (hlk : meth.locks = false) (hnm : meth.name = "total") (hfree : ∀ q, A q → free q) (hJ : ∀ t, mm_SK p l e (mm_rm (d + 1) 0 0) s m args below meth c (MQ below (mm_Qc D pcl Q ad0 cA0 μ0 0 A) args s 0 0 free) D pcl A 5 (mm_EX EXT A s ad0 cA0 (mm_n μ0)) (pp_X6_total t) (J t)) : ∀ t, mm_SK p l e (mm_rm (d + 1) 0 0) s m args below meth c (MQ below (mm_Qc D pcl Q ad0 cA0 μ0 0 A) args s 0 0 free) D pcl A 5 (mm_EX EXT A s ad0 cA0 (mm_n μ0)) (pp_X6_total t) (pb_X6_total J C Q t) := by
  intro t
  match t with
  | 0 =>
    refine so_iconst (pc := 0) (n := 0) (v := 0) X (by decide +kernel) (by decide) ?_
    refine so_istore_n (pc := 1) (i := 3) X (by decide +kernel) (by decide) ?_
    refine so_iconst (pc := 2) (n := 0) (v := 0) X (by decide +kernel) (by decide) ?_
    refine so_istore (pc := 3) (i := 4) X (by decide +kernel) (by decide) ?_
    exact so_fall X (hJ 1)
  | 1 =>
    refine so_iload (pc := 5) (i := 4) X (by decide +kernel) ?_
    refine so_aload_n (pc := 7) (i := 0) X (by decide +kernel) ?_
    refine so_geti (pc := 8) (index := 62) (ci := 6) (f := 1) (N := 14) (C := RX6) (T := TX6) X rfl uX6 (by decide) (by decide) tw_256 rfl (by decide) (by decide +kernel) ?_
    refine so_icmp_ge (pc := 11) (off := 32) (tgt := 43) X (by decide +kernel) (by decide) (hJ 3) ?_
    refine so_iload_n (pc := 14) (i := 2) X (by decide +kernel) ?_
    refine so_iload (pc := 15) (i := 4) X (by decide +kernel) ?_
    refine so_ishr (pc := 17) X (by decide +kernel) ?_
    refine so_iconst (pc := 18) (n := 1) (v := 1) X (by decide +kernel) (by decide) ?_
    refine so_iand (pc := 19) X (by decide +kernel) ?_
    refine so_if_eq (pc := 20) (off := 17) (tgt := 37) X (by decide +kernel) (by decide) (hJ 2) ?_
    refine so_iload_n (pc := 23) (i := 3) X (by decide +kernel) ?_
    refine so_aload_n (pc := 24) (i := 0) X (by decide +kernel) ?_
    refine so_getr (pc := 25) (index := 9) (ci := 6) (f := 0) (N := 14) (C := RX6) (T := TX6) X rfl uX6 (by decide) (by decide) tw_227 rfl (by decide +kernel) ?_
    refine so_iload (pc := 28) (i := 4) X (by decide +kernel) ?_
    refine so_iconst (pc := 30) (n := 4) (v := 4) X (by decide +kernel) (by decide) ?_
    refine so_imul (pc := 31) X (by decide +kernel) ?_
    refine so_iload_n (pc := 32) (i := 1) X (by decide +kernel) ?_
    refine so_iadd (pc := 33) X (by decide +kernel) ?_
    refine so_iald (pc := 34) X (by decide +kernel) ?_
    refine so_iadd (pc := 35) X (by decide +kernel) ?_
    refine so_istore_n (pc := 36) (i := 3) X (by decide +kernel) (by decide) ?_
    exact so_fall X (hJ 2)
  | 2 =>
    refine so_iinc (pc := 37) (i := 4) (n := 1) (y := 1) X (by decide +kernel) (by decide) (by decide) ?_
    exact so_goto (pc := 40) (off := (-35)) (tgt := 5) X (by decide +kernel) (by decide) (hJ 1)
  | 3 =>
    refine so_iload_n (pc := 43) (i := 3) X (by decide +kernel) ?_
    exact so_ret (pc := 44) X hlk hfree hr (by decide +kernel)
  | n + 4 => exact fun _ _ _ _ h => h.elim
theorem bs_X6_total {l : Launch} {D : va_G} {EXT : (Nat → Nat) → (Nat → Prop) → State → Heap → Prop} (hxo : mm_xo EXT) (hxe : ∀ ad A U H, EXT ad A U H → px_E0 ad A U H) : mm_BS l D pcl lw_T EXT px_tab 91 pb_X6_total pp_X6_total := by
  intro d C hC p e s m args below meth c A ad0 cA0 μ0 free Q J
  rw [tb_91]
  exact fun X hr hlk hnm hfree hJ => bk_X6_total hxo hxe hC X hr hlk hnm hfree hJ
set_option maxHeartbeats 4000000 in
set_option maxRecDepth 100000 in
theorem bk_X6_tryOut {l : Launch} {D : va_G} {EXT : (Nat → Nat) → (Nat → Prop) → State → Heap → Prop} (hxo : mm_xo EXT) (hxe : ∀ ad A U H, EXT ad A U H → px_E0 ad A U H) {d : Nat} {C : mm_C} (hC : mm_CS l D pcl lw_T EXT px_tab d C) {p : Program} {e : Env} {s : State} {m : MethodId} {args : Array Value} {below : List Frame} {meth : Method} {c : Code} {A : Nat → Prop} {ad0 : Nat → Nat} {cA0 : Nat → ClassId} {μ0 : mm_M} {free : Addr → Prop} {Q : mm_Q} {J : mm_J} (X : mm_cx p (mm_rm (d + 1) 0 0) s m args c cX6_tryOut RX6 lw_T A D pcl 4) (hr : meth.sig.returnType = none) (hlk : meth.locks = false) (hnm : meth.name = "tryOut") (hfree : ∀ q, A q → free q) (hJ : ∀ t, mm_SK p l e (mm_rm (d + 1) 0 0) s m args below meth c (MQ below (mm_Qc D pcl Q ad0 cA0 μ0 0 A) args s 0 0 free) D pcl A 4 (mm_EX EXT A s ad0 cA0 (mm_n μ0)) (pp_X6_tryOut t) (J t)) : ∀ t, mm_SK p l e (mm_rm (d + 1) 0 0) s m args below meth c (MQ below (mm_Qc D pcl Q ad0 cA0 μ0 0 A) args s 0 0 free) D pcl A 4 (mm_EX EXT A s ad0 cA0 (mm_n μ0)) (pp_X6_tryOut t) (pb_X6_tryOut J C Q t) := by
  intro t
  match t with
  | 0 =>
    refine so_aload_n (pc := 0) (i := 0) X (by decide +kernel) ?_
    refine so_getr (pc := 1) (index := 53) (ci := 6) (f := 13) (N := 14) (C := RX6) (T := TX6) X rfl uX6 (by decide) (by decide) tw_249 rfl (by decide +kernel) ?_
    refine so_aload_n (pc := 4) (i := 1) X (by decide +kernel) ?_
    refine so_getr (pc := 5) (index := 184) (ci := 5) (f := 2) (N := 6) (C := RX5) (T := TX5) X rfl uX5 (by decide) (by decide) tw_320 rfl (by decide +kernel) ?_
    refine so_iload_n (pc := 8) (i := 2) X (by decide +kernel) ?_
    refine so_rald (pc := 9) (C := "HiddenSums$Reduced") X (by decide +kernel) ?_
    refine so_cav (pc := 10) (y := 32) (na := 2) (index := 233) (maxL := 2) (nm := yX3_copyFrom) (bytes := cX3_copyFrom) (ret := none) (ci := 3) (N := 1) (T := TX3) X hxo (fun _ _ _ _ h => h.1) hC lw_good (Nat.le_refl _) (mm_lo d) rfl (by decide) tw_357 tw_358 tw_156 rfl (by decide) tw_359 tw_360 (by decide +kernel) (by decide +kernel) ?_
    refine so_aload_n (pc := 13) (i := 0) X (by decide +kernel) ?_
    refine so_getr (pc := 14) (index := 53) (ci := 6) (f := 13) (N := 14) (C := RX6) (T := TX6) X rfl uX6 (by decide) (by decide) tw_249 rfl (by decide +kernel) ?_
    refine so_iload_n (pc := 17) (i := 3) X (by decide +kernel) ?_
    refine so_cav (pc := 18) (y := 36) (na := 2) (index := 236) (maxL := 4) (nm := yX3_learn) (bytes := cX3_learn) (ret := none) (ci := 3) (N := 1) (T := TX3) X hxo (fun _ _ _ _ h => h.1) hC lw_good (Nat.le_refl _) (mm_lo d) rfl (by decide) tw_361 tw_362 tw_156 rfl (by decide) tw_363 tw_364 (by decide +kernel) (by decide +kernel) ?_
    exact so_rtv (pc := 21) X hlk hfree hr (by decide +kernel)
  | n + 1 => exact fun _ _ _ _ h => h.elim
theorem bs_X6_tryOut {l : Launch} {D : va_G} {EXT : (Nat → Nat) → (Nat → Prop) → State → Heap → Prop} (hxo : mm_xo EXT) (hxe : ∀ ad A U H, EXT ad A U H → px_E0 ad A U H) : mm_BS l D pcl lw_T EXT px_tab 92 pb_X6_tryOut pp_X6_tryOut := by
  intro d C hC p e s m args below meth c A ad0 cA0 μ0 free Q J
  rw [tb_92]
  exact fun X hr hlk hnm hfree hJ => bk_X6_tryOut hxo hxe hC X hr hlk hnm hfree hJ
