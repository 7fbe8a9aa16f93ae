set_option maxHeartbeats 4000000 in
set_option maxRecDepth 100000 in
theorem bk_J7_fill_d0a16 {l : Launch} {D : va_G} {EXT : (Nat → Nat) → (Nat → Prop) → State → Heap → Prop} (hxo : mm_xo EXT) (hxe : ∀ ad A U H, EXT ad A U H → px_E0 ad A U H) {d : Nat} {C : mm_C} (hC : mm_CS l D pcl lw_T EXT px_tab d C) {p : Program} {e : Env} {s : State} {m : MethodId} {args : Array Value} {below : List Frame} {meth : Method} {c : Code} {A : Nat → Prop} {ad0 : Nat → Nat} {cA0 : Nat → ClassId} {μ0 : mm_M} {free : Addr → Prop} {Q : mm_Q} {J : mm_J} (X : mm_cx p (mm_rm (d + 1) 0 0) s m args c cJ7_fill_d0a16 RJ7 lw_T A D pcl 5) (hr : meth.sig.returnType = none) (hlk : meth.locks = false) (hnm : meth.name = "fill") (hfree : ∀ q, A q → free q) (hJ : ∀ t, mm_SK p l e (mm_rm (d + 1) 0 0) s m args below meth c (MQ below (mm_Qc D pcl Q ad0 cA0 μ0 0 A) args s 0 0 free) D pcl A 5 (mm_EX EXT A s ad0 cA0 (mm_n μ0)) (pp_J7_fill_d0a16 t) (J t)) : ∀ t, mm_SK p l e (mm_rm (d + 1) 0 0) s m args below meth c (MQ below (mm_Qc D pcl Q ad0 cA0 μ0 0 A) args s 0 0 free) D pcl A 5 (mm_EX EXT A s ad0 cA0 (mm_n μ0)) (pp_J7_fill_d0a16 t) (pb_J7_fill_d0a16 J C Q t) := by
  intro t
  match t with
  | 0 =>
    refine so_iconst (pc := 0) (n := 0) (v := 0) X (by decide +kernel) (by decide) ?_
    refine so_istore_n (pc := 1) (i := 3) X (by decide +kernel) (by decide) ?_
    refine so_aload_n (pc := 2) (i := 0) X (by decide +kernel) ?_
    refine so_len (pc := 3) X (by decide +kernel) ?_
    refine so_istore (pc := 4) (i := 4) X (by decide +kernel) (by decide) ?_
    exact so_fall X (hJ 1)
  | 1 =>
    refine so_iload_n (pc := 6) (i := 3) X (by decide +kernel) ?_
    refine so_iload (pc := 7) (i := 4) X (by decide +kernel) ?_
    refine so_icmp_ge (pc := 9) (off := 13) (tgt := 22) X (by decide +kernel) (by decide) (hJ 2) ?_
    refine so_aload_n (pc := 12) (i := 0) X (by decide +kernel) ?_
    refine so_iload_n (pc := 13) (i := 3) X (by decide +kernel) ?_
    refine so_lload_n (pc := 14) (i := 1) X (by decide +kernel) ?_
    refine so_last (pc := 15) X (by decide +kernel) ?_
    refine so_iinc (pc := 16) (i := 3) (n := 1) (y := 1) X (by decide +kernel) (by decide) (by decide) ?_
    exact so_goto (pc := 19) (off := (-13)) (tgt := 6) X (by decide +kernel) (by decide) (hJ 1)
  | 2 =>
    exact so_rtv (pc := 22) X hlk hfree hr (by decide +kernel)
  | n + 3 => exact fun _ _ _ _ h => h.elim
theorem bs_J7_fill_d0a16 {l : Launch} {D : va_G} {EXT : (Nat → Nat) → (Nat → Prop) → State → Heap → Prop} (hxo : mm_xo EXT) (hxe : ∀ ad A U H, EXT ad A U H → px_E0 ad A U H) : mm_BS l D pcl lw_T EXT px_tab 158 pb_J7_fill_d0a16 pp_J7_fill_d0a16 := by
  intro d C hC p e s m args below meth c A ad0 cA0 μ0 free Q J
  rw [tb_158]
  exact fun X hr hlk hnm hfree hJ => bk_J7_fill_d0a16 hxo hxe hC X hr hlk hnm hfree hJ
set_option maxHeartbeats 4000000 in
set_option maxRecDepth 100000 in
theorem bk_J0_length_8abf5 {l : Launch} {D : va_G} {EXT : (Nat → Nat) → (Nat → Prop) → State → Heap → Prop} (hxo : mm_xo EXT) (hxe : ∀ ad A U H, EXT ad A U H → px_E0 ad A U H) {d : Nat} {C : mm_C} (hC : mm_CS l D pcl lw_T EXT px_tab d C) {p : Program} {e : Env} {s : State} {m : MethodId} {args : Array Value} {below : List Frame} {meth : Method} {c : Code} {A : Nat → Prop} {ad0 : Nat → Nat} {cA0 : Nat → ClassId} {μ0 : mm_M} {free : Addr → Prop} {Q : mm_Q} {J : mm_J} (X : mm_cx p (mm_rm (d + 1) 0 0) s m args c cJ0_length_8abf5 RJ0 lw_T A D pcl 1) (hr : meth.sig.returnType = some .int) (hlk : meth.locks = false) (hnm : meth.name = "length") (hfree : ∀ q, A q → free q) (hJ : ∀ t, mm_SK p l e (mm_rm (d + 1) 0 0) s m args below meth c (MQ below (mm_Qc D pcl Q ad0 cA0 μ0 0 A) args s 0 0 free) D pcl A 1 (mm_EX EXT A s ad0 cA0 (mm_n μ0)) (pp_J0_length_8abf5 t) (J t)) : ∀ t, mm_SK p l e (mm_rm (d + 1) 0 0) s m args below meth c (MQ below (mm_Qc D pcl Q ad0 cA0 μ0 0 A) args s 0 0 free) D pcl A 1 (mm_EX EXT A s ad0 cA0 (mm_n μ0)) (pp_J0_length_8abf5 t) (pb_J0_length_8abf5 J C Q t) := by
  intro t
  match t with
  | 0 =>
    refine so_aload_n (pc := 0) (i := 0) X (by decide +kernel) ?_
    refine so_sgv (pc := 1) (index := 9) X (fun _ _ _ _ h => px_V (hxe _ _ _ _ h.1)) tw_573 (by decide +kernel) ?_
    refine so_sln (pc := 4) X (fun _ _ _ _ h => px_V (hxe _ _ _ _ h.1)) (by decide +kernel) ?_
    refine so_aload_n (pc := 5) (i := 0) X (by decide +kernel) ?_
    refine so_css (pc := 6) (y := 160) (na := 1) (index := 335) (maxL := 1) (nm := yJ0_coder_7d493) (bytes := cJ0_coder_7d493) (ret := (some .byte)) X hxo (fun _ _ _ _ h => h.1) hC lw_good (Nat.le_refl _) (mm_lo d) rfl (by decide) tw_574 tw_575 tw_76 (fun _ _ _ _ h => px_V (hxe _ _ _ _ h.1)) rfl tw_576 tw_577 (by decide +kernel) (by decide +kernel) ?_
    refine so_ishr (pc := 9) X (by decide +kernel) ?_
    exact so_ret (pc := 10) X hlk hfree hr (by decide +kernel)
  | n + 1 => exact fun _ _ _ _ h => h.elim
theorem bs_J0_length_8abf5 {l : Launch} {D : va_G} {EXT : (Nat → Nat) → (Nat → Prop) → State → Heap → Prop} (hxo : mm_xo EXT) (hxe : ∀ ad A U H, EXT ad A U H → px_E0 ad A U H) : mm_BS l D pcl lw_T EXT px_tab 159 pb_J0_length_8abf5 pp_J0_length_8abf5 := by
  intro d C hC p e s m args below meth c A ad0 cA0 μ0 free Q J
  rw [tb_159]
  exact fun X hr hlk hnm hfree hJ => bk_J0_length_8abf5 hxo hxe hC X hr hlk hnm hfree hJ
set_option maxHeartbeats 4000000 in
set_option maxRecDepth 100000 in
theorem bk_J0_coder_7d493 {l : Launch} {D : va_G} {EXT : (Nat → Nat) → (Nat → Prop) → State → Heap → Prop} (hxo : mm_xo EXT) (hxe : ∀ ad A U H, EXT ad A U H → px_E0 ad A U H) {d : Nat} {C : mm_C} (hC : mm_CS l D pcl lw_T EXT px_tab d C) {p : Program} {e : Env} {s : State} {m : MethodId} {args : Array Value} {below : List Frame} {meth : Method} {c : Code} {A : Nat → Prop} {ad0 : Nat → Nat} {cA0 : Nat → ClassId} {μ0 : mm_M} {free : Addr → Prop} {Q : mm_Q} {J : mm_J} (X : mm_cx p (mm_rm (d + 1) 0 0) s m args c cJ0_coder_7d493 RJ0 lw_T A D pcl 1) (hr : meth.sig.returnType = some .byte) (hlk : meth.locks = false) (hnm : meth.name = "coder") (hfree : ∀ q, A q → free q) (hJ : ∀ t, mm_SK p l e (mm_rm (d + 1) 0 0) s m args below meth c (MQ below (mm_Qc D pcl Q ad0 cA0 μ0 0 A) args s 0 0 free) D pcl A 1 (mm_EX EXT A s ad0 cA0 (mm_n μ0)) (pp_J0_coder_7d493 t) (J t)) : ∀ t, mm_SK p l e (mm_rm (d + 1) 0 0) s m args below meth c (MQ below (mm_Qc D pcl Q ad0 cA0 μ0 0 A) args s 0 0 free) D pcl A 1 (mm_EX EXT A s ad0 cA0 (mm_n μ0)) (pp_J0_coder_7d493 t) (pb_J0_coder_7d493 J C Q t) := by
  intro t
  match t with
  | 0 =>
    refine so_gsi (pc := 0) (index := 38) (C := "java/lang/String") (n := "COMPACT_STRINGS") (d' := "Z") (v := 1) X (fun _ _ _ _ h => px_CS (hxe _ _ _ _ h.1)) tw_578 (by decide +kernel) ?_
    refine so_if_eq (pc := 3) (off := 10) (tgt := 13) X (by decide +kernel) (by decide) (hJ 1) ?_
    refine so_aload_n (pc := 6) (i := 0) X (by decide +kernel) ?_
    refine so_sgc (pc := 7) (index := 15) X (fun _ _ _ _ h => px_V (hxe _ _ _ _ h.1)) tw_579 (by decide +kernel) ?_
    exact so_goto (pc := 10) (off := 4) (tgt := 14) X (by decide +kernel) (by decide) (hJ 2)
  | 1 =>
    refine so_iconst (pc := 13) (n := 1) (v := 1) X (by decide +kernel) (by decide) ?_
    exact so_fall X (hJ 2)
  | 2 =>
    exact so_rtn (pc := 14) X hlk hfree hr (by decide +kernel)
  | n + 3 => exact fun _ _ _ _ h => h.elim
theorem bs_J0_coder_7d493 {l : Launch} {D : va_G} {EXT : (Nat → Nat) → (Nat → Prop) → State → Heap → Prop} (hxo : mm_xo EXT) (hxe : ∀ ad A U H, EXT ad A U H → px_E0 ad A U H) : mm_BS l D pcl lw_T EXT px_tab 160 pb_J0_coder_7d493 pp_J0_coder_7d493 := by
  intro d C hC p e s m args below meth c A ad0 cA0 μ0 free Q J
  rw [tb_160]
  exact fun X hr hlk hnm hfree hJ => bk_J0_coder_7d493 hxo hxe hC X hr hlk hnm hfree hJ
set_option maxHeartbeats 4000000 in
set_option maxRecDepth 100000 in
theorem bk_J0_isLatin1_aae02 {l : Launch} {D : va_G} {EXT : (Nat → Nat) → (Nat → Prop) → State → Heap → Prop} (hxo : mm_xo EXT) (hxe : ∀ ad A U H, EXT ad A U H → px_E0 ad A U H) {d : Nat} {C : mm_C} (hC : mm_CS l D pcl lw_T EXT px_tab d C) {p : Program} {e : Env} {s : State} {m : MethodId} {args : Array Value} {below : List Frame} {meth : Method} {c : Code} {A : Nat → Prop} {ad0 : Nat → Nat} {cA0 : Nat → ClassId} {μ0 : mm_M} {free : Addr → Prop} {Q : mm_Q} {J : mm_J} (X : mm_cx p (mm_rm (d + 1) 0 0) s m args c cJ0_isLatin1_aae02 RJ0 lw_T A D pcl 1) (hr : meth.sig.returnType = some .boolean) (hlk : meth.locks = false) (hnm : meth.name = "isLatin1") (hfree : ∀ q, A q → free q) (hJ : ∀ t, mm_SK p l e (mm_rm (d + 1) 0 0) s m args below meth c (MQ below (mm_Qc D pcl Q ad0 cA0 μ0 0 A) args s 0 0 free) D pcl A 1 (mm_EX EXT A s ad0 cA0 (mm_n μ0)) (pp_J0_isLatin1_aae02 t) (J t)) : ∀ t, mm_SK p l e (mm_rm (d + 1) 0 0) s m args below meth c (MQ below (mm_Qc D pcl Q ad0 cA0 μ0 0 A) args s 0 0 free) D pcl A 1 (mm_EX EXT A s ad0 cA0 (mm_n μ0)) (pp_J0_isLatin1_aae02 t) (pb_J0_isLatin1_aae02 J C Q t) := by
  intro t
  match t with
  | 0 =>
    refine so_gsi (pc := 0) (index := 38) (C := "java/lang/String") (n := "COMPACT_STRINGS") (d' := "Z") (v := 1) X (fun _ _ _ _ h => px_CS (hxe _ _ _ _ h.1)) tw_578 (by decide +kernel) ?_
    refine so_if_eq (pc := 3) (off := 14) (tgt := 17) X (by decide +kernel) (by decide) (hJ 1) ?_
    refine so_aload_n (pc := 6) (i := 0) X (by decide +kernel) ?_
    refine so_sgc (pc := 7) (index := 15) X (fun _ _ _ _ h => px_V (hxe _ _ _ _ h.1)) tw_579 (by decide +kernel) ?_
    refine so_if_ne (pc := 10) (off := 7) (tgt := 17) X (by decide +kernel) (by decide) (hJ 1) ?_
    refine so_iconst (pc := 13) (n := 1) (v := 1) X (by decide +kernel) (by decide) ?_
    exact so_goto (pc := 14) (off := 4) (tgt := 18) X (by decide +kernel) (by decide) (hJ 2)
  | 1 =>
    refine so_iconst (pc := 17) (n := 0) (v := 0) X (by decide +kernel) (by decide) ?_
    exact so_fall X (hJ 2)
  | 2 =>
    exact so_rtz (pc := 18) X hlk hfree hr (by decide +kernel)
  | n + 3 => exact fun _ _ _ _ h => h.elim
theorem bs_J0_isLatin1_aae02 {l : Launch} {D : va_G} {EXT : (Nat → Nat) → (Nat → Prop) → State → Heap → Prop} (hxo : mm_xo EXT) (hxe : ∀ ad A U H, EXT ad A U H → px_E0 ad A U H) : mm_BS l D pcl lw_T EXT px_tab 161 pb_J0_isLatin1_aae02 pp_J0_isLatin1_aae02 := by
  intro d C hC p e s m args below meth c A ad0 cA0 μ0 free Q J
  rw [tb_161]
  exact fun X hr hlk hnm hfree hJ => bk_J0_isLatin1_aae02 hxo hxe hC X hr hlk hnm hfree hJ
set_option maxHeartbeats 4000000 in
set_option maxRecDepth 100000 in
theorem bk_J0_charAt_5068e {l : Launch} {D : va_G} {EXT : (Nat → Nat) → (Nat → Prop) → State → Heap → Prop} (hxo : mm_xo EXT) (hxe : ∀ ad A U H, EXT ad A U H → px_E0 ad A U H) {d : Nat} {C : mm_C} (hC : mm_CS l D pcl lw_T EXT px_tab d C) {p : Program} {e : Env} {s : State} {m : MethodId} {args : Array Value} {below : List Frame} {meth : Method} {c : Code} {A : Nat → Prop} {ad0 : Nat → Nat} {cA0 : Nat → ClassId} {μ0 : mm_M} {free : Addr → Prop} {Q : mm_Q} {J : mm_J} (X : mm_cx p (mm_rm (d + 1) 0 0) s m args c cJ0_charAt_5068e RJ0 lw_T A D pcl 2) (hr : meth.sig.returnType = some .char) (hlk : meth.locks = false) (hnm : meth.name = "charAt") (hfree : ∀ q, A q → free q) (hJ : ∀ t, mm_SK p l e (mm_rm (d + 1) 0 0) s m args below meth c (MQ below (mm_Qc D pcl Q ad0 cA0 μ0 0 A) args s 0 0 free) D pcl A 2 (mm_EX EXT A s ad0 cA0 (mm_n μ0)) (pp_J0_charAt_5068e t) (J t)) : ∀ t, mm_SK p l e (mm_rm (d + 1) 0 0) s m args below meth c (MQ below (mm_Qc D pcl Q ad0 cA0 μ0 0 A) args s 0 0 free) D pcl A 2 (mm_EX EXT A s ad0 cA0 (mm_n μ0)) (pp_J0_charAt_5068e t) (pb_J0_charAt_5068e J C Q t) := by
  intro t
  match t with
  | 0 =>
    refine so_aload_n (pc := 0) (i := 0) X (by decide +kernel) ?_
    refine so_css (pc := 1) (y := 161) (na := 1) (index := 492) (maxL := 1) (nm := yJ0_isLatin1_aae02) (bytes := cJ0_isLatin1_aae02) (ret := (some .boolean)) X hxo (fun _ _ _ _ h => h.1) hC lw_good (Nat.le_refl _) (mm_lo d) rfl (by decide) tw_580 tw_581 tw_76 (fun _ _ _ _ h => px_V (hxe _ _ _ _ h.1)) rfl tw_582 tw_583 (by decide +kernel) (by decide +kernel) ?_
    refine so_if_eq (pc := 4) (off := 12) (tgt := 16) X (by decide +kernel) (by decide) (hJ 1) ?_
    refine so_aload_n (pc := 7) (i := 0) X (by decide +kernel) ?_
    refine so_sgv (pc := 8) (index := 9) X (fun _ _ _ _ h => px_V (hxe _ _ _ _ h.1)) tw_573 (by decide +kernel) ?_
    refine so_iload_n (pc := 11) (i := 1) X (by decide +kernel) ?_
    refine so_cas (pc := 12) (y := 163) (na := 2) (index := 495) (maxL := 2) (nm := yJ1_charAt_3b067) (bytes := cJ1_charAt_3b067) (ret := (some .char)) X hxo (fun _ _ _ _ h => h.1) hC lw_good (Nat.le_refl _) (mm_lo d) rfl (by decide) tw_584 tw_585 tw_586 tw_587 (by decide +kernel) (by decide +kernel) ?_
    exact so_rtn (pc := 15) X hlk hfree hr (by decide +kernel)
  | 1 =>
    exact so_bad
  | n + 2 => exact fun _ _ _ _ h => h.elim
theorem bs_J0_charAt_5068e {l : Launch} {D : va_G} {EXT : (Nat → Nat) → (Nat → Prop) → State → Heap → Prop} (hxo : mm_xo EXT) (hxe : ∀ ad A U H, EXT ad A U H → px_E0 ad A U H) : mm_BS l D pcl lw_T EXT px_tab 162 pb_J0_charAt_5068e pp_J0_charAt_5068e := by
  intro d C hC p e s m args below meth c A ad0 cA0 μ0 free Q J
  rw [tb_162]
  exact fun X hr hlk hnm hfree hJ => bk_J0_charAt_5068e hxo hxe hC X hr hlk hnm hfree hJ
set_option maxHeartbeats 4000000 in
set_option maxRecDepth 100000 in
theorem bk_J0_checkIndex_df160 {l : Launch} {D : va_G} {EXT : (Nat → Nat) → (Nat → Prop) → State → Heap → Prop} (hxo : mm_xo EXT) (hxe : ∀ ad A U H, EXT ad A U H → px_E0 ad A U H) {d : Nat} {C : mm_C} (hC : mm_CS l D pcl lw_T EXT px_tab d C) {p : Program} {e : Env} {s : State} {m : MethodId} {args : Array Value} {below : List Frame} {meth : Method} {c : Code} {A : Nat → Prop} {ad0 : Nat → Nat} {cA0 : Nat → ClassId} {μ0 : mm_M} {free : Addr → Prop} {Q : mm_Q} {J : mm_J} (X : mm_cx p (mm_rm (d + 1) 0 0) s m args c cJ0_checkIndex_df160 RJ0 lw_T A D pcl 2) (hr : meth.sig.returnType = none) (hlk : meth.locks = false) (hnm : meth.name = "checkIndex") (hfree : ∀ q, A q → free q) (hJ : ∀ t, mm_SK p l e (mm_rm (d + 1) 0 0) s m args below meth c (MQ below (mm_Qc D pcl Q ad0 cA0 μ0 0 A) args s 0 0 free) D pcl A 2 (mm_EX EXT A s ad0 cA0 (mm_n μ0)) (pp_J0_checkIndex_df160 t) (J t)) : ∀ t, mm_SK p l e (mm_rm (d + 1) 0 0) s m args below meth c (MQ below (mm_Qc D pcl Q ad0 cA0 μ0 0 A) args s 0 0 free) D pcl A 2 (mm_EX EXT A s ad0 cA0 (mm_n μ0)) (pp_J0_checkIndex_df160 t) (pb_J0_checkIndex_df160 J C Q t) := by
  intro t
  match t with
  | 0 =>
    refine so_iload_n (pc := 0) (i := 0) X (by decide +kernel) ?_
    refine so_iload_n (pc := 1) (i := 1) X (by decide +kernel) ?_
    refine so_zq (pc := 2) (index := 1053) (C := "jdk/internal/util/Preconditions") (n := "SIOOBE_FORMATTER") (d' := "Ljava/util/function/BiFunction;") X (fun _ _ _ _ h => px_ZQ (hxe _ _ _ _ h.1)) tw_591 (by decide +kernel) ?_
    refine so_cas (pc := 5) (y := 165) (na := 3) (index := 1059) (maxL := 3) (nm := yJ3_checkIndex_8e157) (bytes := cJ3_checkIndex_8e157) (ret := (some .int)) X hxo (fun _ _ _ _ h => h.1) hC lw_good (Nat.le_refl _) (mm_lo d) rfl (by decide) tw_592 tw_593 tw_594 tw_595 (by decide +kernel) (by decide +kernel) ?_
    refine so_pop (pc := 8) X (by decide +kernel) ?_
    exact so_rtv (pc := 9) X hlk hfree hr (by decide +kernel)
  | n + 1 => exact fun _ _ _ _ h => h.elim
theorem bs_J0_checkIndex_df160 {l : Launch} {D : va_G} {EXT : (Nat → Nat) → (Nat → Prop) → State → Heap → Prop} (hxo : mm_xo EXT) (hxe : ∀ ad A U H, EXT ad A U H → px_E0 ad A U H) : mm_BS l D pcl lw_T EXT px_tab 164 pb_J0_checkIndex_df160 pp_J0_checkIndex_df160 := by
  intro d C hC p e s m args below meth c A ad0 cA0 μ0 free Q J
  rw [tb_164]
  exact fun X hr hlk hnm hfree hJ => bk_J0_checkIndex_df160 hxo hxe hC X hr hlk hnm hfree hJ
set_option maxHeartbeats 4000000 in
set_option maxRecDepth 100000 in
theorem bk_J1_charAt_3b067 {l : Launch} {D : va_G} {EXT : (Nat → Nat) → (Nat → Prop) → State → Heap → Prop} (hxo : mm_xo EXT) (hxe : ∀ ad A U H, EXT ad A U H → px_E0 ad A U H) {d : Nat} {C : mm_C} (hC : mm_CS l D pcl lw_T EXT px_tab d C) {p : Program} {e : Env} {s : State} {m : MethodId} {args : Array Value} {below : List Frame} {meth : Method} {c : Code} {A : Nat → Prop} {ad0 : Nat → Nat} {cA0 : Nat → ClassId} {μ0 : mm_M} {free : Addr → Prop} {Q : mm_Q} {J : mm_J} (X : mm_cx p (mm_rm (d + 1) 0 0) s m args c cJ1_charAt_3b067 RJ1 lw_T A D pcl 2) (hr : meth.sig.returnType = some .char) (hlk : meth.locks = false) (hnm : meth.name = "charAt") (hfree : ∀ q, A q → free q) (hJ : ∀ t, mm_SK p l e (mm_rm (d + 1) 0 0) s m args below meth c (MQ below (mm_Qc D pcl Q ad0 cA0 μ0 0 A) args s 0 0 free) D pcl A 2 (mm_EX EXT A s ad0 cA0 (mm_n μ0)) (pp_J1_charAt_3b067 t) (J t)) : ∀ t, mm_SK p l e (mm_rm (d + 1) 0 0) s m args below meth c (MQ below (mm_Qc D pcl Q ad0 cA0 μ0 0 A) args s 0 0 free) D pcl A 2 (mm_EX EXT A s ad0 cA0 (mm_n μ0)) (pp_J1_charAt_3b067 t) (pb_J1_charAt_3b067 J C Q t) := by
  intro t
  match t with
  | 0 =>
    refine so_iload_n (pc := 0) (i := 1) X (by decide +kernel) ?_
    refine so_aload_n (pc := 1) (i := 0) X (by decide +kernel) ?_
    refine so_sln (pc := 2) X (fun _ _ _ _ h => px_V (hxe _ _ _ _ h.1)) (by decide +kernel) ?_
    refine so_cas (pc := 3) (y := 164) (na := 2) (index := 9) (maxL := 2) (nm := yJ0_checkIndex_df160) (bytes := cJ0_checkIndex_df160) (ret := none) X hxo (fun _ _ _ _ h => h.1) hC lw_good (Nat.le_refl _) (mm_lo d) rfl (by decide) tw_588 tw_589 tw_76 tw_590 (by decide +kernel) (by decide +kernel) ?_
    refine so_aload_n (pc := 6) (i := 0) X (by decide +kernel) ?_
    refine so_iload_n (pc := 7) (i := 1) X (by decide +kernel) ?_
    refine so_sbl (pc := 8) X (fun _ _ _ _ h => px_V (hxe _ _ _ _ h.1)) (by decide +kernel) ?_
    refine so_sipush (pc := 9) (n := 255) (v := 255) X (by decide +kernel) (by decide) ?_
    refine so_iand (pc := 12) X (by decide +kernel) ?_
    refine so_i2c (pc := 13) X (by decide +kernel) ?_
    exact so_rtn (pc := 14) X hlk hfree hr (by decide +kernel)
  | n + 1 => exact fun _ _ _ _ h => h.elim
theorem bs_J1_charAt_3b067 {l : Launch} {D : va_G} {EXT : (Nat → Nat) → (Nat → Prop) → State → Heap → Prop} (hxo : mm_xo EXT) (hxe : ∀ ad A U H, EXT ad A U H → px_E0 ad A U H) : mm_BS l D pcl lw_T EXT px_tab 163 pb_J1_charAt_3b067 pp_J1_charAt_3b067 := by
  intro d C hC p e s m args below meth c A ad0 cA0 μ0 free Q J
  rw [tb_163]
  exact fun X hr hlk hnm hfree hJ => bk_J1_charAt_3b067 hxo hxe hC X hr hlk hnm hfree hJ
set_option maxHeartbeats 4000000 in
set_option maxRecDepth 100000 in
theorem bk_J3_checkIndex_8e157 {l : Launch} {D : va_G} {EXT : (Nat → Nat) → (Nat → Prop) → State → Heap → Prop} (hxo : mm_xo EXT) (hxe : ∀ ad A U H, EXT ad A U H → px_E0 ad A U H) {d : Nat} {C : mm_C} (hC : mm_CS l D pcl lw_T EXT px_tab d C) {p : Program} {e : Env} {s : State} {m : MethodId} {args : Array Value} {below : List Frame} {meth : Method} {c : Code} {A : Nat → Prop} {ad0 : Nat → Nat} {cA0 : Nat → ClassId} {μ0 : mm_M} {free : Addr → Prop} {Q : mm_Q} {J : mm_J} (X : mm_cx p (mm_rm (d + 1) 0 0) s m args c cJ3_checkIndex_8e157 RJ3 lw_T A D pcl 3) (hr : meth.sig.returnType = some .int) (hlk : meth.locks = false) (hnm : meth.name = "checkIndex") (hfree : ∀ q, A q → free q) (hJ : ∀ t, mm_SK p l e (mm_rm (d + 1) 0 0) s m args below meth c (MQ below (mm_Qc D pcl Q ad0 cA0 μ0 0 A) args s 0 0 free) D pcl A 3 (mm_EX EXT A s ad0 cA0 (mm_n μ0)) (pp_J3_checkIndex_8e157 t) (J t)) : ∀ t, mm_SK p l e (mm_rm (d + 1) 0 0) s m args below meth c (MQ below (mm_Qc D pcl Q ad0 cA0 μ0 0 A) args s 0 0 free) D pcl A 3 (mm_EX EXT A s ad0 cA0 (mm_n μ0)) (pp_J3_checkIndex_8e157 t) (pb_J3_checkIndex_8e157 J C Q t) := by
  intro t
  match t with
  | 0 =>
    refine so_iload_n (pc := 0) (i := 0) X (by decide +kernel) ?_
    refine so_if_lt (pc := 1) (off := 8) (tgt := 9) X (by decide +kernel) (by decide) (hJ 1) ?_
    refine so_iload_n (pc := 4) (i := 0) X (by decide +kernel) ?_
    refine so_iload_n (pc := 5) (i := 1) X (by decide +kernel) ?_
    refine so_icmp_lt (pc := 6) (off := 10) (tgt := 16) X (by decide +kernel) (by decide) (hJ 2) ?_
    exact so_fall X (hJ 1)
  | 1 =>
    exact so_bad
  | 2 =>
    refine so_iload_n (pc := 16) (i := 0) X (by decide +kernel) ?_
    exact so_ret (pc := 17) X hlk hfree hr (by decide +kernel)
  | n + 3 => exact fun _ _ _ _ h => h.elim
theorem bs_J3_checkIndex_8e157 {l : Launch} {D : va_G} {EXT : (Nat → Nat) → (Nat → Prop) → State → Heap → Prop} (hxo : mm_xo EXT) (hxe : ∀ ad A U H, EXT ad A U H → px_E0 ad A U H) : mm_BS l D pcl lw_T EXT px_tab 165 pb_J3_checkIndex_8e157 pp_J3_checkIndex_8e157 := by
  intro d C hC p e s m args below meth c A ad0 cA0 μ0 free Q J
  rw [tb_165]
  exact fun X hr hlk hnm hfree hJ => bk_J3_checkIndex_8e157 hxo hxe hC X hr hlk hnm hfree hJ
