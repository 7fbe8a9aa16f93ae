set_option maxHeartbeats 4000000 in
set_option maxRecDepth 100000 in
theorem bk_X1_scanNumber {l : Launch} {D : va_G} {EXT : (Nat → Nat) → (Nat → Prop) → State → Heap → Prop} (hxo : mm_xo EXT) (hxe : ∀ ad A U H, EXT ad A U H → px_E0 ad A U H) {d : Nat} {C : mm_C} (hC : mm_CS l D pcl lw_T EXT px_tab d C) {p : Program} {e : Env} {s : State} {m : MethodId} {args : Array Value} {below : List Frame} {meth : Method} {c : Code} {A : Nat → Prop} {ad0 : Nat → Nat} {cA0 : Nat → ClassId} {μ0 : mm_M} {free : Addr → Prop} {Q : mm_Q} {J : mm_J} (X : mm_cx p (mm_rm (d + 1) 0 0) s m args c cX1_scanNumber RX1 lw_T A D pcl 3) (hr : meth.sig.returnType = none) (hlk : meth.locks = false) (hnm : meth.name = "scanNumber") (hfree : ∀ q, A q → free q) (hJ : ∀ t, mm_SK p l e (mm_rm (d + 1) 0 0) s m args below meth c (MQ below (mm_Qc D pcl Q ad0 cA0 μ0 0 A) args s 0 0 free) D pcl A 3 (mm_EX EXT A s ad0 cA0 (mm_n μ0)) (pp_X1_scanNumber t) (J t)) : ∀ t, mm_SK p l e (mm_rm (d + 1) 0 0) s m args below meth c (MQ below (mm_Qc D pcl Q ad0 cA0 μ0 0 A) args s 0 0 free) D pcl A 3 (mm_EX EXT A s ad0 cA0 (mm_n μ0)) (pp_X1_scanNumber t) (pb_X1_scanNumber J C Q t) := by
  intro t
  match t with
  | 0 =>
    refine so_aload_n (pc := 0) (i := 0) X (by decide +kernel) ?_
    refine so_aload_n (pc := 1) (i := 1) X (by decide +kernel) ?_
    refine so_aload_n (pc := 2) (i := 0) X (by decide +kernel) ?_
    refine so_geti (pc := 3) (index := 66) (ci := 1) (f := 2) (N := 11) (C := RX1) (T := TX1) X rfl uX1 (by decide) (by decide) tw_51 rfl (by decide) (by decide +kernel) ?_
    refine so_iald (pc := 6) X (by decide +kernel) ?_
    refine so_bipush (pc := 7) (n := 48) (v := 48) X (by decide +kernel) (by decide) ?_
    refine so_isub (pc := 9) X (by decide +kernel) ?_
    refine so_puti (pc := 10) (index := 69) (ci := 1) (f := 5) (N := 11) (C := RX1) (T := TX1) X rfl uX1 (by decide) (by decide) tw_52 tyX1 tyX1_ok nmX1 rfl (by decide +kernel) rfl (by decide +kernel) ?_
    exact so_fall X (hJ 1)
  | 1 =>
    refine so_aload_n (pc := 13) (i := 0) X (by decide +kernel) ?_
    refine so_geti (pc := 14) (index := 38) (ci := 1) (f := 3) (N := 11) (C := RX1) (T := TX1) X rfl uX1 (by decide) (by decide) tw_27 rfl (by decide) (by decide +kernel) ?_
    refine so_iload_n (pc := 17) (i := 2) X (by decide +kernel) ?_
    refine so_icmp_ge (pc := 18) (off := 49) (tgt := 67) X (by decide +kernel) (by decide) (hJ 2) ?_
    refine so_aload_n (pc := 21) (i := 1) X (by decide +kernel) ?_
    refine so_aload_n (pc := 22) (i := 0) X (by decide +kernel) ?_
    refine so_geti (pc := 23) (index := 38) (ci := 1) (f := 3) (N := 11) (C := RX1) (T := TX1) X rfl uX1 (by decide) (by decide) tw_27 rfl (by decide) (by decide +kernel) ?_
    refine so_iald (pc := 26) X (by decide +kernel) ?_
    refine so_cas (pc := 27) (y := 11) (na := 1) (index := 79) (maxL := 1) (nm := yX1_isFigure) (bytes := cX1_isFigure) (ret := (some .boolean)) X hxo (fun _ _ _ _ h => h.1) hC lw_good (Nat.le_refl _) (mm_lo d) rfl (by decide) tw_60 tw_61 tw_30 tw_62 (by decide +kernel) (by decide +kernel) ?_
    refine so_if_eq (pc := 30) (off := 37) (tgt := 67) X (by decide +kernel) (by decide) (hJ 2) ?_
    refine so_aload_n (pc := 33) (i := 0) X (by decide +kernel) ?_
    refine so_aload_n (pc := 34) (i := 0) X (by decide +kernel) ?_
    refine so_geti (pc := 35) (index := 69) (ci := 1) (f := 5) (N := 11) (C := RX1) (T := TX1) X rfl uX1 (by decide) (by decide) tw_52 rfl (by decide) (by decide +kernel) ?_
    refine so_bipush (pc := 38) (n := 10) (v := 10) X (by decide +kernel) (by decide) ?_
    refine so_imul (pc := 40) X (by decide +kernel) ?_
    refine so_aload_n (pc := 41) (i := 1) X (by decide +kernel) ?_
    refine so_aload_n (pc := 42) (i := 0) X (by decide +kernel) ?_
    refine so_geti (pc := 43) (index := 38) (ci := 1) (f := 3) (N := 11) (C := RX1) (T := TX1) X rfl uX1 (by decide) (by decide) tw_27 rfl (by decide) (by decide +kernel) ?_
    refine so_iald (pc := 46) X (by decide +kernel) ?_
    refine so_iadd (pc := 47) X (by decide +kernel) ?_
    refine so_bipush (pc := 48) (n := 48) (v := 48) X (by decide +kernel) (by decide) ?_
    refine so_isub (pc := 50) X (by decide +kernel) ?_
    refine so_puti (pc := 51) (index := 69) (ci := 1) (f := 5) (N := 11) (C := RX1) (T := TX1) X rfl uX1 (by decide) (by decide) tw_52 tyX1 tyX1_ok nmX1 rfl (by decide +kernel) rfl (by decide +kernel) ?_
    refine so_aload_n (pc := 54) (i := 0) X (by decide +kernel) ?_
    refine so_dup (pc := 55) X (by decide +kernel) ?_
    refine so_geti (pc := 56) (index := 38) (ci := 1) (f := 3) (N := 11) (C := RX1) (T := TX1) X rfl uX1 (by decide) (by decide) tw_27 rfl (by decide) (by decide +kernel) ?_
    refine so_iconst (pc := 59) (n := 1) (v := 1) X (by decide +kernel) (by decide) ?_
    refine so_iadd (pc := 60) X (by decide +kernel) ?_
    refine so_puti (pc := 61) (index := 38) (ci := 1) (f := 3) (N := 11) (C := RX1) (T := TX1) X rfl uX1 (by decide) (by decide) tw_27 tyX1 tyX1_ok nmX1 rfl (by decide +kernel) rfl (by decide +kernel) ?_
    exact so_goto (pc := 64) (off := (-51)) (tgt := 13) X (by decide +kernel) (by decide) (hJ 1)
  | 2 =>
    refine so_aload_n (pc := 67) (i := 0) X (by decide +kernel) ?_
    refine so_aload_n (pc := 68) (i := 0) X (by decide +kernel) ?_
    refine so_geti (pc := 69) (index := 38) (ci := 1) (f := 3) (N := 11) (C := RX1) (T := TX1) X rfl uX1 (by decide) (by decide) tw_27 rfl (by decide) (by decide +kernel) ?_
    refine so_aload_n (pc := 72) (i := 0) X (by decide +kernel) ?_
    refine so_geti (pc := 73) (index := 66) (ci := 1) (f := 2) (N := 11) (C := RX1) (T := TX1) X rfl uX1 (by decide) (by decide) tw_51 rfl (by decide) (by decide +kernel) ?_
    refine so_isub (pc := 76) X (by decide +kernel) ?_
    refine so_iconst (pc := 77) (n := 4) (v := 4) X (by decide +kernel) (by decide) ?_
    refine so_icmp_gt (pc := 78) (off := 7) (tgt := 85) X (by decide +kernel) (by decide) (hJ 3) ?_
    refine so_iconst (pc := 81) (n := 2) (v := 2) X (by decide +kernel) (by decide) ?_
    exact so_goto (pc := 82) (off := 4) (tgt := 86) X (by decide +kernel) (by decide) (hJ 4)
  | 3 =>
    refine so_iconst (pc := 85) (n := 1) (v := 1) X (by decide +kernel) (by decide) ?_
    exact so_fall X (hJ 4)
  | 4 =>
    refine so_puti (pc := 86) (index := 45) (ci := 1) (f := 4) (N := 11) (C := RX1) (T := TX1) X rfl uX1 (by decide) (by decide) tw_33 tyX1 tyX1_ok nmX1 rfl (by decide +kernel) rfl (by decide +kernel) ?_
    exact so_rtv (pc := 89) X hlk hfree hr (by decide +kernel)
  | n + 5 => exact fun _ _ _ _ h => h.elim
theorem bs_X1_scanNumber {l : Launch} {D : va_G} {EXT : (Nat → Nat) → (Nat → Prop) → State → Heap → Prop} (hxo : mm_xo EXT) (hxe : ∀ ad A U H, EXT ad A U H → px_E0 ad A U H) : mm_BS l D pcl lw_T EXT px_tab 9 pb_X1_scanNumber pp_X1_scanNumber := by
  intro d C hC p e s m args below meth c A ad0 cA0 μ0 free Q J
  rw [tb_9]
  exact fun X hr hlk hnm hfree hJ => bk_X1_scanNumber hxo hxe hC X hr hlk hnm hfree hJ
set_option maxHeartbeats 4000000 in
set_option maxRecDepth 100000 in
theorem bk_X1_isLetter {l : Launch} {D : va_G} {EXT : (Nat → Nat) → (Nat → Prop) → State → Heap → Prop} (hxo : mm_xo EXT) (hxe : ∀ ad A U H, EXT ad A U H → px_E0 ad A U H) {d : Nat} {C : mm_C} (hC : mm_CS l D pcl lw_T EXT px_tab d C) {p : Program} {e : Env} {s : State} {m : MethodId} {args : Array Value} {below : List Frame} {meth : Method} {c : Code} {A : Nat → Prop} {ad0 : Nat → Nat} {cA0 : Nat → ClassId} {μ0 : mm_M} {free : Addr → Prop} {Q : mm_Q} {J : mm_J} (X : mm_cx p (mm_rm (d + 1) 0 0) s m args c cX1_isLetter RX1 lw_T A D pcl 1) (hr : meth.sig.returnType = some .boolean) (hlk : meth.locks = false) (hnm : meth.name = "isLetter") (hfree : ∀ q, A q → free q) (hJ : ∀ t, mm_SK p l e (mm_rm (d + 1) 0 0) s m args below meth c (MQ below (mm_Qc D pcl Q ad0 cA0 μ0 0 A) args s 0 0 free) D pcl A 1 (mm_EX EXT A s ad0 cA0 (mm_n μ0)) (pp_X1_isLetter t) (J t)) : ∀ t, mm_SK p l e (mm_rm (d + 1) 0 0) s m args below meth c (MQ below (mm_Qc D pcl Q ad0 cA0 μ0 0 A) args s 0 0 free) D pcl A 1 (mm_EX EXT A s ad0 cA0 (mm_n μ0)) (pp_X1_isLetter t) (pb_X1_isLetter J C Q t) := by
  intro t
  match t with
  | 0 =>
    refine so_iload_n (pc := 0) (i := 0) X (by decide +kernel) ?_
    refine so_bipush (pc := 1) (n := 97) (v := 97) X (by decide +kernel) (by decide) ?_
    refine so_icmp_lt (pc := 3) (off := 13) (tgt := 16) X (by decide +kernel) (by decide) (hJ 1) ?_
    refine so_iload_n (pc := 6) (i := 0) X (by decide +kernel) ?_
    refine so_bipush (pc := 7) (n := 122) (v := 122) X (by decide +kernel) (by decide) ?_
    refine so_icmp_gt (pc := 9) (off := 7) (tgt := 16) X (by decide +kernel) (by decide) (hJ 1) ?_
    refine so_iconst (pc := 12) (n := 1) (v := 1) X (by decide +kernel) (by decide) ?_
    exact so_goto (pc := 13) (off := 4) (tgt := 17) X (by decide +kernel) (by decide) (hJ 2)
  | 1 =>
    refine so_iconst (pc := 16) (n := 0) (v := 0) X (by decide +kernel) (by decide) ?_
    exact so_fall X (hJ 2)
  | 2 =>
    exact so_rtz (pc := 17) X hlk hfree hr (by decide +kernel)
  | n + 3 => exact fun _ _ _ _ h => h.elim
theorem bs_X1_isLetter {l : Launch} {D : va_G} {EXT : (Nat → Nat) → (Nat → Prop) → State → Heap → Prop} (hxo : mm_xo EXT) (hxe : ∀ ad A U H, EXT ad A U H → px_E0 ad A U H) : mm_BS l D pcl lw_T EXT px_tab 10 pb_X1_isLetter pp_X1_isLetter := by
  intro d C hC p e s m args below meth c A ad0 cA0 μ0 free Q J
  rw [tb_10]
  exact fun X hr hlk hnm hfree hJ => bk_X1_isLetter hxo hxe hC X hr hlk hnm hfree hJ
set_option maxHeartbeats 4000000 in
set_option maxRecDepth 100000 in
theorem bk_X1_isFigure {l : Launch} {D : va_G} {EXT : (Nat → Nat) → (Nat → Prop) → State → Heap → Prop} (hxo : mm_xo EXT) (hxe : ∀ ad A U H, EXT ad A U H → px_E0 ad A U H) {d : Nat} {C : mm_C} (hC : mm_CS l D pcl lw_T EXT px_tab d C) {p : Program} {e : Env} {s : State} {m : MethodId} {args : Array Value} {below : List Frame} {meth : Method} {c : Code} {A : Nat → Prop} {ad0 : Nat → Nat} {cA0 : Nat → ClassId} {μ0 : mm_M} {free : Addr → Prop} {Q : mm_Q} {J : mm_J} (X : mm_cx p (mm_rm (d + 1) 0 0) s m args c cX1_isFigure RX1 lw_T A D pcl 1) (hr : meth.sig.returnType = some .boolean) (hlk : meth.locks = false) (hnm : meth.name = "isFigure") (hfree : ∀ q, A q → free q) (hJ : ∀ t, mm_SK p l e (mm_rm (d + 1) 0 0) s m args below meth c (MQ below (mm_Qc D pcl Q ad0 cA0 μ0 0 A) args s 0 0 free) D pcl A 1 (mm_EX EXT A s ad0 cA0 (mm_n μ0)) (pp_X1_isFigure t) (J t)) : ∀ t, mm_SK p l e (mm_rm (d + 1) 0 0) s m args below meth c (MQ below (mm_Qc D pcl Q ad0 cA0 μ0 0 A) args s 0 0 free) D pcl A 1 (mm_EX EXT A s ad0 cA0 (mm_n μ0)) (pp_X1_isFigure t) (pb_X1_isFigure J C Q t) := by
  intro t
  match t with
  | 0 =>
    refine so_iload_n (pc := 0) (i := 0) X (by decide +kernel) ?_
    refine so_bipush (pc := 1) (n := 48) (v := 48) X (by decide +kernel) (by decide) ?_
    refine so_icmp_lt (pc := 3) (off := 13) (tgt := 16) X (by decide +kernel) (by decide) (hJ 1) ?_
    refine so_iload_n (pc := 6) (i := 0) X (by decide +kernel) ?_
    refine so_bipush (pc := 7) (n := 57) (v := 57) X (by decide +kernel) (by decide) ?_
    refine so_icmp_gt (pc := 9) (off := 7) (tgt := 16) X (by decide +kernel) (by decide) (hJ 1) ?_
    refine so_iconst (pc := 12) (n := 1) (v := 1) X (by decide +kernel) (by decide) ?_
    exact so_goto (pc := 13) (off := 4) (tgt := 17) X (by decide +kernel) (by decide) (hJ 2)
  | 1 =>
    refine so_iconst (pc := 16) (n := 0) (v := 0) X (by decide +kernel) (by decide) ?_
    exact so_fall X (hJ 2)
  | 2 =>
    exact so_rtz (pc := 17) X hlk hfree hr (by decide +kernel)
  | n + 3 => exact fun _ _ _ _ h => h.elim
theorem bs_X1_isFigure {l : Launch} {D : va_G} {EXT : (Nat → Nat) → (Nat → Prop) → State → Heap → Prop} (hxo : mm_xo EXT) (hxe : ∀ ad A U H, EXT ad A U H → px_E0 ad A U H) : mm_BS l D pcl lw_T EXT px_tab 11 pb_X1_isFigure pp_X1_isFigure := by
  intro d C hC p e s m args below meth c A ad0 cA0 μ0 free Q J
  rw [tb_11]
  exact fun X hr hlk hnm hfree hJ => bk_X1_isFigure hxo hxe hC X hr hlk hnm hfree hJ
set_option maxHeartbeats 4000000 in
set_option maxRecDepth 100000 in
theorem bk_X1_kindOfSign {l : Launch} {D : va_G} {EXT : (Nat → Nat) → (Nat → Prop) → State → Heap → Prop} (hxo : mm_xo EXT) (hxe : ∀ ad A U H, EXT ad A U H → px_E0 ad A U H) {d : Nat} {C : mm_C} (hC : mm_CS l D pcl lw_T EXT px_tab d C) {p : Program} {e : Env} {s : State} {m : MethodId} {args : Array Value} {below : List Frame} {meth : Method} {c : Code} {A : Nat → Prop} {ad0 : Nat → Nat} {cA0 : Nat → ClassId} {μ0 : mm_M} {free : Addr → Prop} {Q : mm_Q} {J : mm_J} (X : mm_cx p (mm_rm (d + 1) 0 0) s m args c cX1_kindOfSign RX1 lw_T A D pcl 1) (hr : meth.sig.returnType = some .int) (hlk : meth.locks = false) (hnm : meth.name = "kindOfSign") (hfree : ∀ q, A q → free q) (hJ : ∀ t, mm_SK p l e (mm_rm (d + 1) 0 0) s m args below meth c (MQ below (mm_Qc D pcl Q ad0 cA0 μ0 0 A) args s 0 0 free) D pcl A 1 (mm_EX EXT A s ad0 cA0 (mm_n μ0)) (pp_X1_kindOfSign t) (J t)) : ∀ t, mm_SK p l e (mm_rm (d + 1) 0 0) s m args below meth c (MQ below (mm_Qc D pcl Q ad0 cA0 μ0 0 A) args s 0 0 free) D pcl A 1 (mm_EX EXT A s ad0 cA0 (mm_n μ0)) (pp_X1_kindOfSign t) (pb_X1_kindOfSign J C Q t) := by
  intro t
  match t with
  | 0 =>
    refine so_iload_n (pc := 0) (i := 0) X (by decide +kernel) ?_
    exact so_tsw (tts := []) (pc := 1) (len := 107) (dflt := 134) (lo := 40) (hi := 62) (offs := #[107, 110, 119, 113, 134, 116, 134, 122, 134, 134, 134, 134, 134, 134, 134, 134, 134, 134, 134, 134, 125, 128, 131]) (dt := 135) X (by decide +kernel) (by decide) (by decide) (hJ 10) (fun i t h => match i, t, h with | 0, _, h => by cases h; exact ⟨107, 108, rfl, by decide, hJ 1⟩ | 1, _, h => by cases h; exact ⟨110, 111, rfl, by decide, hJ 2⟩ | 2, _, h => by cases h; exact ⟨119, 120, rfl, by decide, hJ 5⟩ | 3, _, h => by cases h; exact ⟨113, 114, rfl, by decide, hJ 3⟩ | 4, _, h => by cases h; exact ⟨134, 135, rfl, by decide, hJ 10⟩ | 5, _, h => by cases h; exact ⟨116, 117, rfl, by decide, hJ 4⟩ | 6, _, h => by cases h; exact ⟨134, 135, rfl, by decide, hJ 10⟩ | 7, _, h => by cases h; exact ⟨122, 123, rfl, by decide, hJ 6⟩ | 8, _, h => by cases h; exact ⟨134, 135, rfl, by decide, hJ 10⟩ | 9, _, h => by cases h; exact ⟨134, 135, rfl, by decide, hJ 10⟩ | 10, _, h => by cases h; exact ⟨134, 135, rfl, by decide, hJ 10⟩ | 11, _, h => by cases h; exact ⟨134, 135, rfl, by decide, hJ 10⟩ | 12, _, h => by cases h; exact ⟨134, 135, rfl, by decide, hJ 10⟩ | 13, _, h => by cases h; exact ⟨134, 135, rfl, by decide, hJ 10⟩ | 14, _, h => by cases h; exact ⟨134, 135, rfl, by decide, hJ 10⟩ | 15, _, h => by cases h; exact ⟨134, 135, rfl, by decide, hJ 10⟩ | 16, _, h => by cases h; exact ⟨134, 135, rfl, by decide, hJ 10⟩ | 17, _, h => by cases h; exact ⟨134, 135, rfl, by decide, hJ 10⟩ | 18, _, h => by cases h; exact ⟨134, 135, rfl, by decide, hJ 10⟩ | 19, _, h => by cases h; exact ⟨134, 135, rfl, by decide, hJ 10⟩ | 20, _, h => by cases h; exact ⟨125, 126, rfl, by decide, hJ 7⟩ | 21, _, h => by cases h; exact ⟨128, 129, rfl, by decide, hJ 8⟩ | 22, _, h => by cases h; exact ⟨131, 132, rfl, by decide, hJ 9⟩ | n + 23, _, h => by simp at h)
  | 1 =>
    refine so_bipush (pc := 108) (n := 6) (v := 6) X (by decide +kernel) (by decide) ?_
    exact so_ret (pc := 110) X hlk hfree hr (by decide +kernel)
  | 2 =>
    refine so_bipush (pc := 111) (n := 7) (v := 7) X (by decide +kernel) (by decide) ?_
    exact so_ret (pc := 113) X hlk hfree hr (by decide +kernel)
  | 3 =>
    refine so_bipush (pc := 114) (n := 14) (v := 14) X (by decide +kernel) (by decide) ?_
    exact so_ret (pc := 116) X hlk hfree hr (by decide +kernel)
  | 4 =>
    refine so_bipush (pc := 117) (n := 15) (v := 15) X (by decide +kernel) (by decide) ?_
    exact so_ret (pc := 119) X hlk hfree hr (by decide +kernel)
  | 5 =>
    refine so_bipush (pc := 120) (n := 16) (v := 16) X (by decide +kernel) (by decide) ?_
    exact so_ret (pc := 122) X hlk hfree hr (by decide +kernel)
  | 6 =>
    refine so_bipush (pc := 123) (n := 17) (v := 17) X (by decide +kernel) (by decide) ?_
    exact so_ret (pc := 125) X hlk hfree hr (by decide +kernel)
  | 7 =>
    refine so_bipush (pc := 126) (n := 11) (v := 11) X (by decide +kernel) (by decide) ?_
    exact so_ret (pc := 128) X hlk hfree hr (by decide +kernel)
  | 8 =>
    refine so_bipush (pc := 129) (n := 12) (v := 12) X (by decide +kernel) (by decide) ?_
    exact so_ret (pc := 131) X hlk hfree hr (by decide +kernel)
  | 9 =>
    refine so_bipush (pc := 132) (n := 13) (v := 13) X (by decide +kernel) (by decide) ?_
    exact so_ret (pc := 134) X hlk hfree hr (by decide +kernel)
  | 10 =>
    refine so_iconst (pc := 135) (n := 1) (v := 1) X (by decide +kernel) (by decide) ?_
    exact so_ret (pc := 136) X hlk hfree hr (by decide +kernel)
  | n + 11 => exact fun _ _ _ _ h => h.elim
theorem bs_X1_kindOfSign {l : Launch} {D : va_G} {EXT : (Nat → Nat) → (Nat → Prop) → State → Heap → Prop} (hxo : mm_xo EXT) (hxe : ∀ ad A U H, EXT ad A U H → px_E0 ad A U H) : mm_BS l D pcl lw_T EXT px_tab 12 pb_X1_kindOfSign pp_X1_kindOfSign := by
  intro d C hC p e s m args below meth c A ad0 cA0 μ0 free Q J
  rw [tb_12]
  exact fun X hr hlk hnm hfree hJ => bk_X1_kindOfSign hxo hxe hC X hr hlk hnm hfree hJ
set_option maxHeartbeats 4000000 in
set_option maxRecDepth 100000 in
theorem bk_X1_stateBehind {l : Launch} {D : va_G} {EXT : (Nat → Nat) → (Nat → Prop) → State → Heap → Prop} (hxo : mm_xo EXT) (hxe : ∀ ad A U H, EXT ad A U H → px_E0 ad A U H) {d : Nat} {C : mm_C} (hC : mm_CS l D pcl lw_T EXT px_tab d C) {p : Program} {e : Env} {s : State} {m : MethodId} {args : Array Value} {below : List Frame} {meth : Method} {c : Code} {A : Nat → Prop} {ad0 : Nat → Nat} {cA0 : Nat → ClassId} {μ0 : mm_M} {free : Addr → Prop} {Q : mm_Q} {J : mm_J} (X : mm_cx p (mm_rm (d + 1) 0 0) s m args c cX1_stateBehind RX1 lw_T A D pcl 1) (hr : meth.sig.returnType = some .int) (hlk : meth.locks = false) (hnm : meth.name = "stateBehind") (hfree : ∀ q, A q → free q) (hJ : ∀ t, mm_SK p l e (mm_rm (d + 1) 0 0) s m args below meth c (MQ below (mm_Qc D pcl Q ad0 cA0 μ0 0 A) args s 0 0 free) D pcl A 1 (mm_EX EXT A s ad0 cA0 (mm_n μ0)) (pp_X1_stateBehind t) (J t)) : ∀ t, mm_SK p l e (mm_rm (d + 1) 0 0) s m args below meth c (MQ below (mm_Qc D pcl Q ad0 cA0 μ0 0 A) args s 0 0 free) D pcl A 1 (mm_EX EXT A s ad0 cA0 (mm_n μ0)) (pp_X1_stateBehind t) (pb_X1_stateBehind J C Q t) := by
  intro t
  match t with
  | 0 =>
    refine so_aload_n (pc := 0) (i := 0) X (by decide +kernel) ?_
    refine so_geti (pc := 1) (index := 25) (ci := 1) (f := 6) (N := 11) (C := RX1) (T := TX1) X rfl uX1 (by decide) (by decide) tw_23 rfl (by decide) (by decide +kernel) ?_
    exact so_tsw (tts := []) (pc := 4) (len := 36) (dflt := 153) (lo := 0) (hi := 4) (offs := #[36, 81, 88, 130, 137]) (dt := 157) X (by decide +kernel) (by decide) (by decide) (hJ 16) (fun i t h => match i, t, h with | 0, _, h => by cases h; exact ⟨36, 40, rfl, by decide, hJ 1⟩ | 1, _, h => by cases h; exact ⟨81, 85, rfl, by decide, hJ 6⟩ | 2, _, h => by cases h; exact ⟨88, 92, rfl, by decide, hJ 7⟩ | 3, _, h => by cases h; exact ⟨130, 134, rfl, by decide, hJ 12⟩ | 4, _, h => by cases h; exact ⟨137, 141, rfl, by decide, hJ 13⟩ | n + 5, _, h => by simp at h)
  | 1 =>
    refine so_aload_n (pc := 40) (i := 0) X (by decide +kernel) ?_
    refine so_geti (pc := 41) (index := 45) (ci := 1) (f := 4) (N := 11) (C := RX1) (T := TX1) X rfl uX1 (by decide) (by decide) tw_33 rfl (by decide) (by decide +kernel) ?_
    refine so_bipush (pc := 44) (n := 10) (v := 10) X (by decide +kernel) (by decide) ?_
    refine so_icmp_eq (pc := 46) (off := 12) (tgt := 58) X (by decide +kernel) (by decide) (hJ 2) ?_
    refine so_aload_n (pc := 49) (i := 0) X (by decide +kernel) ?_
    refine so_geti (pc := 50) (index := 45) (ci := 1) (f := 4) (N := 11) (C := RX1) (T := TX1) X rfl uX1 (by decide) (by decide) tw_33 rfl (by decide) (by decide +kernel) ?_
    refine so_bipush (pc := 53) (n := 6) (v := 6) X (by decide +kernel) (by decide) ?_
    refine so_icmp_ne (pc := 55) (off := 5) (tgt := 60) X (by decide +kernel) (by decide) (hJ 3) ?_
    exact so_fall X (hJ 2)
  | 2 =>
    refine so_iconst (pc := 58) (n := 0) (v := 0) X (by decide +kernel) (by decide) ?_
    exact so_ret (pc := 59) X hlk hfree hr (by decide +kernel)
  | 3 =>
    refine so_aload_n (pc := 60) (i := 0) X (by decide +kernel) ?_
    refine so_geti (pc := 61) (index := 45) (ci := 1) (f := 4) (N := 11) (C := RX1) (T := TX1) X rfl uX1 (by decide) (by decide) tw_33 rfl (by decide) (by decide +kernel) ?_
    refine so_iconst (pc := 64) (n := 4) (v := 4) X (by decide +kernel) (by decide) ?_
    refine so_icmp_eq (pc := 65) (off := 11) (tgt := 76) X (by decide +kernel) (by decide) (hJ 4) ?_
    refine so_aload_n (pc := 68) (i := 0) X (by decide +kernel) ?_
    refine so_geti (pc := 69) (index := 45) (ci := 1) (f := 4) (N := 11) (C := RX1) (T := TX1) X rfl uX1 (by decide) (by decide) tw_33 rfl (by decide) (by decide +kernel) ?_
    refine so_iconst (pc := 72) (n := 5) (v := 5) X (by decide +kernel) (by decide) ?_
    refine so_icmp_ne (pc := 73) (off := 5) (tgt := 78) X (by decide +kernel) (by decide) (hJ 5) ?_
    exact so_fall X (hJ 4)
  | 4 =>
    refine so_iconst (pc := 76) (n := 5) (v := 5) X (by decide +kernel) (by decide) ?_
    exact so_ret (pc := 77) X hlk hfree hr (by decide +kernel)
  | 5 =>
    refine so_aload_n (pc := 78) (i := 0) X (by decide +kernel) ?_
    refine so_iconst (pc := 79) (n := 1) (v := 1) X (by decide +kernel) (by decide) ?_
    refine so_iconst (pc := 80) (n := 2) (v := 2) X (by decide +kernel) (by decide) ?_
    refine so_cav (pc := 81) (y := 14) (na := 3) (index := 112) (maxL := 3) (nm := yX1_behindLeaf) (bytes := cX1_behindLeaf) (ret := (some .int)) (ci := 1) (N := 11) (T := TX1) X hxo (fun _ _ _ _ h => h.1) hC lw_good (Nat.le_refl _) (mm_lo d) rfl (by decide) tw_83 tw_84 tw_30 rfl (by decide) tw_85 tw_86 (by decide +kernel) (by decide +kernel) ?_
    exact so_ret (pc := 84) X hlk hfree hr (by decide +kernel)
  | 6 =>
    refine so_aload_n (pc := 85) (i := 0) X (by decide +kernel) ?_
    refine so_iconst (pc := 86) (n := 1) (v := 1) X (by decide +kernel) (by decide) ?_
    refine so_iconst (pc := 87) (n := 2) (v := 2) X (by decide +kernel) (by decide) ?_
    refine so_cav (pc := 88) (y := 14) (na := 3) (index := 112) (maxL := 3) (nm := yX1_behindLeaf) (bytes := cX1_behindLeaf) (ret := (some .int)) (ci := 1) (N := 11) (T := TX1) X hxo (fun _ _ _ _ h => h.1) hC lw_good (Nat.le_refl _) (mm_lo d) rfl (by decide) tw_83 tw_84 tw_30 rfl (by decide) tw_85 tw_86 (by decide +kernel) (by decide +kernel) ?_
    exact so_ret (pc := 91) X hlk hfree hr (by decide +kernel)
  | 7 =>
    refine so_aload_n (pc := 92) (i := 0) X (by decide +kernel) ?_
    refine so_geti (pc := 93) (index := 45) (ci := 1) (f := 4) (N := 11) (C := RX1) (T := TX1) X rfl uX1 (by decide) (by decide) tw_33 rfl (by decide) (by decide +kernel) ?_
    refine so_bipush (pc := 96) (n := 11) (v := 11) X (by decide +kernel) (by decide) ?_
    refine so_icmp_eq (pc := 98) (off := 21) (tgt := 119) X (by decide +kernel) (by decide) (hJ 8) ?_
    refine so_aload_n (pc := 101) (i := 0) X (by decide +kernel) ?_
    refine so_geti (pc := 102) (index := 45) (ci := 1) (f := 4) (N := 11) (C := RX1) (T := TX1) X rfl uX1 (by decide) (by decide) tw_33 rfl (by decide) (by decide +kernel) ?_
    refine so_bipush (pc := 105) (n := 12) (v := 12) X (by decide +kernel) (by decide) ?_
    refine so_icmp_eq (pc := 107) (off := 12) (tgt := 119) X (by decide +kernel) (by decide) (hJ 8) ?_
    refine so_aload_n (pc := 110) (i := 0) X (by decide +kernel) ?_
    refine so_geti (pc := 111) (index := 45) (ci := 1) (f := 4) (N := 11) (C := RX1) (T := TX1) X rfl uX1 (by decide) (by decide) tw_33 rfl (by decide) (by decide +kernel) ?_
    refine so_bipush (pc := 114) (n := 13) (v := 13) X (by decide +kernel) (by decide) ?_
    refine so_icmp_ne (pc := 116) (off := 5) (tgt := 121) X (by decide +kernel) (by decide) (hJ 9) ?_
    exact so_fall X (hJ 8)
  | 8 =>
    refine so_iconst (pc := 119) (n := 3) (v := 3) X (by decide +kernel) (by decide) ?_
    exact so_ret (pc := 120) X hlk hfree hr (by decide +kernel)
  | 9 =>
    refine so_aload_n (pc := 121) (i := 0) X (by decide +kernel) ?_
    refine so_cav (pc := 122) (y := 15) (na := 1) (index := 115) (maxL := 1) (nm := yX1_goesOnSum) (bytes := cX1_goesOnSum) (ret := (some .boolean)) (ci := 1) (N := 11) (T := TX1) X hxo (fun _ _ _ _ h => h.1) hC lw_good (Nat.le_refl _) (mm_lo d) rfl (by decide) tw_87 tw_88 tw_30 rfl (by decide) tw_89 tw_90 (by decide +kernel) (by decide +kernel) ?_
    refine so_if_eq (pc := 125) (off := 7) (tgt := 132) X (by decide +kernel) (by decide) (hJ 10) ?_
    refine so_iconst (pc := 128) (n := 1) (v := 1) X (by decide +kernel) (by decide) ?_
    exact so_goto (pc := 129) (off := 4) (tgt := 133) X (by decide +kernel) (by decide) (hJ 11)
  | 10 =>
    refine so_iconst (pc := 132) (n := (-1)) (v := (-1)) X (by decide +kernel) (by decide) ?_
    exact so_fall X (hJ 11)
  | 11 =>
    exact so_ret (pc := 133) X hlk hfree hr (by decide +kernel)
  | 12 =>
    refine so_aload_n (pc := 134) (i := 0) X (by decide +kernel) ?_
    refine so_iconst (pc := 135) (n := 3) (v := 3) X (by decide +kernel) (by decide) ?_
    refine so_iconst (pc := 136) (n := 4) (v := 4) X (by decide +kernel) (by decide) ?_
    refine so_cav (pc := 137) (y := 14) (na := 3) (index := 112) (maxL := 3) (nm := yX1_behindLeaf) (bytes := cX1_behindLeaf) (ret := (some .int)) (ci := 1) (N := 11) (T := TX1) X hxo (fun _ _ _ _ h => h.1) hC lw_good (Nat.le_refl _) (mm_lo d) rfl (by decide) tw_83 tw_84 tw_30 rfl (by decide) tw_85 tw_86 (by decide +kernel) (by decide +kernel) ?_
    exact so_ret (pc := 140) X hlk hfree hr (by decide +kernel)
  | 13 =>
    refine so_aload_n (pc := 141) (i := 0) X (by decide +kernel) ?_
    refine so_cav (pc := 142) (y := 15) (na := 1) (index := 115) (maxL := 1) (nm := yX1_goesOnSum) (bytes := cX1_goesOnSum) (ret := (some .boolean)) (ci := 1) (N := 11) (T := TX1) X hxo (fun _ _ _ _ h => h.1) hC lw_good (Nat.le_refl _) (mm_lo d) rfl (by decide) tw_87 tw_88 tw_30 rfl (by decide) tw_89 tw_90 (by decide +kernel) (by decide +kernel) ?_
    refine so_if_eq (pc := 145) (off := 7) (tgt := 152) X (by decide +kernel) (by decide) (hJ 14) ?_
    refine so_iconst (pc := 148) (n := 3) (v := 3) X (by decide +kernel) (by decide) ?_
    exact so_goto (pc := 149) (off := 7) (tgt := 156) X (by decide +kernel) (by decide) (hJ 15)
  | 14 =>
    refine so_aload_n (pc := 152) (i := 0) X (by decide +kernel) ?_
    refine so_cav (pc := 153) (y := 16) (na := 1) (index := 119) (maxL := 1) (nm := yX1_behindOne) (bytes := cX1_behindOne) (ret := (some .int)) (ci := 1) (N := 11) (T := TX1) X hxo (fun _ _ _ _ h => h.1) hC lw_good (Nat.le_refl _) (mm_lo d) rfl (by decide) tw_91 tw_92 tw_30 rfl (by decide) tw_93 tw_94 (by decide +kernel) (by decide +kernel) ?_
    exact so_fall X (hJ 15)
  | 15 =>
    exact so_ret (pc := 156) X hlk hfree hr (by decide +kernel)
  | 16 =>
    refine so_aload_n (pc := 157) (i := 0) X (by decide +kernel) ?_
    refine so_cav (pc := 158) (y := 16) (na := 1) (index := 119) (maxL := 1) (nm := yX1_behindOne) (bytes := cX1_behindOne) (ret := (some .int)) (ci := 1) (N := 11) (T := TX1) X hxo (fun _ _ _ _ h => h.1) hC lw_good (Nat.le_refl _) (mm_lo d) rfl (by decide) tw_91 tw_92 tw_30 rfl (by decide) tw_93 tw_94 (by decide +kernel) (by decide +kernel) ?_
    exact so_ret (pc := 161) X hlk hfree hr (by decide +kernel)
  | n + 17 => exact fun _ _ _ _ h => h.elim
theorem bs_X1_stateBehind {l : Launch} {D : va_G} {EXT : (Nat → Nat) → (Nat → Prop) → State → Heap → Prop} (hxo : mm_xo EXT) (hxe : ∀ ad A U H, EXT ad A U H → px_E0 ad A U H) : mm_BS l D pcl lw_T EXT px_tab 13 pb_X1_stateBehind pp_X1_stateBehind := by
  intro d C hC p e s m args below meth c A ad0 cA0 μ0 free Q J
  rw [tb_13]
  exact fun X hr hlk hnm hfree hJ => bk_X1_stateBehind hxo hxe hC X hr hlk hnm hfree hJ
set_option maxHeartbeats 4000000 in
set_option maxRecDepth 100000 in
theorem bk_X1_behindLeaf {l : Launch} {D : va_G} {EXT : (Nat → Nat) → (Nat → Prop) → State → Heap → Prop} (hxo : mm_xo EXT) (hxe : ∀ ad A U H, EXT ad A U H → px_E0 ad A U H) {d : Nat} {C : mm_C} (hC : mm_CS l D pcl lw_T EXT px_tab d C) {p : Program} {e : Env} {s : State} {m : MethodId} {args : Array Value} {below : List Frame} {meth : Method} {c : Code} {A : Nat → Prop} {ad0 : Nat → Nat} {cA0 : Nat → ClassId} {μ0 : mm_M} {free : Addr → Prop} {Q : mm_Q} {J : mm_J} (X : mm_cx p (mm_rm (d + 1) 0 0) s m args c cX1_behindLeaf RX1 lw_T A D pcl 3) (hr : meth.sig.returnType = some .int) (hlk : meth.locks = false) (hnm : meth.name = "behindLeaf") (hfree : ∀ q, A q → free q) (hJ : ∀ t, mm_SK p l e (mm_rm (d + 1) 0 0) s m args below meth c (MQ below (mm_Qc D pcl Q ad0 cA0 μ0 0 A) args s 0 0 free) D pcl A 3 (mm_EX EXT A s ad0 cA0 (mm_n μ0)) (pp_X1_behindLeaf t) (J t)) : ∀ t, mm_SK p l e (mm_rm (d + 1) 0 0) s m args below meth c (MQ below (mm_Qc D pcl Q ad0 cA0 μ0 0 A) args s 0 0 free) D pcl A 3 (mm_EX EXT A s ad0 cA0 (mm_n μ0)) (pp_X1_behindLeaf t) (pb_X1_behindLeaf J C Q t) := by
  intro t
  match t with
  | 0 =>
    refine so_aload_n (pc := 0) (i := 0) X (by decide +kernel) ?_
    refine so_geti (pc := 1) (index := 45) (ci := 1) (f := 4) (N := 11) (C := RX1) (T := TX1) X rfl uX1 (by decide) (by decide) tw_33 rfl (by decide) (by decide +kernel) ?_
    refine so_iconst (pc := 4) (n := 3) (v := 3) X (by decide +kernel) (by decide) ?_
    refine so_icmp_eq (pc := 5) (off := 11) (tgt := 16) X (by decide +kernel) (by decide) (hJ 1) ?_
    refine so_aload_n (pc := 8) (i := 0) X (by decide +kernel) ?_
    refine so_geti (pc := 9) (index := 45) (ci := 1) (f := 4) (N := 11) (C := RX1) (T := TX1) X rfl uX1 (by decide) (by decide) tw_33 rfl (by decide) (by decide +kernel) ?_
    refine so_iconst (pc := 12) (n := 2) (v := 2) X (by decide +kernel) (by decide) ?_
    refine so_icmp_ne (pc := 13) (off := 5) (tgt := 18) X (by decide +kernel) (by decide) (hJ 2) ?_
    exact so_fall X (hJ 1)
  | 1 =>
    refine so_iload_n (pc := 16) (i := 2) X (by decide +kernel) ?_
    exact so_ret (pc := 17) X hlk hfree hr (by decide +kernel)
  | 2 =>
    refine so_aload_n (pc := 18) (i := 0) X (by decide +kernel) ?_
    refine so_geti (pc := 19) (index := 45) (ci := 1) (f := 4) (N := 11) (C := RX1) (T := TX1) X rfl uX1 (by decide) (by decide) tw_33 rfl (by decide) (by decide +kernel) ?_
    refine so_bipush (pc := 22) (n := 15) (v := 15) X (by decide +kernel) (by decide) ?_
    refine so_icmp_ne (pc := 24) (off := 7) (tgt := 31) X (by decide +kernel) (by decide) (hJ 3) ?_
    refine so_iload_n (pc := 27) (i := 1) X (by decide +kernel) ?_
    exact so_goto (pc := 28) (off := 4) (tgt := 32) X (by decide +kernel) (by decide) (hJ 4)
  | 3 =>
    refine so_iconst (pc := 31) (n := (-1)) (v := (-1)) X (by decide +kernel) (by decide) ?_
    exact so_fall X (hJ 4)
  | 4 =>
    exact so_ret (pc := 32) X hlk hfree hr (by decide +kernel)
  | n + 5 => exact fun _ _ _ _ h => h.elim
theorem bs_X1_behindLeaf {l : Launch} {D : va_G} {EXT : (Nat → Nat) → (Nat → Prop) → State → Heap → Prop} (hxo : mm_xo EXT) (hxe : ∀ ad A U H, EXT ad A U H → px_E0 ad A U H) : mm_BS l D pcl lw_T EXT px_tab 14 pb_X1_behindLeaf pp_X1_behindLeaf := by
  intro d C hC p e s m args below meth c A ad0 cA0 μ0 free Q J
  rw [tb_14]
  exact fun X hr hlk hnm hfree hJ => bk_X1_behindLeaf hxo hxe hC X hr hlk hnm hfree hJ
set_option maxHeartbeats 4000000 in
set_option maxRecDepth 100000 in
theorem bk_X1_goesOnSum {l : Launch} {D : va_G} {EXT : (Nat → Nat) → (Nat → Prop) → State → Heap → Prop} (hxo : mm_xo EXT) (hxe : ∀ ad A U H, EXT ad A U H → px_E0 ad A U H) {d : Nat} {C : mm_C} (hC : mm_CS l D pcl lw_T EXT px_tab d C) {p : Program} {e : Env} {s : State} {m : MethodId} {args : Array Value} {below : List Frame} {meth : Method} {c : Code} {A : Nat → Prop} {ad0 : Nat → Nat} {cA0 : Nat → ClassId} {μ0 : mm_M} {free : Addr → Prop} {Q : mm_Q} {J : mm_J} (X : mm_cx p (mm_rm (d + 1) 0 0) s m args c cX1_goesOnSum RX1 lw_T A D pcl 1) (hr : meth.sig.returnType = some .boolean) (hlk : meth.locks = false) (hnm : meth.name = "goesOnSum") (hfree : ∀ q, A q → free q) (hJ : ∀ t, mm_SK p l e (mm_rm (d + 1) 0 0) s m args below meth c (MQ below (mm_Qc D pcl Q ad0 cA0 μ0 0 A) args s 0 0 free) D pcl A 1 (mm_EX EXT A s ad0 cA0 (mm_n μ0)) (pp_X1_goesOnSum t) (J t)) : ∀ t, mm_SK p l e (mm_rm (d + 1) 0 0) s m args below meth c (MQ below (mm_Qc D pcl Q ad0 cA0 μ0 0 A) args s 0 0 free) D pcl A 1 (mm_EX EXT A s ad0 cA0 (mm_n μ0)) (pp_X1_goesOnSum t) (pb_X1_goesOnSum J C Q t) := by
  intro t
  match t with
  | 0 =>
    refine so_aload_n (pc := 0) (i := 0) X (by decide +kernel) ?_
    refine so_geti (pc := 1) (index := 45) (ci := 1) (f := 4) (N := 11) (C := RX1) (T := TX1) X rfl uX1 (by decide) (by decide) tw_33 rfl (by decide) (by decide +kernel) ?_
    refine so_bipush (pc := 4) (n := 14) (v := 14) X (by decide +kernel) (by decide) ?_
    refine so_icmp_eq (pc := 6) (off := 30) (tgt := 36) X (by decide +kernel) (by decide) (hJ 1) ?_
    refine so_aload_n (pc := 9) (i := 0) X (by decide +kernel) ?_
    refine so_geti (pc := 10) (index := 45) (ci := 1) (f := 4) (N := 11) (C := RX1) (T := TX1) X rfl uX1 (by decide) (by decide) tw_33 rfl (by decide) (by decide +kernel) ?_
    refine so_bipush (pc := 13) (n := 15) (v := 15) X (by decide +kernel) (by decide) ?_
    refine so_icmp_eq (pc := 15) (off := 21) (tgt := 36) X (by decide +kernel) (by decide) (hJ 1) ?_
    refine so_aload_n (pc := 18) (i := 0) X (by decide +kernel) ?_
    refine so_geti (pc := 19) (index := 45) (ci := 1) (f := 4) (N := 11) (C := RX1) (T := TX1) X rfl uX1 (by decide) (by decide) tw_33 rfl (by decide) (by decide +kernel) ?_
    refine so_bipush (pc := 22) (n := 16) (v := 16) X (by decide +kernel) (by decide) ?_
    refine so_icmp_eq (pc := 24) (off := 12) (tgt := 36) X (by decide +kernel) (by decide) (hJ 1) ?_
    refine so_aload_n (pc := 27) (i := 0) X (by decide +kernel) ?_
    refine so_geti (pc := 28) (index := 45) (ci := 1) (f := 4) (N := 11) (C := RX1) (T := TX1) X rfl uX1 (by decide) (by decide) tw_33 rfl (by decide) (by decide +kernel) ?_
    refine so_bipush (pc := 31) (n := 17) (v := 17) X (by decide +kernel) (by decide) ?_
    refine so_icmp_ne (pc := 33) (off := 7) (tgt := 40) X (by decide +kernel) (by decide) (hJ 2) ?_
    exact so_fall X (hJ 1)
  | 1 =>
    refine so_iconst (pc := 36) (n := 1) (v := 1) X (by decide +kernel) (by decide) ?_
    exact so_goto (pc := 37) (off := 4) (tgt := 41) X (by decide +kernel) (by decide) (hJ 3)
  | 2 =>
    refine so_iconst (pc := 40) (n := 0) (v := 0) X (by decide +kernel) (by decide) ?_
    exact so_fall X (hJ 3)
  | 3 =>
    exact so_rtz (pc := 41) X hlk hfree hr (by decide +kernel)
  | n + 4 => exact fun _ _ _ _ h => h.elim
theorem bs_X1_goesOnSum {l : Launch} {D : va_G} {EXT : (Nat → Nat) → (Nat → Prop) → State → Heap → Prop} (hxo : mm_xo EXT) (hxe : ∀ ad A U H, EXT ad A U H → px_E0 ad A U H) : mm_BS l D pcl lw_T EXT px_tab 15 pb_X1_goesOnSum pp_X1_goesOnSum := by
  intro d C hC p e s m args below meth c A ad0 cA0 μ0 free Q J
  rw [tb_15]
  exact fun X hr hlk hnm hfree hJ => bk_X1_goesOnSum hxo hxe hC X hr hlk hnm hfree hJ
set_option maxHeartbeats 4000000 in
set_option maxRecDepth 100000 in
theorem bk_X1_behindOne {l : Launch} {D : va_G} {EXT : (Nat → Nat) → (Nat → Prop) → State → Heap → Prop} (hxo : mm_xo EXT) (hxe : ∀ ad A U H, EXT ad A U H → px_E0 ad A U H) {d : Nat} {C : mm_C} (hC : mm_CS l D pcl lw_T EXT px_tab d C) {p : Program} {e : Env} {s : State} {m : MethodId} {args : Array Value} {below : List Frame} {meth : Method} {c : Code} {A : Nat → Prop} {ad0 : Nat → Nat} {cA0 : Nat → ClassId} {μ0 : mm_M} {free : Addr → Prop} {Q : mm_Q} {J : mm_J} (X : mm_cx p (mm_rm (d + 1) 0 0) s m args c cX1_behindOne RX1 lw_T A D pcl 1) (hr : meth.sig.returnType = some .int) (hlk : meth.locks = false) (hnm : meth.name = "behindOne") (hfree : ∀ q, A q → free q) (hJ : ∀ t, mm_SK p l e (mm_rm (d + 1) 0 0) s m args below meth c (MQ below (mm_Qc D pcl Q ad0 cA0 μ0 0 A) args s 0 0 free) D pcl A 1 (mm_EX EXT A s ad0 cA0 (mm_n μ0)) (pp_X1_behindOne t) (J t)) : ∀ t, mm_SK p l e (mm_rm (d + 1) 0 0) s m args below meth c (MQ below (mm_Qc D pcl Q ad0 cA0 μ0 0 A) args s 0 0 free) D pcl A 1 (mm_EX EXT A s ad0 cA0 (mm_n μ0)) (pp_X1_behindOne t) (pb_X1_behindOne J C Q t) := by
  intro t
  match t with
  | 0 =>
    refine so_aload_n (pc := 0) (i := 0) X (by decide +kernel) ?_
    refine so_geti (pc := 1) (index := 45) (ci := 1) (f := 4) (N := 11) (C := RX1) (T := TX1) X rfl uX1 (by decide) (by decide) tw_33 rfl (by decide) (by decide +kernel) ?_
    refine so_bipush (pc := 4) (n := 9) (v := 9) X (by decide +kernel) (by decide) ?_
    refine so_icmp_eq (pc := 6) (off := 12) (tgt := 18) X (by decide +kernel) (by decide) (hJ 1) ?_
    refine so_aload_n (pc := 9) (i := 0) X (by decide +kernel) ?_
    refine so_geti (pc := 10) (index := 45) (ci := 1) (f := 4) (N := 11) (C := RX1) (T := TX1) X rfl uX1 (by decide) (by decide) tw_33 rfl (by decide) (by decide +kernel) ?_
    refine so_bipush (pc := 13) (n := 8) (v := 8) X (by decide +kernel) (by decide) ?_
    refine so_icmp_ne (pc := 15) (off := 5) (tgt := 20) X (by decide +kernel) (by decide) (hJ 2) ?_
    exact so_fall X (hJ 1)
  | 1 =>
    refine so_iconst (pc := 18) (n := 0) (v := 0) X (by decide +kernel) (by decide) ?_
    exact so_ret (pc := 19) X hlk hfree hr (by decide +kernel)
  | 2 =>
    refine so_aload_n (pc := 20) (i := 0) X (by decide +kernel) ?_
    refine so_geti (pc := 21) (index := 45) (ci := 1) (f := 4) (N := 11) (C := RX1) (T := TX1) X rfl uX1 (by decide) (by decide) tw_33 rfl (by decide) (by decide +kernel) ?_
    refine so_bipush (pc := 24) (n := 7) (v := 7) X (by decide +kernel) (by decide) ?_
    refine so_icmp_ne (pc := 26) (off := 12) (tgt := 38) X (by decide +kernel) (by decide) (hJ 3) ?_
    refine so_aload_n (pc := 29) (i := 0) X (by decide +kernel) ?_
    refine so_geti (pc := 30) (index := 32) (ci := 1) (f := 8) (N := 11) (C := RX1) (T := TX1) X rfl uX1 (by decide) (by decide) tw_25 rfl (by decide) (by decide +kernel) ?_
    refine so_if_le (pc := 33) (off := 5) (tgt := 38) X (by decide +kernel) (by decide) (hJ 3) ?_
    refine so_iconst (pc := 36) (n := 5) (v := 5) X (by decide +kernel) (by decide) ?_
    exact so_ret (pc := 37) X hlk hfree hr (by decide +kernel)
  | 3 =>
    refine so_aload_n (pc := 38) (i := 0) X (by decide +kernel) ?_
    refine so_geti (pc := 39) (index := 45) (ci := 1) (f := 4) (N := 11) (C := RX1) (T := TX1) X rfl uX1 (by decide) (by decide) tw_33 rfl (by decide) (by decide +kernel) ?_
    refine so_if_ne (pc := 42) (off := 15) (tgt := 57) X (by decide +kernel) (by decide) (hJ 4) ?_
    refine so_aload_n (pc := 45) (i := 0) X (by decide +kernel) ?_
    refine so_geti (pc := 46) (index := 32) (ci := 1) (f := 8) (N := 11) (C := RX1) (T := TX1) X rfl uX1 (by decide) (by decide) tw_25 rfl (by decide) (by decide +kernel) ?_
    refine so_if_ne (pc := 49) (off := 8) (tgt := 57) X (by decide +kernel) (by decide) (hJ 4) ?_
    refine so_bipush (pc := 52) (n := 6) (v := 6) X (by decide +kernel) (by decide) ?_
    exact so_goto (pc := 54) (off := 4) (tgt := 58) X (by decide +kernel) (by decide) (hJ 5)
  | 4 =>
    refine so_iconst (pc := 57) (n := (-1)) (v := (-1)) X (by decide +kernel) (by decide) ?_
    exact so_fall X (hJ 5)
  | 5 =>
    exact so_ret (pc := 58) X hlk hfree hr (by decide +kernel)
  | n + 6 => exact fun _ _ _ _ h => h.elim
theorem bs_X1_behindOne {l : Launch} {D : va_G} {EXT : (Nat → Nat) → (Nat → Prop) → State → Heap → Prop} (hxo : mm_xo EXT) (hxe : ∀ ad A U H, EXT ad A U H → px_E0 ad A U H) : mm_BS l D pcl lw_T EXT px_tab 16 pb_X1_behindOne pp_X1_behindOne := by
  intro d C hC p e s m args below meth c A ad0 cA0 μ0 free Q J
  rw [tb_16]
  exact fun X hr hlk hnm hfree hJ => bk_X1_behindOne hxo hxe hC X hr hlk hnm hfree hJ
set_option maxHeartbeats 4000000 in
set_option maxRecDepth 100000 in
theorem bk_X1_take {l : Launch} {D : va_G} {EXT : (Nat → Nat) → (Nat → Prop) → State → Heap → Prop} (hxo : mm_xo EXT) (hxe : ∀ ad A U H, EXT ad A U H → px_E0 ad A U H) {d : Nat} {C : mm_C} (hC : mm_CS l D pcl lw_T EXT px_tab d C) {p : Program} {e : Env} {s : State} {m : MethodId} {args : Array Value} {below : List Frame} {meth : Method} {c : Code} {A : Nat → Prop} {ad0 : Nat → Nat} {cA0 : Nat → ClassId} {μ0 : mm_M} {free : Addr → Prop} {Q : mm_Q} {J : mm_J} (X : mm_cx p (mm_rm (d + 1) 0 0) s m args c cX1_take RX1 lw_T A D pcl 1) (hr : meth.sig.returnType = none) (hlk : meth.locks = false) (hnm : meth.name = "take") (hfree : ∀ q, A q → free q) (hJ : ∀ t, mm_SK p l e (mm_rm (d + 1) 0 0) s m args below meth c (MQ below (mm_Qc D pcl Q ad0 cA0 μ0 0 A) args s 0 0 free) D pcl A 1 (mm_EX EXT A s ad0 cA0 (mm_n μ0)) (pp_X1_take t) (J t)) : ∀ t, mm_SK p l e (mm_rm (d + 1) 0 0) s m args below meth c (MQ below (mm_Qc D pcl Q ad0 cA0 μ0 0 A) args s 0 0 free) D pcl A 1 (mm_EX EXT A s ad0 cA0 (mm_n μ0)) (pp_X1_take t) (pb_X1_take J C Q t) := by
  intro t
  match t with
  | 0 =>
    refine so_aload_n (pc := 0) (i := 0) X (by decide +kernel) ?_
    refine so_geti (pc := 1) (index := 45) (ci := 1) (f := 4) (N := 11) (C := RX1) (T := TX1) X rfl uX1 (by decide) (by decide) tw_33 rfl (by decide) (by decide +kernel) ?_
    exact so_tsw (tts := []) (pc := 4) (len := 52) (dflt := 130) (lo := 2) (hi := 10) (offs := #[52, 52, 52, 52, 70, 118, 130, 130, 99]) (dt := 134) X (by decide +kernel) (by decide) (by decide) (hJ 5) (fun i t h => match i, t, h with | 0, _, h => by cases h; exact ⟨52, 56, rfl, by decide, hJ 1⟩ | 1, _, h => by cases h; exact ⟨52, 56, rfl, by decide, hJ 1⟩ | 2, _, h => by cases h; exact ⟨52, 56, rfl, by decide, hJ 1⟩ | 3, _, h => by cases h; exact ⟨52, 56, rfl, by decide, hJ 1⟩ | 4, _, h => by cases h; exact ⟨70, 74, rfl, by decide, hJ 2⟩ | 5, _, h => by cases h; exact ⟨118, 122, rfl, by decide, hJ 4⟩ | 6, _, h => by cases h; exact ⟨130, 134, rfl, by decide, hJ 5⟩ | 7, _, h => by cases h; exact ⟨130, 134, rfl, by decide, hJ 5⟩ | 8, _, h => by cases h; exact ⟨99, 103, rfl, by decide, hJ 3⟩ | n + 9, _, h => by simp at h)
  | 1 =>
    refine so_aload_n (pc := 56) (i := 0) X (by decide +kernel) ?_
    refine so_getr (pc := 57) (index := 12) (ci := 1) (f := 0) (N := 11) (C := RX1) (T := TX1) X rfl uX1 (by decide) (by decide) tw_17 rfl (by decide +kernel) ?_
    refine so_aload_n (pc := 60) (i := 0) X (by decide +kernel) ?_
    refine so_geti (pc := 61) (index := 45) (ci := 1) (f := 4) (N := 11) (C := RX1) (T := TX1) X rfl uX1 (by decide) (by decide) tw_33 rfl (by decide) (by decide +kernel) ?_
    refine so_aload_n (pc := 64) (i := 0) X (by decide +kernel) ?_
    refine so_geti (pc := 65) (index := 69) (ci := 1) (f := 5) (N := 11) (C := RX1) (T := TX1) X rfl uX1 (by decide) (by decide) tw_52 rfl (by decide) (by decide +kernel) ?_
    refine so_cav (pc := 68) (y := 50) (na := 3) (index := 122) (maxL := 3) (nm := yX4_append) (bytes := cX4_append) (ret := none) (ci := 4) (N := 4) (T := TX4) X hxo (fun _ _ _ _ h => h.1) hC lw_good (Nat.le_refl _) (mm_lo d) rfl (by decide) tw_95 tw_96 tw_14 rfl (by decide) tw_97 tw_98 (by decide +kernel) (by decide +kernel) ?_
    exact so_goto (pc := 71) (off := 67) (tgt := 138) X (by decide +kernel) (by decide) (hJ 6)
  | 2 =>
    refine so_aload_n (pc := 74) (i := 0) X (by decide +kernel) ?_
    refine so_dup (pc := 75) X (by decide +kernel) ?_
    refine so_geti (pc := 76) (index := 32) (ci := 1) (f := 8) (N := 11) (C := RX1) (T := TX1) X rfl uX1 (by decide) (by decide) tw_25 rfl (by decide) (by decide +kernel) ?_
    refine so_iconst (pc := 79) (n := 1) (v := 1) X (by decide +kernel) (by decide) ?_
    refine so_iadd (pc := 80) X (by decide +kernel) ?_
    refine so_puti (pc := 81) (index := 32) (ci := 1) (f := 8) (N := 11) (C := RX1) (T := TX1) X rfl uX1 (by decide) (by decide) tw_25 tyX1 tyX1_ok nmX1 rfl (by decide +kernel) rfl (by decide +kernel) ?_
    refine so_aload_n (pc := 84) (i := 0) X (by decide +kernel) ?_
    refine so_dup (pc := 85) X (by decide +kernel) ?_
    refine so_geti (pc := 86) (index := 29) (ci := 1) (f := 7) (N := 11) (C := RX1) (T := TX1) X rfl uX1 (by decide) (by decide) tw_24 rfl (by decide) (by decide +kernel) ?_
    refine so_iconst (pc := 89) (n := 1) (v := 1) X (by decide +kernel) (by decide) ?_
    refine so_iadd (pc := 90) X (by decide +kernel) ?_
    refine so_puti (pc := 91) (index := 29) (ci := 1) (f := 7) (N := 11) (C := RX1) (T := TX1) X rfl uX1 (by decide) (by decide) tw_24 tyX1 tyX1_ok nmX1 rfl (by decide +kernel) rfl (by decide +kernel) ?_
    refine so_aload_n (pc := 94) (i := 0) X (by decide +kernel) ?_
    refine so_bipush (pc := 95) (n := 6) (v := 6) X (by decide +kernel) (by decide) ?_
    refine so_cav (pc := 97) (y := 19) (na := 2) (index := 126) (maxL := 2) (nm := yX1_hold) (bytes := cX1_hold) (ret := none) (ci := 1) (N := 11) (T := TX1) X hxo (fun _ _ _ _ h => h.1) hC lw_good (Nat.le_refl _) (mm_lo d) rfl (by decide) tw_99 tw_100 tw_30 rfl (by decide) tw_101 tw_102 (by decide +kernel) (by decide +kernel) ?_
    exact so_goto (pc := 100) (off := 38) (tgt := 138) X (by decide +kernel) (by decide) (hJ 6)
  | 3 =>
    refine so_aload_n (pc := 103) (i := 0) X (by decide +kernel) ?_
    refine so_dup (pc := 104) X (by decide +kernel) ?_
    refine so_geti (pc := 105) (index := 29) (ci := 1) (f := 7) (N := 11) (C := RX1) (T := TX1) X rfl uX1 (by decide) (by decide) tw_24 rfl (by decide) (by decide +kernel) ?_
    refine so_iconst (pc := 108) (n := 1) (v := 1) X (by decide +kernel) (by decide) ?_
    refine so_iadd (pc := 109) X (by decide +kernel) ?_
    refine so_puti (pc := 110) (index := 29) (ci := 1) (f := 7) (N := 11) (C := RX1) (T := TX1) X rfl uX1 (by decide) (by decide) tw_24 tyX1 tyX1_ok nmX1 rfl (by decide +kernel) rfl (by decide +kernel) ?_
    refine so_aload_n (pc := 113) (i := 0) X (by decide +kernel) ?_
    refine so_bipush (pc := 114) (n := 10) (v := 10) X (by decide +kernel) (by decide) ?_
    refine so_cav (pc := 116) (y := 19) (na := 2) (index := 126) (maxL := 2) (nm := yX1_hold) (bytes := cX1_hold) (ret := none) (ci := 1) (N := 11) (T := TX1) X hxo (fun _ _ _ _ h => h.1) hC lw_good (Nat.le_refl _) (mm_lo d) rfl (by decide) tw_99 tw_100 tw_30 rfl (by decide) tw_101 tw_102 (by decide +kernel) (by decide +kernel) ?_
    exact so_goto (pc := 119) (off := 19) (tgt := 138) X (by decide +kernel) (by decide) (hJ 6)
  | 4 =>
    refine so_aload_n (pc := 122) (i := 0) X (by decide +kernel) ?_
    refine so_iconst (pc := 123) (n := 1) (v := 1) X (by decide +kernel) (by decide) ?_
    refine so_cav (pc := 124) (y := 20) (na := 2) (index := 62) (maxL := 2) (nm := yX1_settle) (bytes := cX1_settle) (ret := none) (ci := 1) (N := 11) (T := TX1) X hxo (fun _ _ _ _ h => h.1) hC lw_good (Nat.le_refl _) (mm_lo d) rfl (by decide) tw_47 tw_48 tw_30 rfl (by decide) tw_49 tw_50 (by decide +kernel) (by decide +kernel) ?_
    refine so_aload_n (pc := 127) (i := 0) X (by decide +kernel) ?_
    refine so_cav (pc := 128) (y := 21) (na := 1) (index := 129) (maxL := 1) (nm := yX1_dropBracket) (bytes := cX1_dropBracket) (ret := none) (ci := 1) (N := 11) (T := TX1) X hxo (fun _ _ _ _ h => h.1) hC lw_good (Nat.le_refl _) (mm_lo d) rfl (by decide) tw_103 tw_104 tw_30 rfl (by decide) tw_105 tw_106 (by decide +kernel) (by decide +kernel) ?_
    exact so_goto (pc := 131) (off := 7) (tgt := 138) X (by decide +kernel) (by decide) (hJ 6)
  | 5 =>
    refine so_aload_n (pc := 134) (i := 0) X (by decide +kernel) ?_
    refine so_cav (pc := 135) (y := 18) (na := 1) (index := 132) (maxL := 1) (nm := yX1_takeOperator) (bytes := cX1_takeOperator) (ret := none) (ci := 1) (N := 11) (T := TX1) X hxo (fun _ _ _ _ h => h.1) hC lw_good (Nat.le_refl _) (mm_lo d) rfl (by decide) tw_107 tw_108 tw_30 rfl (by decide) tw_109 tw_110 (by decide +kernel) (by decide +kernel) ?_
    exact so_fall X (hJ 6)
  | 6 =>
    exact so_rtv (pc := 138) X hlk hfree hr (by decide +kernel)
  | n + 7 => exact fun _ _ _ _ h => h.elim
theorem bs_X1_take {l : Launch} {D : va_G} {EXT : (Nat → Nat) → (Nat → Prop) → State → Heap → Prop} (hxo : mm_xo EXT) (hxe : ∀ ad A U H, EXT ad A U H → px_E0 ad A U H) : mm_BS l D pcl lw_T EXT px_tab 17 pb_X1_take pp_X1_take := by
  intro d C hC p e s m args below meth c A ad0 cA0 μ0 free Q J
  rw [tb_17]
  exact fun X hr hlk hnm hfree hJ => bk_X1_take hxo hxe hC X hr hlk hnm hfree hJ
set_option maxHeartbeats 4000000 in
set_option maxRecDepth 100000 in
theorem bk_X1_takeOperator {l : Launch} {D : va_G} {EXT : (Nat → Nat) → (Nat → Prop) → State → Heap → Prop} (hxo : mm_xo EXT) (hxe : ∀ ad A U H, EXT ad A U H → px_E0 ad A U H) {d : Nat} {C : mm_C} (hC : mm_CS l D pcl lw_T EXT px_tab d C) {p : Program} {e : Env} {s : State} {m : MethodId} {args : Array Value} {below : List Frame} {meth : Method} {c : Code} {A : Nat → Prop} {ad0 : Nat → Nat} {cA0 : Nat → ClassId} {μ0 : mm_M} {free : Addr → Prop} {Q : mm_Q} {J : mm_J} (X : mm_cx p (mm_rm (d + 1) 0 0) s m args c cX1_takeOperator RX1 lw_T A D pcl 1) (hr : meth.sig.returnType = none) (hlk : meth.locks = false) (hnm : meth.name = "takeOperator") (hfree : ∀ q, A q → free q) (hJ : ∀ t, mm_SK p l e (mm_rm (d + 1) 0 0) s m args below meth c (MQ below (mm_Qc D pcl Q ad0 cA0 μ0 0 A) args s 0 0 free) D pcl A 1 (mm_EX EXT A s ad0 cA0 (mm_n μ0)) (pp_X1_takeOperator t) (J t)) : ∀ t, mm_SK p l e (mm_rm (d + 1) 0 0) s m args below meth c (MQ below (mm_Qc D pcl Q ad0 cA0 μ0 0 A) args s 0 0 free) D pcl A 1 (mm_EX EXT A s ad0 cA0 (mm_n μ0)) (pp_X1_takeOperator t) (pb_X1_takeOperator J C Q t) := by
  intro t
  match t with
  | 0 =>
    refine so_aload_n (pc := 0) (i := 0) X (by decide +kernel) ?_
    refine so_geti (pc := 1) (index := 45) (ci := 1) (f := 4) (N := 11) (C := RX1) (T := TX1) X rfl uX1 (by decide) (by decide) tw_33 rfl (by decide) (by decide +kernel) ?_
    refine so_bipush (pc := 4) (n := 15) (v := 15) X (by decide +kernel) (by decide) ?_
    refine so_icmp_ne (pc := 6) (off := 26) (tgt := 32) X (by decide +kernel) (by decide) (hJ 1) ?_
    refine so_aload_n (pc := 9) (i := 0) X (by decide +kernel) ?_
    refine so_geti (pc := 10) (index := 25) (ci := 1) (f := 6) (N := 11) (C := RX1) (T := TX1) X rfl uX1 (by decide) (by decide) tw_23 rfl (by decide) (by decide +kernel) ?_
    refine so_iconst (pc := 13) (n := 2) (v := 2) X (by decide +kernel) (by decide) ?_
    refine so_icmp_eq (pc := 14) (off := 18) (tgt := 32) X (by decide +kernel) (by decide) (hJ 1) ?_
    refine so_aload_n (pc := 17) (i := 0) X (by decide +kernel) ?_
    refine so_geti (pc := 18) (index := 25) (ci := 1) (f := 6) (N := 11) (C := RX1) (T := TX1) X rfl uX1 (by decide) (by decide) tw_23 rfl (by decide) (by decide +kernel) ?_
    refine so_iconst (pc := 21) (n := 4) (v := 4) X (by decide +kernel) (by decide) ?_
    refine so_icmp_eq (pc := 22) (off := 10) (tgt := 32) X (by decide +kernel) (by decide) (hJ 1) ?_
    refine so_aload_n (pc := 25) (i := 0) X (by decide +kernel) ?_
    refine so_bipush (pc := 26) (n := 18) (v := 18) X (by decide +kernel) (by decide) ?_
    refine so_cav (pc := 28) (y := 19) (na := 2) (index := 126) (maxL := 2) (nm := yX1_hold) (bytes := cX1_hold) (ret := none) (ci := 1) (N := 11) (T := TX1) X hxo (fun _ _ _ _ h => h.1) hC lw_good (Nat.le_refl _) (mm_lo d) rfl (by decide) tw_99 tw_100 tw_30 rfl (by decide) tw_101 tw_102 (by decide +kernel) (by decide +kernel) ?_
    exact so_rtv (pc := 31) X hlk hfree hr (by decide +kernel)
  | 1 =>
    refine so_aload_n (pc := 32) (i := 0) X (by decide +kernel) ?_
    refine so_gets (pc := 33) (index := 135) (C := RX6) (n := "RANKS") (d' := "[I") (ref := RX6) (host := RX6) X (fun _ _ _ _ h => px_Z (hxe _ _ _ _ h.1)) (fun _ _ _ _ h => px_N (hxe _ _ _ _ h.1)) rfl (by decide +kernel) ?_
    refine so_aload_n (pc := 36) (i := 0) X (by decide +kernel) ?_
    refine so_geti (pc := 37) (index := 45) (ci := 1) (f := 4) (N := 11) (C := RX1) (T := TX1) X rfl uX1 (by decide) (by decide) tw_33 rfl (by decide) (by decide +kernel) ?_
    refine so_rk (pc := 40) X (fun _ _ _ _ h => px_T (hxe _ _ _ _ h.1)) (by decide +kernel) ?_
    refine so_cav (pc := 41) (y := 20) (na := 2) (index := 62) (maxL := 2) (nm := yX1_settle) (bytes := cX1_settle) (ret := none) (ci := 1) (N := 11) (T := TX1) X hxo (fun _ _ _ _ h => h.1) hC lw_good (Nat.le_refl _) (mm_lo d) rfl (by decide) tw_47 tw_48 tw_30 rfl (by decide) tw_49 tw_50 (by decide +kernel) (by decide +kernel) ?_
    refine so_aload_n (pc := 44) (i := 0) X (by decide +kernel) ?_
    refine so_aload_n (pc := 45) (i := 0) X (by decide +kernel) ?_
    refine so_geti (pc := 46) (index := 45) (ci := 1) (f := 4) (N := 11) (C := RX1) (T := TX1) X rfl uX1 (by decide) (by decide) tw_33 rfl (by decide) (by decide +kernel) ?_
    refine so_cav (pc := 49) (y := 19) (na := 2) (index := 126) (maxL := 2) (nm := yX1_hold) (bytes := cX1_hold) (ret := none) (ci := 1) (N := 11) (T := TX1) X hxo (fun _ _ _ _ h => h.1) hC lw_good (Nat.le_refl _) (mm_lo d) rfl (by decide) tw_99 tw_100 tw_30 rfl (by decide) tw_101 tw_102 (by decide +kernel) (by decide +kernel) ?_
    exact so_rtv (pc := 52) X hlk hfree hr (by decide +kernel)
  | n + 2 => exact fun _ _ _ _ h => h.elim
theorem bs_X1_takeOperator {l : Launch} {D : va_G} {EXT : (Nat → Nat) → (Nat → Prop) → State → Heap → Prop} (hxo : mm_xo EXT) (hxe : ∀ ad A U H, EXT ad A U H → px_E0 ad A U H) : mm_BS l D pcl lw_T EXT px_tab 18 pb_X1_takeOperator pp_X1_takeOperator := by
  intro d C hC p e s m args below meth c A ad0 cA0 μ0 free Q J
  rw [tb_18]
  exact fun X hr hlk hnm hfree hJ => bk_X1_takeOperator hxo hxe hC X hr hlk hnm hfree hJ
set_option maxHeartbeats 4000000 in
set_option maxRecDepth 100000 in
theorem bk_X1_hold {l : Launch} {D : va_G} {EXT : (Nat → Nat) → (Nat → Prop) → State → Heap → Prop} (hxo : mm_xo EXT) (hxe : ∀ ad A U H, EXT ad A U H → px_E0 ad A U H) {d : Nat} {C : mm_C} (hC : mm_CS l D pcl lw_T EXT px_tab d C) {p : Program} {e : Env} {s : State} {m : MethodId} {args : Array Value} {below : List Frame} {meth : Method} {c : Code} {A : Nat → Prop} {ad0 : Nat → Nat} {cA0 : Nat → ClassId} {μ0 : mm_M} {free : Addr → Prop} {Q : mm_Q} {J : mm_J} (X : mm_cx p (mm_rm (d + 1) 0 0) s m args c cX1_hold RX1 lw_T A D pcl 2) (hr : meth.sig.returnType = none) (hlk : meth.locks = false) (hnm : meth.name = "hold") (hfree : ∀ q, A q → free q) (hJ : ∀ t, mm_SK p l e (mm_rm (d + 1) 0 0) s m args below meth c (MQ below (mm_Qc D pcl Q ad0 cA0 μ0 0 A) args s 0 0 free) D pcl A 2 (mm_EX EXT A s ad0 cA0 (mm_n μ0)) (pp_X1_hold t) (J t)) : ∀ t, mm_SK p l e (mm_rm (d + 1) 0 0) s m args below meth c (MQ below (mm_Qc D pcl Q ad0 cA0 μ0 0 A) args s 0 0 free) D pcl A 2 (mm_EX EXT A s ad0 cA0 (mm_n μ0)) (pp_X1_hold t) (pb_X1_hold J C Q t) := by
  intro t
  match t with
  | 0 =>
    refine so_aload_n (pc := 0) (i := 0) X (by decide +kernel) ?_
    refine so_geti (pc := 1) (index := 35) (ci := 1) (f := 10) (N := 11) (C := RX1) (T := TX1) X rfl uX1 (by decide) (by decide) tw_26 rfl (by decide) (by decide +kernel) ?_
    refine so_bipush (pc := 4) (n := 60) (v := 60) X (by decide +kernel) (by decide) ?_
    refine so_icmp_ge (pc := 6) (off := 23) (tgt := 29) X (by decide +kernel) (by decide) (hJ 1) ?_
    refine so_aload_n (pc := 9) (i := 0) X (by decide +kernel) ?_
    refine so_getr (pc := 10) (index := 18) (ci := 1) (f := 9) (N := 11) (C := RX1) (T := TX1) X rfl uX1 (by decide) (by decide) tw_18 rfl (by decide +kernel) ?_
    refine so_aload_n (pc := 13) (i := 0) X (by decide +kernel) ?_
    refine so_geti (pc := 14) (index := 35) (ci := 1) (f := 10) (N := 11) (C := RX1) (T := TX1) X rfl uX1 (by decide) (by decide) tw_26 rfl (by decide) (by decide +kernel) ?_
    refine so_iload_n (pc := 17) (i := 1) X (by decide +kernel) ?_
    refine so_iast (pc := 18) X (by decide +kernel) ?_
    refine so_aload_n (pc := 19) (i := 0) X (by decide +kernel) ?_
    refine so_dup (pc := 20) X (by decide +kernel) ?_
    refine so_geti (pc := 21) (index := 35) (ci := 1) (f := 10) (N := 11) (C := RX1) (T := TX1) X rfl uX1 (by decide) (by decide) tw_26 rfl (by decide) (by decide +kernel) ?_
    refine so_iconst (pc := 24) (n := 1) (v := 1) X (by decide +kernel) (by decide) ?_
    refine so_iadd (pc := 25) X (by decide +kernel) ?_
    refine so_puti (pc := 26) (index := 35) (ci := 1) (f := 10) (N := 11) (C := RX1) (T := TX1) X rfl uX1 (by decide) (by decide) tw_26 tyX1 tyX1_ok nmX1 rfl (by decide +kernel) rfl (by decide +kernel) ?_
    exact so_fall X (hJ 1)
  | 1 =>
    exact so_rtv (pc := 29) X hlk hfree hr (by decide +kernel)
  | n + 2 => exact fun _ _ _ _ h => h.elim
theorem bs_X1_hold {l : Launch} {D : va_G} {EXT : (Nat → Nat) → (Nat → Prop) → State → Heap → Prop} (hxo : mm_xo EXT) (hxe : ∀ ad A U H, EXT ad A U H → px_E0 ad A U H) : mm_BS l D pcl lw_T EXT px_tab 19 pb_X1_hold pp_X1_hold := by
  intro d C hC p e s m args below meth c A ad0 cA0 μ0 free Q J
  rw [tb_19]
  exact fun X hr hlk hnm hfree hJ => bk_X1_hold hxo hxe hC X hr hlk hnm hfree hJ
set_option maxHeartbeats 4000000 in
set_option maxRecDepth 100000 in
theorem bk_X1_settle {l : Launch} {D : va_G} {EXT : (Nat → Nat) → (Nat → Prop) → State → Heap → Prop} (hxo : mm_xo EXT) (hxe : ∀ ad A U H, EXT ad A U H → px_E0 ad A U H) {d : Nat} {C : mm_C} (hC : mm_CS l D pcl lw_T EXT px_tab d C) {p : Program} {e : Env} {s : State} {m : MethodId} {args : Array Value} {below : List Frame} {meth : Method} {c : Code} {A : Nat → Prop} {ad0 : Nat → Nat} {cA0 : Nat → ClassId} {μ0 : mm_M} {free : Addr → Prop} {Q : mm_Q} {J : mm_J} (X : mm_cx p (mm_rm (d + 1) 0 0) s m args c cX1_settle RX1 lw_T A D pcl 2) (hr : meth.sig.returnType = none) (hlk : meth.locks = false) (hnm : meth.name = "settle") (hfree : ∀ q, A q → free q) (hJ : ∀ t, mm_SK p l e (mm_rm (d + 1) 0 0) s m args below meth c (MQ below (mm_Qc D pcl Q ad0 cA0 μ0 0 A) args s 0 0 free) D pcl A 2 (mm_EX EXT A s ad0 cA0 (mm_n μ0)) (pp_X1_settle t) (J t)) : ∀ t, mm_SK p l e (mm_rm (d + 1) 0 0) s m args below meth c (MQ below (mm_Qc D pcl Q ad0 cA0 μ0 0 A) args s 0 0 free) D pcl A 2 (mm_EX EXT A s ad0 cA0 (mm_n μ0)) (pp_X1_settle t) (pb_X1_settle J C Q t) := by
  intro t
  match t with
  | 0 =>
    refine so_aload_n (pc := 0) (i := 0) X (by decide +kernel) ?_
    refine so_geti (pc := 1) (index := 35) (ci := 1) (f := 10) (N := 11) (C := RX1) (T := TX1) X rfl uX1 (by decide) (by decide) tw_26 rfl (by decide) (by decide +kernel) ?_
    refine so_if_le (pc := 4) (off := 76) (tgt := 80) X (by decide +kernel) (by decide) (hJ 2) ?_
    refine so_gets (pc := 7) (index := 135) (C := RX6) (n := "RANKS") (d' := "[I") (ref := RX6) (host := RX6) X (fun _ _ _ _ h => px_Z (hxe _ _ _ _ h.1)) (fun _ _ _ _ h => px_N (hxe _ _ _ _ h.1)) rfl (by decide +kernel) ?_
    refine so_aload_n (pc := 10) (i := 0) X (by decide +kernel) ?_
    refine so_getr (pc := 11) (index := 18) (ci := 1) (f := 9) (N := 11) (C := RX1) (T := TX1) X rfl uX1 (by decide) (by decide) tw_18 rfl (by decide +kernel) ?_
    refine so_aload_n (pc := 14) (i := 0) X (by decide +kernel) ?_
    refine so_geti (pc := 15) (index := 35) (ci := 1) (f := 10) (N := 11) (C := RX1) (T := TX1) X rfl uX1 (by decide) (by decide) tw_26 rfl (by decide) (by decide +kernel) ?_
    refine so_iconst (pc := 18) (n := 1) (v := 1) X (by decide +kernel) (by decide) ?_
    refine so_isub (pc := 19) X (by decide +kernel) ?_
    refine so_iald (pc := 20) X (by decide +kernel) ?_
    refine so_rk (pc := 21) X (fun _ _ _ _ h => px_T (hxe _ _ _ _ h.1)) (by decide +kernel) ?_
    refine so_iload_n (pc := 22) (i := 1) X (by decide +kernel) ?_
    refine so_icmp_lt (pc := 23) (off := 57) (tgt := 80) X (by decide +kernel) (by decide) (hJ 2) ?_
    refine so_aload_n (pc := 26) (i := 0) X (by decide +kernel) ?_
    refine so_dup (pc := 27) X (by decide +kernel) ?_
    refine so_geti (pc := 28) (index := 35) (ci := 1) (f := 10) (N := 11) (C := RX1) (T := TX1) X rfl uX1 (by decide) (by decide) tw_26 rfl (by decide) (by decide +kernel) ?_
    refine so_iconst (pc := 31) (n := 1) (v := 1) X (by decide +kernel) (by decide) ?_
    refine so_isub (pc := 32) X (by decide +kernel) ?_
    refine so_puti (pc := 33) (index := 35) (ci := 1) (f := 10) (N := 11) (C := RX1) (T := TX1) X rfl uX1 (by decide) (by decide) tw_26 tyX1 tyX1_ok nmX1 rfl (by decide +kernel) rfl (by decide +kernel) ?_
    refine so_aload_n (pc := 36) (i := 0) X (by decide +kernel) ?_
    refine so_getr (pc := 37) (index := 18) (ci := 1) (f := 9) (N := 11) (C := RX1) (T := TX1) X rfl uX1 (by decide) (by decide) tw_18 rfl (by decide +kernel) ?_
    refine so_aload_n (pc := 40) (i := 0) X (by decide +kernel) ?_
    refine so_geti (pc := 41) (index := 35) (ci := 1) (f := 10) (N := 11) (C := RX1) (T := TX1) X rfl uX1 (by decide) (by decide) tw_26 rfl (by decide) (by decide +kernel) ?_
    refine so_iald (pc := 44) X (by decide +kernel) ?_
    refine so_bipush (pc := 45) (n := 10) (v := 10) X (by decide +kernel) (by decide) ?_
    refine so_icmp_ne (pc := 47) (off := 13) (tgt := 60) X (by decide +kernel) (by decide) (hJ 1) ?_
    refine so_aload_n (pc := 50) (i := 0) X (by decide +kernel) ?_
    refine so_dup (pc := 51) X (by decide +kernel) ?_
    refine so_geti (pc := 52) (index := 29) (ci := 1) (f := 7) (N := 11) (C := RX1) (T := TX1) X rfl uX1 (by decide) (by decide) tw_24 rfl (by decide) (by decide +kernel) ?_
    refine so_iconst (pc := 55) (n := 1) (v := 1) X (by decide +kernel) (by decide) ?_
    refine so_isub (pc := 56) X (by decide +kernel) ?_
    refine so_puti (pc := 57) (index := 29) (ci := 1) (f := 7) (N := 11) (C := RX1) (T := TX1) X rfl uX1 (by decide) (by decide) tw_24 tyX1 tyX1_ok nmX1 rfl (by decide +kernel) rfl (by decide +kernel) ?_
    exact so_fall X (hJ 1)
  | 1 =>
    refine so_aload_n (pc := 60) (i := 0) X (by decide +kernel) ?_
    refine so_getr (pc := 61) (index := 12) (ci := 1) (f := 0) (N := 11) (C := RX1) (T := TX1) X rfl uX1 (by decide) (by decide) tw_17 rfl (by decide +kernel) ?_
    refine so_aload_n (pc := 64) (i := 0) X (by decide +kernel) ?_
    refine so_getr (pc := 65) (index := 18) (ci := 1) (f := 9) (N := 11) (C := RX1) (T := TX1) X rfl uX1 (by decide) (by decide) tw_18 rfl (by decide +kernel) ?_
    refine so_aload_n (pc := 68) (i := 0) X (by decide +kernel) ?_
    refine so_geti (pc := 69) (index := 35) (ci := 1) (f := 10) (N := 11) (C := RX1) (T := TX1) X rfl uX1 (by decide) (by decide) tw_26 rfl (by decide) (by decide +kernel) ?_
    refine so_iald (pc := 72) X (by decide +kernel) ?_
    refine so_iconst (pc := 73) (n := 0) (v := 0) X (by decide +kernel) (by decide) ?_
    refine so_cav (pc := 74) (y := 50) (na := 3) (index := 122) (maxL := 3) (nm := yX4_append) (bytes := cX4_append) (ret := none) (ci := 4) (N := 4) (T := TX4) X hxo (fun _ _ _ _ h => h.1) hC lw_good (Nat.le_refl _) (mm_lo d) rfl (by decide) tw_95 tw_96 tw_14 rfl (by decide) tw_97 tw_98 (by decide +kernel) (by decide +kernel) ?_
    exact so_goto (pc := 77) (off := (-77)) (tgt := 0) X (by decide +kernel) (by decide) (hJ 0)
  | 2 =>
    exact so_rtv (pc := 80) X hlk hfree hr (by decide +kernel)
  | n + 3 => exact fun _ _ _ _ h => h.elim
theorem bs_X1_settle {l : Launch} {D : va_G} {EXT : (Nat → Nat) → (Nat → Prop) → State → Heap → Prop} (hxo : mm_xo EXT) (hxe : ∀ ad A U H, EXT ad A U H → px_E0 ad A U H) : mm_BS l D pcl lw_T EXT px_tab 20 pb_X1_settle pp_X1_settle := by
  intro d C hC p e s m args below meth c A ad0 cA0 μ0 free Q J
  rw [tb_20]
  exact fun X hr hlk hnm hfree hJ => bk_X1_settle hxo hxe hC X hr hlk hnm hfree hJ
set_option maxHeartbeats 4000000 in
set_option maxRecDepth 100000 in
theorem bk_X1_dropBracket {l : Launch} {D : va_G} {EXT : (Nat → Nat) → (Nat → Prop) → State → Heap → Prop} (hxo : mm_xo EXT) (hxe : ∀ ad A U H, EXT ad A U H → px_E0 ad A U H) {d : Nat} {C : mm_C} (hC : mm_CS l D pcl lw_T EXT px_tab d C) {p : Program} {e : Env} {s : State} {m : MethodId} {args : Array Value} {below : List Frame} {meth : Method} {c : Code} {A : Nat → Prop} {ad0 : Nat → Nat} {cA0 : Nat → ClassId} {μ0 : mm_M} {free : Addr → Prop} {Q : mm_Q} {J : mm_J} (X : mm_cx p (mm_rm (d + 1) 0 0) s m args c cX1_dropBracket RX1 lw_T A D pcl 1) (hr : meth.sig.returnType = none) (hlk : meth.locks = false) (hnm : meth.name = "dropBracket") (hfree : ∀ q, A q → free q) (hJ : ∀ t, mm_SK p l e (mm_rm (d + 1) 0 0) s m args below meth c (MQ below (mm_Qc D pcl Q ad0 cA0 μ0 0 A) args s 0 0 free) D pcl A 1 (mm_EX EXT A s ad0 cA0 (mm_n μ0)) (pp_X1_dropBracket t) (J t)) : ∀ t, mm_SK p l e (mm_rm (d + 1) 0 0) s m args below meth c (MQ below (mm_Qc D pcl Q ad0 cA0 μ0 0 A) args s 0 0 free) D pcl A 1 (mm_EX EXT A s ad0 cA0 (mm_n μ0)) (pp_X1_dropBracket t) (pb_X1_dropBracket J C Q t) := by
  intro t
  match t with
  | 0 =>
    refine so_aload_n (pc := 0) (i := 0) X (by decide +kernel) ?_
    refine so_geti (pc := 1) (index := 35) (ci := 1) (f := 10) (N := 11) (C := RX1) (T := TX1) X rfl uX1 (by decide) (by decide) tw_26 rfl (by decide) (by decide +kernel) ?_
    refine so_if_le (pc := 4) (off := 33) (tgt := 37) X (by decide +kernel) (by decide) (hJ 1) ?_
    refine so_aload_n (pc := 7) (i := 0) X (by decide +kernel) ?_
    refine so_dup (pc := 8) X (by decide +kernel) ?_
    refine so_geti (pc := 9) (index := 35) (ci := 1) (f := 10) (N := 11) (C := RX1) (T := TX1) X rfl uX1 (by decide) (by decide) tw_26 rfl (by decide) (by decide +kernel) ?_
    refine so_iconst (pc := 12) (n := 1) (v := 1) X (by decide +kernel) (by decide) ?_
    refine so_isub (pc := 13) X (by decide +kernel) ?_
    refine so_puti (pc := 14) (index := 35) (ci := 1) (f := 10) (N := 11) (C := RX1) (T := TX1) X rfl uX1 (by decide) (by decide) tw_26 tyX1 tyX1_ok nmX1 rfl (by decide +kernel) rfl (by decide +kernel) ?_
    refine so_aload_n (pc := 17) (i := 0) X (by decide +kernel) ?_
    refine so_dup (pc := 18) X (by decide +kernel) ?_
    refine so_geti (pc := 19) (index := 32) (ci := 1) (f := 8) (N := 11) (C := RX1) (T := TX1) X rfl uX1 (by decide) (by decide) tw_25 rfl (by decide) (by decide +kernel) ?_
    refine so_iconst (pc := 22) (n := 1) (v := 1) X (by decide +kernel) (by decide) ?_
    refine so_isub (pc := 23) X (by decide +kernel) ?_
    refine so_puti (pc := 24) (index := 32) (ci := 1) (f := 8) (N := 11) (C := RX1) (T := TX1) X rfl uX1 (by decide) (by decide) tw_25 tyX1 tyX1_ok nmX1 rfl (by decide +kernel) rfl (by decide +kernel) ?_
    refine so_aload_n (pc := 27) (i := 0) X (by decide +kernel) ?_
    refine so_dup (pc := 28) X (by decide +kernel) ?_
    refine so_geti (pc := 29) (index := 29) (ci := 1) (f := 7) (N := 11) (C := RX1) (T := TX1) X rfl uX1 (by decide) (by decide) tw_24 rfl (by decide) (by decide +kernel) ?_
    refine so_iconst (pc := 32) (n := 1) (v := 1) X (by decide +kernel) (by decide) ?_
    refine so_isub (pc := 33) X (by decide +kernel) ?_
    refine so_puti (pc := 34) (index := 29) (ci := 1) (f := 7) (N := 11) (C := RX1) (T := TX1) X rfl uX1 (by decide) (by decide) tw_24 tyX1 tyX1_ok nmX1 rfl (by decide +kernel) rfl (by decide +kernel) ?_
    exact so_fall X (hJ 1)
  | 1 =>
    exact so_rtv (pc := 37) X hlk hfree hr (by decide +kernel)
  | n + 2 => exact fun _ _ _ _ h => h.elim
theorem bs_X1_dropBracket {l : Launch} {D : va_G} {EXT : (Nat → Nat) → (Nat → Prop) → State → Heap → Prop} (hxo : mm_xo EXT) (hxe : ∀ ad A U H, EXT ad A U H → px_E0 ad A U H) : mm_BS l D pcl lw_T EXT px_tab 21 pb_X1_dropBracket pp_X1_dropBracket := by
  intro d C hC p e s m args below meth c A ad0 cA0 μ0 free Q J
  rw [tb_21]
  exact fun X hr hlk hnm hfree hJ => bk_X1_dropBracket hxo hxe hC X hr hlk hnm hfree hJ
set_option maxHeartbeats 4000000 in
set_option maxRecDepth 100000 in
theorem bk_X2_init {l : Launch} {D : va_G} {EXT : (Nat → Nat) → (Nat → Prop) → State → Heap → Prop} (hxo : mm_xo EXT) (hxe : ∀ ad A U H, EXT ad A U H → px_E0 ad A U H) {d : Nat} {C : mm_C} (hC : mm_CS l D pcl lw_T EXT px_tab d C) {p : Program} {e : Env} {s : State} {m : MethodId} {args : Array Value} {below : List Frame} {meth : Method} {c : Code} {A : Nat → Prop} {ad0 : Nat → Nat} {cA0 : Nat → ClassId} {μ0 : mm_M} {free : Addr → Prop} {Q : mm_Q} {J : mm_J} (X : mm_cx p (mm_rm (d + 1) 2 120) s m args c cX2_init RX2 lw_T A D pcl 1) (hr : meth.sig.returnType = none) (hlk : meth.locks = false) (hnm : meth.name = "<init>") (hfree : ∀ q, A q → free q) (hJ : ∀ t, mm_SK p l e (mm_rm (d + 1) 2 120) s m args below meth c (MQ below (mm_Qc D pcl Q ad0 cA0 μ0 2 A) args s 2 120 free) D pcl A 1 (mm_EX EXT A s ad0 cA0 (mm_n μ0)) (pp_X2_init t) (J t)) : ∀ t, mm_SK p l e (mm_rm (d + 1) 2 120) s m args below meth c (MQ below (mm_Qc D pcl Q ad0 cA0 μ0 2 A) args s 2 120 free) D pcl A 1 (mm_EX EXT A s ad0 cA0 (mm_n μ0)) (pp_X2_init t) (pb_X2_init J C Q t) := by
  intro t
  match t with
  | 0 =>
    refine so_aload_n (pc := 0) (i := 0) X (by decide +kernel) ?_
    refine so_obi (pc := 1) (index := 3) X tw_111 tw_1 tw_2 (mm_fr1 d) (mm_lo20 d) (by decide +kernel) ?_
    refine so_aload_n (pc := 4) (i := 0) X (by decide +kernel) ?_
    refine so_bipush (pc := 5) (n := 60) (v := 60) X (by decide +kernel) (by decide) ?_
    refine so_nalong (pc := 7) (B := (2, 120)) X (mm_EX_cl hxo) ⟨Nat.le_refl _, Nat.le_refl _⟩ tw_112 (by decide +kernel) ?_
    refine so_putr (pc := 9) (index := 9) (ci := 2) (f := 0) (N := 3) (C := RX2) (T := TX2) (ty := tyX2 0) X rfl uX2 (by decide) (by decide) tw_113 tyX2 tyX2_ok nmX2 rfl hnm rfl (tyX2_ok 0 (by decide)) (fun _ => ⟨rfl, rfl⟩) rfl (by decide +kernel) ?_
    refine so_aload_n (pc := 12) (i := 0) X (by decide +kernel) ?_
    refine so_bipush (pc := 13) (n := 60) (v := 60) X (by decide +kernel) (by decide) ?_
    refine so_nabool (pc := 15) (B := (2, 120)) X (mm_EX_cl hxo) ⟨Nat.le_refl _, Nat.le_refl _⟩ tw_114 (by decide +kernel) ?_
    refine so_putr (pc := 17) (index := 15) (ci := 2) (f := 1) (N := 3) (C := RX2) (T := TX2) (ty := tyX2 1) X rfl uX2 (by decide) (by decide) tw_115 tyX2 tyX2_ok nmX2 rfl hnm rfl (tyX2_ok 1 (by decide)) (fun _ => ⟨rfl, rfl⟩) rfl (by decide +kernel) ?_
    exact so_rtv (pc := 20) X hlk hfree hr (by decide +kernel)
  | n + 1 => exact fun _ _ _ _ h => h.elim
theorem bs_X2_init {l : Launch} {D : va_G} {EXT : (Nat → Nat) → (Nat → Prop) → State → Heap → Prop} (hxo : mm_xo EXT) (hxe : ∀ ad A U H, EXT ad A U H → px_E0 ad A U H) : mm_BS l D pcl lw_T EXT px_tab 22 pb_X2_init pp_X2_init := by
  intro d C hC p e s m args below meth c A ad0 cA0 μ0 free Q J
  rw [tb_22]
  exact fun X hr hlk hnm hfree hJ => bk_X2_init hxo hxe hC X hr hlk hnm hfree hJ
