set_option maxHeartbeats 4000000 in
set_option maxRecDepth 100000 in
theorem bk_X3_solvedSet {l : Launch} {D : va_G} {EXT : (Nat → Nat) → (Nat → Prop) → State → Heap → Prop} (hxo : mm_xo EXT) (hxe : ∀ ad A U H, EXT ad A U H → px_E0 ad A U H) {d : Nat} {C : mm_C} (hC : mm_CS l D pcl lw_T EXT px_tab d C) {p : Program} {e : Env} {s : State} {m : MethodId} {args : Array Value} {below : List Frame} {meth : Method} {c : Code} {A : Nat → Prop} {ad0 : Nat → Nat} {cA0 : Nat → ClassId} {μ0 : mm_M} {free : Addr → Prop} {Q : mm_Q} {J : mm_J} (X : mm_cx p (mm_rm (d + 1) 0 0) s m args c cX3_solvedSet RX3 lw_T A D pcl 3) (hr : meth.sig.returnType = some .int) (hlk : meth.locks = false) (hnm : meth.name = "solvedSet") (hfree : ∀ q, A q → free q) (hJ : ∀ t, mm_SK p l e (mm_rm (d + 1) 0 0) s m args below meth c (MQ below (mm_Qc D pcl Q ad0 cA0 μ0 0 A) args s 0 0 free) D pcl A 3 (mm_EX EXT A s ad0 cA0 (mm_n μ0)) (pp_X3_solvedSet t) (J t)) : ∀ t, mm_SK p l e (mm_rm (d + 1) 0 0) s m args below meth c (MQ below (mm_Qc D pcl Q ad0 cA0 μ0 0 A) args s 0 0 free) D pcl A 3 (mm_EX EXT A s ad0 cA0 (mm_n μ0)) (pp_X3_solvedSet t) (pb_X3_solvedSet J C Q t) := by
  intro t
  match t with
  | 0 =>
    refine so_iconst (pc := 0) (n := 0) (v := 0) X (by decide +kernel) (by decide) ?_
    refine so_istore_n (pc := 1) (i := 1) X (by decide +kernel) (by decide) ?_
    refine so_iconst (pc := 2) (n := 0) (v := 0) X (by decide +kernel) (by decide) ?_
    refine so_istore_n (pc := 3) (i := 2) X (by decide +kernel) (by decide) ?_
    exact so_fall X (hJ 1)
  | 1 =>
    refine so_iload_n (pc := 4) (i := 2) X (by decide +kernel) ?_
    refine so_bipush (pc := 5) (n := 12) (v := 12) X (by decide +kernel) (by decide) ?_
    refine so_icmp_ge (pc := 7) (off := 23) (tgt := 30) X (by decide +kernel) (by decide) (hJ 3) ?_
    refine so_aload_n (pc := 10) (i := 0) X (by decide +kernel) ?_
    refine so_iload_n (pc := 11) (i := 2) X (by decide +kernel) ?_
    refine so_cav (pc := 12) (y := 34) (na := 2) (index := 35) (maxL := 2) (nm := yX3_isSolved) (bytes := cX3_isSolved) (ret := (some .boolean)) (ci := 3) (N := 1) (T := TX3) X hxo (fun _ _ _ _ h => h.1) hC lw_good (Nat.le_refl _) (mm_lo d) rfl (by decide) tw_163 tw_164 tw_156 rfl (by decide) tw_165 tw_166 (by decide +kernel) (by decide +kernel) ?_
    refine so_if_eq (pc := 15) (off := 9) (tgt := 24) X (by decide +kernel) (by decide) (hJ 2) ?_
    refine so_iload_n (pc := 18) (i := 1) X (by decide +kernel) ?_
    refine so_iconst (pc := 19) (n := 1) (v := 1) X (by decide +kernel) (by decide) ?_
    refine so_iload_n (pc := 20) (i := 2) X (by decide +kernel) ?_
    refine so_ishl (pc := 21) X (by decide +kernel) ?_
    refine so_ior (pc := 22) X (by decide +kernel) ?_
    refine so_istore_n (pc := 23) (i := 1) X (by decide +kernel) (by decide) ?_
    exact so_fall X (hJ 2)
  | 2 =>
    refine so_iinc (pc := 24) (i := 2) (n := 1) (y := 1) X (by decide +kernel) (by decide) (by decide) ?_
    exact so_goto (pc := 27) (off := (-23)) (tgt := 4) X (by decide +kernel) (by decide) (hJ 1)
  | 3 =>
    refine so_iload_n (pc := 30) (i := 1) X (by decide +kernel) ?_
    exact so_ret (pc := 31) X hlk hfree hr (by decide +kernel)
  | n + 4 => exact fun _ _ _ _ h => h.elim
theorem bs_X3_solvedSet {l : Launch} {D : va_G} {EXT : (Nat → Nat) → (Nat → Prop) → State → Heap → Prop} (hxo : mm_xo EXT) (hxe : ∀ ad A U H, EXT ad A U H → px_E0 ad A U H) : mm_BS l D pcl lw_T EXT px_tab 35 pb_X3_solvedSet pp_X3_solvedSet := by
  intro d C hC p e s m args below meth c A ad0 cA0 μ0 free Q J
  rw [tb_35]
  exact fun X hr hlk hnm hfree hJ => bk_X3_solvedSet hxo hxe hC X hr hlk hnm hfree hJ
set_option maxHeartbeats 4000000 in
set_option maxRecDepth 100000 in
theorem bk_X3_learn {l : Launch} {D : va_G} {EXT : (Nat → Nat) → (Nat → Prop) → State → Heap → Prop} (hxo : mm_xo EXT) (hxe : ∀ ad A U H, EXT ad A U H → px_E0 ad A U H) {d : Nat} {C : mm_C} (hC : mm_CS l D pcl lw_T EXT px_tab d C) {p : Program} {e : Env} {s : State} {m : MethodId} {args : Array Value} {below : List Frame} {meth : Method} {c : Code} {A : Nat → Prop} {ad0 : Nat → Nat} {cA0 : Nat → ClassId} {μ0 : mm_M} {free : Addr → Prop} {Q : mm_Q} {J : mm_J} (X : mm_cx p (mm_rm (d + 1) 0 0) s m args c cX3_learn RX3 lw_T A D pcl 4) (hr : meth.sig.returnType = none) (hlk : meth.locks = false) (hnm : meth.name = "learn") (hfree : ∀ q, A q → free q) (hJ : ∀ t, mm_SK p l e (mm_rm (d + 1) 0 0) s m args below meth c (MQ below (mm_Qc D pcl Q ad0 cA0 μ0 0 A) args s 0 0 free) D pcl A 4 (mm_EX EXT A s ad0 cA0 (mm_n μ0)) (pp_X3_learn t) (J t)) : ∀ t, mm_SK p l e (mm_rm (d + 1) 0 0) s m args below meth c (MQ below (mm_Qc D pcl Q ad0 cA0 μ0 0 A) args s 0 0 free) D pcl A 4 (mm_EX EXT A s ad0 cA0 (mm_n μ0)) (pp_X3_learn t) (pb_X3_learn J C Q t) := by
  intro t
  match t with
  | 0 =>
    refine so_iconst (pc := 0) (n := 0) (v := 0) X (by decide +kernel) (by decide) ?_
    refine so_istore_n (pc := 1) (i := 2) X (by decide +kernel) (by decide) ?_
    exact so_fall X (hJ 1)
  | 1 =>
    refine so_iload_n (pc := 2) (i := 2) X (by decide +kernel) ?_
    refine so_bipush (pc := 3) (n := 12) (v := 12) X (by decide +kernel) (by decide) ?_
    refine so_icmp_ge (pc := 5) (off := 25) (tgt := 30) X (by decide +kernel) (by decide) (hJ 2) ?_
    refine so_aload_n (pc := 8) (i := 0) X (by decide +kernel) ?_
    refine so_getr (pc := 9) (index := 9) (ci := 3) (f := 0) (N := 1) (C := RX3) (T := TX3) X rfl uX3 (by decide) (by decide) tw_145 rfl (by decide +kernel) ?_
    refine so_sipush (pc := 12) (n := 144) (v := 144) X (by decide +kernel) (by decide) ?_
    refine so_iload_n (pc := 15) (i := 2) X (by decide +kernel) ?_
    refine so_iadd (pc := 16) X (by decide +kernel) ?_
    refine so_iload_n (pc := 17) (i := 1) X (by decide +kernel) ?_
    refine so_iload_n (pc := 18) (i := 2) X (by decide +kernel) ?_
    refine so_ishr (pc := 19) X (by decide +kernel) ?_
    refine so_iconst (pc := 20) (n := 1) (v := 1) X (by decide +kernel) (by decide) ?_
    refine so_iand (pc := 21) X (by decide +kernel) ?_
    refine so_i2l (pc := 22) X (by decide +kernel) ?_
    refine so_last (pc := 23) X (by decide +kernel) ?_
    refine so_iinc (pc := 24) (i := 2) (n := 1) (y := 1) X (by decide +kernel) (by decide) (by decide) ?_
    exact so_goto (pc := 27) (off := (-25)) (tgt := 2) X (by decide +kernel) (by decide) (hJ 1)
  | 2 =>
    refine so_iconst (pc := 30) (n := 0) (v := 0) X (by decide +kernel) (by decide) ?_
    refine so_istore_n (pc := 31) (i := 2) X (by decide +kernel) (by decide) ?_
    exact so_fall X (hJ 3)
  | 3 =>
    refine so_iload_n (pc := 32) (i := 2) X (by decide +kernel) ?_
    refine so_bipush (pc := 33) (n := 12) (v := 12) X (by decide +kernel) (by decide) ?_
    refine so_icmp_ge (pc := 35) (off := 24) (tgt := 59) X (by decide +kernel) (by decide) (hJ 5) ?_
    refine so_aload_n (pc := 38) (i := 0) X (by decide +kernel) ?_
    refine so_iload_n (pc := 39) (i := 2) X (by decide +kernel) ?_
    refine so_cav (pc := 40) (y := 40) (na := 2) (index := 27) (maxL := 2) (nm := yX3_isPivot) (bytes := cX3_isPivot) (ret := (some .boolean)) (ci := 3) (N := 1) (T := TX3) X hxo (fun _ _ _ _ h => h.1) hC lw_good (Nat.le_refl _) (mm_lo d) rfl (by decide) tw_154 tw_155 tw_156 rfl (by decide) tw_157 tw_158 (by decide +kernel) (by decide +kernel) ?_
    refine so_if_eq (pc := 43) (off := 10) (tgt := 53) X (by decide +kernel) (by decide) (hJ 4) ?_
    refine so_aload_n (pc := 46) (i := 0) X (by decide +kernel) ?_
    refine so_iload_n (pc := 47) (i := 2) X (by decide +kernel) ?_
    refine so_bipush (pc := 48) (n := 12) (v := 12) X (by decide +kernel) (by decide) ?_
    refine so_cav (pc := 50) (y := 43) (na := 3) (index := 38) (maxL := 8) (nm := yX3_clearAt) (bytes := cX3_clearAt) (ret := none) (ci := 3) (N := 1) (T := TX3) X hxo (fun _ _ _ _ h => h.1) hC lw_good (Nat.le_refl _) (mm_lo d) rfl (by decide) tw_167 tw_168 tw_156 rfl (by decide) tw_169 tw_170 (by decide +kernel) (by decide +kernel) ?_
    exact so_fall X (hJ 4)
  | 4 =>
    refine so_iinc (pc := 53) (i := 2) (n := 1) (y := 1) X (by decide +kernel) (by decide) (by decide) ?_
    exact so_goto (pc := 56) (off := (-24)) (tgt := 32) X (by decide +kernel) (by decide) (hJ 3)
  | 5 =>
    refine so_aload_n (pc := 59) (i := 0) X (by decide +kernel) ?_
    refine so_bipush (pc := 60) (n := 12) (v := 12) X (by decide +kernel) (by decide) ?_
    refine so_iconst (pc := 62) (n := 0) (v := 0) X (by decide +kernel) (by decide) ?_
    refine so_cav (pc := 63) (y := 42) (na := 3) (index := 42) (maxL := 4) (nm := yX3_firstOf) (bytes := cX3_firstOf) (ret := (some .int)) (ci := 3) (N := 1) (T := TX3) X hxo (fun _ _ _ _ h => h.1) hC lw_good (Nat.le_refl _) (mm_lo d) rfl (by decide) tw_171 tw_172 tw_156 rfl (by decide) tw_173 tw_174 (by decide +kernel) (by decide +kernel) ?_
    refine so_istore_n (pc := 66) (i := 2) X (by decide +kernel) (by decide) ?_
    refine so_iload_n (pc := 67) (i := 2) X (by decide +kernel) ?_
    refine so_iconst (pc := 68) (n := (-1)) (v := (-1)) X (by decide +kernel) (by decide) ?_
    refine so_icmp_ne (pc := 69) (off := 4) (tgt := 73) X (by decide +kernel) (by decide) (hJ 6) ?_
    exact so_rtv (pc := 72) X hlk hfree hr (by decide +kernel)
  | 6 =>
    refine so_aload_n (pc := 73) (i := 0) X (by decide +kernel) ?_
    refine so_iload_n (pc := 74) (i := 2) X (by decide +kernel) ?_
    refine so_cav (pc := 75) (y := 44) (na := 2) (index := 46) (maxL := 4) (nm := yX3_settleNewRow) (bytes := cX3_settleNewRow) (ret := none) (ci := 3) (N := 1) (T := TX3) X hxo (fun _ _ _ _ h => h.1) hC lw_good (Nat.le_refl _) (mm_lo d) rfl (by decide) tw_175 tw_176 tw_156 rfl (by decide) tw_177 tw_178 (by decide +kernel) (by decide +kernel) ?_
    refine so_iconst (pc := 78) (n := 0) (v := 0) X (by decide +kernel) (by decide) ?_
    refine so_istore_n (pc := 79) (i := 3) X (by decide +kernel) (by decide) ?_
    exact so_fall X (hJ 7)
  | 7 =>
    refine so_iload_n (pc := 80) (i := 3) X (by decide +kernel) ?_
    refine so_iload_n (pc := 81) (i := 2) X (by decide +kernel) ?_
    refine so_icmp_ge (pc := 82) (off := 23) (tgt := 105) X (by decide +kernel) (by decide) (hJ 9) ?_
    refine so_aload_n (pc := 85) (i := 0) X (by decide +kernel) ?_
    refine so_iload_n (pc := 86) (i := 3) X (by decide +kernel) ?_
    refine so_cav (pc := 87) (y := 40) (na := 2) (index := 27) (maxL := 2) (nm := yX3_isPivot) (bytes := cX3_isPivot) (ret := (some .boolean)) (ci := 3) (N := 1) (T := TX3) X hxo (fun _ _ _ _ h => h.1) hC lw_good (Nat.le_refl _) (mm_lo d) rfl (by decide) tw_154 tw_155 tw_156 rfl (by decide) tw_157 tw_158 (by decide +kernel) (by decide +kernel) ?_
    refine so_if_eq (pc := 90) (off := 9) (tgt := 99) X (by decide +kernel) (by decide) (hJ 8) ?_
    refine so_aload_n (pc := 93) (i := 0) X (by decide +kernel) ?_
    refine so_iload_n (pc := 94) (i := 2) X (by decide +kernel) ?_
    refine so_iload_n (pc := 95) (i := 3) X (by decide +kernel) ?_
    refine so_cav (pc := 96) (y := 43) (na := 3) (index := 38) (maxL := 8) (nm := yX3_clearAt) (bytes := cX3_clearAt) (ret := none) (ci := 3) (N := 1) (T := TX3) X hxo (fun _ _ _ _ h => h.1) hC lw_good (Nat.le_refl _) (mm_lo d) rfl (by decide) tw_167 tw_168 tw_156 rfl (by decide) tw_169 tw_170 (by decide +kernel) (by decide +kernel) ?_
    exact so_fall X (hJ 8)
  | 8 =>
    refine so_iinc (pc := 99) (i := 3) (n := 1) (y := 1) X (by decide +kernel) (by decide) (by decide) ?_
    exact so_goto (pc := 102) (off := (-22)) (tgt := 80) X (by decide +kernel) (by decide) (hJ 7)
  | 9 =>
    exact so_rtv (pc := 105) X hlk hfree hr (by decide +kernel)
  | n + 10 => exact fun _ _ _ _ h => h.elim
theorem bs_X3_learn {l : Launch} {D : va_G} {EXT : (Nat → Nat) → (Nat → Prop) → State → Heap → Prop} (hxo : mm_xo EXT) (hxe : ∀ ad A U H, EXT ad A U H → px_E0 ad A U H) : mm_BS l D pcl lw_T EXT px_tab 36 pb_X3_learn pp_X3_learn := by
  intro d C hC p e s m args below meth c A ad0 cA0 μ0 free Q J
  rw [tb_36]
  exact fun X hr hlk hnm hfree hJ => bk_X3_learn hxo hxe hC X hr hlk hnm hfree hJ
set_option maxHeartbeats 4000000 in
set_option maxRecDepth 100000 in
theorem bk_X3_otherWorld {l : Launch} {D : va_G} {EXT : (Nat → Nat) → (Nat → Prop) → State → Heap → Prop} (hxo : mm_xo EXT) (hxe : ∀ ad A U H, EXT ad A U H → px_E0 ad A U H) {d : Nat} {C : mm_C} (hC : mm_CS l D pcl lw_T EXT px_tab d C) {p : Program} {e : Env} {s : State} {m : MethodId} {args : Array Value} {below : List Frame} {meth : Method} {c : Code} {A : Nat → Prop} {ad0 : Nat → Nat} {cA0 : Nat → ClassId} {μ0 : mm_M} {free : Addr → Prop} {Q : mm_Q} {J : mm_J} (X : mm_cx p (mm_rm (d + 1) 0 0) s m args c cX3_otherWorld RX3 lw_T A D pcl 8) (hr : meth.sig.returnType = some .long) (hlk : meth.locks = false) (hnm : meth.name = "otherWorld") (hfree : ∀ q, A q → free q) (hJ : ∀ t, mm_SK p l e (mm_rm (d + 1) 0 0) s m args below meth c (MQ below (mm_Qc D pcl Q ad0 cA0 μ0 0 A) args s 0 0 free) D pcl A 8 (mm_EX EXT A s ad0 cA0 (mm_n μ0)) (pp_X3_otherWorld t) (J t)) : ∀ t, mm_SK p l e (mm_rm (d + 1) 0 0) s m args below meth c (MQ below (mm_Qc D pcl Q ad0 cA0 μ0 0 A) args s 0 0 free) D pcl A 8 (mm_EX EXT A s ad0 cA0 (mm_n μ0)) (pp_X3_otherWorld t) (pb_X3_otherWorld J C Q t) := by
  intro t
  match t with
  | 0 =>
    refine so_aload_n (pc := 0) (i := 0) X (by decide +kernel) ?_
    refine so_iload_n (pc := 1) (i := 1) X (by decide +kernel) ?_
    refine so_cav (pc := 2) (y := 40) (na := 2) (index := 27) (maxL := 2) (nm := yX3_isPivot) (bytes := cX3_isPivot) (ret := (some .boolean)) (ci := 3) (N := 1) (T := TX3) X hxo (fun _ _ _ _ h => h.1) hC lw_good (Nat.le_refl _) (mm_lo d) rfl (by decide) tw_154 tw_155 tw_156 rfl (by decide) tw_157 tw_158 (by decide +kernel) (by decide +kernel) ?_
    refine so_if_eq (pc := 5) (off := 11) (tgt := 16) X (by decide +kernel) (by decide) (hJ 1) ?_
    refine so_aload_n (pc := 8) (i := 0) X (by decide +kernel) ?_
    refine so_iload_n (pc := 9) (i := 1) X (by decide +kernel) ?_
    refine so_cav (pc := 10) (y := 41) (na := 2) (index := 31) (maxL := 2) (nm := yX3_firstBehind) (bytes := cX3_firstBehind) (ret := (some .int)) (ci := 3) (N := 1) (T := TX3) X hxo (fun _ _ _ _ h => h.1) hC lw_good (Nat.le_refl _) (mm_lo d) rfl (by decide) tw_159 tw_160 tw_156 rfl (by decide) tw_161 tw_162 (by decide +kernel) (by decide +kernel) ?_
    exact so_goto (pc := 13) (off := 4) (tgt := 17) X (by decide +kernel) (by decide) (hJ 2)
  | 1 =>
    refine so_iload_n (pc := 16) (i := 1) X (by decide +kernel) ?_
    exact so_fall X (hJ 2)
  | 2 =>
    refine so_istore_n (pc := 17) (i := 3) X (by decide +kernel) (by decide) ?_
    refine so_iload_n (pc := 18) (i := 3) X (by decide +kernel) ?_
    refine so_iconst (pc := 19) (n := (-1)) (v := (-1)) X (by decide +kernel) (by decide) ?_
    refine so_icmp_ne (pc := 20) (off := 5) (tgt := 25) X (by decide +kernel) (by decide) (hJ 3) ?_
    refine so_lconst (pc := 23) (n := 0) (v := 0) X (by decide +kernel) (by decide) ?_
    exact so_rtl (pc := 24) X hlk hfree hr (by decide +kernel)
  | 3 =>
    refine so_aload_n (pc := 25) (i := 0) X (by decide +kernel) ?_
    refine so_iload_n (pc := 26) (i := 3) X (by decide +kernel) ?_
    refine so_cav (pc := 27) (y := 38) (na := 2) (index := 50) (maxL := 13) (nm := yX3_leastThatMakesWhole) (bytes := cX3_leastThatMakesWhole) (ret := (some .long)) (ci := 3) (N := 1) (T := TX3) X hxo (fun _ _ _ _ h => h.1) hC lw_good (Nat.le_refl _) (mm_lo d) rfl (by decide) tw_179 tw_180 tw_156 rfl (by decide) tw_181 tw_182 (by decide +kernel) (by decide +kernel) ?_
    refine so_lstore (pc := 30) (i := 4) X (by decide +kernel) (by decide) ?_
    refine so_iload_n (pc := 32) (i := 2) X (by decide +kernel) ?_
    refine so_iload_n (pc := 33) (i := 3) X (by decide +kernel) ?_
    refine so_icmp_ne (pc := 34) (off := 6) (tgt := 40) X (by decide +kernel) (by decide) (hJ 4) ?_
    refine so_lload (pc := 37) (i := 4) X (by decide +kernel) ?_
    exact so_rtl (pc := 39) X hlk hfree hr (by decide +kernel)
  | 4 =>
    refine so_aload_n (pc := 40) (i := 0) X (by decide +kernel) ?_
    refine so_iload_n (pc := 41) (i := 2) X (by decide +kernel) ?_
    refine so_iload_n (pc := 42) (i := 2) X (by decide +kernel) ?_
    refine so_cav (pc := 43) (y := 39) (na := 3) (index := 54) (maxL := 3) (nm := yX3_at) (bytes := cX3_at) (ret := (some .long)) (ci := 3) (N := 1) (T := TX3) X hxo (fun _ _ _ _ h => h.1) hC lw_good (Nat.le_refl _) (mm_lo d) rfl (by decide) tw_183 tw_184 tw_156 rfl (by decide) tw_185 tw_186 (by decide +kernel) (by decide +kernel) ?_
    refine so_lstore (pc := 46) (i := 6) X (by decide +kernel) (by decide) ?_
    refine so_lload (pc := 48) (i := 6) X (by decide +kernel) ?_
    refine so_lconst (pc := 50) (n := 0) (v := 0) X (by decide +kernel) (by decide) ?_
    refine so_lcmp (pc := 51) X (by decide +kernel) ?_
    refine so_if_ne (pc := 52) (off := 7) (tgt := 59) X (by decide +kernel) (by decide) (hJ 5) ?_
    refine so_lconst (pc := 55) (n := 0) (v := 0) X (by decide +kernel) (by decide) ?_
    exact so_goto (pc := 56) (off := 16) (tgt := 72) X (by decide +kernel) (by decide) (hJ 6)
  | 5 =>
    refine so_aload_n (pc := 59) (i := 0) X (by decide +kernel) ?_
    refine so_iload_n (pc := 60) (i := 2) X (by decide +kernel) ?_
    refine so_iload_n (pc := 61) (i := 3) X (by decide +kernel) ?_
    refine so_cav (pc := 62) (y := 39) (na := 3) (index := 54) (maxL := 3) (nm := yX3_at) (bytes := cX3_at) (ret := (some .long)) (ci := 3) (N := 1) (T := TX3) X hxo (fun _ _ _ _ h => h.1) hC lw_good (Nat.le_refl _) (mm_lo d) rfl (by decide) tw_183 tw_184 tw_156 rfl (by decide) tw_185 tw_186 (by decide +kernel) (by decide +kernel) ?_
    refine so_lneg (pc := 65) X (by decide +kernel) ?_
    refine so_lload (pc := 66) (i := 4) X (by decide +kernel) ?_
    refine so_lmul (pc := 68) X (by decide +kernel) ?_
    refine so_lload (pc := 69) (i := 6) X (by decide +kernel) ?_
    refine so_ldiv (pc := 71) X (by decide +kernel) ?_
    exact so_fall X (hJ 6)
  | 6 =>
    exact so_rtl (pc := 72) X hlk hfree hr (by decide +kernel)
  | n + 7 => exact fun _ _ _ _ h => h.elim
theorem bs_X3_otherWorld {l : Launch} {D : va_G} {EXT : (Nat → Nat) → (Nat → Prop) → State → Heap → Prop} (hxo : mm_xo EXT) (hxe : ∀ ad A U H, EXT ad A U H → px_E0 ad A U H) : mm_BS l D pcl lw_T EXT px_tab 37 pb_X3_otherWorld pp_X3_otherWorld := by
  intro d C hC p e s m args below meth c A ad0 cA0 μ0 free Q J
  rw [tb_37]
  exact fun X hr hlk hnm hfree hJ => bk_X3_otherWorld hxo hxe hC X hr hlk hnm hfree hJ
set_option maxHeartbeats 4000000 in
set_option maxRecDepth 100000 in
theorem bk_X3_leastThatMakesWhole {l : Launch} {D : va_G} {EXT : (Nat → Nat) → (Nat → Prop) → State → Heap → Prop} (hxo : mm_xo EXT) (hxe : ∀ ad A U H, EXT ad A U H → px_E0 ad A U H) {d : Nat} {C : mm_C} (hC : mm_CS l D pcl lw_T EXT px_tab d C) {p : Program} {e : Env} {s : State} {m : MethodId} {args : Array Value} {below : List Frame} {meth : Method} {c : Code} {A : Nat → Prop} {ad0 : Nat → Nat} {cA0 : Nat → ClassId} {μ0 : mm_M} {free : Addr → Prop} {Q : mm_Q} {J : mm_J} (X : mm_cx p (mm_rm (d + 1) 0 0) s m args c cX3_leastThatMakesWhole RX3 lw_T A D pcl 13) (hr : meth.sig.returnType = some .long) (hlk : meth.locks = false) (hnm : meth.name = "leastThatMakesWhole") (hfree : ∀ q, A q → free q) (hJ : ∀ t, mm_SK p l e (mm_rm (d + 1) 0 0) s m args below meth c (MQ below (mm_Qc D pcl Q ad0 cA0 μ0 0 A) args s 0 0 free) D pcl A 13 (mm_EX EXT A s ad0 cA0 (mm_n μ0)) (pp_X3_leastThatMakesWhole t) (J t)) : ∀ t, mm_SK p l e (mm_rm (d + 1) 0 0) s m args below meth c (MQ below (mm_Qc D pcl Q ad0 cA0 μ0 0 A) args s 0 0 free) D pcl A 13 (mm_EX EXT A s ad0 cA0 (mm_n μ0)) (pp_X3_leastThatMakesWhole t) (pb_X3_leastThatMakesWhole J C Q t) := by
  intro t
  match t with
  | 0 =>
    refine so_lconst (pc := 0) (n := 1) (v := 1) X (by decide +kernel) (by decide) ?_
    refine so_lstore_n (pc := 1) (i := 2) X (by decide +kernel) (by decide) ?_
    refine so_iconst (pc := 2) (n := 0) (v := 0) X (by decide +kernel) (by decide) ?_
    refine so_istore (pc := 3) (i := 4) X (by decide +kernel) (by decide) ?_
    exact so_fall X (hJ 1)
  | 1 =>
    refine so_iload (pc := 5) (i := 4) X (by decide +kernel) ?_
    refine so_bipush (pc := 7) (n := 12) (v := 12) X (by decide +kernel) (by decide) ?_
    refine so_icmp_ge (pc := 9) (off := 81) (tgt := 90) X (by decide +kernel) (by decide) (hJ 5) ?_
    refine so_aload_n (pc := 12) (i := 0) X (by decide +kernel) ?_
    refine so_iload (pc := 13) (i := 4) X (by decide +kernel) ?_
    refine so_iload (pc := 15) (i := 4) X (by decide +kernel) ?_
    refine so_cav (pc := 17) (y := 39) (na := 3) (index := 54) (maxL := 3) (nm := yX3_at) (bytes := cX3_at) (ret := (some .long)) (ci := 3) (N := 1) (T := TX3) X hxo (fun _ _ _ _ h => h.1) hC lw_good (Nat.le_refl _) (mm_lo d) rfl (by decide) tw_183 tw_184 tw_156 rfl (by decide) tw_185 tw_186 (by decide +kernel) (by decide +kernel) ?_
    refine so_lstore (pc := 20) (i := 5) X (by decide +kernel) (by decide) ?_
    refine so_lload (pc := 22) (i := 5) X (by decide +kernel) ?_
    refine so_aload_n (pc := 24) (i := 0) X (by decide +kernel) ?_
    refine so_iload (pc := 25) (i := 4) X (by decide +kernel) ?_
    refine so_iload_n (pc := 27) (i := 1) X (by decide +kernel) ?_
    refine so_cav (pc := 28) (y := 39) (na := 3) (index := 54) (maxL := 3) (nm := yX3_at) (bytes := cX3_at) (ret := (some .long)) (ci := 3) (N := 1) (T := TX3) X hxo (fun _ _ _ _ h => h.1) hC lw_good (Nat.le_refl _) (mm_lo d) rfl (by decide) tw_183 tw_184 tw_156 rfl (by decide) tw_185 tw_186 (by decide +kernel) (by decide +kernel) ?_
    refine so_cas (pc := 31) (y := 47) (na := 2) (index := 58) (maxL := 11) (nm := yX3_commonDivisor) (bytes := cX3_commonDivisor) (ret := (some .long)) X hxo (fun _ _ _ _ h => h.1) hC lw_good (Nat.le_refl _) (mm_lo d) rfl (by decide) tw_187 tw_188 tw_156 tw_189 (by decide +kernel) (by decide +kernel) ?_
    refine so_lstore (pc := 34) (i := 7) X (by decide +kernel) (by decide) ?_
    refine so_lload (pc := 36) (i := 5) X (by decide +kernel) ?_
    refine so_lconst (pc := 38) (n := 0) (v := 0) X (by decide +kernel) (by decide) ?_
    refine so_lcmp (pc := 39) X (by decide +kernel) ?_
    refine so_if_eq (pc := 40) (off := 44) (tgt := 84) X (by decide +kernel) (by decide) (hJ 4) ?_
    refine so_lload (pc := 43) (i := 7) X (by decide +kernel) ?_
    refine so_lconst (pc := 45) (n := 0) (v := 0) X (by decide +kernel) (by decide) ?_
    refine so_lcmp (pc := 46) X (by decide +kernel) ?_
    refine so_if_eq (pc := 47) (off := 37) (tgt := 84) X (by decide +kernel) (by decide) (hJ 4) ?_
    refine so_lload (pc := 50) (i := 5) X (by decide +kernel) ?_
    refine so_lload (pc := 52) (i := 7) X (by decide +kernel) ?_
    refine so_ldiv (pc := 54) X (by decide +kernel) ?_
    refine so_lstore (pc := 55) (i := 9) X (by decide +kernel) (by decide) ?_
    refine so_lload_n (pc := 57) (i := 2) X (by decide +kernel) ?_
    refine so_lload (pc := 58) (i := 9) X (by decide +kernel) ?_
    refine so_cas (pc := 60) (y := 47) (na := 2) (index := 58) (maxL := 11) (nm := yX3_commonDivisor) (bytes := cX3_commonDivisor) (ret := (some .long)) X hxo (fun _ _ _ _ h => h.1) hC lw_good (Nat.le_refl _) (mm_lo d) rfl (by decide) tw_187 tw_188 tw_156 tw_189 (by decide +kernel) (by decide +kernel) ?_
    refine so_lstore (pc := 63) (i := 11) X (by decide +kernel) (by decide) ?_
    refine so_lload (pc := 65) (i := 11) X (by decide +kernel) ?_
    refine so_lconst (pc := 67) (n := 0) (v := 0) X (by decide +kernel) (by decide) ?_
    refine so_lcmp (pc := 68) X (by decide +kernel) ?_
    refine so_if_ne (pc := 69) (off := 7) (tgt := 76) X (by decide +kernel) (by decide) (hJ 2) ?_
    refine so_lload_n (pc := 72) (i := 2) X (by decide +kernel) ?_
    exact so_goto (pc := 73) (off := 10) (tgt := 83) X (by decide +kernel) (by decide) (hJ 3)
  | 2 =>
    refine so_lload_n (pc := 76) (i := 2) X (by decide +kernel) ?_
    refine so_lload (pc := 77) (i := 11) X (by decide +kernel) ?_
    refine so_ldiv (pc := 79) X (by decide +kernel) ?_
    refine so_lload (pc := 80) (i := 9) X (by decide +kernel) ?_
    refine so_lmul (pc := 82) X (by decide +kernel) ?_
    exact so_fall X (hJ 3)
  | 3 =>
    refine so_lstore_n (pc := 83) (i := 2) X (by decide +kernel) (by decide) ?_
    exact so_fall X (hJ 4)
  | 4 =>
    refine so_iinc (pc := 84) (i := 4) (n := 1) (y := 1) X (by decide +kernel) (by decide) (by decide) ?_
    exact so_goto (pc := 87) (off := (-82)) (tgt := 5) X (by decide +kernel) (by decide) (hJ 1)
  | 5 =>
    refine so_lload_n (pc := 90) (i := 2) X (by decide +kernel) ?_
    exact so_rtl (pc := 91) X hlk hfree hr (by decide +kernel)
  | n + 6 => exact fun _ _ _ _ h => h.elim
theorem bs_X3_leastThatMakesWhole {l : Launch} {D : va_G} {EXT : (Nat → Nat) → (Nat → Prop) → State → Heap → Prop} (hxo : mm_xo EXT) (hxe : ∀ ad A U H, EXT ad A U H → px_E0 ad A U H) : mm_BS l D pcl lw_T EXT px_tab 38 pb_X3_leastThatMakesWhole pp_X3_leastThatMakesWhole := by
  intro d C hC p e s m args below meth c A ad0 cA0 μ0 free Q J
  rw [tb_38]
  exact fun X hr hlk hnm hfree hJ => bk_X3_leastThatMakesWhole hxo hxe hC X hr hlk hnm hfree hJ
set_option maxHeartbeats 4000000 in
set_option maxRecDepth 100000 in
theorem bk_X3_at {l : Launch} {D : va_G} {EXT : (Nat → Nat) → (Nat → Prop) → State → Heap → Prop} (hxo : mm_xo EXT) (hxe : ∀ ad A U H, EXT ad A U H → px_E0 ad A U H) {d : Nat} {C : mm_C} (hC : mm_CS l D pcl lw_T EXT px_tab d C) {p : Program} {e : Env} {s : State} {m : MethodId} {args : Array Value} {below : List Frame} {meth : Method} {c : Code} {A : Nat → Prop} {ad0 : Nat → Nat} {cA0 : Nat → ClassId} {μ0 : mm_M} {free : Addr → Prop} {Q : mm_Q} {J : mm_J} (X : mm_cx p (mm_rm (d + 1) 0 0) s m args c cX3_at RX3 lw_T A D pcl 3) (hr : meth.sig.returnType = some .long) (hlk : meth.locks = false) (hnm : meth.name = "at") (hfree : ∀ q, A q → free q) (hJ : ∀ t, mm_SK p l e (mm_rm (d + 1) 0 0) s m args below meth c (MQ below (mm_Qc D pcl Q ad0 cA0 μ0 0 A) args s 0 0 free) D pcl A 3 (mm_EX EXT A s ad0 cA0 (mm_n μ0)) (pp_X3_at t) (J t)) : ∀ t, mm_SK p l e (mm_rm (d + 1) 0 0) s m args below meth c (MQ below (mm_Qc D pcl Q ad0 cA0 μ0 0 A) args s 0 0 free) D pcl A 3 (mm_EX EXT A s ad0 cA0 (mm_n μ0)) (pp_X3_at t) (pb_X3_at J C Q t) := by
  intro t
  match t with
  | 0 =>
    refine so_aload_n (pc := 0) (i := 0) X (by decide +kernel) ?_
    refine so_getr (pc := 1) (index := 9) (ci := 3) (f := 0) (N := 1) (C := RX3) (T := TX3) X rfl uX3 (by decide) (by decide) tw_145 rfl (by decide +kernel) ?_
    refine so_iload_n (pc := 4) (i := 1) X (by decide +kernel) ?_
    refine so_bipush (pc := 5) (n := 12) (v := 12) X (by decide +kernel) (by decide) ?_
    refine so_imul (pc := 7) X (by decide +kernel) ?_
    refine so_iload_n (pc := 8) (i := 2) X (by decide +kernel) ?_
    refine so_iadd (pc := 9) X (by decide +kernel) ?_
    refine so_lald (pc := 10) X (by decide +kernel) ?_
    exact so_rtl (pc := 11) X hlk hfree hr (by decide +kernel)
  | n + 1 => exact fun _ _ _ _ h => h.elim
theorem bs_X3_at {l : Launch} {D : va_G} {EXT : (Nat → Nat) → (Nat → Prop) → State → Heap → Prop} (hxo : mm_xo EXT) (hxe : ∀ ad A U H, EXT ad A U H → px_E0 ad A U H) : mm_BS l D pcl lw_T EXT px_tab 39 pb_X3_at pp_X3_at := by
  intro d C hC p e s m args below meth c A ad0 cA0 μ0 free Q J
  rw [tb_39]
  exact fun X hr hlk hnm hfree hJ => bk_X3_at hxo hxe hC X hr hlk hnm hfree hJ
set_option maxHeartbeats 4000000 in
set_option maxRecDepth 100000 in
theorem bk_X3_isPivot {l : Launch} {D : va_G} {EXT : (Nat → Nat) → (Nat → Prop) → State → Heap → Prop} (hxo : mm_xo EXT) (hxe : ∀ ad A U H, EXT ad A U H → px_E0 ad A U H) {d : Nat} {C : mm_C} (hC : mm_CS l D pcl lw_T EXT px_tab d C) {p : Program} {e : Env} {s : State} {m : MethodId} {args : Array Value} {below : List Frame} {meth : Method} {c : Code} {A : Nat → Prop} {ad0 : Nat → Nat} {cA0 : Nat → ClassId} {μ0 : mm_M} {free : Addr → Prop} {Q : mm_Q} {J : mm_J} (X : mm_cx p (mm_rm (d + 1) 0 0) s m args c cX3_isPivot RX3 lw_T A D pcl 2) (hr : meth.sig.returnType = some .boolean) (hlk : meth.locks = false) (hnm : meth.name = "isPivot") (hfree : ∀ q, A q → free q) (hJ : ∀ t, mm_SK p l e (mm_rm (d + 1) 0 0) s m args below meth c (MQ below (mm_Qc D pcl Q ad0 cA0 μ0 0 A) args s 0 0 free) D pcl A 2 (mm_EX EXT A s ad0 cA0 (mm_n μ0)) (pp_X3_isPivot t) (J t)) : ∀ t, mm_SK p l e (mm_rm (d + 1) 0 0) s m args below meth c (MQ below (mm_Qc D pcl Q ad0 cA0 μ0 0 A) args s 0 0 free) D pcl A 2 (mm_EX EXT A s ad0 cA0 (mm_n μ0)) (pp_X3_isPivot t) (pb_X3_isPivot J C Q t) := by
  intro t
  match t with
  | 0 =>
    refine so_aload_n (pc := 0) (i := 0) X (by decide +kernel) ?_
    refine so_iload_n (pc := 1) (i := 1) X (by decide +kernel) ?_
    refine so_iload_n (pc := 2) (i := 1) X (by decide +kernel) ?_
    refine so_cav (pc := 3) (y := 39) (na := 3) (index := 54) (maxL := 3) (nm := yX3_at) (bytes := cX3_at) (ret := (some .long)) (ci := 3) (N := 1) (T := TX3) X hxo (fun _ _ _ _ h => h.1) hC lw_good (Nat.le_refl _) (mm_lo d) rfl (by decide) tw_183 tw_184 tw_156 rfl (by decide) tw_185 tw_186 (by decide +kernel) (by decide +kernel) ?_
    refine so_lconst (pc := 6) (n := 0) (v := 0) X (by decide +kernel) (by decide) ?_
    refine so_lcmp (pc := 7) X (by decide +kernel) ?_
    refine so_if_eq (pc := 8) (off := 7) (tgt := 15) X (by decide +kernel) (by decide) (hJ 1) ?_
    refine so_iconst (pc := 11) (n := 1) (v := 1) X (by decide +kernel) (by decide) ?_
    exact so_goto (pc := 12) (off := 4) (tgt := 16) X (by decide +kernel) (by decide) (hJ 2)
  | 1 =>
    refine so_iconst (pc := 15) (n := 0) (v := 0) X (by decide +kernel) (by decide) ?_
    exact so_fall X (hJ 2)
  | 2 =>
    exact so_rtz (pc := 16) X hlk hfree hr (by decide +kernel)
  | n + 3 => exact fun _ _ _ _ h => h.elim
theorem bs_X3_isPivot {l : Launch} {D : va_G} {EXT : (Nat → Nat) → (Nat → Prop) → State → Heap → Prop} (hxo : mm_xo EXT) (hxe : ∀ ad A U H, EXT ad A U H → px_E0 ad A U H) : mm_BS l D pcl lw_T EXT px_tab 40 pb_X3_isPivot pp_X3_isPivot := by
  intro d C hC p e s m args below meth c A ad0 cA0 μ0 free Q J
  rw [tb_40]
  exact fun X hr hlk hnm hfree hJ => bk_X3_isPivot hxo hxe hC X hr hlk hnm hfree hJ
set_option maxHeartbeats 4000000 in
set_option maxRecDepth 100000 in
theorem bk_X3_firstBehind {l : Launch} {D : va_G} {EXT : (Nat → Nat) → (Nat → Prop) → State → Heap → Prop} (hxo : mm_xo EXT) (hxe : ∀ ad A U H, EXT ad A U H → px_E0 ad A U H) {d : Nat} {C : mm_C} (hC : mm_CS l D pcl lw_T EXT px_tab d C) {p : Program} {e : Env} {s : State} {m : MethodId} {args : Array Value} {below : List Frame} {meth : Method} {c : Code} {A : Nat → Prop} {ad0 : Nat → Nat} {cA0 : Nat → ClassId} {μ0 : mm_M} {free : Addr → Prop} {Q : mm_Q} {J : mm_J} (X : mm_cx p (mm_rm (d + 1) 0 0) s m args c cX3_firstBehind RX3 lw_T A D pcl 2) (hr : meth.sig.returnType = some .int) (hlk : meth.locks = false) (hnm : meth.name = "firstBehind") (hfree : ∀ q, A q → free q) (hJ : ∀ t, mm_SK p l e (mm_rm (d + 1) 0 0) s m args below meth c (MQ below (mm_Qc D pcl Q ad0 cA0 μ0 0 A) args s 0 0 free) D pcl A 2 (mm_EX EXT A s ad0 cA0 (mm_n μ0)) (pp_X3_firstBehind t) (J t)) : ∀ t, mm_SK p l e (mm_rm (d + 1) 0 0) s m args below meth c (MQ below (mm_Qc D pcl Q ad0 cA0 μ0 0 A) args s 0 0 free) D pcl A 2 (mm_EX EXT A s ad0 cA0 (mm_n μ0)) (pp_X3_firstBehind t) (pb_X3_firstBehind J C Q t) := by
  intro t
  match t with
  | 0 =>
    refine so_aload_n (pc := 0) (i := 0) X (by decide +kernel) ?_
    refine so_iload_n (pc := 1) (i := 1) X (by decide +kernel) ?_
    refine so_iload_n (pc := 2) (i := 1) X (by decide +kernel) ?_
    refine so_iconst (pc := 3) (n := 1) (v := 1) X (by decide +kernel) (by decide) ?_
    refine so_iadd (pc := 4) X (by decide +kernel) ?_
    refine so_cav (pc := 5) (y := 42) (na := 3) (index := 42) (maxL := 4) (nm := yX3_firstOf) (bytes := cX3_firstOf) (ret := (some .int)) (ci := 3) (N := 1) (T := TX3) X hxo (fun _ _ _ _ h => h.1) hC lw_good (Nat.le_refl _) (mm_lo d) rfl (by decide) tw_171 tw_172 tw_156 rfl (by decide) tw_173 tw_174 (by decide +kernel) (by decide +kernel) ?_
    exact so_ret (pc := 8) X hlk hfree hr (by decide +kernel)
  | n + 1 => exact fun _ _ _ _ h => h.elim
theorem bs_X3_firstBehind {l : Launch} {D : va_G} {EXT : (Nat → Nat) → (Nat → Prop) → State → Heap → Prop} (hxo : mm_xo EXT) (hxe : ∀ ad A U H, EXT ad A U H → px_E0 ad A U H) : mm_BS l D pcl lw_T EXT px_tab 41 pb_X3_firstBehind pp_X3_firstBehind := by
  intro d C hC p e s m args below meth c A ad0 cA0 μ0 free Q J
  rw [tb_41]
  exact fun X hr hlk hnm hfree hJ => bk_X3_firstBehind hxo hxe hC X hr hlk hnm hfree hJ
set_option maxHeartbeats 4000000 in
set_option maxRecDepth 100000 in
theorem bk_X3_firstOf {l : Launch} {D : va_G} {EXT : (Nat → Nat) → (Nat → Prop) → State → Heap → Prop} (hxo : mm_xo EXT) (hxe : ∀ ad A U H, EXT ad A U H → px_E0 ad A U H) {d : Nat} {C : mm_C} (hC : mm_CS l D pcl lw_T EXT px_tab d C) {p : Program} {e : Env} {s : State} {m : MethodId} {args : Array Value} {below : List Frame} {meth : Method} {c : Code} {A : Nat → Prop} {ad0 : Nat → Nat} {cA0 : Nat → ClassId} {μ0 : mm_M} {free : Addr → Prop} {Q : mm_Q} {J : mm_J} (X : mm_cx p (mm_rm (d + 1) 0 0) s m args c cX3_firstOf RX3 lw_T A D pcl 4) (hr : meth.sig.returnType = some .int) (hlk : meth.locks = false) (hnm : meth.name = "firstOf") (hfree : ∀ q, A q → free q) (hJ : ∀ t, mm_SK p l e (mm_rm (d + 1) 0 0) s m args below meth c (MQ below (mm_Qc D pcl Q ad0 cA0 μ0 0 A) args s 0 0 free) D pcl A 4 (mm_EX EXT A s ad0 cA0 (mm_n μ0)) (pp_X3_firstOf t) (J t)) : ∀ t, mm_SK p l e (mm_rm (d + 1) 0 0) s m args below meth c (MQ below (mm_Qc D pcl Q ad0 cA0 μ0 0 A) args s 0 0 free) D pcl A 4 (mm_EX EXT A s ad0 cA0 (mm_n μ0)) (pp_X3_firstOf t) (pb_X3_firstOf J C Q t) := by
  intro t
  match t with
  | 0 =>
    refine so_iload_n (pc := 0) (i := 2) X (by decide +kernel) ?_
    refine so_istore_n (pc := 1) (i := 3) X (by decide +kernel) (by decide) ?_
    exact so_fall X (hJ 1)
  | 1 =>
    refine so_iload_n (pc := 2) (i := 3) X (by decide +kernel) ?_
    refine so_bipush (pc := 3) (n := 12) (v := 12) X (by decide +kernel) (by decide) ?_
    refine so_icmp_ge (pc := 5) (off := 22) (tgt := 27) X (by decide +kernel) (by decide) (hJ 3) ?_
    refine so_aload_n (pc := 8) (i := 0) X (by decide +kernel) ?_
    refine so_iload_n (pc := 9) (i := 1) X (by decide +kernel) ?_
    refine so_iload_n (pc := 10) (i := 3) X (by decide +kernel) ?_
    refine so_cav (pc := 11) (y := 39) (na := 3) (index := 54) (maxL := 3) (nm := yX3_at) (bytes := cX3_at) (ret := (some .long)) (ci := 3) (N := 1) (T := TX3) X hxo (fun _ _ _ _ h => h.1) hC lw_good (Nat.le_refl _) (mm_lo d) rfl (by decide) tw_183 tw_184 tw_156 rfl (by decide) tw_185 tw_186 (by decide +kernel) (by decide +kernel) ?_
    refine so_lconst (pc := 14) (n := 0) (v := 0) X (by decide +kernel) (by decide) ?_
    refine so_lcmp (pc := 15) X (by decide +kernel) ?_
    refine so_if_eq (pc := 16) (off := 5) (tgt := 21) X (by decide +kernel) (by decide) (hJ 2) ?_
    refine so_iload_n (pc := 19) (i := 3) X (by decide +kernel) ?_
    exact so_ret (pc := 20) X hlk hfree hr (by decide +kernel)
  | 2 =>
    refine so_iinc (pc := 21) (i := 3) (n := 1) (y := 1) X (by decide +kernel) (by decide) (by decide) ?_
    exact so_goto (pc := 24) (off := (-22)) (tgt := 2) X (by decide +kernel) (by decide) (hJ 1)
  | 3 =>
    refine so_iconst (pc := 27) (n := (-1)) (v := (-1)) X (by decide +kernel) (by decide) ?_
    exact so_ret (pc := 28) X hlk hfree hr (by decide +kernel)
  | n + 4 => exact fun _ _ _ _ h => h.elim
theorem bs_X3_firstOf {l : Launch} {D : va_G} {EXT : (Nat → Nat) → (Nat → Prop) → State → Heap → Prop} (hxo : mm_xo EXT) (hxe : ∀ ad A U H, EXT ad A U H → px_E0 ad A U H) : mm_BS l D pcl lw_T EXT px_tab 42 pb_X3_firstOf pp_X3_firstOf := by
  intro d C hC p e s m args below meth c A ad0 cA0 μ0 free Q J
  rw [tb_42]
  exact fun X hr hlk hnm hfree hJ => bk_X3_firstOf hxo hxe hC X hr hlk hnm hfree hJ
set_option maxHeartbeats 4000000 in
set_option maxRecDepth 100000 in
theorem bk_X3_clearAt {l : Launch} {D : va_G} {EXT : (Nat → Nat) → (Nat → Prop) → State → Heap → Prop} (hxo : mm_xo EXT) (hxe : ∀ ad A U H, EXT ad A U H → px_E0 ad A U H) {d : Nat} {C : mm_C} (hC : mm_CS l D pcl lw_T EXT px_tab d C) {p : Program} {e : Env} {s : State} {m : MethodId} {args : Array Value} {below : List Frame} {meth : Method} {c : Code} {A : Nat → Prop} {ad0 : Nat → Nat} {cA0 : Nat → ClassId} {μ0 : mm_M} {free : Addr → Prop} {Q : mm_Q} {J : mm_J} (X : mm_cx p (mm_rm (d + 1) 0 0) s m args c cX3_clearAt RX3 lw_T A D pcl 8) (hr : meth.sig.returnType = none) (hlk : meth.locks = false) (hnm : meth.name = "clearAt") (hfree : ∀ q, A q → free q) (hJ : ∀ t, mm_SK p l e (mm_rm (d + 1) 0 0) s m args below meth c (MQ below (mm_Qc D pcl Q ad0 cA0 μ0 0 A) args s 0 0 free) D pcl A 8 (mm_EX EXT A s ad0 cA0 (mm_n μ0)) (pp_X3_clearAt t) (J t)) : ∀ t, mm_SK p l e (mm_rm (d + 1) 0 0) s m args below meth c (MQ below (mm_Qc D pcl Q ad0 cA0 μ0 0 A) args s 0 0 free) D pcl A 8 (mm_EX EXT A s ad0 cA0 (mm_n μ0)) (pp_X3_clearAt t) (pb_X3_clearAt J C Q t) := by
  intro t
  match t with
  | 0 =>
    refine so_aload_n (pc := 0) (i := 0) X (by decide +kernel) ?_
    refine so_iload_n (pc := 1) (i := 2) X (by decide +kernel) ?_
    refine so_iload_n (pc := 2) (i := 1) X (by decide +kernel) ?_
    refine so_cav (pc := 3) (y := 39) (na := 3) (index := 54) (maxL := 3) (nm := yX3_at) (bytes := cX3_at) (ret := (some .long)) (ci := 3) (N := 1) (T := TX3) X hxo (fun _ _ _ _ h => h.1) hC lw_good (Nat.le_refl _) (mm_lo d) rfl (by decide) tw_183 tw_184 tw_156 rfl (by decide) tw_185 tw_186 (by decide +kernel) (by decide +kernel) ?_
    refine so_lstore_n (pc := 6) (i := 3) X (by decide +kernel) (by decide) ?_
    refine so_aload_n (pc := 7) (i := 0) X (by decide +kernel) ?_
    refine so_iload_n (pc := 8) (i := 1) X (by decide +kernel) ?_
    refine so_iload_n (pc := 9) (i := 1) X (by decide +kernel) ?_
    refine so_cav (pc := 10) (y := 39) (na := 3) (index := 54) (maxL := 3) (nm := yX3_at) (bytes := cX3_at) (ret := (some .long)) (ci := 3) (N := 1) (T := TX3) X hxo (fun _ _ _ _ h => h.1) hC lw_good (Nat.le_refl _) (mm_lo d) rfl (by decide) tw_183 tw_184 tw_156 rfl (by decide) tw_185 tw_186 (by decide +kernel) (by decide +kernel) ?_
    refine so_lstore (pc := 13) (i := 5) X (by decide +kernel) (by decide) ?_
    refine so_lload_n (pc := 15) (i := 3) X (by decide +kernel) ?_
    refine so_lconst (pc := 16) (n := 0) (v := 0) X (by decide +kernel) (by decide) ?_
    refine so_lcmp (pc := 17) X (by decide +kernel) ?_
    refine so_if_ne (pc := 18) (off := 4) (tgt := 22) X (by decide +kernel) (by decide) (hJ 1) ?_
    exact so_rtv (pc := 21) X hlk hfree hr (by decide +kernel)
  | 1 =>
    refine so_iconst (pc := 22) (n := 0) (v := 0) X (by decide +kernel) (by decide) ?_
    refine so_istore (pc := 23) (i := 7) X (by decide +kernel) (by decide) ?_
    exact so_fall X (hJ 2)
  | 2 =>
    refine so_iload (pc := 25) (i := 7) X (by decide +kernel) ?_
    refine so_bipush (pc := 27) (n := 12) (v := 12) X (by decide +kernel) (by decide) ?_
    refine so_icmp_ge (pc := 29) (off := 41) (tgt := 70) X (by decide +kernel) (by decide) (hJ 3) ?_
    refine so_aload_n (pc := 32) (i := 0) X (by decide +kernel) ?_
    refine so_getr (pc := 33) (index := 9) (ci := 3) (f := 0) (N := 1) (C := RX3) (T := TX3) X rfl uX3 (by decide) (by decide) tw_145 rfl (by decide +kernel) ?_
    refine so_iload_n (pc := 36) (i := 2) X (by decide +kernel) ?_
    refine so_bipush (pc := 37) (n := 12) (v := 12) X (by decide +kernel) (by decide) ?_
    refine so_imul (pc := 39) X (by decide +kernel) ?_
    refine so_iload (pc := 40) (i := 7) X (by decide +kernel) ?_
    refine so_iadd (pc := 42) X (by decide +kernel) ?_
    refine so_aload_n (pc := 43) (i := 0) X (by decide +kernel) ?_
    refine so_iload_n (pc := 44) (i := 2) X (by decide +kernel) ?_
    refine so_iload (pc := 45) (i := 7) X (by decide +kernel) ?_
    refine so_cav (pc := 47) (y := 39) (na := 3) (index := 54) (maxL := 3) (nm := yX3_at) (bytes := cX3_at) (ret := (some .long)) (ci := 3) (N := 1) (T := TX3) X hxo (fun _ _ _ _ h => h.1) hC lw_good (Nat.le_refl _) (mm_lo d) rfl (by decide) tw_183 tw_184 tw_156 rfl (by decide) tw_185 tw_186 (by decide +kernel) (by decide +kernel) ?_
    refine so_lload (pc := 50) (i := 5) X (by decide +kernel) ?_
    refine so_lmul (pc := 52) X (by decide +kernel) ?_
    refine so_aload_n (pc := 53) (i := 0) X (by decide +kernel) ?_
    refine so_iload_n (pc := 54) (i := 1) X (by decide +kernel) ?_
    refine so_iload (pc := 55) (i := 7) X (by decide +kernel) ?_
    refine so_cav (pc := 57) (y := 39) (na := 3) (index := 54) (maxL := 3) (nm := yX3_at) (bytes := cX3_at) (ret := (some .long)) (ci := 3) (N := 1) (T := TX3) X hxo (fun _ _ _ _ h => h.1) hC lw_good (Nat.le_refl _) (mm_lo d) rfl (by decide) tw_183 tw_184 tw_156 rfl (by decide) tw_185 tw_186 (by decide +kernel) (by decide +kernel) ?_
    refine so_lload_n (pc := 60) (i := 3) X (by decide +kernel) ?_
    refine so_lmul (pc := 61) X (by decide +kernel) ?_
    refine so_lsub (pc := 62) X (by decide +kernel) ?_
    refine so_last (pc := 63) X (by decide +kernel) ?_
    refine so_iinc (pc := 64) (i := 7) (n := 1) (y := 1) X (by decide +kernel) (by decide) (by decide) ?_
    exact so_goto (pc := 67) (off := (-42)) (tgt := 25) X (by decide +kernel) (by decide) (hJ 2)
  | 3 =>
    refine so_aload_n (pc := 70) (i := 0) X (by decide +kernel) ?_
    refine so_iload_n (pc := 71) (i := 2) X (by decide +kernel) ?_
    refine so_aload_n (pc := 72) (i := 0) X (by decide +kernel) ?_
    refine so_iload_n (pc := 73) (i := 2) X (by decide +kernel) ?_
    refine so_cav (pc := 74) (y := 46) (na := 2) (index := 62) (maxL := 5) (nm := yX3_commonDivisorOf) (bytes := cX3_commonDivisorOf) (ret := (some .long)) (ci := 3) (N := 1) (T := TX3) X hxo (fun _ _ _ _ h => h.1) hC lw_good (Nat.le_refl _) (mm_lo d) rfl (by decide) tw_190 tw_191 tw_156 rfl (by decide) tw_192 tw_193 (by decide +kernel) (by decide +kernel) ?_
    refine so_cav (pc := 77) (y := 45) (na := 3) (index := 65) (maxL := 5) (nm := yX3_divide) (bytes := cX3_divide) (ret := none) (ci := 3) (N := 1) (T := TX3) X hxo (fun _ _ _ _ h => h.1) hC lw_good (Nat.le_refl _) (mm_lo d) rfl (by decide) tw_194 tw_195 tw_156 rfl (by decide) tw_196 tw_197 (by decide +kernel) (by decide +kernel) ?_
    exact so_rtv (pc := 80) X hlk hfree hr (by decide +kernel)
  | n + 4 => exact fun _ _ _ _ h => h.elim
theorem bs_X3_clearAt {l : Launch} {D : va_G} {EXT : (Nat → Nat) → (Nat → Prop) → State → Heap → Prop} (hxo : mm_xo EXT) (hxe : ∀ ad A U H, EXT ad A U H → px_E0 ad A U H) : mm_BS l D pcl lw_T EXT px_tab 43 pb_X3_clearAt pp_X3_clearAt := by
  intro d C hC p e s m args below meth c A ad0 cA0 μ0 free Q J
  rw [tb_43]
  exact fun X hr hlk hnm hfree hJ => bk_X3_clearAt hxo hxe hC X hr hlk hnm hfree hJ
set_option maxHeartbeats 4000000 in
set_option maxRecDepth 100000 in
theorem bk_X3_settleNewRow {l : Launch} {D : va_G} {EXT : (Nat → Nat) → (Nat → Prop) → State → Heap → Prop} (hxo : mm_xo EXT) (hxe : ∀ ad A U H, EXT ad A U H → px_E0 ad A U H) {d : Nat} {C : mm_C} (hC : mm_CS l D pcl lw_T EXT px_tab d C) {p : Program} {e : Env} {s : State} {m : MethodId} {args : Array Value} {below : List Frame} {meth : Method} {c : Code} {A : Nat → Prop} {ad0 : Nat → Nat} {cA0 : Nat → ClassId} {μ0 : mm_M} {free : Addr → Prop} {Q : mm_Q} {J : mm_J} (X : mm_cx p (mm_rm (d + 1) 0 0) s m args c cX3_settleNewRow RX3 lw_T A D pcl 4) (hr : meth.sig.returnType = none) (hlk : meth.locks = false) (hnm : meth.name = "settleNewRow") (hfree : ∀ q, A q → free q) (hJ : ∀ t, mm_SK p l e (mm_rm (d + 1) 0 0) s m args below meth c (MQ below (mm_Qc D pcl Q ad0 cA0 μ0 0 A) args s 0 0 free) D pcl A 4 (mm_EX EXT A s ad0 cA0 (mm_n μ0)) (pp_X3_settleNewRow t) (J t)) : ∀ t, mm_SK p l e (mm_rm (d + 1) 0 0) s m args below meth c (MQ below (mm_Qc D pcl Q ad0 cA0 μ0 0 A) args s 0 0 free) D pcl A 4 (mm_EX EXT A s ad0 cA0 (mm_n μ0)) (pp_X3_settleNewRow t) (pb_X3_settleNewRow J C Q t) := by
  intro t
  match t with
  | 0 =>
    refine so_aload_n (pc := 0) (i := 0) X (by decide +kernel) ?_
    refine so_getr (pc := 1) (index := 9) (ci := 3) (f := 0) (N := 1) (C := RX3) (T := TX3) X rfl uX3 (by decide) (by decide) tw_145 rfl (by decide +kernel) ?_
    refine so_sipush (pc := 4) (n := 144) (v := 144) X (by decide +kernel) (by decide) ?_
    refine so_aload_n (pc := 7) (i := 0) X (by decide +kernel) ?_
    refine so_getr (pc := 8) (index := 9) (ci := 3) (f := 0) (N := 1) (C := RX3) (T := TX3) X rfl uX3 (by decide) (by decide) tw_145 rfl (by decide +kernel) ?_
    refine so_iload_n (pc := 11) (i := 1) X (by decide +kernel) ?_
    refine so_bipush (pc := 12) (n := 12) (v := 12) X (by decide +kernel) (by decide) ?_
    refine so_imul (pc := 14) X (by decide +kernel) ?_
    refine so_bipush (pc := 15) (n := 12) (v := 12) X (by decide +kernel) (by decide) ?_
    refine so_cpl (pc := 17) (index := 21) X tw_150 tw_151 tw_152 tw_153 (mm_fr1 d) (mm_lo64 d) (by decide +kernel) ?_
    refine so_aload_n (pc := 20) (i := 0) X (by decide +kernel) ?_
    refine so_iload_n (pc := 21) (i := 1) X (by decide +kernel) ?_
    refine so_cav (pc := 22) (y := 46) (na := 2) (index := 62) (maxL := 5) (nm := yX3_commonDivisorOf) (bytes := cX3_commonDivisorOf) (ret := (some .long)) (ci := 3) (N := 1) (T := TX3) X hxo (fun _ _ _ _ h => h.1) hC lw_good (Nat.le_refl _) (mm_lo d) rfl (by decide) tw_190 tw_191 tw_156 rfl (by decide) tw_192 tw_193 (by decide +kernel) (by decide +kernel) ?_
    refine so_lstore_n (pc := 25) (i := 2) X (by decide +kernel) (by decide) ?_
    refine so_aload_n (pc := 26) (i := 0) X (by decide +kernel) ?_
    refine so_iload_n (pc := 27) (i := 1) X (by decide +kernel) ?_
    refine so_aload_n (pc := 28) (i := 0) X (by decide +kernel) ?_
    refine so_iload_n (pc := 29) (i := 1) X (by decide +kernel) ?_
    refine so_iload_n (pc := 30) (i := 1) X (by decide +kernel) ?_
    refine so_cav (pc := 31) (y := 39) (na := 3) (index := 54) (maxL := 3) (nm := yX3_at) (bytes := cX3_at) (ret := (some .long)) (ci := 3) (N := 1) (T := TX3) X hxo (fun _ _ _ _ h => h.1) hC lw_good (Nat.le_refl _) (mm_lo d) rfl (by decide) tw_183 tw_184 tw_156 rfl (by decide) tw_185 tw_186 (by decide +kernel) (by decide +kernel) ?_
    refine so_lconst (pc := 34) (n := 0) (v := 0) X (by decide +kernel) (by decide) ?_
    refine so_lcmp (pc := 35) X (by decide +kernel) ?_
    refine so_if_ge (pc := 36) (off := 8) (tgt := 44) X (by decide +kernel) (by decide) (hJ 1) ?_
    refine so_lload_n (pc := 39) (i := 2) X (by decide +kernel) ?_
    refine so_lneg (pc := 40) X (by decide +kernel) ?_
    exact so_goto (pc := 41) (off := 4) (tgt := 45) X (by decide +kernel) (by decide) (hJ 2)
  | 1 =>
    refine so_lload_n (pc := 44) (i := 2) X (by decide +kernel) ?_
    exact so_fall X (hJ 2)
  | 2 =>
    refine so_cav (pc := 45) (y := 45) (na := 3) (index := 65) (maxL := 5) (nm := yX3_divide) (bytes := cX3_divide) (ret := none) (ci := 3) (N := 1) (T := TX3) X hxo (fun _ _ _ _ h => h.1) hC lw_good (Nat.le_refl _) (mm_lo d) rfl (by decide) tw_194 tw_195 tw_156 rfl (by decide) tw_196 tw_197 (by decide +kernel) (by decide +kernel) ?_
    exact so_rtv (pc := 48) X hlk hfree hr (by decide +kernel)
  | n + 3 => exact fun _ _ _ _ h => h.elim
theorem bs_X3_settleNewRow {l : Launch} {D : va_G} {EXT : (Nat → Nat) → (Nat → Prop) → State → Heap → Prop} (hxo : mm_xo EXT) (hxe : ∀ ad A U H, EXT ad A U H → px_E0 ad A U H) : mm_BS l D pcl lw_T EXT px_tab 44 pb_X3_settleNewRow pp_X3_settleNewRow := by
  intro d C hC p e s m args below meth c A ad0 cA0 μ0 free Q J
  rw [tb_44]
  exact fun X hr hlk hnm hfree hJ => bk_X3_settleNewRow hxo hxe hC X hr hlk hnm hfree hJ
set_option maxHeartbeats 4000000 in
set_option maxRecDepth 100000 in
theorem bk_X3_divide {l : Launch} {D : va_G} {EXT : (Nat → Nat) → (Nat → Prop) → State → Heap → Prop} (hxo : mm_xo EXT) (hxe : ∀ ad A U H, EXT ad A U H → px_E0 ad A U H) {d : Nat} {C : mm_C} (hC : mm_CS l D pcl lw_T EXT px_tab d C) {p : Program} {e : Env} {s : State} {m : MethodId} {args : Array Value} {below : List Frame} {meth : Method} {c : Code} {A : Nat → Prop} {ad0 : Nat → Nat} {cA0 : Nat → ClassId} {μ0 : mm_M} {free : Addr → Prop} {Q : mm_Q} {J : mm_J} (X : mm_cx p (mm_rm (d + 1) 0 0) s m args c cX3_divide RX3 lw_T A D pcl 5) (hr : meth.sig.returnType = none) (hlk : meth.locks = false) (hnm : meth.name = "divide") (hfree : ∀ q, A q → free q) (hJ : ∀ t, mm_SK p l e (mm_rm (d + 1) 0 0) s m args below meth c (MQ below (mm_Qc D pcl Q ad0 cA0 μ0 0 A) args s 0 0 free) D pcl A 5 (mm_EX EXT A s ad0 cA0 (mm_n μ0)) (pp_X3_divide t) (J t)) : ∀ t, mm_SK p l e (mm_rm (d + 1) 0 0) s m args below meth c (MQ below (mm_Qc D pcl Q ad0 cA0 μ0 0 A) args s 0 0 free) D pcl A 5 (mm_EX EXT A s ad0 cA0 (mm_n μ0)) (pp_X3_divide t) (pb_X3_divide J C Q t) := by
  intro t
  match t with
  | 0 =>
    refine so_lload_n (pc := 0) (i := 2) X (by decide +kernel) ?_
    refine so_lconst (pc := 1) (n := 0) (v := 0) X (by decide +kernel) (by decide) ?_
    refine so_lcmp (pc := 2) X (by decide +kernel) ?_
    refine so_if_ne (pc := 3) (off := 4) (tgt := 7) X (by decide +kernel) (by decide) (hJ 1) ?_
    exact so_rtv (pc := 6) X hlk hfree hr (by decide +kernel)
  | 1 =>
    refine so_iconst (pc := 7) (n := 0) (v := 0) X (by decide +kernel) (by decide) ?_
    refine so_istore (pc := 8) (i := 4) X (by decide +kernel) (by decide) ?_
    exact so_fall X (hJ 2)
  | 2 =>
    refine so_iload (pc := 10) (i := 4) X (by decide +kernel) ?_
    refine so_bipush (pc := 12) (n := 12) (v := 12) X (by decide +kernel) (by decide) ?_
    refine so_icmp_ge (pc := 14) (off := 25) (tgt := 39) X (by decide +kernel) (by decide) (hJ 3) ?_
    refine so_aload_n (pc := 17) (i := 0) X (by decide +kernel) ?_
    refine so_getr (pc := 18) (index := 9) (ci := 3) (f := 0) (N := 1) (C := RX3) (T := TX3) X rfl uX3 (by decide) (by decide) tw_145 rfl (by decide +kernel) ?_
    refine so_iload_n (pc := 21) (i := 1) X (by decide +kernel) ?_
    refine so_bipush (pc := 22) (n := 12) (v := 12) X (by decide +kernel) (by decide) ?_
    refine so_imul (pc := 24) X (by decide +kernel) ?_
    refine so_iload (pc := 25) (i := 4) X (by decide +kernel) ?_
    refine so_iadd (pc := 27) X (by decide +kernel) ?_
    refine so_dup2 (pc := 28) X (by decide +kernel) ?_
    refine so_lald (pc := 29) X (by decide +kernel) ?_
    refine so_lload_n (pc := 30) (i := 2) X (by decide +kernel) ?_
    refine so_ldiv (pc := 31) X (by decide +kernel) ?_
    refine so_last (pc := 32) X (by decide +kernel) ?_
    refine so_iinc (pc := 33) (i := 4) (n := 1) (y := 1) X (by decide +kernel) (by decide) (by decide) ?_
    exact so_goto (pc := 36) (off := (-26)) (tgt := 10) X (by decide +kernel) (by decide) (hJ 2)
  | 3 =>
    exact so_rtv (pc := 39) X hlk hfree hr (by decide +kernel)
  | n + 4 => exact fun _ _ _ _ h => h.elim
theorem bs_X3_divide {l : Launch} {D : va_G} {EXT : (Nat → Nat) → (Nat → Prop) → State → Heap → Prop} (hxo : mm_xo EXT) (hxe : ∀ ad A U H, EXT ad A U H → px_E0 ad A U H) : mm_BS l D pcl lw_T EXT px_tab 45 pb_X3_divide pp_X3_divide := by
  intro d C hC p e s m args below meth c A ad0 cA0 μ0 free Q J
  rw [tb_45]
  exact fun X hr hlk hnm hfree hJ => bk_X3_divide hxo hxe hC X hr hlk hnm hfree hJ
set_option maxHeartbeats 4000000 in
set_option maxRecDepth 100000 in
theorem bk_X3_commonDivisorOf {l : Launch} {D : va_G} {EXT : (Nat → Nat) → (Nat → Prop) → State → Heap → Prop} (hxo : mm_xo EXT) (hxe : ∀ ad A U H, EXT ad A U H → px_E0 ad A U H) {d : Nat} {C : mm_C} (hC : mm_CS l D pcl lw_T EXT px_tab d C) {p : Program} {e : Env} {s : State} {m : MethodId} {args : Array Value} {below : List Frame} {meth : Method} {c : Code} {A : Nat → Prop} {ad0 : Nat → Nat} {cA0 : Nat → ClassId} {μ0 : mm_M} {free : Addr → Prop} {Q : mm_Q} {J : mm_J} (X : mm_cx p (mm_rm (d + 1) 0 0) s m args c cX3_commonDivisorOf RX3 lw_T A D pcl 5) (hr : meth.sig.returnType = some .long) (hlk : meth.locks = false) (hnm : meth.name = "commonDivisorOf") (hfree : ∀ q, A q → free q) (hJ : ∀ t, mm_SK p l e (mm_rm (d + 1) 0 0) s m args below meth c (MQ below (mm_Qc D pcl Q ad0 cA0 μ0 0 A) args s 0 0 free) D pcl A 5 (mm_EX EXT A s ad0 cA0 (mm_n μ0)) (pp_X3_commonDivisorOf t) (J t)) : ∀ t, mm_SK p l e (mm_rm (d + 1) 0 0) s m args below meth c (MQ below (mm_Qc D pcl Q ad0 cA0 μ0 0 A) args s 0 0 free) D pcl A 5 (mm_EX EXT A s ad0 cA0 (mm_n μ0)) (pp_X3_commonDivisorOf t) (pb_X3_commonDivisorOf J C Q t) := by
  intro t
  match t with
  | 0 =>
    refine so_lconst (pc := 0) (n := 0) (v := 0) X (by decide +kernel) (by decide) ?_
    refine so_lstore_n (pc := 1) (i := 2) X (by decide +kernel) (by decide) ?_
    refine so_iconst (pc := 2) (n := 0) (v := 0) X (by decide +kernel) (by decide) ?_
    refine so_istore (pc := 3) (i := 4) X (by decide +kernel) (by decide) ?_
    exact so_fall X (hJ 1)
  | 1 =>
    refine so_iload (pc := 5) (i := 4) X (by decide +kernel) ?_
    refine so_bipush (pc := 7) (n := 12) (v := 12) X (by decide +kernel) (by decide) ?_
    refine so_icmp_ge (pc := 9) (off := 21) (tgt := 30) X (by decide +kernel) (by decide) (hJ 2) ?_
    refine so_lload_n (pc := 12) (i := 2) X (by decide +kernel) ?_
    refine so_aload_n (pc := 13) (i := 0) X (by decide +kernel) ?_
    refine so_iload_n (pc := 14) (i := 1) X (by decide +kernel) ?_
    refine so_iload (pc := 15) (i := 4) X (by decide +kernel) ?_
    refine so_cav (pc := 17) (y := 39) (na := 3) (index := 54) (maxL := 3) (nm := yX3_at) (bytes := cX3_at) (ret := (some .long)) (ci := 3) (N := 1) (T := TX3) X hxo (fun _ _ _ _ h => h.1) hC lw_good (Nat.le_refl _) (mm_lo d) rfl (by decide) tw_183 tw_184 tw_156 rfl (by decide) tw_185 tw_186 (by decide +kernel) (by decide +kernel) ?_
    refine so_cas (pc := 20) (y := 47) (na := 2) (index := 58) (maxL := 11) (nm := yX3_commonDivisor) (bytes := cX3_commonDivisor) (ret := (some .long)) X hxo (fun _ _ _ _ h => h.1) hC lw_good (Nat.le_refl _) (mm_lo d) rfl (by decide) tw_187 tw_188 tw_156 tw_189 (by decide +kernel) (by decide +kernel) ?_
    refine so_lstore_n (pc := 23) (i := 2) X (by decide +kernel) (by decide) ?_
    refine so_iinc (pc := 24) (i := 4) (n := 1) (y := 1) X (by decide +kernel) (by decide) (by decide) ?_
    exact so_goto (pc := 27) (off := (-22)) (tgt := 5) X (by decide +kernel) (by decide) (hJ 1)
  | 2 =>
    refine so_lload_n (pc := 30) (i := 2) X (by decide +kernel) ?_
    exact so_rtl (pc := 31) X hlk hfree hr (by decide +kernel)
  | n + 3 => exact fun _ _ _ _ h => h.elim
theorem bs_X3_commonDivisorOf {l : Launch} {D : va_G} {EXT : (Nat → Nat) → (Nat → Prop) → State → Heap → Prop} (hxo : mm_xo EXT) (hxe : ∀ ad A U H, EXT ad A U H → px_E0 ad A U H) : mm_BS l D pcl lw_T EXT px_tab 46 pb_X3_commonDivisorOf pp_X3_commonDivisorOf := by
  intro d C hC p e s m args below meth c A ad0 cA0 μ0 free Q J
  rw [tb_46]
  exact fun X hr hlk hnm hfree hJ => bk_X3_commonDivisorOf hxo hxe hC X hr hlk hnm hfree hJ
set_option maxHeartbeats 4000000 in
set_option maxRecDepth 100000 in
theorem bk_X3_commonDivisor {l : Launch} {D : va_G} {EXT : (Nat → Nat) → (Nat → Prop) → State → Heap → Prop} (hxo : mm_xo EXT) (hxe : ∀ ad A U H, EXT ad A U H → px_E0 ad A U H) {d : Nat} {C : mm_C} (hC : mm_CS l D pcl lw_T EXT px_tab d C) {p : Program} {e : Env} {s : State} {m : MethodId} {args : Array Value} {below : List Frame} {meth : Method} {c : Code} {A : Nat → Prop} {ad0 : Nat → Nat} {cA0 : Nat → ClassId} {μ0 : mm_M} {free : Addr → Prop} {Q : mm_Q} {J : mm_J} (X : mm_cx p (mm_rm (d + 1) 0 0) s m args c cX3_commonDivisor RX3 lw_T A D pcl 11) (hr : meth.sig.returnType = some .long) (hlk : meth.locks = false) (hnm : meth.name = "commonDivisor") (hfree : ∀ q, A q → free q) (hJ : ∀ t, mm_SK p l e (mm_rm (d + 1) 0 0) s m args below meth c (MQ below (mm_Qc D pcl Q ad0 cA0 μ0 0 A) args s 0 0 free) D pcl A 11 (mm_EX EXT A s ad0 cA0 (mm_n μ0)) (pp_X3_commonDivisor t) (J t)) : ∀ t, mm_SK p l e (mm_rm (d + 1) 0 0) s m args below meth c (MQ below (mm_Qc D pcl Q ad0 cA0 μ0 0 A) args s 0 0 free) D pcl A 11 (mm_EX EXT A s ad0 cA0 (mm_n μ0)) (pp_X3_commonDivisor t) (pb_X3_commonDivisor J C Q t) := by
  intro t
  match t with
  | 0 =>
    refine so_lload_n (pc := 0) (i := 0) X (by decide +kernel) ?_
    refine so_lconst (pc := 1) (n := 0) (v := 0) X (by decide +kernel) (by decide) ?_
    refine so_lcmp (pc := 2) X (by decide +kernel) ?_
    refine so_if_ge (pc := 3) (off := 8) (tgt := 11) X (by decide +kernel) (by decide) (hJ 1) ?_
    refine so_lload_n (pc := 6) (i := 0) X (by decide +kernel) ?_
    refine so_lneg (pc := 7) X (by decide +kernel) ?_
    exact so_goto (pc := 8) (off := 4) (tgt := 12) X (by decide +kernel) (by decide) (hJ 2)
  | 1 =>
    refine so_lload_n (pc := 11) (i := 0) X (by decide +kernel) ?_
    exact so_fall X (hJ 2)
  | 2 =>
    refine so_lstore (pc := 12) (i := 4) X (by decide +kernel) (by decide) ?_
    refine so_lload_n (pc := 14) (i := 2) X (by decide +kernel) ?_
    refine so_lconst (pc := 15) (n := 0) (v := 0) X (by decide +kernel) (by decide) ?_
    refine so_lcmp (pc := 16) X (by decide +kernel) ?_
    refine so_if_ge (pc := 17) (off := 8) (tgt := 25) X (by decide +kernel) (by decide) (hJ 3) ?_
    refine so_lload_n (pc := 20) (i := 2) X (by decide +kernel) ?_
    refine so_lneg (pc := 21) X (by decide +kernel) ?_
    exact so_goto (pc := 22) (off := 4) (tgt := 26) X (by decide +kernel) (by decide) (hJ 4)
  | 3 =>
    refine so_lload_n (pc := 25) (i := 2) X (by decide +kernel) ?_
    exact so_fall X (hJ 4)
  | 4 =>
    refine so_lstore (pc := 26) (i := 6) X (by decide +kernel) (by decide) ?_
    refine so_iconst (pc := 28) (n := 0) (v := 0) X (by decide +kernel) (by decide) ?_
    refine so_istore (pc := 29) (i := 8) X (by decide +kernel) (by decide) ?_
    exact so_fall X (hJ 5)
  | 5 =>
    refine so_iload (pc := 31) (i := 8) X (by decide +kernel) ?_
    refine so_bipush (pc := 33) (n := 100) (v := 100) X (by decide +kernel) (by decide) ?_
    refine so_icmp_ge (pc := 35) (off := 31) (tgt := 66) X (by decide +kernel) (by decide) (hJ 6) ?_
    refine so_lload (pc := 38) (i := 6) X (by decide +kernel) ?_
    refine so_lconst (pc := 40) (n := 0) (v := 0) X (by decide +kernel) (by decide) ?_
    refine so_lcmp (pc := 41) X (by decide +kernel) ?_
    refine so_if_eq (pc := 42) (off := 24) (tgt := 66) X (by decide +kernel) (by decide) (hJ 6) ?_
    refine so_lload (pc := 45) (i := 4) X (by decide +kernel) ?_
    refine so_lload (pc := 47) (i := 6) X (by decide +kernel) ?_
    refine so_lrem (pc := 49) X (by decide +kernel) ?_
    refine so_lstore (pc := 50) (i := 9) X (by decide +kernel) (by decide) ?_
    refine so_lload (pc := 52) (i := 6) X (by decide +kernel) ?_
    refine so_lstore (pc := 54) (i := 4) X (by decide +kernel) (by decide) ?_
    refine so_lload (pc := 56) (i := 9) X (by decide +kernel) ?_
    refine so_lstore (pc := 58) (i := 6) X (by decide +kernel) (by decide) ?_
    refine so_iinc (pc := 60) (i := 8) (n := 1) (y := 1) X (by decide +kernel) (by decide) (by decide) ?_
    exact so_goto (pc := 63) (off := (-32)) (tgt := 31) X (by decide +kernel) (by decide) (hJ 5)
  | 6 =>
    refine so_lload (pc := 66) (i := 4) X (by decide +kernel) ?_
    exact so_rtl (pc := 68) X hlk hfree hr (by decide +kernel)
  | n + 7 => exact fun _ _ _ _ h => h.elim
theorem bs_X3_commonDivisor {l : Launch} {D : va_G} {EXT : (Nat → Nat) → (Nat → Prop) → State → Heap → Prop} (hxo : mm_xo EXT) (hxe : ∀ ad A U H, EXT ad A U H → px_E0 ad A U H) : mm_BS l D pcl lw_T EXT px_tab 47 pb_X3_commonDivisor pp_X3_commonDivisor := by
  intro d C hC p e s m args below meth c A ad0 cA0 μ0 free Q J
  rw [tb_47]
  exact fun X hr hlk hnm hfree hJ => bk_X3_commonDivisor hxo hxe hC X hr hlk hnm hfree hJ
set_option maxHeartbeats 4000000 in
set_option maxRecDepth 100000 in
theorem bk_X4_init {l : Launch} {D : va_G} {EXT : (Nat → Nat) → (Nat → Prop) → State → Heap → Prop} (hxo : mm_xo EXT) (hxe : ∀ ad A U H, EXT ad A U H → px_E0 ad A U H) {d : Nat} {C : mm_C} (hC : mm_CS l D pcl lw_T EXT px_tab d C) {p : Program} {e : Env} {s : State} {m : MethodId} {args : Array Value} {below : List Frame} {meth : Method} {c : Code} {A : Nat → Prop} {ad0 : Nat → Nat} {cA0 : Nat → ClassId} {μ0 : mm_M} {free : Addr → Prop} {Q : mm_Q} {J : mm_J} (X : mm_cx p (mm_rm (d + 1) 2 120) s m args c cX4_init RX4 lw_T A D pcl 1) (hr : meth.sig.returnType = none) (hlk : meth.locks = false) (hnm : meth.name = "<init>") (hfree : ∀ q, A q → free q) (hJ : ∀ t, mm_SK p l e (mm_rm (d + 1) 2 120) s m args below meth c (MQ below (mm_Qc D pcl Q ad0 cA0 μ0 2 A) args s 2 120 free) D pcl A 1 (mm_EX EXT A s ad0 cA0 (mm_n μ0)) (pp_X4_init t) (J t)) : ∀ t, mm_SK p l e (mm_rm (d + 1) 2 120) s m args below meth c (MQ below (mm_Qc D pcl Q ad0 cA0 μ0 2 A) args s 2 120 free) D pcl A 1 (mm_EX EXT A s ad0 cA0 (mm_n μ0)) (pp_X4_init t) (pb_X4_init J C Q t) := by
  intro t
  match t with
  | 0 =>
    refine so_aload_n (pc := 0) (i := 0) X (by decide +kernel) ?_
    refine so_obi (pc := 1) (index := 3) X tw_198 tw_1 tw_2 (mm_fr1 d) (mm_lo20 d) (by decide +kernel) ?_
    refine so_aload_n (pc := 4) (i := 0) X (by decide +kernel) ?_
    refine so_bipush (pc := 5) (n := 60) (v := 60) X (by decide +kernel) (by decide) ?_
    refine so_naint (pc := 7) (B := (2, 120)) X (mm_EX_cl hxo) ⟨Nat.le_refl _, Nat.le_refl _⟩ tw_3 (by decide +kernel) ?_
    refine so_putr (pc := 9) (index := 9) (ci := 4) (f := 0) (N := 4) (C := RX4) (T := TX4) (ty := tyX4 0) X rfl uX4 (by decide) (by decide) tw_199 tyX4 tyX4_ok nmX4 rfl hnm rfl (tyX4_ok 0 (by decide)) (fun _ => ⟨rfl, rfl⟩) rfl (by decide +kernel) ?_
    refine so_aload_n (pc := 12) (i := 0) X (by decide +kernel) ?_
    refine so_bipush (pc := 13) (n := 60) (v := 60) X (by decide +kernel) (by decide) ?_
    refine so_naint (pc := 15) (B := (2, 120)) X (mm_EX_cl hxo) ⟨Nat.le_refl _, Nat.le_refl _⟩ tw_3 (by decide +kernel) ?_
    refine so_putr (pc := 17) (index := 15) (ci := 4) (f := 1) (N := 4) (C := RX4) (T := TX4) (ty := tyX4 1) X rfl uX4 (by decide) (by decide) tw_200 tyX4 tyX4_ok nmX4 rfl hnm rfl (tyX4_ok 1 (by decide)) (fun _ => ⟨rfl, rfl⟩) rfl (by decide +kernel) ?_
    exact so_rtv (pc := 20) X hlk hfree hr (by decide +kernel)
  | n + 1 => exact fun _ _ _ _ h => h.elim
theorem bs_X4_init {l : Launch} {D : va_G} {EXT : (Nat → Nat) → (Nat → Prop) → State → Heap → Prop} (hxo : mm_xo EXT) (hxe : ∀ ad A U H, EXT ad A U H → px_E0 ad A U H) : mm_BS l D pcl lw_T EXT px_tab 48 pb_X4_init pp_X4_init := by
  intro d C hC p e s m args below meth c A ad0 cA0 μ0 free Q J
  rw [tb_48]
  exact fun X hr hlk hnm hfree hJ => bk_X4_init hxo hxe hC X hr hlk hnm hfree hJ
