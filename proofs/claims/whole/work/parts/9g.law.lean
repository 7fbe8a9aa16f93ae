/-! the law, from its entry -/
theorem ks_start {s : State} {b : Nat} (hts : ∀ w ∈ lw_T, w.before #[Value.ref b] s = true) : ∃ D : va_G, va_K D pcl [] s := by
  obtain ⟨c0, i0, h0⟩ := u_known (C := RX0) (T := TX0) (N := 2) hts uX0 (hts _ tw_234)
  obtain ⟨c1, i1, h1⟩ := u_known (C := RX1) (T := TX1) (N := 11) hts uX1 (hts _ tw_239)
  obtain ⟨c2, i2, h2⟩ := u_known (C := RX2) (T := TX2) (N := 3) hts uX2 (hts _ tw_244)
  obtain ⟨c3, i3, h3⟩ := u_known (C := RX3) (T := TX3) (N := 1) hts uX3 (hts _ tw_210)
  obtain ⟨c4, i4, h4⟩ := u_known (C := RX4) (T := TX4) (N := 4) hts uX4 (hts _ tw_13)
  obtain ⟨c5, i5, h5⟩ := u_known (C := RX5) (T := TX5) (N := 6) hts uX5 (hts _ tw_250)
  obtain ⟨c6, i6, h6⟩ := u_known (C := RX6) (T := TX6) (N := 14) hts uX6 (hts _ tw_613)
  obtain ⟨c7, i7, h7⟩ := u_known (C := RX7) (T := TX7) (N := 32) hts uX7 (hts _ tw_618)
  refine ⟨(fun k => match k with | 0 => c0 | 1 => c1 | 2 => c2 | 3 => c3 | 4 => c4 | 5 => c5 | 6 => c6 | _ => c7, fun k => match k with | 0 => i0 | 1 => i1 | 2 => i2 | 3 => i3 | 4 => i4 | 5 => i5 | 6 => i6 | _ => i7), ?_, fun k q h => by simp at h⟩
  intro k q hq
  match k, hq with
  | 0, hq => cases hq; exact h0
  | 1, hq => cases hq; exact h1
  | 2, hq => cases hq; exact h2
  | 3, hq => cases hq; exact h3
  | 4, hq => cases hq; exact h4
  | 5, hq => cases hq; exact h5
  | 6, hq => cases hq; exact h6
  | 7, hq => cases hq; exact h7
  | k + 8, hq => simp [pcl] at hq
theorem rl_start {D : va_G} {s : State} {A : Nat → Prop} {ad : Nat → Nat} {cA : Nat → ClassId} : mm_Rl D pcl s A ad cA (Mz [] [] (fun _ _ => 0)) s.heap [] := by
  refine ⟨fun k q h => ?_, ⟨fun i j p q h => ?_, fun k q h => ?_⟩, va_S.rf, fun a q h => ?_, fun a ci h hc => ?_, fun a f b' h => ?_⟩
  · simp [mm_wd, mm_n, Mz] at h
  · simp [mm_wd, mm_n, Mz] at h
  · simp [mm_wd, mm_n, Mz] at h
  · have h : (Sum.inr 99 : (FieldType × Nat) ⊕ Nat) = .inl q := h
    cases h
  · have h : (Sum.inr 99 : (FieldType × Nat) ⊕ Nat) = .inr ci := h
    cases h
    omega
  · have h : (none : Option Nat) = some b' := h
    cases h
theorem whole_start {p : Program} {e : Env} {s : State} {m : MethodId} {below : List Frame} {meth : Method} {c : Code} (l : Launch) (hlt : l.stackTraces = false) {b L : Nat} {xs : Nat → Int32} (hL : L ≤ 2560) (C0 : lw_At p s m meth c b L xs) : W p l e room_1 s m #[Value.ref b] below meth c s.heap [] 0 0 (lw_Z below #[Value.ref b] s) (entryFrame m ([Value.ref b] : List Value).toArray 7) := by
  obtain ⟨hx, hb, hr, hml, hown, hts, hX, hbl, hlocks, hgv⟩ := C0
  have htT : ∀ w ∈ lw_T, w.before #[Value.ref b] s = true := fun w hw => hts w (List.mem_filter.mp hw).1
  obtain ⟨D, hK⟩ := ks_start htT
  obtain ⟨ad, ha, hXX⟩ := xx_start hts hgv
  have X : mm_cx p room_1 s m #[Value.ref b] c code RL lw_T (fun q => s.heap.size ≤ q) D pcl 7 := ⟨hx, hb, hml, hown, htT, fun _ h => h, hK⟩
  have key := law_pure (xs := xs) hL (fun t => mm_WW p l e room_1 s m #[Value.ref b] below meth c (lw_Z below #[Value.ref b] s) D pcl (fun q => s.heap.size ≤ q) 7 (mm_EX XX (fun q => s.heap.size ≤ q) s ad (fun _ => m.cls) 0) (ppL t)) ?_
  · have hl := lv_entry ([Value.ref b]) (n := 7) (Nat.le_of_ble_eq_true rfl)
    rw [lg_entry_eq]
    refine key ad (fun _ => m.cls) s.heap [] _ ⟨hXX, fun _ _ => rfl, Nat.le_refl _, fun _ => ⟨rfl, rfl, rfl⟩⟩ rl_start ⟨hl.1, hl.2.1, fun i v hi => ?_⟩ (Nat.zero_le _) (Nat.zero_le _)
    have h := mm_en_at ad _ [.ref (mm_ext + 300)] 0 i v hi
    rw [Nat.zero_add, show ([.ref (mm_ext + 300)] : List Value).map (mm_cv ad) = [.ref b] from by rw [← ha]; rfl] at h
    exact hl.2.2 _ h
  · rintro t lv st μ1 κ ⟨Y, hY, hF⟩
    exact bL_all hlt (d := 60) (cs_all 68) (cs_all 65) (by decide) (by decide) X (fun _ h => h) hr hlocks hX hbl (Nat.not_le.mpr hbl) ha (fun t lv st μ κ h => hY t lv st μ κ h) t lv st μ1 κ hF
