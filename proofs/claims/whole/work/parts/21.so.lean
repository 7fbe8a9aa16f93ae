/-! the heap's rows -/
theorem mm_at_o {ad : Nat → Nat} {cA : Nat → ClassId} {μ : mm_M} {a ci : Nat} (hz : mm_z μ a = .inr ci) (h : a < mm_n μ) : (mm_wd ad cA μ)[a]? = some (ad a, .inr (ci, mm_fl ad μ a 0 (mm_fk ci))) := by
  rw [mm_wd_at h]
  simp only [mm_ce, hz]
theorem mm_at_a {ad : Nat → Nat} {cA : Nat → ClassId} {μ : mm_M} {a : Nat} {q : FieldType × Nat} (hz : mm_z μ a = .inl q) (h : a < mm_n μ) : (mm_wd ad cA μ)[a]? = some (ad a, .inl (cA a, q.2, mm_ar ad μ a q.1)) := by
  rw [mm_wd_at h]
  simp only [mm_ce, hz]
theorem mm_fv_i {ad : Nat → Nat} {μ : mm_M} {a f kd : Nat} (h : kd ≠ 2) : mm_fv ad μ a f kd = .int (mm_i μ a f) := by
  unfold mm_fv
  split
  · exact absurd rfl h
  · rfl
theorem mm_fv_congr {ad : Nat → Nat} {μ μ' : mm_M} {a b : Nat} (h1 : mm_i μ' b = mm_i μ a) (h3 : mm_r μ' b = mm_r μ a) (f kd : Nat) : mm_fv ad μ' b f kd = mm_fv ad μ a f kd := by
  unfold mm_fv
  split <;> simp [h1, h3]
theorem mm_fl_congr {ad : Nat → Nat} {μ μ' : mm_M} {b : Nat} (h1 : mm_i μ' b = mm_i μ b) (h3 : mm_r μ' b = mm_r μ b) : ∀ (r : List Nat) (f : Nat), mm_fl ad μ' b f r = mm_fl ad μ b f r
  | [], f => rfl
  | kd :: r, f => by simp only [mm_fl]; rw [mm_fv_congr h1 h3, mm_fl_congr h1 h3 r (f + 1)]
theorem mm_ce_congr {ad : Nat → Nat} {cA : Nat → ClassId} {μ μ' : mm_M} {b : Nat} (h1 : mm_i μ' b = mm_i μ b) (h2 : mm_l μ' b = mm_l μ b) (h3 : mm_r μ' b = mm_r μ b) (h4 : mm_z μ' b = mm_z μ b) : mm_ce ad cA μ' b = mm_ce ad cA μ b := by
  unfold mm_ce
  rw [h4]
  split
  · rename_i q hq
    congr 3
    unfold mm_ar
    split <;> simp [h1, h2, h3]
  · rw [mm_fl_congr h1 h3]
theorem mm_u_ne {α : Type} {f : Nat → Nat → α} {a k b : Nat} {v : α} (h : b ≠ a) : mm_u f a k v b = f b := by
  funext j
  simp [mm_u, h]
theorem mm_wd_si {ad : Nat → Nat} {cA : Nat → ClassId} {μ : mm_M} {a f : Nat} {v : Int32} {e : va_E} (he : mm_ce ad cA (mm_si μ a f v) a = e) : (mm_wd ad cA μ).set a (ad a, e) = mm_wd ad cA (mm_si μ a f v) := by
  subst he
  exact mm_wd_set rfl (fun b hb => mm_ce_congr (mm_u_ne hb) rfl rfl rfl)
theorem mm_wd_sl {ad : Nat → Nat} {cA : Nat → ClassId} {μ : mm_M} {a f : Nat} {v : Int64} {e : va_E} (he : mm_ce ad cA (mm_sl μ a f v) a = e) : (mm_wd ad cA μ).set a (ad a, e) = mm_wd ad cA (mm_sl μ a f v) := by
  subst he
  exact mm_wd_set rfl (fun b hb => mm_ce_congr rfl (mm_u_ne hb) rfl rfl)
theorem mm_wd_sr {ad : Nat → Nat} {cA : Nat → ClassId} {μ : mm_M} {a f : Nat} {v : Option Nat} {e : va_E} (he : mm_ce ad cA (mm_sr μ a f v) a = e) : (mm_wd ad cA μ).set a (ad a, e) = mm_wd ad cA (mm_sr μ a f v) := by
  subst he
  exact mm_wd_set rfl (fun b hb => mm_ce_congr rfl rfl (mm_u_ne hb) rfl)
theorem mm_fl_si {ad : Nat → Nat} {μ : mm_M} {a f kd : Nat} {v : Int32} {r : List Nat} (hk : r[f]? = some kd) (h2 : kd ≠ 2) : mm_fl ad (mm_si μ a f v) a 0 r = (mm_fl ad μ a 0 r).set f (.int v) := by
  apply List.ext_getElem?
  intro i
  rw [mm_fl_at, List.getElem?_set]
  by_cases hi : f = i
  · subst hi
    rw [if_pos rfl, hk, mm_fl_len]
    rw [if_pos (List.getElem?_eq_some_iff.mp hk).1]
    simp only [Option.map_some]
    rw [mm_fv_i h2]
    simp [mm_i_si]
  · rw [if_neg hi, mm_fl_at]
    congr 1
    funext kd'
    unfold mm_fv
    split
    · rfl
    · simp only [mm_i_si, Nat.zero_add]
      rw [if_neg (fun q => hi q.2.symm)]
theorem mm_fl_sr {ad : Nat → Nat} {μ : mm_M} {a f : Nat} {v : Option Nat} {r : List Nat} (hk : r[f]? = some 2) : mm_fl ad (mm_sr μ a f v) a 0 r = (mm_fl ad μ a 0 r).set f (va_rf (v.map ad)) := by
  apply List.ext_getElem?
  intro i
  rw [mm_fl_at, List.getElem?_set]
  by_cases hi : f = i
  · subst hi
    rw [if_pos rfl, hk, mm_fl_len]
    rw [if_pos (List.getElem?_eq_some_iff.mp hk).1]
    simp [mm_fv, mm_r_sr]
  · rw [if_neg hi, mm_fl_at]
    congr 1
    funext kd'
    unfold mm_fv
    split
    · simp only [mm_r_sr, Nat.zero_add]
      rw [if_neg (fun q => hi q.2.symm)]
    · rfl
theorem mm_K1 {D : va_G} {cl : List vw_C} {s : State} {cA : Nat → ClassId} {μ : mm_M} {a : Nat} {q : FieldType × Nat} (hK : va_K D cl [] s) (h : mm_ok s cA μ) (hz : mm_z μ a = .inl q) : va_K D cl [(cA a, q.1)] s :=
  ⟨hK.1, fun i x hx => by
    cases i with
    | zero => simp at hx; subst hx; exact (h.1 a q hz).2
    | succ i => simp at hx⟩
theorem mm_K2 {D : va_G} {cl : List vw_C} {s : State} {cA : Nat → ClassId} {μ : mm_M} {a b : Nat} {q q' : FieldType × Nat} (hK : va_K D cl [] s) (h : mm_ok s cA μ) (hz : mm_z μ a = .inl q) (hz' : mm_z μ b = .inl q') : va_K D cl [(cA a, q.1), (cA b, q'.1)] s :=
  (mm_K1 hK h hz).app (mm_K1 hK h hz')
section
variable {p : Program} {l : Launch} {e : Env} {R : Room} {s : State} {m : MethodId} {args : Array Value} {below : List Frame} {meth : Method} {c : Code} {Qw : State → Prop} {D : va_G} {cl : List vw_C} {A : Nat → Prop} {nL : Nat} {EX : (Nat → Nat) → (Nat → ClassId) → Nat → Nat × Nat → Prop} {cc : ByteArray} {own : String} {Ts : List Cond} {pc : Nat} {k : mm_K} {J : mm_J}
theorem so_getr (X : mm_cx p R s m args c cc own Ts A D cl nL) {index ci f N : Nat} {C : String} {T : u_T} (hc : cl[ci]? = some (C, T, N)) (hin : ∀ w ∈ u_ws C T N, w ∈ Ts) (hf : f < N) (hci : ci < 99) (hw : Cond.fieldLink own index (T f).1 (T f).2.1 (T f).2.2.1 ∈ Ts) (hk : (mm_fk ci)[f]? = some 2) (hd : decode cc pc = .ok (.getfield index, 3)) (K : mm_SK p l e R s m args below meth c Qw D cl A nL EX (pc + 3) k) : mm_SK p l e R s m args below meth c Qw D cl A nL EX pc (mm_get [ci, f, 2] k) := by
  intro lv st μ κ h ad cA H locs ls hE hR hL h1 h2
  unfold mm_get at h
  split at h
  · rename_i a st' ci' f' hxs
    cases hxs
    obtain ⟨hz, b, hb, h⟩ := h
    have ha := hR.2.2.2.2.1 a ci hz hci
    refine va_get (D := D) (ci := ci) (v := .ref (ad b)) (C := C) (T := T) (N := N) X.1 X.2.1 X.2.2.2.2.1 hin X.2.2.2.1 X.2.2.2.2.2.2 hR.1 a (mm_at_o hz ha) hc f hf (X.2.2.2.2.1 _ hw) (fun _ h9 => h9) ?_ hd (K lv _ μ κ h ad cA H locs ls hE hR hL h1 h2)
    rw [mm_fl_at, hk]
    simp [mm_fv, hb, va_rf]
  · rename_i hxs
    simp_all
  · exact h.elim
theorem so_geti (X : mm_cx p R s m args c cc own Ts A D cl nL) {index ci f N : Nat} {C : String} {T : u_T} (hc : cl[ci]? = some (C, T, N)) (hin : ∀ w ∈ u_ws C T N, w ∈ Ts) (hf : f < N) (hci : ci < 99) (hw : Cond.fieldLink own index (T f).1 (T f).2.1 (T f).2.2.1 ∈ Ts) {kd : Nat} (hk : (mm_fk ci)[f]? = some kd) (hkd : kd ≠ 2) (hd : decode cc pc = .ok (.getfield index, 3)) (K : mm_SK p l e R s m args below meth c Qw D cl A nL EX (pc + 3) k) : mm_SK p l e R s m args below meth c Qw D cl A nL EX pc (mm_get [ci, f, kd] k) := by
  intro lv st μ κ h ad cA H locs ls hE hR hL h1 h2
  unfold mm_get at h
  split at h
  · rename_i a st' ci' f' hxs
    cases hxs
    exact absurd rfl hkd
  · rename_i a st' ci' f' x _ hxs
    cases hxs
    obtain ⟨hz, h⟩ := h
    have ha := hR.2.2.2.2.1 a ci hz hci
    refine va_get (D := D) (ci := ci) (v := .int (mm_i μ a f)) (C := C) (T := T) (N := N) X.1 X.2.1 X.2.2.2.2.1 hin X.2.2.2.1 X.2.2.2.2.2.2 hR.1 a (mm_at_o hz ha) hc f hf (X.2.2.2.2.1 _ hw) (fun _ h9 => h9) ?_ hd (K lv _ μ κ h ad cA H locs ls hE hR hL h1 h2)
    rw [mm_fl_at, hk]
    simp only [Option.map_some]
    rw [mm_fv_i hkd]
    simp
  · exact h.elim
theorem so_puti (X : mm_cx p R s m args c cc own Ts A D cl nL) {index ci f N : Nat} {C : String} {T : u_T} (hc : cl[ci]? = some (C, T, N)) (hin : ∀ w ∈ u_ws C T N, w ∈ Ts) (hf : f < N) (hci : ci < 99) (hw : Cond.fieldLink own index (T f).1 (T f).2.1 (T f).2.2.1 ∈ Ts) (ty0 : Nat → FieldType) (hty : ∀ k, k < N → parseFieldDescriptor (T k).2.2.1 = some (ty0 k)) (hnm : ∀ a, a < N → ∀ b, b < N → a ≠ b → (T a).2.1 ≠ (T b).2.1) (hfin : (T f).2.2.2 = false) (hpd : parseFieldDescriptor (T f).2.2.1 = some .int) (hk : (mm_fk ci)[f]? = some 0) (hd : decode cc pc = .ok (.putfield index, 3)) (K : mm_SK p l e R s m args below meth c Qw D cl A nL EX (pc + 3) k) : mm_SK p l e R s m args below meth c Qw D cl A nL EX pc (mm_put [ci, f, 0] k) := by
  intro lv st μ κ h ad cA H locs ls hE hR hL h1 h2
  unfold mm_put at h
  split at h
  all_goals first | exact h.elim | skip
  all_goals first | (rename_i hxs; simp at hxs; done) | skip
  rename_i v a st' ci' f' hxs
  cases hxs
  obtain ⟨hz, h⟩ := h
  have ha := hR.2.2.2.2.1 a ci hz hci
  refine va_put (D := D) (ci := ci) (v := .int v) (ty := .int) (C := C) (T := T) (N := N) X.1 X.2.1 X.2.2.2.2.1 hin ty0 hty hnm X.2.2.2.1 X.2.2.2.2.2.2 hR.1 hR.2.1 hR.2.2.1 a (mm_at_o hz ha) hc f hf (X.2.2.2.2.1 _ hw) (fun _ h9 => h9) hfin hpd rfl rfl (by rw [mm_fl_len]; exact (List.getElem?_eq_some_iff.mp hk).1) hd (fun H1 locs1 hP hD hS => ?_)
  have e : mm_ce ad cA (mm_si μ a f v) a = .inr (ci, (mm_fl ad μ a 0 (mm_fk ci)).set f (.int v)) := by
    simp only [mm_ce, mm_z_si, hz]
    rw [mm_fl_si hk (by decide)]
  rw [mm_wd_si e] at hP hD
  exact K lv _ _ κ h ad cA H1 locs1 ls hE ⟨hP, hD, hS, hR.2.2.2⟩ hL h1 h2
theorem so_putz (X : mm_cx p R s m args c cc own Ts A D cl nL) {index ci f N : Nat} {C : String} {T : u_T} (hc : cl[ci]? = some (C, T, N)) (hin : ∀ w ∈ u_ws C T N, w ∈ Ts) (hf : f < N) (hci : ci < 99) (hw : Cond.fieldLink own index (T f).1 (T f).2.1 (T f).2.2.1 ∈ Ts) (ty0 : Nat → FieldType) (hty : ∀ k, k < N → parseFieldDescriptor (T k).2.2.1 = some (ty0 k)) (hnm : ∀ a, a < N → ∀ b, b < N → a ≠ b → (T a).2.1 ≠ (T b).2.1) (hfin : (T f).2.2.2 = false) (hpd : parseFieldDescriptor (T f).2.2.1 = some .boolean) (hk : (mm_fk ci)[f]? = some 3) (hd : decode cc pc = .ok (.putfield index, 3)) (K : mm_SK p l e R s m args below meth c Qw D cl A nL EX (pc + 3) k) : mm_SK p l e R s m args below meth c Qw D cl A nL EX pc (mm_put [ci, f, 3] k) := by
  intro lv st μ κ h ad cA H locs ls hE hR hL h1 h2
  unfold mm_put at h
  split at h
  all_goals first | exact h.elim | skip
  all_goals first | (rename_i hxs; simp at hxs; done) | skip
  rename_i v a st' ci' f' hxs
  cases hxs
  obtain ⟨hz, hv, h⟩ := h
  have ha := hR.2.2.2.2.1 a ci hz hci
  refine va_put (D := D) (ci := ci) (v := .int v) (ty := .boolean) (C := C) (T := T) (N := N) X.1 X.2.1 X.2.2.2.2.1 hin ty0 hty hnm X.2.2.2.1 X.2.2.2.2.2.2 hR.1 hR.2.1 hR.2.2.1 a (mm_at_o hz ha) hc f hf (X.2.2.2.2.1 _ hw) (fun _ h9 => h9) hfin hpd (by rcases hv with rfl | rfl <;> rfl) (by rcases hv with rfl | rfl <;> rfl) (by rw [mm_fl_len]; exact (List.getElem?_eq_some_iff.mp hk).1) hd (fun H1 locs1 hP hD hS => ?_)
  have e : mm_ce ad cA (mm_si μ a f v) a = .inr (ci, (mm_fl ad μ a 0 (mm_fk ci)).set f (.int v)) := by
    simp only [mm_ce, mm_z_si, hz]
    rw [mm_fl_si hk (by decide)]
  rw [mm_wd_si e] at hP hD
  exact K lv _ _ κ h ad cA H1 locs1 ls hE ⟨hP, hD, hS, hR.2.2.2⟩ hL h1 h2
theorem so_putr (X : mm_cx p R s m args c cc own Ts A D cl nL) {index ci f N : Nat} {C : String} {T : u_T} (hc : cl[ci]? = some (C, T, N)) (hin : ∀ w ∈ u_ws C T N, w ∈ Ts) (hf : f < N) (hci : ci < 99) (hw : Cond.fieldLink own index (T f).1 (T f).2.1 (T f).2.2.1 ∈ Ts) (ty0 : Nat → FieldType) (hty : ∀ k, k < N → parseFieldDescriptor (T k).2.2.1 = some (ty0 k)) (hnm : ∀ a, a < N → ∀ b, b < N → a ≠ b → (T a).2.1 ≠ (T b).2.1) (hfin : (T f).2.2.2 = true) (hin2 : meth.name = "<init>") (hdecl : (T f).1 = own) {ty : FieldType} (hpd : parseFieldDescriptor (T f).2.2.1 = some ty) (hfit : ∀ x, narrow ty (.ref x) = .ref x ∧ fits ty (.ref x) = true) (hk : (mm_fk ci)[f]? = some 2) (hd : decode cc pc = .ok (.putfield index, 3)) (K : mm_SK p l e R s m args below meth c Qw D cl A nL EX (pc + 3) k) : mm_SK p l e R s m args below meth c Qw D cl A nL EX pc (mm_put [ci, f, 2] k) := by
  intro lv st μ κ h ad cA H locs ls hE hR hL h1 h2
  unfold mm_put at h
  split at h
  all_goals first | exact h.elim | skip
  all_goals first | (rename_i hxs; simp at hxs; done) | skip
  rename_i b a st' ci' f' hxs
  cases hxs
  obtain ⟨hz, hb, h⟩ := h
  have ha := hR.2.2.2.2.1 a ci hz hci
  refine va_putF (D := D) (ci := ci) (v := .ref (ad b)) (ty := ty) (C := C) (T := T) (N := N) X.1 X.2.1 X.2.2.2.2.1 hin ty0 hty hnm X.2.2.2.1 X.2.2.2.2.2.2 hR.1 hR.2.1 hR.2.2.1 a (mm_at_o hz ha) hc f hf (X.2.2.2.2.1 _ hw) (fun _ h9 => h9) hfin hin2 hdecl hpd (hfit _).1 (hfit _).2 (by rw [mm_fl_len]; exact (List.getElem?_eq_some_iff.mp hk).1) hd (fun H1 locs1 hP hD hS => ?_)
  have e : mm_ce ad cA (mm_sr μ a f (some b)) a = .inr (ci, (mm_fl ad μ a 0 (mm_fk ci)).set f (.ref (ad b))) := by
    simp only [mm_ce, mm_z_sr, hz]
    rw [mm_fl_sr hk]
    rfl
  rw [mm_wd_sr e] at hP hD
  refine K lv _ _ κ h ad cA H1 locs1 ls hE ⟨hP, hD, hS, hR.2.2.2.1, hR.2.2.2.2.1, fun a1 f1 b1 q => ?_⟩ hL h1 h2
  rw [mm_r_sr] at q
  split at q
  · cases q; exact hb
  · exact hR.2.2.2.2.2 a1 f1 b1 q
theorem so_iald (X : mm_cx p R s m args c cc own Ts A D cl nL) (hd : decode cc pc = .ok (.iaload, 1)) (K : mm_SK p l e R s m args below meth c Qw D cl A nL EX (pc + 1) k) : mm_SK p l e R s m args below meth c Qw D cl A nL EX pc (mm_ald .int k) := by
  intro lv st μ κ h ad cA H locs ls hE hR hL h1 h2
  unfold mm_ald at h
  split at h
  · obtain ⟨n, hz, hi, h⟩ := h
    exact va_iald (D := D) (cl := cl) X.1 X.2.1 (mm_K1 X.2.2.2.2.2.2 hR.2.2.2 hz) hR.1 _ 0 (mm_at_a hz (hR.2.2.2.1 _ _ hz).1) rfl hi hd (K lv _ μ κ h ad cA H locs ls hE hR hL h1 h2)
  · exact h.elim
theorem so_bald (X : mm_cx p R s m args c cc own Ts A D cl nL) (hd : decode cc pc = .ok (.baload, 1)) (K : mm_SK p l e R s m args below meth c Qw D cl A nL EX (pc + 1) k) : mm_SK p l e R s m args below meth c Qw D cl A nL EX pc (mm_ald .byte k) := by
  intro lv st μ κ h ad cA H locs ls hE hR hL h1 h2
  unfold mm_ald at h
  split at h
  · obtain ⟨n, hz, hi, h⟩ := h
    exact va_bald (D := D) (cl := cl) X.1 X.2.1 (mm_K1 X.2.2.2.2.2.2 hR.2.2.2 hz) hR.1 _ 0 (mm_at_a hz (hR.2.2.2.1 _ _ hz).1) rfl hi hd (K lv _ μ κ h ad cA H locs ls hE hR hL h1 h2)
  · exact h.elim
theorem so_zald (X : mm_cx p R s m args c cc own Ts A D cl nL) (hd : decode cc pc = .ok (.baload, 1)) (K : mm_SK p l e R s m args below meth c Qw D cl A nL EX (pc + 1) k) : mm_SK p l e R s m args below meth c Qw D cl A nL EX pc (mm_ald .boolean k) := by
  intro lv st μ κ h ad cA H locs ls hE hR hL h1 h2
  unfold mm_ald at h
  split at h
  · obtain ⟨n, hz, hi, h⟩ := h
    exact va_zald (D := D) (cl := cl) X.1 X.2.1 (mm_K1 X.2.2.2.2.2.2 hR.2.2.2 hz) hR.1 _ 0 (mm_at_a hz (hR.2.2.2.1 _ _ hz).1) rfl hi hd (K lv _ μ κ h ad cA H locs ls hE hR hL h1 h2)
  · exact h.elim
theorem so_lald (X : mm_cx p R s m args c cc own Ts A D cl nL) (hd : decode cc pc = .ok (.laload, 1)) (K : mm_SK p l e R s m args below meth c Qw D cl A nL EX (pc + 1) k) : mm_SK p l e R s m args below meth c Qw D cl A nL EX pc (mm_lld k) := by
  intro lv st μ κ h ad cA H locs ls hE hR hL h1 h2
  unfold mm_lld at h
  split at h
  · obtain ⟨n, hz, hi, h⟩ := h
    exact va_lald (D := D) (cl := cl) X.1 X.2.1 (mm_K1 X.2.2.2.2.2.2 hR.2.2.2 hz) hR.1 _ 0 (mm_at_a hz (hR.2.2.2.1 _ _ hz).1) rfl hi hd (K lv _ μ κ h ad cA H locs ls hE hR hL h1 h2)
  · exact h.elim
theorem so_rald (X : mm_cx p R s m args c cc own Ts A D cl nL) {C : String} (hd : decode cc pc = .ok (.aaload, 1)) (K : mm_SK p l e R s m args below meth c Qw D cl A nL EX (pc + 1) k) : mm_SK p l e R s m args below meth c Qw D cl A nL EX pc (mm_rld C k) := by
  intro lv st μ κ h ad cA H locs ls hE hR hL h1 h2
  unfold mm_rld at h
  split at h
  · obtain ⟨n, hz, hi, b, hb, h⟩ := h
    refine va_aldq (D := D) (cl := cl) X.1 X.2.1 (mm_K1 X.2.2.2.2.2.2 hR.2.2.2 hz) hR.1 _ 0 (mm_at_a hz (hR.2.2.2.1 _ _ hz).1) rfl hi hd ?_
    rw [hb]
    exact K lv _ μ κ h ad cA H locs ls hE hR hL h1 h2
  · exact h.elim
theorem so_len (X : mm_cx p R s m args c cc own Ts A D cl nL) (hd : decode cc pc = .ok (.arraylength, 1)) (K : mm_SK p l e R s m args below meth c Qw D cl A nL EX (pc + 1) k) : mm_SK p l e R s m args below meth c Qw D cl A nL EX pc (mm_len k) := by
  intro lv st μ κ h ad cA H locs ls hE hR hL h1 h2
  unfold mm_len at h
  split at h
  · obtain ⟨ty, n, hz, h⟩ := h
    exact va_alen (D := D) (cl := cl) X.1 X.2.1 (mm_K1 X.2.2.2.2.2.2 hR.2.2.2 hz) hR.1 _ 0 (mm_at_a hz (hR.2.2.2.1 _ _ hz).1) rfl rfl hd (K lv _ μ κ h ad cA H locs ls hE hR hL h1 h2)
  · exact h.elim
theorem so_iast (X : mm_cx p R s m args c cc own Ts A D cl nL) (hd : decode cc pc = .ok (.iastore, 1)) (K : mm_SK p l e R s m args below meth c Qw D cl A nL EX (pc + 1) k) : mm_SK p l e R s m args below meth c Qw D cl A nL EX pc (mm_ast .int (fun x => x) k) := by
  intro lv st μ κ h ad cA H locs ls hE hR hL h1 h2
  unfold mm_ast at h
  split at h
  · rename_i v i a st'
    obtain ⟨n, hz, hi, h⟩ := h
    refine va_iast (D := D) (cl := cl) X.1 X.2.1 (mm_K1 X.2.2.2.2.2.2 hR.2.2.2 hz) hR.1 hR.2.1 hR.2.2.1 _ 0 (mm_at_a hz (hR.2.2.2.1 _ _ hz).1) rfl hi hd (fun H1 locs1 hP hD hS => ?_)
    have e : mm_ce ad cA (mm_si μ a i.toNatClampNeg v) a = .inl (cA a, n, .inl (upd (mm_i μ a) i.toNatClampNeg v)) := by
      simp only [mm_ce, mm_z_si, hz, mm_ar]
      congr 4
      funext j
      simp [mm_i_si, upd]
    dsimp only at hP hD
    rw [mm_wd_si e] at hP hD
    exact K lv _ _ κ h ad cA H1 locs1 ls hE ⟨hP, hD, hS, hR.2.2.2⟩ hL h1 h2
  · exact h.elim
theorem so_bast (X : mm_cx p R s m args c cc own Ts A D cl nL) (hd : decode cc pc = .ok (.bastore, 1)) (K : mm_SK p l e R s m args below meth c Qw D cl A nL EX (pc + 1) k) : mm_SK p l e R s m args below meth c Qw D cl A nL EX pc (mm_ast .byte (vp_nar .byte) k) := by
  intro lv st μ κ h ad cA H locs ls hE hR hL h1 h2
  unfold mm_ast at h
  split at h
  · rename_i v i a st'
    obtain ⟨n, hz, hi, h⟩ := h
    refine va_bast (D := D) (cl := cl) X.1 X.2.1 (mm_K1 X.2.2.2.2.2.2 hR.2.2.2 hz) hR.1 hR.2.1 hR.2.2.1 _ 0 (mm_at_a hz (hR.2.2.2.1 _ _ hz).1) rfl hi hd (fun H1 locs1 hP hD hS => ?_)
    have e : mm_ce ad cA (mm_si μ a i.toNatClampNeg (vp_nar .byte v)) a = .inl (cA a, n, .inl (upd (mm_i μ a) i.toNatClampNeg (vp_nar .byte v))) := by
      simp only [mm_ce, mm_z_si, hz, mm_ar]
      congr 4
      funext j
      simp [mm_i_si, upd]
    dsimp only at hP hD
    rw [mm_wd_si e] at hP hD
    exact K lv _ _ κ h ad cA H1 locs1 ls hE ⟨hP, hD, hS, hR.2.2.2⟩ hL h1 h2
  · exact h.elim
theorem so_zast (X : mm_cx p R s m args c cc own Ts A D cl nL) (hd : decode cc pc = .ok (.bastore, 1)) (K : mm_SK p l e R s m args below meth c Qw D cl A nL EX (pc + 1) k) : mm_SK p l e R s m args below meth c Qw D cl A nL EX pc (mm_ast .boolean (vp_nar .boolean) k) := by
  intro lv st μ κ h ad cA H locs ls hE hR hL h1 h2
  unfold mm_ast at h
  split at h
  · rename_i v i a st'
    obtain ⟨n, hz, hi, h⟩ := h
    refine va_zast (D := D) (cl := cl) X.1 X.2.1 (mm_K1 X.2.2.2.2.2.2 hR.2.2.2 hz) hR.1 hR.2.1 hR.2.2.1 _ 0 (mm_at_a hz (hR.2.2.2.1 _ _ hz).1) rfl hi hd (fun H1 locs1 hP hD hS => ?_)
    have e : mm_ce ad cA (mm_si μ a i.toNatClampNeg (vp_nar .boolean v)) a = .inl (cA a, n, .inl (upd (mm_i μ a) i.toNatClampNeg (vp_nar .boolean v))) := by
      simp only [mm_ce, mm_z_si, hz, mm_ar]
      congr 4
      funext j
      simp [mm_i_si, upd]
    dsimp only at hP hD
    rw [mm_wd_si e] at hP hD
    exact K lv _ _ κ h ad cA H1 locs1 ls hE ⟨hP, hD, hS, hR.2.2.2⟩ hL h1 h2
  · exact h.elim
theorem so_last (X : mm_cx p R s m args c cc own Ts A D cl nL) (hd : decode cc pc = .ok (.lastore, 1)) (K : mm_SK p l e R s m args below meth c Qw D cl A nL EX (pc + 1) k) : mm_SK p l e R s m args below meth c Qw D cl A nL EX pc (mm_lst k) := by
  intro lv st μ κ h ad cA H locs ls hE hR hL h1 h2
  unfold mm_lst at h
  split at h
  · rename_i v i a st'
    obtain ⟨n, hz, hi, h⟩ := h
    refine va_last (D := D) (cl := cl) X.1 X.2.1 (mm_K1 X.2.2.2.2.2.2 hR.2.2.2 hz) hR.1 hR.2.1 hR.2.2.1 _ 0 (mm_at_a hz (hR.2.2.2.1 _ _ hz).1) rfl hi hd (fun H1 locs1 hP hD hS => ?_)
    have e : mm_ce ad cA (mm_sl μ a i.toNatClampNeg v) a = .inl (cA a, n, .inr (.inl (vp_updL (mm_l μ a) i.toNatClampNeg v))) := by
      simp only [mm_ce, mm_z_sl, hz, mm_ar]
      congr 5
      funext j
      simp [mm_l_sl, vp_updL]
    dsimp only at hP hD
    rw [mm_wd_sl e] at hP hD
    exact K lv _ _ κ h ad cA H1 locs1 ls hE ⟨hP, hD, hS, hR.2.2.2⟩ hL h1 h2
  · exact h.elim
theorem so_rast (X : mm_cx p R s m args c cc own Ts A D cl nL) {C : String} {T : u_T} {N ci : Nat} (hc : cl[ci]? = some (C, T, N)) (hci : ci < 99) (hd : decode cc pc = .ok (.aastore, 1)) (K : mm_SK p l e R s m args below meth c Qw D cl A nL EX (pc + 1) k) : mm_SK p l e R s m args below meth c Qw D cl A nL EX pc (mm_rst C ci k) := by
  intro lv st μ κ h ad cA H locs ls hE hR hL h1 h2
  unfold mm_rst at h
  split at h
  · rename_i b i a st'
    obtain ⟨n, hz, hi, hb, h⟩ := h
    have hbn := hR.2.2.2.2.1 b ci hb hci
    refine va_astq (D := D) (cl := cl) (r := (C, T, N)) X.1 X.2.1 (mm_K1 X.2.2.2.2.2.2 hR.2.2.2 hz) hR.1 hR.2.1 hR.2.2.1 _ 0 b ci (mm_at_a hz (hR.2.2.2.1 _ _ hz).1) rfl (mm_at_o hb hbn) hc hi hd (fun H1 locs1 hP hD hS => ?_)
    have e : mm_ce ad cA (mm_sr μ a i.toNatClampNeg (some b)) a = .inl (cA a, n, .inr (.inr (.inr (.inr (va_up (fun j => (mm_r μ a j).map ad) i.toNatClampNeg (some (ad b))))))) := by
      simp only [mm_ce, mm_z_sr, hz, mm_ar]
      congr 7
      funext j
      simp only [mm_r_sr, va_up]
      by_cases hj : j = i.toNatClampNeg <;> simp [hj]
    dsimp only at hP hD
    rw [mm_wd_sr e] at hP hD
    refine K lv _ _ κ h ad cA H1 locs1 ls hE ⟨hP, hD, hS, hR.2.2.2.1, hR.2.2.2.2.1, fun a1 f1 b1 q => ?_⟩ hL h1 h2
    rw [mm_r_sr] at q
    split at q
    · cases q; exact hbn
    · exact hR.2.2.2.2.2 a1 f1 b1 q
  · exact h.elim
end
