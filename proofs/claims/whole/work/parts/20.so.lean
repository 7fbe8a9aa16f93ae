/-! THE SMALL MACHINE IS THE MACHINE: a state of it as cells of the heap; each instruction's row. -/
def mm_cv (ad : Nat → Nat) : Value → Value
  | .ref a => .ref (ad a)
  | v => v
theorem mm_cv_cat (ad : Nat → Nat) (v : Value) : (mm_cv ad v).category = v.category := by cases v <;> rfl
/-- the kinds of the classes' fields: 0 int, 2 reference, 3 boolean -/
def mm_fk : Nat → List Nat
  | 0 => [2, 0]
  | 1 => [2, 0, 0, 0, 0, 0, 0, 0, 0, 2, 0]
  | 2 => [2, 2, 0]
  | 3 => [2]
  | 4 => [2, 2, 0, 0]
  | 5 => [2, 2, 2, 0, 3, 0]
  | 6 => [2, 0, 2, 0, 2, 0, 0, 2, 0, 3, 2, 2, 2, 2]
  | 7 => [0, 0, 0, 2, 2, 0, 0, 2, 2, 2, 2, 2, 2, 0, 2, 0, 2, 2, 0, 0, 0, 0, 0, 0, 0, 0, 0, 2, 2, 2, 2, 0]
  | _ => []
def mm_fv (ad : Nat → Nat) (μ : mm_M) (a f : Nat) : Nat → Value
  | 2 => va_rf ((mm_r μ a f).map ad)
  | _ => .int (mm_i μ a f)
def mm_fl (ad : Nat → Nat) (μ : mm_M) (a : Nat) : Nat → List Nat → List Value
  | _, [] => []
  | f, kd :: r => mm_fv ad μ a f kd :: mm_fl ad μ a (f + 1) r
def mm_ar (ad : Nat → Nat) (μ : mm_M) (a : Nat) : FieldType → ((Nat → Int32) ⊕ (Nat → Int64) ⊕ (Nat → UInt32) ⊕ (Nat → UInt64) ⊕ (Nat → Option Nat))
  | .long => .inr (.inl (mm_l μ a))
  | .object _ => .inr (.inr (.inr (.inr (fun j => (mm_r μ a j).map ad))))
  | _ => .inl (mm_i μ a)
def mm_ce (ad : Nat → Nat) (cA : Nat → ClassId) (μ : mm_M) (a : Nat) : va_E := match mm_z μ a with
  | .inl q => .inl (cA a, q.2, mm_ar ad μ a q.1)
  | .inr ci => .inr (ci, mm_fl ad μ a 0 (mm_fk ci))
def mm_wd (ad : Nat → Nat) (cA : Nat → ClassId) (μ : mm_M) : va_W := (List.range (mm_n μ)).map (fun a => (ad a, mm_ce ad cA μ a))
theorem mm_wd_at {ad : Nat → Nat} {cA : Nat → ClassId} {μ : mm_M} {a : Nat} (h : a < mm_n μ) : (mm_wd ad cA μ)[a]? = some (ad a, mm_ce ad cA μ a) := by
  simp [mm_wd, List.getElem?_map, List.getElem?_range h]
theorem mm_wd_none {ad : Nat → Nat} {cA : Nat → ClassId} {μ : mm_M} {a : Nat} (h : mm_n μ ≤ a) : (mm_wd ad cA μ)[a]? = none := by
  apply List.getElem?_eq_none
  simp [mm_wd]
  exact h
theorem mm_wd_set {ad : Nat → Nat} {cA : Nat → ClassId} {μ μ' : mm_M} {a : Nat} (hn : mm_n μ' = mm_n μ) (h : ∀ b, b ≠ a → mm_ce ad cA μ' b = mm_ce ad cA μ b) : (mm_wd ad cA μ).set a (ad a, mm_ce ad cA μ' a) = mm_wd ad cA μ' := by
  apply List.ext_getElem?
  intro i
  by_cases hi : i < mm_n μ
  · rw [mm_wd_at (hn ▸ hi)]
    by_cases he : i = a
    · subst he
      rw [List.getElem?_set_self (by simpa [mm_wd] using hi)]
    · rw [List.getElem?_set_ne (fun q => he q.symm), mm_wd_at hi, h i he]
  · rw [mm_wd_none (by rw [hn]; omega)]
    apply List.getElem?_eq_none
    simp [mm_wd]
    omega
theorem mm_fl_at (ad : Nat → Nat) (μ : mm_M) (a : Nat) : ∀ (r : List Nat) (f i : Nat), (mm_fl ad μ a f r)[i]? = (r[i]?).map (fun kd => mm_fv ad μ a (f + i) kd)
  | [], f, i => by simp [mm_fl]
  | kd :: r, f, 0 => by simp [mm_fl]
  | kd :: r, f, i + 1 => by
    simp only [mm_fl, List.getElem?_cons_succ]
    rw [mm_fl_at ad μ a r (f + 1) i, show f + 1 + i = f + (i + 1) by omega]
theorem mm_fl_len (ad : Nat → Nat) (μ : mm_M) (a : Nat) : ∀ (r : List Nat) (f : Nat), (mm_fl ad μ a f r).length = r.length
  | [], f => rfl
  | kd :: r, f => by simp [mm_fl, mm_fl_len ad μ a r (f + 1)]
/-- what else a state of the small machine keeps: arrays' classes, no cell beyond its number, references to cells -/
def mm_ok (s : State) (cA : Nat → ClassId) (μ : mm_M) : Prop := (∀ a q, mm_z μ a = .inl q → a < mm_n μ ∧ ArrOfT s (cA a) q.1 ∧ va_RA s (cA a) q.1) ∧ (∀ a ci, mm_z μ a = .inr ci → ci < 99 → a < mm_n μ) ∧ ∀ a f b, mm_r μ a f = some b → b < mm_n μ
def mm_Rl (D : va_G) (cl : List vw_C) (s : State) (A : Nat → Prop) (ad : Nat → Nat) (cA : Nat → ClassId) (μ : mm_M) (H : Heap) (locs : List Loc) : Prop :=
  va_P D cl (mm_wd ad cA μ) H ∧ va_D A (mm_wd ad cA μ) ∧ va_S A s.heap H locs ∧ mm_ok s cA μ
/-! locals -/
def mm_Lh (nL : Nat) (ad : Nat → Nat) (ls : Array Slot) (lv : mm_L) : Prop := ls.size = nL ∧ lv_wf ls ∧ ∀ i v, mm_lg lv i = some v → ls[i]? = some (.val (mm_cv ad v))
def mm_as (ad : Nat → Nat) : Nat → mm_L → List (Nat × Value)
  | _, [] => []
  | i, none :: r => mm_as ad (i + 1) r
  | i, some v :: r => (i, mm_cv ad v) :: mm_as ad (i + 1) r
theorem mm_as_in (ad : Nat → Nat) : ∀ (lv : mm_L) (i : Nat) (q : Nat × Value), q ∈ mm_as ad i lv ↔ ∃ j v, mm_lg lv j = some v ∧ q = (i + j, mm_cv ad v)
  | [], i, q => by simp [mm_as, mm_lg]
  | none :: r, i, q => by
    simp only [mm_as]
    rw [mm_as_in ad r (i + 1) q]
    constructor
    · rintro ⟨j, v, h1, h2⟩
      exact ⟨j + 1, v, h1, by rw [h2, show i + 1 + j = i + (j + 1) by omega]⟩
    · rintro ⟨j, v, h1, h2⟩
      cases j with
      | zero => simp [mm_lg] at h1
      | succ j => exact ⟨j, v, h1, by rw [h2, show i + 1 + j = i + (j + 1) by omega]⟩
  | some u :: r, i, q => by
    simp only [mm_as, List.mem_cons]
    rw [mm_as_in ad r (i + 1) q]
    constructor
    · rintro (h | ⟨j, v, h1, h2⟩)
      · exact ⟨0, u, rfl, h⟩
      · exact ⟨j + 1, v, h1, by rw [h2, show i + 1 + j = i + (j + 1) by omega]⟩
    · rintro ⟨j, v, h1, h2⟩
      cases j with
      | zero => exact Or.inl (by cases h1; exact h2)
      | succ j => exact Or.inr ⟨j, v, h1, by rw [h2, show i + 1 + j = i + (j + 1) by omega]⟩
theorem mm_Lh_has {nL : Nat} {ad : Nat → Nat} {ls : Array Slot} {lv : mm_L} (h : mm_Lh nL ad ls lv) : lv_has ls nL (mm_as ad 0 lv) := by
  refine ⟨h.1, h.2.1, fun q hq => ?_⟩
  obtain ⟨j, v, h1, h2⟩ := (mm_as_in ad lv 0 q).mp hq
  subst h2
  rw [show (0 + j, mm_cv ad v).1 = j by simp]
  exact h.2.2 j v h1
theorem mm_s1_at (u : Value) : ∀ (lv : mm_L) (i j : Nat) (v : Value), mm_lg (mm_s1 u lv i) j = some v → (j = i ∧ v = u) ∨ (j ≠ i ∧ mm_lg lv j = some v ∧ ¬ (j + 1 = i ∧ v.category = 2))
  | [], i, j, v, h => by simp [mm_s1, mm_lg] at h
  | x :: r, 0, 0, v, h => by
    simp [mm_s1, mm_lg] at h
    exact Or.inl ⟨rfl, h.symm⟩
  | x :: r, 0, j + 1, v, h => Or.inr ⟨by omega, h, by omega⟩
  | x :: r, 1, 0, v, h => by
    refine Or.inr ⟨by omega, ?_⟩
    simp only [mm_s1, mm_lg] at h ⊢
    unfold mm_c2 at h
    split at h
    · cases h
    · cases h
    · rename_i h1 h2
      refine ⟨h, fun q => ?_⟩
      subst h
      cases v <;> simp_all [Value.category]
  | x :: r, 1, j + 1, v, h => by
    simp only [mm_s1, mm_lg] at h ⊢
    rcases mm_s1_at u r 0 j v h with ⟨h1, h2⟩ | ⟨h1, h2, h3⟩
    · exact Or.inl ⟨by omega, h2⟩
    · exact Or.inr ⟨by omega, h2, by omega⟩
  | x :: r, i + 2, 0, v, h => Or.inr ⟨by omega, h, by omega⟩
  | x :: r, i + 2, j + 1, v, h => by
    simp only [mm_s1, mm_lg] at h ⊢
    rcases mm_s1_at u r (i + 1) j v h with ⟨h1, h2⟩ | ⟨h1, h2, h3⟩
    · exact Or.inl ⟨by omega, h2⟩
    · exact Or.inr ⟨by omega, h2, fun q => h3 ⟨by omega, q.2⟩⟩
theorem mm_kl_at : ∀ (lv : mm_L) (j : Nat) (v : Value), mm_lg (mm_kl lv) j = some v → j ≠ 0 ∧ mm_lg lv j = some v
  | [], j, v, h => by simp [mm_kl, mm_lg] at h
  | x :: r, 0, v, h => by simp [mm_kl, mm_lg] at h
  | x :: r, j + 1, v, h => ⟨by omega, h⟩
theorem mm_s2_at (u : Value) : ∀ (lv : mm_L) (i j : Nat) (v : Value), mm_lg (mm_s2 u lv i) j = some v → (j = i ∧ v = u) ∨ (j ≠ i ∧ j ≠ i + 1 ∧ mm_lg lv j = some v ∧ ¬ (j + 1 = i ∧ v.category = 2))
  | [], i, j, v, h => by simp [mm_s2, mm_lg] at h
  | x :: r, 0, 0, v, h => by
    simp [mm_s2, mm_lg] at h
    exact Or.inl ⟨rfl, h.symm⟩
  | x :: r, 0, j + 1, v, h => by
    have h2 := mm_kl_at r j v h
    exact Or.inr ⟨by omega, by omega, h2.2, by omega⟩
  | x :: r, 1, 0, v, h => by
    refine Or.inr ⟨by omega, by omega, ?_⟩
    simp only [mm_s2, mm_lg] at h ⊢
    unfold mm_c2 at h
    split at h
    · cases h
    · cases h
    · rename_i h1 h2
      refine ⟨h, fun q => ?_⟩
      subst h
      cases v <;> simp_all [Value.category]
  | x :: r, 1, j + 1, v, h => by
    simp only [mm_s2, mm_lg] at h ⊢
    rcases mm_s2_at u r 0 j v h with ⟨h1, h2⟩ | ⟨h1, h1', h2, h3⟩
    · exact Or.inl ⟨by omega, h2⟩
    · exact Or.inr ⟨by omega, by omega, h2, by omega⟩
  | x :: r, i + 2, 0, v, h => Or.inr ⟨by omega, by omega, h, by omega⟩
  | x :: r, i + 2, j + 1, v, h => by
    simp only [mm_s2, mm_lg] at h ⊢
    rcases mm_s2_at u r (i + 1) j v h with ⟨h1, h2⟩ | ⟨h1, h1', h2, h3⟩
    · exact Or.inl ⟨by omega, h2⟩
    · exact Or.inr ⟨by omega, by omega, h2, fun q => h3 ⟨by omega, q.2⟩⟩
theorem mm_Lh_s1 {nL : Nat} {ad : Nat → Nat} {ls' : Array Slot} {lv : mm_L} {i : Nat} {u : Value} (h : lv_has ls' nL ((i, mm_cv ad u) :: (mm_as ad 0 lv).filter (fun q => !(q.1 == i) && !(q.1 + 1 == i && q.2.category == 2)))) : mm_Lh nL ad ls' (mm_s1 u lv i) := by
  refine ⟨h.1, h.2.1, fun j v hj => ?_⟩
  rcases mm_s1_at u lv i j v hj with ⟨h1, h2⟩ | ⟨h1, h2, h3⟩
  · subst h1; subst h2
    exact h.2.2 _ List.mem_cons_self
  · refine h.2.2 (j, mm_cv ad v) (List.mem_cons_of_mem _ (List.mem_filter.mpr ⟨(mm_as_in ad lv 0 _).mpr ⟨j, v, h2, by simp⟩, ?_⟩))
    simp only [mm_cv_cat]
    simp
    refine ⟨h1, ?_⟩
    by_cases q : j + 1 = i
    · exact Or.inr fun z => h3 ⟨q, z⟩
    · exact Or.inl q
theorem mm_Lh_s2 {nL : Nat} {ad : Nat → Nat} {ls' : Array Slot} {lv : mm_L} {i : Nat} {u : Value} (h : lv_has ls' nL ((i, mm_cv ad u) :: (mm_as ad 0 lv).filter (fun q => !(q.1 == i) && (!(q.1 == i + 1) && !(q.1 + 1 == i && q.2.category == 2))))) : mm_Lh nL ad ls' (mm_s2 u lv i) := by
  refine ⟨h.1, h.2.1, fun j v hj => ?_⟩
  rcases mm_s2_at u lv i j v hj with ⟨h1, h2⟩ | ⟨h1, h1', h2, h3⟩
  · subst h1; subst h2
    exact h.2.2 _ List.mem_cons_self
  · refine h.2.2 (j, mm_cv ad v) (List.mem_cons_of_mem _ (List.mem_filter.mpr ⟨(mm_as_in ad lv 0 _).mpr ⟨j, v, h2, by simp⟩, ?_⟩))
    simp only [mm_cv_cat]
    simp
    refine ⟨h1, h1', ?_⟩
    by_cases q : j + 1 = i
    · exact Or.inr fun z => h3 ⟨q, z⟩
    · exact Or.inl q
/-- what stands while a method runs -/
def mm_cx (p : Program) (R : Room) (s : State) (m : MethodId) (args : Array Value) (c : Code) (cc : ByteArray) (own : String) (Ts : List Cond) (A : Nat → Prop) (D : va_G) (cl : List vw_C) (nL : Nat) : Prop :=
  p.tables.exec = Jvm.exec ∧ c.code = cc ∧ c.maxLocals = nL ∧ s.vm.findClass own = some m.cls ∧ (∀ w ∈ Ts, w.before args s = true) ∧ (∀ q, s.heap.size ≤ q → A q) ∧ va_K D cl [] s
def mm_WW (p : Program) (l : Launch) (e : Env) (R : Room) (s : State) (m : MethodId) (args : Array Value) (below : List Frame) (meth : Method) (c : Code) (Qw : State → Prop) (D : va_G) (cl : List vw_C) (A : Nat → Prop) (nL : Nat) (EX : (Nat → Nat) → (Nat → ClassId) → Nat → Nat × Nat → Prop) (pc : Nat) : mm_K := fun lv st μ κ =>
  ∀ (ad : Nat → Nat) (cA : Nat → ClassId) (H : Heap) (locs : List Loc) (ls : Array Slot), EX ad cA (mm_n μ) κ → mm_Rl D cl s A ad cA μ H locs → mm_Lh nL ad ls lv → κ.1 ≤ R.cells → κ.2 ≤ R.slots → W p l e R s m args below meth c H locs κ.1 κ.2 Qw (F0 m pc ls (st.map (mm_cv ad)))
/-- a block's text is sound at a place of the bytes -/
def mm_SK (p : Program) (l : Launch) (e : Env) (R : Room) (s : State) (m : MethodId) (args : Array Value) (below : List Frame) (meth : Method) (c : Code) (Qw : State → Prop) (D : va_G) (cl : List vw_C) (A : Nat → Prop) (nL : Nat) (EX : (Nat → Nat) → (Nat → ClassId) → Nat → Nat × Nat → Prop) (pc : Nat) (k : mm_K) : Prop :=
  ∀ lv st μ κ, k lv st μ κ → mm_WW p l e R s m args below meth c Qw D cl A nL EX pc lv st μ κ
section
variable {p : Program} {l : Launch} {e : Env} {R : Room} {s : State} {m : MethodId} {args : Array Value} {below : List Frame} {meth : Method} {c : Code} {Qw : State → Prop} {D : va_G} {cl : List vw_C} {A : Nat → Prop} {nL : Nat} {EX : (Nat → Nat) → (Nat → ClassId) → Nat → Nat × Nat → Prop} {cc : ByteArray} {own : String} {Ts : List Cond} {pc : Nat} {k : mm_K} {J : mm_J}
theorem so_iconst (X : mm_cx p R s m args c cc own Ts A D cl nL) {n : Int} {v : Int32} (hd : decode cc pc = .ok (.iconst n, 1)) (hv : Int32.ofInt n = v) (K : mm_SK p l e R s m args below meth c Qw D cl A nL EX (pc + 1) k) : mm_SK p l e R s m args below meth c Qw D cl A nL EX pc (mm_cst (.int v) k) := by
  intro lv st μ κ h ad cA H locs ls hE hR hL h1 h2
  exact lv_iconst X.1 X.2.1 hd hv (K lv _ μ κ h ad cA H locs ls hE hR hL h1 h2)
theorem so_bipush (X : mm_cx p R s m args c cc own Ts A D cl nL) {n : Int} {v : Int32} (hd : decode cc pc = .ok (.bipush n, 2)) (hv : (Int8.ofInt n).toInt32 = v) (K : mm_SK p l e R s m args below meth c Qw D cl A nL EX (pc + 2) k) : mm_SK p l e R s m args below meth c Qw D cl A nL EX pc (mm_cst (.int v) k) := by
  intro lv st μ κ h ad cA H locs ls hE hR hL h1 h2
  exact lv_bipush X.1 X.2.1 hd hv (K lv _ μ κ h ad cA H locs ls hE hR hL h1 h2)
theorem so_sipush (X : mm_cx p R s m args c cc own Ts A D cl nL) {n : Int} {v : Int32} (hd : decode cc pc = .ok (.sipush n, 3)) (hv : (Int16.ofInt n).toInt32 = v) (K : mm_SK p l e R s m args below meth c Qw D cl A nL EX (pc + 3) k) : mm_SK p l e R s m args below meth c Qw D cl A nL EX pc (mm_cst (.int v) k) := by
  intro lv st μ κ h ad cA H locs ls hE hR hL h1 h2
  exact lv_sipush X.1 X.2.1 hd hv (K lv _ μ κ h ad cA H locs ls hE hR hL h1 h2)
theorem so_lconst (X : mm_cx p R s m args c cc own Ts A D cl nL) {n : Fin 2} {v : Int64} (hd : decode cc pc = .ok (.lconst n, 1)) (hv : Int64.ofNat (n : Nat) = v) (K : mm_SK p l e R s m args below meth c Qw D cl A nL EX (pc + 1) k) : mm_SK p l e R s m args below meth c Qw D cl A nL EX pc (mm_cst (.long v) k) := by
  intro lv st μ κ h ad cA H locs ls hE hR hL h1 h2
  exact lv_lconst X.1 X.2.1 hd hv (K lv _ μ κ h ad cA H locs ls hE hR hL h1 h2)
theorem so_ldc2 (X : mm_cx p R s m args c cc own Ts A D cl nL) {index : Nat} {v : Int64} (hd : decode cc pc = .ok (.ldc2_w index, 3)) (hw : Cond.constantLong own index v ∈ Ts) (K : mm_SK p l e R s m args below meth c Qw D cl A nL EX (pc + 3) k) : mm_SK p l e R s m args below meth c Qw D cl A nL EX pc (mm_cst (.long v) k) := by
  intro lv st μ κ h ad cA H locs ls hE hR hL h1 h2
  exact lv_ldc2 X.1 X.2.1 X.2.2.2.1 (X.2.2.2.2.1 _ hw) hd (K lv _ μ κ h ad cA H locs ls hE hR hL h1 h2)
theorem mm_ldi_v {i : Nat} {k : mm_K} {lv : mm_L} {st : List Value} {μ : mm_M} {κ : Nat × Nat} (h : mm_ldi i k lv st μ κ) : ∃ x, mm_lg lv i = some (.int x) ∧ k lv (.int x :: st) μ κ := by
  unfold mm_ldi at h
  split at h
  · rename_i x hx
    exact ⟨x, hx, h⟩
  · exact h.elim
theorem so_iload_n (X : mm_cx p R s m args c cc own Ts A D cl nL) {i : Fin 4} (hd : decode cc pc = .ok (.iload_n i, 1)) (K : mm_SK p l e R s m args below meth c Qw D cl A nL EX (pc + 1) k) : mm_SK p l e R s m args below meth c Qw D cl A nL EX pc (mm_ldi i k) := by
  intro lv st μ κ h ad cA H locs ls hE hR hL h1 h2
  obtain ⟨x, hx, h⟩ := mm_ldi_v h
  exact lv_iload_n X.1 X.2.1 hd rfl (hL.2.2 _ _ hx) (K lv _ μ κ h ad cA H locs ls hE hR hL h1 h2)
theorem so_iload (X : mm_cx p R s m args c cc own Ts A D cl nL) {i : Nat} (hd : decode cc pc = .ok (.iload i, 2)) (K : mm_SK p l e R s m args below meth c Qw D cl A nL EX (pc + 2) k) : mm_SK p l e R s m args below meth c Qw D cl A nL EX pc (mm_ldi i k) := by
  intro lv st μ κ h ad cA H locs ls hE hR hL h1 h2
  obtain ⟨x, hx, h⟩ := mm_ldi_v h
  exact lv_iload X.1 X.2.1 hd (hL.2.2 _ _ hx) (K lv _ μ κ h ad cA H locs ls hE hR hL h1 h2)
theorem mm_ldl_v {i : Nat} {k : mm_K} {lv : mm_L} {st : List Value} {μ : mm_M} {κ : Nat × Nat} (h : mm_ldl i k lv st μ κ) : ∃ x, mm_lg lv i = some (.long x) ∧ k lv (.long x :: st) μ κ := by
  unfold mm_ldl at h
  split at h
  · rename_i x hx
    exact ⟨x, hx, h⟩
  · exact h.elim
theorem so_lload_n (X : mm_cx p R s m args c cc own Ts A D cl nL) {i : Fin 4} (hd : decode cc pc = .ok (.lload_n i, 1)) (K : mm_SK p l e R s m args below meth c Qw D cl A nL EX (pc + 1) k) : mm_SK p l e R s m args below meth c Qw D cl A nL EX pc (mm_ldl i k) := by
  intro lv st μ κ h ad cA H locs ls hE hR hL h1 h2
  obtain ⟨x, hx, h⟩ := mm_ldl_v h
  exact lv_lload_n X.1 X.2.1 hd rfl (hL.2.2 _ _ hx) (K lv _ μ κ h ad cA H locs ls hE hR hL h1 h2)
theorem so_lload (X : mm_cx p R s m args c cc own Ts A D cl nL) {i : Nat} (hd : decode cc pc = .ok (.lload i, 2)) (K : mm_SK p l e R s m args below meth c Qw D cl A nL EX (pc + 2) k) : mm_SK p l e R s m args below meth c Qw D cl A nL EX pc (mm_ldl i k) := by
  intro lv st μ κ h ad cA H locs ls hE hR hL h1 h2
  obtain ⟨x, hx, h⟩ := mm_ldl_v h
  exact lv_lload X.1 X.2.1 hd (hL.2.2 _ _ hx) (K lv _ μ κ h ad cA H locs ls hE hR hL h1 h2)
theorem mm_lda_v {i : Nat} {k : mm_K} {lv : mm_L} {st : List Value} {μ : mm_M} {κ : Nat × Nat} (h : mm_lda i k lv st μ κ) : ∃ x, mm_lg lv i = some (.ref x) ∧ k lv (.ref x :: st) μ κ := by
  unfold mm_lda at h
  split at h
  · rename_i x hx
    exact ⟨x, hx, h⟩
  · exact h.elim
theorem so_aload_n (X : mm_cx p R s m args c cc own Ts A D cl nL) {i : Fin 4} (hd : decode cc pc = .ok (.aload_n i, 1)) (K : mm_SK p l e R s m args below meth c Qw D cl A nL EX (pc + 1) k) : mm_SK p l e R s m args below meth c Qw D cl A nL EX pc (mm_lda i k) := by
  intro lv st μ κ h ad cA H locs ls hE hR hL h1 h2
  obtain ⟨x, hx, h⟩ := mm_lda_v h
  exact lv_aload_n X.1 X.2.1 hd rfl (hL.2.2 _ _ hx) (K lv _ μ κ h ad cA H locs ls hE hR hL h1 h2)
theorem so_aload (X : mm_cx p R s m args c cc own Ts A D cl nL) {i : Nat} (hd : decode cc pc = .ok (.aload i, 2)) (K : mm_SK p l e R s m args below meth c Qw D cl A nL EX (pc + 2) k) : mm_SK p l e R s m args below meth c Qw D cl A nL EX pc (mm_lda i k) := by
  intro lv st μ κ h ad cA H locs ls hE hR hL h1 h2
  obtain ⟨x, hx, h⟩ := mm_lda_v h
  exact lv_aload X.1 X.2.1 hd (hL.2.2 _ _ hx) (K lv _ μ κ h ad cA H locs ls hE hR hL h1 h2)
theorem mm_sti_v {i : Nat} {k : mm_K} {lv : mm_L} {st : List Value} {μ : mm_M} {κ : Nat × Nat} (h : mm_sti i k lv st μ κ) : ∃ x st1, st = .int x :: st1 ∧ k (mm_s1 (.int x) lv i) st1 μ κ := by
  unfold mm_sti at h
  split at h
  · exact ⟨_, _, rfl, h⟩
  · exact h.elim
theorem so_istore_n (X : mm_cx p R s m args c cc own Ts A D cl nL) {i : Fin 4} (hd : decode cc pc = .ok (.istore_n i, 1)) (hn : (i : Nat) < nL) (K : mm_SK p l e R s m args below meth c Qw D cl A nL EX (pc + 1) k) : mm_SK p l e R s m args below meth c Qw D cl A nL EX pc (mm_sti i k) := by
  intro lv st μ κ h ad cA H locs ls hE hR hL h1 h2
  obtain ⟨x, st, rfl, h⟩ := mm_sti_v h
  exact lv_istore_n X.1 X.2.1 hd rfl (mm_Lh_has hL) hn rfl (fun ls1 hl1 => K _ _ μ κ h ad cA H locs ls1 hE hR (mm_Lh_s1 (u := .int x) hl1) h1 h2)
theorem so_istore (X : mm_cx p R s m args c cc own Ts A D cl nL) {i : Nat} (hd : decode cc pc = .ok (.istore i, 2)) (hn : i < nL) (K : mm_SK p l e R s m args below meth c Qw D cl A nL EX (pc + 2) k) : mm_SK p l e R s m args below meth c Qw D cl A nL EX pc (mm_sti i k) := by
  intro lv st μ κ h ad cA H locs ls hE hR hL h1 h2
  obtain ⟨x, st, rfl, h⟩ := mm_sti_v h
  exact lv_istore X.1 X.2.1 hd (mm_Lh_has hL) hn rfl (fun ls1 hl1 => K _ _ μ κ h ad cA H locs ls1 hE hR (mm_Lh_s1 (u := .int x) hl1) h1 h2)
theorem mm_stl_v {i : Nat} {k : mm_K} {lv : mm_L} {st : List Value} {μ : mm_M} {κ : Nat × Nat} (h : mm_stl i k lv st μ κ) : ∃ x st1, st = .long x :: st1 ∧ k (mm_s2 (.long x) lv i) st1 μ κ := by
  unfold mm_stl at h
  split at h
  · exact ⟨_, _, rfl, h⟩
  · exact h.elim
theorem so_lstore_n (X : mm_cx p R s m args c cc own Ts A D cl nL) {i : Fin 4} (hd : decode cc pc = .ok (.lstore_n i, 1)) (hn : (i : Nat) + 1 < nL) (K : mm_SK p l e R s m args below meth c Qw D cl A nL EX (pc + 1) k) : mm_SK p l e R s m args below meth c Qw D cl A nL EX pc (mm_stl i k) := by
  intro lv st μ κ h ad cA H locs ls hE hR hL h1 h2
  obtain ⟨x, st, rfl, h⟩ := mm_stl_v h
  exact lv_lstore_n X.1 X.2.1 hd rfl (mm_Lh_has hL) hn rfl (fun ls1 hl1 => K _ _ μ κ h ad cA H locs ls1 hE hR (mm_Lh_s2 (u := .long x) hl1) h1 h2)
theorem so_lstore (X : mm_cx p R s m args c cc own Ts A D cl nL) {i : Nat} (hd : decode cc pc = .ok (.lstore i, 2)) (hn : i + 1 < nL) (K : mm_SK p l e R s m args below meth c Qw D cl A nL EX (pc + 2) k) : mm_SK p l e R s m args below meth c Qw D cl A nL EX pc (mm_stl i k) := by
  intro lv st μ κ h ad cA H locs ls hE hR hL h1 h2
  obtain ⟨x, st, rfl, h⟩ := mm_stl_v h
  exact lv_lstore X.1 X.2.1 hd (mm_Lh_has hL) hn rfl (fun ls1 hl1 => K _ _ μ κ h ad cA H locs ls1 hE hR (mm_Lh_s2 (u := .long x) hl1) h1 h2)
theorem mm_sta_v {i : Nat} {k : mm_K} {lv : mm_L} {st : List Value} {μ : mm_M} {κ : Nat × Nat} (h : mm_sta i k lv st μ κ) : ∃ x st1, st = .ref x :: st1 ∧ k (mm_s1 (.ref x) lv i) st1 μ κ := by
  unfold mm_sta at h
  split at h
  · exact ⟨_, _, rfl, h⟩
  · exact h.elim
theorem so_astore_n (X : mm_cx p R s m args c cc own Ts A D cl nL) {i : Fin 4} (hd : decode cc pc = .ok (.astore_n i, 1)) (hn : (i : Nat) < nL) (K : mm_SK p l e R s m args below meth c Qw D cl A nL EX (pc + 1) k) : mm_SK p l e R s m args below meth c Qw D cl A nL EX pc (mm_sta i k) := by
  intro lv st μ κ h ad cA H locs ls hE hR hL h1 h2
  obtain ⟨x, st, rfl, h⟩ := mm_sta_v h
  exact lv_astore_n X.1 X.2.1 hd rfl (mm_Lh_has hL) hn rfl (fun ls1 hl1 => K _ _ μ κ h ad cA H locs ls1 hE hR (mm_Lh_s1 (u := .ref x) hl1) h1 h2)
theorem so_astore (X : mm_cx p R s m args c cc own Ts A D cl nL) {i : Nat} (hd : decode cc pc = .ok (.astore i, 2)) (hn : i < nL) (K : mm_SK p l e R s m args below meth c Qw D cl A nL EX (pc + 2) k) : mm_SK p l e R s m args below meth c Qw D cl A nL EX pc (mm_sta i k) := by
  intro lv st μ κ h ad cA H locs ls hE hR hL h1 h2
  obtain ⟨x, st, rfl, h⟩ := mm_sta_v h
  exact lv_astore X.1 X.2.1 hd (mm_Lh_has hL) hn rfl (fun ls1 hl1 => K _ _ μ κ h ad cA H locs ls1 hE hR (mm_Lh_s1 (u := .ref x) hl1) h1 h2)
theorem mm_inc_v {i : Nat} {w : Value} {k : mm_K} {lv : mm_L} {st : List Value} {μ : mm_M} {κ : Nat × Nat} (h : mm_inc i w k lv st μ κ) : ∃ x y, mm_lg lv i = some (.int x) ∧ w = .int y ∧ k (mm_s1 (.int (x + y)) lv i) st μ κ := by
  unfold mm_inc at h
  split at h
  · rename_i x y hx
    exact ⟨x, _, hx, rfl, h⟩
  · exact h.elim
theorem so_iinc (X : mm_cx p R s m args c cc own Ts A D cl nL) {i : Nat} {n : Int} {y : Int32} (hd : decode cc pc = .ok (.iinc i n, 3)) (hv : Int32.ofInt n = y) (hn : i < nL) (K : mm_SK p l e R s m args below meth c Qw D cl A nL EX (pc + 3) k) : mm_SK p l e R s m args below meth c Qw D cl A nL EX pc (mm_inc i (.int y) k) := by
  intro lv st μ κ h ad cA H locs ls hE hR hL h1 h2
  obtain ⟨x, y1, hx, hy, h⟩ := mm_inc_v h
  cases hy
  subst hv
  obtain ⟨q, hq⟩ := List.getElem?_of_mem ((mm_as_in ad lv 0 (i, .int x)).mpr ⟨i, .int x, hx, by simp [mm_cv]⟩)
  exact lv_iinc (k := q) X.1 X.2.1 hd (mm_Lh_has hL) hq rfl hn rfl (fun ls1 hl1 => K _ _ μ κ h ad cA H locs ls1 hE hR (mm_Lh_s1 (u := .int (x + Int32.ofInt n)) hl1) h1 h2)
theorem mm_ii_v {f} {k : mm_K} {lv : mm_L} {st : List Value} {μ : mm_M} {κ : Nat × Nat} (h : mm_ii f k lv st μ κ) : ∃ x y st1, st = .int y :: .int x :: st1 ∧ k lv (.int (f x y) :: st1) μ κ := by
  unfold mm_ii at h
  split at h
  · exact ⟨_, _, _, rfl, h⟩
  · exact h.elim
theorem mm_ll_v {f} {k : mm_K} {lv : mm_L} {st : List Value} {μ : mm_M} {κ : Nat × Nat} (h : mm_ll f k lv st μ κ) : ∃ x y st1, st = .long y :: .long x :: st1 ∧ k lv (.long (f x y) :: st1) μ κ := by
  unfold mm_ll at h
  split at h
  · exact ⟨_, _, _, rfl, h⟩
  · exact h.elim
theorem mm_ld_v {f} {k : mm_K} {lv : mm_L} {st : List Value} {μ : mm_M} {κ : Nat × Nat} (h : mm_ld f k lv st μ κ) : ∃ x y st1, st = .long y :: .long x :: st1 ∧ ¬ y = 0 ∧ k lv (.long (f x y) :: st1) μ κ := by
  unfold mm_ld at h
  split at h
  · exact ⟨_, _, _, rfl, h⟩
  · exact h.elim
theorem mm_ls_v {f} {k : mm_K} {lv : mm_L} {st : List Value} {μ : mm_M} {κ : Nat × Nat} (h : mm_ls f k lv st μ κ) : ∃ x y st1, st = .int y :: .long x :: st1 ∧ k lv (.long (f x y) :: st1) μ κ := by
  unfold mm_ls at h
  split at h
  · exact ⟨_, _, _, rfl, h⟩
  · exact h.elim
theorem so_iadd (X : mm_cx p R s m args c cc own Ts A D cl nL) (hd : decode cc pc = .ok (.iadd, 1)) (K : mm_SK p l e R s m args below meth c Qw D cl A nL EX (pc + 1) k) : mm_SK p l e R s m args below meth c Qw D cl A nL EX pc (mm_ii (fun x y => x + y) k) := by
  intro lv st μ κ h ad cA H locs ls hE hR hL h1 h2
  obtain ⟨x, y, st, rfl, h⟩ := mm_ii_v h
  exact lv_iadd X.1 X.2.1 hd (K lv _ μ κ h ad cA H locs ls hE hR hL h1 h2)
theorem so_isub (X : mm_cx p R s m args c cc own Ts A D cl nL) (hd : decode cc pc = .ok (.isub, 1)) (K : mm_SK p l e R s m args below meth c Qw D cl A nL EX (pc + 1) k) : mm_SK p l e R s m args below meth c Qw D cl A nL EX pc (mm_ii (fun x y => x - y) k) := by
  intro lv st μ κ h ad cA H locs ls hE hR hL h1 h2
  obtain ⟨x, y, st, rfl, h⟩ := mm_ii_v h
  exact lv_isub X.1 X.2.1 hd (K lv _ μ κ h ad cA H locs ls hE hR hL h1 h2)
theorem so_imul (X : mm_cx p R s m args c cc own Ts A D cl nL) (hd : decode cc pc = .ok (.imul, 1)) (K : mm_SK p l e R s m args below meth c Qw D cl A nL EX (pc + 1) k) : mm_SK p l e R s m args below meth c Qw D cl A nL EX pc (mm_ii (fun x y => x * y) k) := by
  intro lv st μ κ h ad cA H locs ls hE hR hL h1 h2
  obtain ⟨x, y, st, rfl, h⟩ := mm_ii_v h
  exact lv_imul X.1 X.2.1 hd (K lv _ μ κ h ad cA H locs ls hE hR hL h1 h2)
theorem so_iand (X : mm_cx p R s m args c cc own Ts A D cl nL) (hd : decode cc pc = .ok (.iand, 1)) (K : mm_SK p l e R s m args below meth c Qw D cl A nL EX (pc + 1) k) : mm_SK p l e R s m args below meth c Qw D cl A nL EX pc (mm_ii (fun x y => x &&& y) k) := by
  intro lv st μ κ h ad cA H locs ls hE hR hL h1 h2
  obtain ⟨x, y, st, rfl, h⟩ := mm_ii_v h
  exact lv_iand X.1 X.2.1 hd (K lv _ μ κ h ad cA H locs ls hE hR hL h1 h2)
theorem so_ior (X : mm_cx p R s m args c cc own Ts A D cl nL) (hd : decode cc pc = .ok (.ior, 1)) (K : mm_SK p l e R s m args below meth c Qw D cl A nL EX (pc + 1) k) : mm_SK p l e R s m args below meth c Qw D cl A nL EX pc (mm_ii (fun x y => x ||| y) k) := by
  intro lv st μ κ h ad cA H locs ls hE hR hL h1 h2
  obtain ⟨x, y, st, rfl, h⟩ := mm_ii_v h
  exact lv_ior X.1 X.2.1 hd (K lv _ μ κ h ad cA H locs ls hE hR hL h1 h2)
theorem so_ixor (X : mm_cx p R s m args c cc own Ts A D cl nL) (hd : decode cc pc = .ok (.ixor, 1)) (K : mm_SK p l e R s m args below meth c Qw D cl A nL EX (pc + 1) k) : mm_SK p l e R s m args below meth c Qw D cl A nL EX pc (mm_ii (fun x y => x ^^^ y) k) := by
  intro lv st μ κ h ad cA H locs ls hE hR hL h1 h2
  obtain ⟨x, y, st, rfl, h⟩ := mm_ii_v h
  exact lv_ixor X.1 X.2.1 hd (K lv _ μ κ h ad cA H locs ls hE hR hL h1 h2)
theorem so_ishl (X : mm_cx p R s m args c cc own Ts A D cl nL) (hd : decode cc pc = .ok (.ishl, 1)) (K : mm_SK p l e R s m args below meth c Qw D cl A nL EX (pc + 1) k) : mm_SK p l e R s m args below meth c Qw D cl A nL EX pc (mm_ii (fun x y => x <<< (y &&& 31)) k) := by
  intro lv st μ κ h ad cA H locs ls hE hR hL h1 h2
  obtain ⟨x, y, st, rfl, h⟩ := mm_ii_v h
  exact lv_ishl X.1 X.2.1 hd (K lv _ μ κ h ad cA H locs ls hE hR hL h1 h2)
theorem so_ishr (X : mm_cx p R s m args c cc own Ts A D cl nL) (hd : decode cc pc = .ok (.ishr, 1)) (K : mm_SK p l e R s m args below meth c Qw D cl A nL EX (pc + 1) k) : mm_SK p l e R s m args below meth c Qw D cl A nL EX pc (mm_ii (fun x y => x >>> (y &&& 31)) k) := by
  intro lv st μ κ h ad cA H locs ls hE hR hL h1 h2
  obtain ⟨x, y, st, rfl, h⟩ := mm_ii_v h
  exact lv_ishr X.1 X.2.1 hd (K lv _ μ κ h ad cA H locs ls hE hR hL h1 h2)
theorem so_iushr (X : mm_cx p R s m args c cc own Ts A D cl nL) (hd : decode cc pc = .ok (.iushr, 1)) (K : mm_SK p l e R s m args below meth c Qw D cl A nL EX (pc + 1) k) : mm_SK p l e R s m args below meth c Qw D cl A nL EX pc (mm_ii (fun x y => (x.toUInt32 >>> (y.toUInt32 &&& Int32.toUInt32 31)).toInt32) k) := by
  intro lv st μ κ h ad cA H locs ls hE hR hL h1 h2
  obtain ⟨x, y, st, rfl, h⟩ := mm_ii_v h
  exact lv_iushr X.1 X.2.1 hd rfl (K lv _ μ κ h ad cA H locs ls hE hR hL h1 h2)
theorem so_ladd (X : mm_cx p R s m args c cc own Ts A D cl nL) (hd : decode cc pc = .ok (.ladd, 1)) (K : mm_SK p l e R s m args below meth c Qw D cl A nL EX (pc + 1) k) : mm_SK p l e R s m args below meth c Qw D cl A nL EX pc (mm_ll (fun x y => x + y) k) := by
  intro lv st μ κ h ad cA H locs ls hE hR hL h1 h2
  obtain ⟨x, y, st, rfl, h⟩ := mm_ll_v h
  exact lv_ladd X.1 X.2.1 hd (K lv _ μ κ h ad cA H locs ls hE hR hL h1 h2)
theorem so_lsub (X : mm_cx p R s m args c cc own Ts A D cl nL) (hd : decode cc pc = .ok (.lsub, 1)) (K : mm_SK p l e R s m args below meth c Qw D cl A nL EX (pc + 1) k) : mm_SK p l e R s m args below meth c Qw D cl A nL EX pc (mm_ll (fun x y => x - y) k) := by
  intro lv st μ κ h ad cA H locs ls hE hR hL h1 h2
  obtain ⟨x, y, st, rfl, h⟩ := mm_ll_v h
  exact lv_lsub X.1 X.2.1 hd (K lv _ μ κ h ad cA H locs ls hE hR hL h1 h2)
theorem so_lmul (X : mm_cx p R s m args c cc own Ts A D cl nL) (hd : decode cc pc = .ok (.lmul, 1)) (K : mm_SK p l e R s m args below meth c Qw D cl A nL EX (pc + 1) k) : mm_SK p l e R s m args below meth c Qw D cl A nL EX pc (mm_ll (fun x y => x * y) k) := by
  intro lv st μ κ h ad cA H locs ls hE hR hL h1 h2
  obtain ⟨x, y, st, rfl, h⟩ := mm_ll_v h
  exact lv_lmul X.1 X.2.1 hd (K lv _ μ κ h ad cA H locs ls hE hR hL h1 h2)
theorem so_land (X : mm_cx p R s m args c cc own Ts A D cl nL) (hd : decode cc pc = .ok (.land, 1)) (K : mm_SK p l e R s m args below meth c Qw D cl A nL EX (pc + 1) k) : mm_SK p l e R s m args below meth c Qw D cl A nL EX pc (mm_ll (fun x y => x &&& y) k) := by
  intro lv st μ κ h ad cA H locs ls hE hR hL h1 h2
  obtain ⟨x, y, st, rfl, h⟩ := mm_ll_v h
  exact lv_land X.1 X.2.1 hd (K lv _ μ κ h ad cA H locs ls hE hR hL h1 h2)
theorem so_lor (X : mm_cx p R s m args c cc own Ts A D cl nL) (hd : decode cc pc = .ok (.lor, 1)) (K : mm_SK p l e R s m args below meth c Qw D cl A nL EX (pc + 1) k) : mm_SK p l e R s m args below meth c Qw D cl A nL EX pc (mm_ll (fun x y => x ||| y) k) := by
  intro lv st μ κ h ad cA H locs ls hE hR hL h1 h2
  obtain ⟨x, y, st, rfl, h⟩ := mm_ll_v h
  exact lv_lor X.1 X.2.1 hd (K lv _ μ κ h ad cA H locs ls hE hR hL h1 h2)
theorem so_ldiv (X : mm_cx p R s m args c cc own Ts A D cl nL) (hd : decode cc pc = .ok (.ldiv, 1)) (K : mm_SK p l e R s m args below meth c Qw D cl A nL EX (pc + 1) k) : mm_SK p l e R s m args below meth c Qw D cl A nL EX pc (mm_ld (fun x y => x / y) k) := by
  intro lv st μ κ h ad cA H locs ls hE hR hL h1 h2
  obtain ⟨x, y, st, rfl, h0, h⟩ := mm_ld_v h
  exact lv_ldiv X.1 X.2.1 hd h0 (K lv _ μ κ h ad cA H locs ls hE hR hL h1 h2)
theorem so_lrem (X : mm_cx p R s m args c cc own Ts A D cl nL) (hd : decode cc pc = .ok (.lrem, 1)) (K : mm_SK p l e R s m args below meth c Qw D cl A nL EX (pc + 1) k) : mm_SK p l e R s m args below meth c Qw D cl A nL EX pc (mm_ld (fun x y => x - x / y * y) k) := by
  intro lv st μ κ h ad cA H locs ls hE hR hL h1 h2
  obtain ⟨x, y, st, rfl, h0, h⟩ := mm_ld_v h
  exact lv_lrem X.1 X.2.1 hd h0 (K lv _ μ κ h ad cA H locs ls hE hR hL h1 h2)
theorem so_lushr (X : mm_cx p R s m args c cc own Ts A D cl nL) (hd : decode cc pc = .ok (.lushr, 1)) (K : mm_SK p l e R s m args below meth c Qw D cl A nL EX (pc + 1) k) : mm_SK p l e R s m args below meth c Qw D cl A nL EX pc (mm_ls (fun x y => (x.toUInt64 >>> (y.toInt64.toUInt64 &&& Int64.toUInt64 63)).toInt64) k) := by
  intro lv st μ κ h ad cA H locs ls hE hR hL h1 h2
  obtain ⟨x, y, st, rfl, h⟩ := mm_ls_v h
  exact lv_lushr X.1 X.2.1 hd rfl (K lv _ μ κ h ad cA H locs ls hE hR hL h1 h2)
theorem so_lshl (X : mm_cx p R s m args c cc own Ts A D cl nL) (hd : decode cc pc = .ok (.lshl, 1)) (K : mm_SK p l e R s m args below meth c Qw D cl A nL EX (pc + 1) k) : mm_SK p l e R s m args below meth c Qw D cl A nL EX pc (mm_ls (fun x y => x <<< (y.toInt64 &&& 63)) k) := by
  intro lv st μ κ h ad cA H locs ls hE hR hL h1 h2
  obtain ⟨x, y, st, rfl, h⟩ := mm_ls_v h
  exact lv_lshl X.1 X.2.1 hd rfl (K lv _ μ κ h ad cA H locs ls hE hR hL h1 h2)
theorem so_lshr (X : mm_cx p R s m args c cc own Ts A D cl nL) (hd : decode cc pc = .ok (.lshr, 1)) (K : mm_SK p l e R s m args below meth c Qw D cl A nL EX (pc + 1) k) : mm_SK p l e R s m args below meth c Qw D cl A nL EX pc (mm_ls (fun x y => x >>> (y.toInt64 &&& 63)) k) := by
  intro lv st μ κ h ad cA H locs ls hE hR hL h1 h2
  obtain ⟨x, y, st, rfl, h⟩ := mm_ls_v h
  exact lv_lshr X.1 X.2.1 hd rfl (K lv _ μ κ h ad cA H locs ls hE hR hL h1 h2)
theorem mm_i1_v {f} {k : mm_K} {lv : mm_L} {st : List Value} {μ : mm_M} {κ : Nat × Nat} (h : mm_i1 f k lv st μ κ) : ∃ x st1, st = .int x :: st1 ∧ k lv (.int (f x) :: st1) μ κ := by
  unfold mm_i1 at h
  split at h
  · exact ⟨_, _, rfl, h⟩
  · exact h.elim
theorem mm_l1_v {f} {k : mm_K} {lv : mm_L} {st : List Value} {μ : mm_M} {κ : Nat × Nat} (h : mm_l1 f k lv st μ κ) : ∃ x st1, st = .long x :: st1 ∧ k lv (.long (f x) :: st1) μ κ := by
  unfold mm_l1 at h
  split at h
  · exact ⟨_, _, rfl, h⟩
  · exact h.elim
theorem so_i2b (X : mm_cx p R s m args c cc own Ts A D cl nL) (hd : decode cc pc = .ok (.i2b, 1)) (K : mm_SK p l e R s m args below meth c Qw D cl A nL EX (pc + 1) k) : mm_SK p l e R s m args below meth c Qw D cl A nL EX pc (mm_i1 (fun x => x.toInt8.toInt32) k) := by
  intro lv st μ κ h ad cA H locs ls hE hR hL h1 h2
  obtain ⟨x, st, rfl, h⟩ := mm_i1_v h
  exact lv_i2b X.1 X.2.1 hd rfl (K lv _ μ κ h ad cA H locs ls hE hR hL h1 h2)
theorem so_lneg (X : mm_cx p R s m args c cc own Ts A D cl nL) (hd : decode cc pc = .ok (.lneg, 1)) (K : mm_SK p l e R s m args below meth c Qw D cl A nL EX (pc + 1) k) : mm_SK p l e R s m args below meth c Qw D cl A nL EX pc (mm_l1 (fun x => -x) k) := by
  intro lv st μ κ h ad cA H locs ls hE hR hL h1 h2
  obtain ⟨x, st, rfl, h⟩ := mm_l1_v h
  exact lv_lneg X.1 X.2.1 hd (K lv _ μ κ h ad cA H locs ls hE hR hL h1 h2)
theorem so_i2l (X : mm_cx p R s m args c cc own Ts A D cl nL) (hd : decode cc pc = .ok (.i2l, 1)) (K : mm_SK p l e R s m args below meth c Qw D cl A nL EX (pc + 1) k) : mm_SK p l e R s m args below meth c Qw D cl A nL EX pc (mm_i2l k) := by
  intro lv st μ κ h ad cA H locs ls hE hR hL h1 h2
  unfold mm_i2l at h
  split at h
  · exact lv_i2l X.1 X.2.1 hd rfl (K lv _ μ κ h ad cA H locs ls hE hR hL h1 h2)
  · exact h.elim
theorem so_l2i (X : mm_cx p R s m args c cc own Ts A D cl nL) (hd : decode cc pc = .ok (.l2i, 1)) (K : mm_SK p l e R s m args below meth c Qw D cl A nL EX (pc + 1) k) : mm_SK p l e R s m args below meth c Qw D cl A nL EX pc (mm_l2i k) := by
  intro lv st μ κ h ad cA H locs ls hE hR hL h1 h2
  unfold mm_l2i at h
  split at h
  · exact lv_l2i X.1 X.2.1 hd rfl (K lv _ μ κ h ad cA H locs ls hE hR hL h1 h2)
  · exact h.elim
theorem so_lcmp (X : mm_cx p R s m args c cc own Ts A D cl nL) (hd : decode cc pc = .ok (.lcmp, 1)) (K : mm_SK p l e R s m args below meth c Qw D cl A nL EX (pc + 1) k) : mm_SK p l e R s m args below meth c Qw D cl A nL EX pc (mm_cmp k) := by
  intro lv st μ κ h ad cA H locs ls hE hR hL h1 h2
  unfold mm_cmp at h
  split at h
  · exact W.lcmp X.1 X.2.1 hd (K lv _ μ κ h ad cA H locs ls hE hR hL h1 h2)
  · exact h.elim
theorem so_dup (X : mm_cx p R s m args c cc own Ts A D cl nL) (hd : decode cc pc = .ok (.dup, 1)) (K : mm_SK p l e R s m args below meth c Qw D cl A nL EX (pc + 1) k) : mm_SK p l e R s m args below meth c Qw D cl A nL EX pc (mm_dup k) := by
  intro lv st μ κ h ad cA H locs ls hE hR hL h1 h2
  unfold mm_dup at h
  split at h
  · exact lv_dup X.1 X.2.1 hd ((mm_cv_cat ad _).trans h.1) (K lv _ μ κ h.2 ad cA H locs ls hE hR hL h1 h2)
  · exact h.elim
theorem so_dup2 (X : mm_cx p R s m args c cc own Ts A D cl nL) (hd : decode cc pc = .ok (.dup2, 1)) (K : mm_SK p l e R s m args below meth c Qw D cl A nL EX (pc + 1) k) : mm_SK p l e R s m args below meth c Qw D cl A nL EX pc (mm_dup2 k) := by
  intro lv st μ κ h ad cA H locs ls hE hR hL h1 h2
  unfold mm_dup2 at h
  split at h
  · exact lv_dup2_11 X.1 X.2.1 hd ((mm_cv_cat ad _).trans h.1) ((mm_cv_cat ad _).trans h.2.1) (K lv _ μ κ h.2.2 ad cA H locs ls hE hR hL h1 h2)
  · exact h.elim
theorem so_if_eq (X : mm_cx p R s m args c cc own Ts A D cl nL) {off : Int} {tgt t : Nat} (hd : decode cc pc = .ok (.ifCond .eq off, 3)) (ht : (pc : Int) + off = (tgt : Int)) (hJ : mm_SK p l e R s m args below meth c Qw D cl A nL EX tgt (J t)) (K : mm_SK p l e R s m args below meth c Qw D cl A nL EX (pc + 3) k) : mm_SK p l e R s m args below meth c Qw D cl A nL EX pc (mm_ifc .eq t J k) := by
  intro lv st μ κ h ad cA H locs ls hE hR hL h1 h2
  unfold mm_ifc mm_br at h
  simp only at h
  split at h
  · exact lv_if_eq X.1 X.2.1 hd ht (fun q => hJ lv _ μ κ (h.1 q) ad cA H locs ls hE hR hL h1 h2) (fun q => K lv _ μ κ (h.2 q) ad cA H locs ls hE hR hL h1 h2)
  · exact h.elim
theorem so_icmp_eq (X : mm_cx p R s m args c cc own Ts A D cl nL) {off : Int} {tgt t : Nat} (hd : decode cc pc = .ok (.if_icmp .eq off, 3)) (ht : (pc : Int) + off = (tgt : Int)) (hJ : mm_SK p l e R s m args below meth c Qw D cl A nL EX tgt (J t)) (K : mm_SK p l e R s m args below meth c Qw D cl A nL EX (pc + 3) k) : mm_SK p l e R s m args below meth c Qw D cl A nL EX pc (mm_icm .eq t J k) := by
  intro lv st μ κ h ad cA H locs ls hE hR hL h1 h2
  unfold mm_icm mm_br2 at h
  simp only at h
  split at h
  · exact lv_icmp_eq X.1 X.2.1 hd ht (fun q => hJ lv _ μ κ (h.1 q) ad cA H locs ls hE hR hL h1 h2) (fun q => K lv _ μ κ (h.2 q) ad cA H locs ls hE hR hL h1 h2)
  · exact h.elim
theorem so_if_ne (X : mm_cx p R s m args c cc own Ts A D cl nL) {off : Int} {tgt t : Nat} (hd : decode cc pc = .ok (.ifCond .ne off, 3)) (ht : (pc : Int) + off = (tgt : Int)) (hJ : mm_SK p l e R s m args below meth c Qw D cl A nL EX tgt (J t)) (K : mm_SK p l e R s m args below meth c Qw D cl A nL EX (pc + 3) k) : mm_SK p l e R s m args below meth c Qw D cl A nL EX pc (mm_ifc .ne t J k) := by
  intro lv st μ κ h ad cA H locs ls hE hR hL h1 h2
  unfold mm_ifc mm_br at h
  simp only at h
  split at h
  · exact lv_if_ne X.1 X.2.1 hd ht (fun q => hJ lv _ μ κ (h.1 q) ad cA H locs ls hE hR hL h1 h2) (fun q => K lv _ μ κ (h.2 q) ad cA H locs ls hE hR hL h1 h2)
  · exact h.elim
theorem so_icmp_ne (X : mm_cx p R s m args c cc own Ts A D cl nL) {off : Int} {tgt t : Nat} (hd : decode cc pc = .ok (.if_icmp .ne off, 3)) (ht : (pc : Int) + off = (tgt : Int)) (hJ : mm_SK p l e R s m args below meth c Qw D cl A nL EX tgt (J t)) (K : mm_SK p l e R s m args below meth c Qw D cl A nL EX (pc + 3) k) : mm_SK p l e R s m args below meth c Qw D cl A nL EX pc (mm_icm .ne t J k) := by
  intro lv st μ κ h ad cA H locs ls hE hR hL h1 h2
  unfold mm_icm mm_br2 at h
  simp only at h
  split at h
  · exact lv_icmp_ne X.1 X.2.1 hd ht (fun q => hJ lv _ μ κ (h.1 q) ad cA H locs ls hE hR hL h1 h2) (fun q => K lv _ μ κ (h.2 q) ad cA H locs ls hE hR hL h1 h2)
  · exact h.elim
theorem so_if_lt (X : mm_cx p R s m args c cc own Ts A D cl nL) {off : Int} {tgt t : Nat} (hd : decode cc pc = .ok (.ifCond .lt off, 3)) (ht : (pc : Int) + off = (tgt : Int)) (hJ : mm_SK p l e R s m args below meth c Qw D cl A nL EX tgt (J t)) (K : mm_SK p l e R s m args below meth c Qw D cl A nL EX (pc + 3) k) : mm_SK p l e R s m args below meth c Qw D cl A nL EX pc (mm_ifc .lt t J k) := by
  intro lv st μ κ h ad cA H locs ls hE hR hL h1 h2
  unfold mm_ifc mm_br at h
  simp only at h
  split at h
  · exact lv_if_lt X.1 X.2.1 hd ht (fun q => hJ lv _ μ κ (h.1 q) ad cA H locs ls hE hR hL h1 h2) (fun q => K lv _ μ κ (h.2 q) ad cA H locs ls hE hR hL h1 h2)
  · exact h.elim
theorem so_icmp_lt (X : mm_cx p R s m args c cc own Ts A D cl nL) {off : Int} {tgt t : Nat} (hd : decode cc pc = .ok (.if_icmp .lt off, 3)) (ht : (pc : Int) + off = (tgt : Int)) (hJ : mm_SK p l e R s m args below meth c Qw D cl A nL EX tgt (J t)) (K : mm_SK p l e R s m args below meth c Qw D cl A nL EX (pc + 3) k) : mm_SK p l e R s m args below meth c Qw D cl A nL EX pc (mm_icm .lt t J k) := by
  intro lv st μ κ h ad cA H locs ls hE hR hL h1 h2
  unfold mm_icm mm_br2 at h
  simp only at h
  split at h
  · exact lv_icmp_lt X.1 X.2.1 hd ht (fun q => hJ lv _ μ κ (h.1 q) ad cA H locs ls hE hR hL h1 h2) (fun q => K lv _ μ κ (h.2 q) ad cA H locs ls hE hR hL h1 h2)
  · exact h.elim
theorem so_if_ge (X : mm_cx p R s m args c cc own Ts A D cl nL) {off : Int} {tgt t : Nat} (hd : decode cc pc = .ok (.ifCond .ge off, 3)) (ht : (pc : Int) + off = (tgt : Int)) (hJ : mm_SK p l e R s m args below meth c Qw D cl A nL EX tgt (J t)) (K : mm_SK p l e R s m args below meth c Qw D cl A nL EX (pc + 3) k) : mm_SK p l e R s m args below meth c Qw D cl A nL EX pc (mm_ifc .ge t J k) := by
  intro lv st μ κ h ad cA H locs ls hE hR hL h1 h2
  unfold mm_ifc mm_br at h
  simp only at h
  split at h
  · exact lv_if_ge X.1 X.2.1 hd ht (fun q => hJ lv _ μ κ (h.1 q) ad cA H locs ls hE hR hL h1 h2) (fun q => K lv _ μ κ (h.2 q) ad cA H locs ls hE hR hL h1 h2)
  · exact h.elim
theorem so_icmp_ge (X : mm_cx p R s m args c cc own Ts A D cl nL) {off : Int} {tgt t : Nat} (hd : decode cc pc = .ok (.if_icmp .ge off, 3)) (ht : (pc : Int) + off = (tgt : Int)) (hJ : mm_SK p l e R s m args below meth c Qw D cl A nL EX tgt (J t)) (K : mm_SK p l e R s m args below meth c Qw D cl A nL EX (pc + 3) k) : mm_SK p l e R s m args below meth c Qw D cl A nL EX pc (mm_icm .ge t J k) := by
  intro lv st μ κ h ad cA H locs ls hE hR hL h1 h2
  unfold mm_icm mm_br2 at h
  simp only at h
  split at h
  · exact lv_icmp_ge X.1 X.2.1 hd ht (fun q => hJ lv _ μ κ (h.1 q) ad cA H locs ls hE hR hL h1 h2) (fun q => K lv _ μ κ (h.2 q) ad cA H locs ls hE hR hL h1 h2)
  · exact h.elim
theorem so_if_gt (X : mm_cx p R s m args c cc own Ts A D cl nL) {off : Int} {tgt t : Nat} (hd : decode cc pc = .ok (.ifCond .gt off, 3)) (ht : (pc : Int) + off = (tgt : Int)) (hJ : mm_SK p l e R s m args below meth c Qw D cl A nL EX tgt (J t)) (K : mm_SK p l e R s m args below meth c Qw D cl A nL EX (pc + 3) k) : mm_SK p l e R s m args below meth c Qw D cl A nL EX pc (mm_ifc .gt t J k) := by
  intro lv st μ κ h ad cA H locs ls hE hR hL h1 h2
  unfold mm_ifc mm_br at h
  simp only at h
  split at h
  · exact lv_if_gt X.1 X.2.1 hd ht (fun q => hJ lv _ μ κ (h.1 q) ad cA H locs ls hE hR hL h1 h2) (fun q => K lv _ μ κ (h.2 q) ad cA H locs ls hE hR hL h1 h2)
  · exact h.elim
theorem so_icmp_gt (X : mm_cx p R s m args c cc own Ts A D cl nL) {off : Int} {tgt t : Nat} (hd : decode cc pc = .ok (.if_icmp .gt off, 3)) (ht : (pc : Int) + off = (tgt : Int)) (hJ : mm_SK p l e R s m args below meth c Qw D cl A nL EX tgt (J t)) (K : mm_SK p l e R s m args below meth c Qw D cl A nL EX (pc + 3) k) : mm_SK p l e R s m args below meth c Qw D cl A nL EX pc (mm_icm .gt t J k) := by
  intro lv st μ κ h ad cA H locs ls hE hR hL h1 h2
  unfold mm_icm mm_br2 at h
  simp only at h
  split at h
  · exact lv_icmp_gt X.1 X.2.1 hd ht (fun q => hJ lv _ μ κ (h.1 q) ad cA H locs ls hE hR hL h1 h2) (fun q => K lv _ μ κ (h.2 q) ad cA H locs ls hE hR hL h1 h2)
  · exact h.elim
theorem so_if_le (X : mm_cx p R s m args c cc own Ts A D cl nL) {off : Int} {tgt t : Nat} (hd : decode cc pc = .ok (.ifCond .le off, 3)) (ht : (pc : Int) + off = (tgt : Int)) (hJ : mm_SK p l e R s m args below meth c Qw D cl A nL EX tgt (J t)) (K : mm_SK p l e R s m args below meth c Qw D cl A nL EX (pc + 3) k) : mm_SK p l e R s m args below meth c Qw D cl A nL EX pc (mm_ifc .le t J k) := by
  intro lv st μ κ h ad cA H locs ls hE hR hL h1 h2
  unfold mm_ifc mm_br at h
  simp only at h
  split at h
  · exact lv_if_le X.1 X.2.1 hd ht (fun q => hJ lv _ μ κ (h.1 q) ad cA H locs ls hE hR hL h1 h2) (fun q => K lv _ μ κ (h.2 q) ad cA H locs ls hE hR hL h1 h2)
  · exact h.elim
theorem so_icmp_le (X : mm_cx p R s m args c cc own Ts A D cl nL) {off : Int} {tgt t : Nat} (hd : decode cc pc = .ok (.if_icmp .le off, 3)) (ht : (pc : Int) + off = (tgt : Int)) (hJ : mm_SK p l e R s m args below meth c Qw D cl A nL EX tgt (J t)) (K : mm_SK p l e R s m args below meth c Qw D cl A nL EX (pc + 3) k) : mm_SK p l e R s m args below meth c Qw D cl A nL EX pc (mm_icm .le t J k) := by
  intro lv st μ κ h ad cA H locs ls hE hR hL h1 h2
  unfold mm_icm mm_br2 at h
  simp only at h
  split at h
  · exact lv_icmp_le X.1 X.2.1 hd ht (fun q => hJ lv _ μ κ (h.1 q) ad cA H locs ls hE hR hL h1 h2) (fun q => K lv _ μ κ (h.2 q) ad cA H locs ls hE hR hL h1 h2)
  · exact h.elim
theorem so_goto (X : mm_cx p R s m args c cc own Ts A D cl nL) {off : Int} {tgt t : Nat} (hd : decode cc pc = .ok (.goto off, 3)) (ht : (pc : Int) + off = (tgt : Int)) (hJ : mm_SK p l e R s m args below meth c Qw D cl A nL EX tgt (J t)) : mm_SK p l e R s m args below meth c Qw D cl A nL EX pc (mm_go t J) := by
  intro lv st μ κ h ad cA H locs ls hE hR hL h1 h2
  exact lv_goto X.1 X.2.1 hd ht (hJ lv _ μ κ h ad cA H locs ls hE hR hL h1 h2)
theorem so_fall (X : mm_cx p R s m args c cc own Ts A D cl nL) {t : Nat} (hJ : mm_SK p l e R s m args below meth c Qw D cl A nL EX pc (J t)) : mm_SK p l e R s m args below meth c Qw D cl A nL EX pc (mm_go t J) := hJ
theorem mm_sw_v {J : mm_J} {d : Nat} {x : Int32} {lv : mm_L} {st : List Value} {μ : mm_M} {κ : Nat × Nat} : ∀ (ts : List Nat) (lo : Int), mm_sw J d x lo ts lv st μ κ → ((x.toInt < lo ∨ lo + ts.length ≤ x.toInt) → J d lv st μ κ) ∧ ∀ (i t : Nat), ts[i]? = some t → x.toInt = lo + (i : Int) → J t lv st μ κ
  | [], lo, h => ⟨fun _ => h, fun i t q => by simp at q⟩
  | t0 :: ts, lo, h => by
    have ih := fun (q : ¬ x.toInt = lo) => mm_sw_v ts (lo + 1) (h.2 q)
    constructor
    · intro q
      refine (ih (by simp only [List.length_cons] at q; omega)).1 ?_
      simp only [List.length_cons] at q
      omega
    · intro i t q e
      cases i with
      | zero =>
        simp at q
        subst q
        exact h.1 (by simpa using e)
      | succ i =>
        simp only [List.getElem?_cons_succ] at q
        exact (ih (by omega)).2 i t q (by omega)
theorem so_tsw (X : mm_cx p R s m args c cc own Ts A D cl nL) {dflt lo hi : Int} {offs : Array Int} {len d dt : Nat} {ts tts : List Nat} (hd : decode cc pc = .ok (.tableswitch dflt lo hi offs, len)) (hdt : (pc : Int) + dflt = (dt : Int)) (hhi : hi = lo + ts.length - 1) (hJd : mm_SK p l e R s m args below meth c Qw D cl A nL EX dt (J d))
    (hts : ∀ (i t : Nat), ts[i]? = some t → ∃ (off : Int) (tgt : Nat), offs[i]? = some off ∧ (pc : Int) + off = (tgt : Int) ∧ mm_SK p l e R s m args below meth c Qw D cl A nL EX tgt (J t)) : mm_SK p l e R s m args below meth c Qw D cl A nL EX pc (mm_tsw J lo (d :: ts)) := by
  intro lv st μ κ h ad cA H locs ls hE hR hL h1 h2
  unfold mm_tsw at h
  split at h
  · rename_i x st d' ts' hxs
    cases hxs
    obtain ⟨g1, g2⟩ := mm_sw_v ts lo h
    by_cases q : x.toInt < lo ∨ hi < x.toInt
    · exact lv_tableOut X.1 X.2.1 hd q hdt (hJd lv _ μ κ (g1 (by omega)) ad cA H locs ls hE hR hL h1 h2)
    · have hi' : (x.toInt - lo).toNat < ts.length := by omega
      obtain ⟨off, tgt, o1, o2, o3⟩ := hts _ _ (List.getElem?_eq_getElem hi')
      exact lv_tableIn X.1 X.2.1 hd (by omega) (by omega) o1 o2 (o3 lv _ μ κ (g2 _ _ (List.getElem?_eq_getElem hi') (by omega)) ad cA H locs ls hE hR hL h1 h2)
  · exact h.elim
end
