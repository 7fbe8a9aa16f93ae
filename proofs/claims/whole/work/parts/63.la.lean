/-! a new row learned: what the class's clearing does, with whole numbers -/
theorem nd_len : ∀ (n : Nat) (l : List Nat), l.Nodup → (∀ p, p ∈ l → p < n) → l.length ≤ n
  | 0, [], _, _ => Nat.le_refl _
  | 0, x :: _, _, h => absurd (h x (by simp)) (by omega)
  | n + 1, l, hn, h => by
    have h1 := nd_len n (l.erase n) (hn.erase n) (fun p hp => by
      have h2 := h p (List.mem_of_mem_erase hp)
      have h3 : p ≠ n := fun e => by
        subst e
        exact (List.Nodup.not_mem_erase hn) hp
      omega)
    by_cases hm : n ∈ l
    · have := List.length_erase_of_mem hm; omega
    · rw [List.erase_of_not_mem hm] at h1; omega
theorem Pm_01 {v : VV} (h : is01 v) : Pm v ∨ ∀ j, v j = 0 := by
  by_cases hz : ∀ j, v j = 0
  · exact Or.inr hz
  · refine Or.inl (fun d hd => ?_)
    obtain ⟨j, hj⟩ := Classical.not_forall.mp hz
    have := hd j
    rw [(h j).resolve_left hj] at this
    exact this
theorem Dt_b {B : List VV} {P : List Nat} (hB : ∀ b, b ∈ B → is01 b) (hG : Gd B P) (hl : P.length ≤ 12) : (Dt P B).natAbs ≤ 479001600 :=
  Nat.le_trans (Dt_le hB) (fb_le _ (by rw [Gd_len hG]; omega) _ (by omega))
/-- the unit row of a pivot, with the determinant there -/
theorem y_ex {B : List VV} {P : List Nat} {p : Nat} (hG : Gd B P) (hB : ∀ b, b ∈ B → is01 b) (hl : P.length ≤ 12) (hp : p ∈ P) : ∃ y : VV, Sp B y ∧ y p = Dt P B ∧ (∀ q, q ∈ P → q ≠ p → y q = 0) ∧ ∀ j, (y j).natAbs ≤ 479001600 := by
  obtain ⟨s, hs, he⟩ := Dt_front hp
  have hy : Sp B (fun j => Dt (j :: P.erase p) B) := Sp_Ex B (fun S => Dt (P.erase p) S)
  refine ⟨fun j => s * Dt (j :: P.erase p) B + 0 * Dt (j :: P.erase p) B, Sp_lin _ _ hy hy, ?_, fun q hq e => ?_, fun j => ?_⟩
  · rw [he B]; simp
  · show s * Dt (q :: P.erase p) B + 0 * Dt (q :: P.erase p) B = 0
    rw [Dt_rep ((List.mem_erase_of_ne e).mpr hq)]; simp
  · have h1 : (Dt (j :: P.erase p) B).natAbs ≤ 479001600 := Nat.le_trans (Dt_le (P := j :: P.erase p) (R := B) hB) (fb_le _ (by rw [Gd_len hG]; omega) _ (by have := List.length_erase_of_mem hp; simp; omega))
    rcases hs with rfl | rfl <;> simp <;> exact h1
/-- the new row, while it is cleared: bounded by a row of whole numbers -/
def S1 (B : List VV) (P : List Nat) (v cur : VV) (i : Nat) : Prop :=
  (∃ (x : VV) (a b : Int), a ≠ 0 ∧ b ≠ 0 ∧ (∀ j, a * cur j = b * x j) ∧ (∀ j, (x j).natAbs ≤ 479001600 * (i + 1)) ∧ (∀ q, q ∈ P → i ≤ q → x q = Dt P B * v q) ∧ ∀ q, q ∈ P → q < i → x q = 0) ∧
  (Pm cur ∨ ∀ j, cur j = 0) ∧ ∃ α β : Int, α ≠ 0 ∧ β ≠ 0 ∧ Sp B (fun j => α * v j - β * cur j)
theorem S1_0 {B : List VV} {P : List Nat} {v : VV} (hG : Gd B P) (hB : ∀ b, b ∈ B → is01 b) (hl : P.length ≤ 12) (hv : is01 v) : S1 B P v v 0 := by
  refine ⟨⟨fun j => Dt P B * v j, Dt P B, 1, Gd_ne hG, by decide, fun j => by simp, fun j => ?_, fun q _ _ => rfl, fun q _ h => absurd h (Nat.not_lt_zero _)⟩, Pm_01 hv, 1, 1, by decide, by decide, Sp_ext (fun j => by simp) Sp_zero⟩
  have h1 := Dt_b hB hG hl
  show (Dt P B * v j).natAbs ≤ 479001600 * (0 + 1)
  rcases hv j with e | e <;> rw [e] <;> simp
  exact h1
theorem S1_le {B : List VV} {P : List Nat} {v cur : VV} {i : Nat} (h : S1 B P v cur i) : ∀ j, (cur j).natAbs ≤ 479001600 * (i + 1) := by
  obtain ⟨⟨x, a, b, ha, hb, e, hx, -, -⟩, hp, -⟩ := h
  intro j
  rcases hp with hp | hp
  · obtain ⟨m, hm, hw⟩ := Pm_dv hp hb e
    exact Nat.le_trans (le_mul (fun q => ha (by rw [hm, q]; simp)) (hw j)) (hx j)
  · rw [hp j]; simp
theorem S1_skip {B : List VV} {P : List Nat} {v cur : VV} {i : Nat} (h : S1 B P v cur i) (hi : i ∉ P ∨ cur i = 0) : S1 B P v cur (i + 1) := by
  obtain ⟨⟨x, a, b, ha, hb, e, hx, h1, h2⟩, hp, hs⟩ := h
  refine ⟨⟨x, a, b, ha, hb, e, fun j => by have := hx j; omega, fun q hq hle => h1 q hq (by omega), fun q hq hlt => ?_⟩, hp, hs⟩
  by_cases hqi : q = i
  · subst hqi
    rcases hi with hi | hi
    · exact absurd hq hi
    · have h3 := e q
      rw [hi, Int.mul_zero] at h3
      exact (Int.mul_eq_zero.mp h3.symm).resolve_left hb
  · exact h2 q hq (by omega)
theorem S1_clear {B : List VV} {P : List Nat} {v cur cur' r : VV} {i : Nat} (hG : Gd B P) (hB : ∀ b, b ∈ B → is01 b) (hl : P.length ≤ 12) (hv : is01 v) (h : S1 B P v cur i) (hi : i ∈ P) (hr : Sp B r) (hrp : r i ≠ 0) (hr0 : ∀ q, q ∈ P → q ≠ i → r q = 0) (hc : Cl cur r i cur') : S1 B P v cur' (i + 1) := by
  obtain ⟨⟨x, a, b, ha, hb, e, hx, h1, h2⟩, hp, α, β, hα, hβ, hs⟩ := h
  obtain ⟨g, hg, hc1, hc2⟩ := hc
  obtain ⟨y, y1, y2, y3, y4⟩ := y_ex hG hB hl hi
  have hry : ∀ j, r j * Dt P B = r i * y j := fun j => by
    have h3 := Gd_ind hG (Sp_lin (Dt P B) (- r i) hr y1) (fun q hq => by
      show Dt P B * r q + - r i * y q = 0
      by_cases hqi : q = i
      · subst hqi; rw [y2]; grind
      · rw [hr0 q hq hqi, y3 q hq hqi]; simp) j
    have h4 : Dt P B * r j + - r i * y j = 0 := h3
    grind
  have hxi := h1 i hi (Nat.le_refl _)
  refine ⟨⟨fun j => x j - v i * y j, a * g, b * r i, Int.mul_ne_zero ha (by omega), Int.mul_ne_zero hb hrp, fun j => ?_, fun j => ?_, fun q hq hle => ?_, fun q hq hlt => ?_⟩, hc2, α * r i, β * g, Int.mul_ne_zero hα hrp, Int.mul_ne_zero hβ (by omega), ?_⟩
  · have c1 := hc1 j
    have c2 := e j
    have c3 := e i
    have c4 := hry j
    have k1 : a * g * cur' j = a * (cur j * r i - r j * cur i) := by rw [Int.mul_assoc, c1]
    have k2 : a * (cur j * r i - r j * cur i) = (a * cur j) * r i - r j * (a * cur i) := by grind
    rw [k1, k2, c2, c3, hxi]
    have k3 : r j * (b * (Dt P B * v i)) = b * v i * (r j * Dt P B) := by grind
    rw [k3, c4]
    grind
  · have q1 := hx j
    have q2 := y4 j
    show (x j - v i * y j).natAbs ≤ _
    rcases hv i with e0 | e0 <;> rw [e0]
    · simp; omega
    · simp; omega
  · show x q - v i * y q = _
    rw [y3 q hq (by omega), h1 q hq (by omega)]; simp
  · show x q - v i * y q = 0
    by_cases hqi : q = i
    · subst hqi; rw [hxi, y2]; grind
    · rw [y3 q hq hqi, h2 q hq (by omega)]; simp
  · refine Sp_ext (fun j => ?_) (Sp_lin (r i) (β * cur i) hs hr)
    show r i * (α * v j - β * cur j) + β * cur i * r j = α * r i * v j - β * g * cur' j
    have c1 := hc1 j
    rw [show β * g * cur' j = β * (g * cur' j) by grind, c1]
    grind
theorem S1_end {B : List VV} {P : List Nat} {v cur : VV} (h : S1 B P v cur 12) (hP : ∀ p, p ∈ P → p < 12) : ∀ q, q ∈ P → cur q = 0 := by
  obtain ⟨⟨x, a, b, ha, hb, e, hx, h1, h2⟩, -, -⟩ := h
  intro q hq
  have h3 := e q
  rw [h2 q hq (hP q hq), Int.mul_zero] at h3
  exact (Int.mul_eq_zero.mp h3).resolve_left ha
/-- the family's rows: f i is the row at the pivot i -/
def RDp (f : Nat → VV) (B : List VV) (P : List Nat) : Prop :=
  Gd B P ∧ (∀ b, b ∈ B → is01 b) ∧ (∀ p, p ∈ P → p < 12) ∧
  (∀ p, p ∈ P → Sp B (f p) ∧ 0 < f p p ∧ (∀ k, k < p → f p k = 0) ∧ (∀ q, q ∈ P → q ≠ p → f p q = 0) ∧ Pm (f p)) ∧
  ∀ i, i < 12 → i ∉ P → ∀ j, f i j = 0
def RD (f : Nat → VV) (T : List VV) : Prop := ∃ B P, RDp f B P ∧ ∀ z, Sp B z ↔ Sp T z
theorem RDp_len {f : Nat → VV} {B : List VV} {P : List Nat} (h : RDp f B P) : P.length ≤ 12 := nd_len 12 P (Gd_nd h.1) h.2.2.1
theorem RDp_cg {f f' : Nat → VV} {B : List VV} {P : List Nat} (h : RDp f B P) (e : ∀ i, i < 12 → f' i = f i) : RDp f' B P := by
  refine ⟨h.1, h.2.1, h.2.2.1, fun p hp => ?_, fun i hi hn => ?_⟩
  · rw [e p (h.2.2.1 p hp)]; exact h.2.2.2.1 p hp
  · rw [e i hi]; exact h.2.2.2.2 i hi hn
theorem RDp_le {f : Nat → VV} {B : List VV} {P : List Nat} (h : RDp f B P) {i : Nat} (hi : i < 12) : ∀ j, (f i j).natAbs ≤ 479001600 := by
  by_cases hp : i ∈ P
  · obtain ⟨h1, h2, h3, h4, h5⟩ := h.2.2.2.1 i hp
    exact piv_le h.1 h.2.1 (RDp_len h) hp h1 h4 (by omega) h5
  · intro j
    rw [h.2.2.2.2 i hi hp j]; simp
theorem RDp_piv {f : Nat → VV} {B : List VV} {P : List Nat} (h : RDp f B P) {i : Nat} (hi : i < 12) : i ∈ P ↔ f i i ≠ 0 := by
  constructor
  · intro hp
    have := (h.2.2.2.1 i hp).2.1
    omega
  · intro hn
    exact Classical.byContradiction fun q => hn (h.2.2.2.2 i hi q i)
theorem Sp_cg {B T : List VV} (b : VV) (h : ∀ z, Sp B z ↔ Sp T z) : ∀ z, Sp (b :: B) z ↔ Sp (b :: T) z := fun z => by
  constructor
  · rintro ⟨c, γ, z', hc, hz, e⟩; exact ⟨c, γ, z', hc, (h z').mp hz, e⟩
  · rintro ⟨c, γ, z', hc, hz, e⟩; exact ⟨c, γ, z', hc, (h z').mpr hz, e⟩
theorem RD_nil {f : Nat → VV} (h : ∀ i, i < 12 → ∀ j, f i j = 0) : RD f [] :=
  ⟨[], [], ⟨trivial, fun b hb => absurd hb (by simp), fun p hp => absurd hp (by simp), fun p hp => absurd hp (by simp), fun i hi _ => h i hi⟩, fun z => Iff.rfl⟩
/-- the new row was nothing new -/
theorem RD_same {f : Nat → VV} {B T : List VV} {P : List Nat} {v cur : VV} (h : RDp f B P) (hT : ∀ z, Sp B z ↔ Sp T z) (hs : S1 B P v cur 12) (h0 : ∀ j, cur j = 0) : RD f (v :: T) := by
  refine ⟨B, P, h, fun z => ?_⟩
  obtain ⟨-, -, α, β, hα, hβ, hsp⟩ := hs
  have hv : Sp B v := Sp_div hα hsp (fun j => by rw [h0 j]; simp)
  rw [hT z]
  refine ⟨fun q => Sp_up q, fun q => Sp_sub (fun b hb => ?_) q⟩
  rcases List.mem_cons.mp hb with rfl | hb
  · exact (hT _).mp hv
  · exact Sp_mem hb
/-- the new row has its own pivot -/
theorem RD_new {f f' : Nat → VV} {B T : List VV} {P : List Nat} {v cur : VV} {q : Nat} (h : RDp f B P) (hT : ∀ z, Sp B z ↔ Sp T z) (hv : is01 v) (hs : S1 B P v cur 12) (hq : q < 12) (hc0 : ∀ k, k < q → cur k = 0)
    (e : Int) (he : e ≠ 0) (hn : ∀ j, e * f' q j = cur j) (hn0 : 0 < f' q q) (hnp : Pm (f' q))
    (hlow : ∀ p, p ∈ P → p < q → Cl (f p) (f' q) q (f' p)) (hhigh : ∀ i, i < 12 → i ≠ q → (q < i ∨ i ∉ P) → f' i = f i) : RDp f' (v :: B) (q :: P) ∧ ∀ z, Sp (v :: B) z ↔ Sp (v :: T) z := by
  have hcP := S1_end hs h.2.2.1
  obtain ⟨-, -, α, β, hα, hβ, hsp⟩ := hs
  have hcq : cur q ≠ 0 := by rw [← hn q]; exact Int.mul_ne_zero he (by omega)
  have hqP : q ∉ P := fun hm => hcq (hcP q hm)
  have hw := wait_eq h.1 hsp hcP
  have hG : Gd (v :: B) (q :: P) := by
    refine ⟨h.1, fun hd => ?_⟩
    have h1 := hw q
    rw [show wv B P v q = 0 from hd, Int.mul_zero] at h1
    exact Int.mul_ne_zero (Gd_ne h.1) (Int.mul_ne_zero hβ hcq) h1
  have hnk : ∀ k, cur k = 0 → f' q k = 0 := fun k hk => by
    have h1 := hn k
    rw [hk] at h1
    exact (Int.mul_eq_zero.mp h1).resolve_left he
  have hscur : Sp (v :: B) (f' q) := by
    have h1 : Sp (v :: B) (fun j => α * v j + -1 * (α * v j - β * cur j)) := Sp_lin _ _ Sp_hd (Sp_up hsp)
    refine Sp_div (d := β * e) (Int.mul_ne_zero hβ he) h1 (fun j => ?_)
    rw [Int.mul_assoc, hn j]; grind
  refine ⟨⟨hG, fun b hb => ?_, fun p hp => ?_, fun p hp => ?_, fun i hi hn' j => ?_⟩, Sp_cg v hT⟩
  · rcases List.mem_cons.mp hb with rfl | hb
    · exact hv
    · exact h.2.1 b hb
  · rcases List.mem_cons.mp hp with rfl | hp
    · exact hq
    · exact h.2.2.1 p hp
  · rcases List.mem_cons.mp hp with rfl | hp
    · refine ⟨hscur, hn0, fun k hk => hnk k (hc0 k hk), fun p hp hne => ?_, hnp⟩
      exact hnk p (hcP p ((List.mem_cons.mp hp).resolve_left hne))
    · obtain ⟨r1, r2, r3, r4, r5⟩ := h.2.2.2.1 p hp
      have hpq : p ≠ q := fun e => hqP (e ▸ hp)
      by_cases hlt : p < q
      · obtain ⟨g, hg, c1, c2⟩ := hlow p hp hlt
        have hfqp : f' q p = 0 := hnk p (hcP p hp)
        have hz : ∀ k, f p k * f' q q - f' q k * f p q = 0 → f' p k = 0 := fun k hk => by
          have h1 := c1 k
          rw [hk] at h1
          exact (Int.mul_eq_zero.mp h1).resolve_left (by omega)
        have hpp : 0 < f' p p := by
          have h1 := c1 p
          rw [hfqp, Int.zero_mul, Int.sub_zero] at h1
          have h2 : 0 < g * f' p p := by rw [h1]; exact Int.mul_pos r2 hn0
          exact Int.pos_of_mul_pos_right h2 (by omega)
        refine ⟨?_, hpp, fun k hk => hz k ?_, fun p' hp' hne => hz p' ?_, ?_⟩
        · refine Sp_div (d := g) (by omega) (Sp_lin (f' q q) (- f p q) (Sp_up r1) hscur) (fun j => ?_)
          rw [c1 j]; grind
        · rw [r3 k hk, hnk k (hc0 k (by omega))]; simp
        · rcases List.mem_cons.mp hp' with rfl | hp'
          · grind
          · rw [r4 p' hp' hne, hnk p' (hcP p' hp')]; simp
        · rcases c2 with c2 | c2
          · exact c2
          · exact absurd (c2 p) (by omega)
      · have e1 := hhigh p (h.2.2.1 p hp) hpq (Or.inl (by omega))
        rw [e1]
        refine ⟨Sp_up r1, r2, r3, fun p' hp' hne => ?_, r5⟩
        rcases List.mem_cons.mp hp' with rfl | hp'
        · exact r3 _ (by omega)
        · exact r4 p' hp' hne
  · have h1 : i ≠ q := fun e => hn' (by simp [e])
    have h2 : i ∉ P := fun e => hn' (by simp [e])
    rw [hhigh i hi h1 (Or.inr h2)]
    exact h.2.2.2.2 i hi h2 j
