/-! the reference's reduction, with whole numbers -/
def Cm (v r : VV) (p : Nat) (v' : VV) : Prop := ∃ g : Int, g ≠ 0 ∧ (∀ j, g * v' j = v j * r p - r j * v p) ∧ (Pm v' ∨ ∀ j, v' j = 0)
theorem Cm_id {v r : VV} {p : Nat} (hr : r p ≠ 0) (hv : v p = 0) (hp : Pm v ∨ ∀ j, v j = 0) : Cm v r p v := ⟨r p, hr, fun j => by rw [hv]; grind, hp⟩
/-- n rows f, columns below o done, r pivots pv -/
def MI (T : List VV) (n o r : Nat) (f : Nat → VV) (pv : Nat → Nat) : Prop :=
  ∃ (a : Nat → VV) (B : List VV) (P : List Nat), (Gd B P ∧ P.length = r ∧ r ≤ n ∧ (∀ p, p ∈ P → p < o)) ∧ (∀ b, b ∈ B → b ∈ T) ∧ (∀ k, k < n → a k ∈ T) ∧ (∀ t, t ∈ T → ∃ k, k < n ∧ a k = t) ∧ (∀ k, k < r → Sp B (a k)) ∧
  (∀ k, k < r → pv k ∈ P ∧ Sp B (f k) ∧ f k (pv k) ≠ 0 ∧ (∀ j, j < pv k → f k j = 0) ∧ (∀ q, q ∈ P → q ≠ pv k → f k q = 0) ∧ Pm (f k)) ∧ (∀ p, p ∈ P → ∃ k, k < r ∧ pv k = p) ∧ (∀ k l, k < l → l < r → pv k < pv l) ∧
  (∀ k, r ≤ k → k < n → (∃ α β : Int, α ≠ 0 ∧ β ≠ 0 ∧ Sp B (fun j => α * a k j - β * f k j)) ∧ (∀ j, j < o → f k j = 0) ∧ (Pm (f k) ∨ ∀ j, f k j = 0))
theorem MI_0 {T : List VV} {n : Nat} {f : Nat → VV} {pv : Nat → Nat} (h1 : ∀ k, k < n → f k ∈ T) (h2 : ∀ t, t ∈ T → ∃ k, k < n ∧ f k = t) (h01 : ∀ t, t ∈ T → is01 t) : MI T n 0 0 f pv :=
  ⟨f, [], [], ⟨trivial, rfl, Nat.zero_le _, fun p hp => absurd hp (by simp)⟩, fun b hb => absurd hb (by simp), h1, h2, fun k hk => absurd hk (Nat.not_lt_zero _), fun k hk => absurd hk (Nat.not_lt_zero _), fun p hp => absurd hp (by simp), fun k l _ hl => absurd hl (Nat.not_lt_zero _),
    fun k _ hk => ⟨⟨1, 1, by decide, by decide, fun j => by simp⟩, fun j hj => absurd hj (Nat.not_lt_zero _), Pm_01 (h01 _ (h1 k hk))⟩⟩
theorem MI_cg {T : List VV} {n o r : Nat} {f f' : Nat → VV} {pv pv' : Nat → Nat} (h : MI T n o r f pv) (e : ∀ k, k < n → f' k = f k) (ep : ∀ k, k < r → pv' k = pv k) : MI T n o r f' pv' := by
  obtain ⟨a, B, P, ⟨h1, h2, h3, h4⟩, h5, h6, h7, h8, h9, h10, h11, h12⟩ := h
  refine ⟨a, B, P, ⟨h1, h2, h3, h4⟩, h5, h6, h7, h8, fun k hk => ?_, fun p hp => ?_, fun k l hk hl => ?_, fun k hk hn => ?_⟩
  · rw [e k (by omega), ep k hk]; exact h9 k hk
  · obtain ⟨k, hk, e'⟩ := h10 p hp; exact ⟨k, hk, by rw [ep k hk]; exact e'⟩
  · rw [ep k (by omega), ep l hl]; exact h11 k l hk hl
  · rw [e k hn]; exact h12 k hk hn
theorem MI_r {T : List VV} {n o r : Nat} {f : Nat → VV} {pv : Nat → Nat} (h : MI T n o r f pv) : r ≤ o ∧ r ≤ n := by
  obtain ⟨a, B, P, ⟨h1, h2, h3, h4⟩, -⟩ := h
  exact ⟨h2 ▸ nd_len o P (Gd_nd h1) h4, h3⟩
theorem MI_le {T : List VV} {n o r : Nat} {f : Nat → VV} {pv : Nat → Nat} (h : MI T n o r f pv) (h01 : ∀ t, t ∈ T → is01 t) (ho : o < 12) {k : Nat} (hk : k < n) : ∀ j, (f k j).natAbs ≤ 479001600 := by
  have hr := MI_r h
  obtain ⟨a, B, P, ⟨h1, h2, h3, h4⟩, h5, h6, h7, h8, h9, h10, h11, h12⟩ := h
  have hB : ∀ b, b ∈ B → is01 b := fun b hb => h01 b (h5 b hb)
  by_cases hkr : k < r
  · obtain ⟨q1, q2, q3, q4, q5, q6⟩ := h9 k hkr
    exact piv_le h1 hB (by omega) q1 q2 q5 q3 q6
  · obtain ⟨⟨α, β, hα, hβ, hs⟩, q2, q3⟩ := h12 k (by omega) hk
    exact wait_le h1 hB (h01 _ (h6 k hk)) (by omega) hα hβ hs (fun p hp => q2 p (h4 p hp)) q3
theorem MI_pm {T : List VV} {n o r : Nat} {f : Nat → VV} {pv : Nat → Nat} (h : MI T n o r f pv) {k : Nat} (hk : k < n) : Pm (f k) ∨ ∀ j, f k j = 0 := by
  obtain ⟨a, B, P, ⟨h1, h2, h3, h4⟩, h5, h6, h7, h8, h9, h10, h11, h12⟩ := h
  by_cases hkr : k < r
  · exact Or.inl (h9 k hkr).2.2.2.2.2
  · exact (h12 k (by omega) hk).2.2
theorem MI_skip {T : List VV} {n o r : Nat} {f : Nat → VV} {pv : Nat → Nat} (h : MI T n o r f pv) (h0 : ∀ k, r ≤ k → k < n → f k o = 0) : MI T n (o + 1) r f pv := by
  obtain ⟨a, B, P, ⟨h1, h2, h3, h4⟩, h5, h6, h7, h8, h9, h10, h11, h12⟩ := h
  refine ⟨a, B, P, ⟨h1, h2, h3, fun p hp => by have := h4 p hp; omega⟩, h5, h6, h7, h8, h9, h10, h11, fun k hk hn => ?_⟩
  obtain ⟨q1, q2, q3⟩ := h12 k hk hn
  refine ⟨q1, fun j hj => ?_, q3⟩
  by_cases e : j = o
  · rw [e]; exact h0 k hk hn
  · exact q2 j (by omega)
theorem MI_swap {T : List VV} {n o r s : Nat} {f f' : Nat → VV} {pv : Nat → Nat} (h : MI T n o r f pv) (hrs : r ≤ s) (hs : s < n) (e1 : f' r = f s) (e2 : f' s = f r) (e3 : ∀ k, k ≠ r → k ≠ s → f' k = f k) : MI T n o r f' pv := by
  obtain ⟨a, B, P, ⟨h1, h2, h3, h4⟩, h5, h6, h7, h8, h9, h10, h11, h12⟩ := h
  refine ⟨fun k => if k = r then a s else if k = s then a r else a k, B, P, ⟨h1, h2, h3, h4⟩, h5, fun k hk => ?_, fun t ht => ?_, fun k hk => ?_, fun k hk => ?_, h10, h11, fun k hk hn => ?_⟩
  · show (if k = r then a s else if k = s then a r else a k) ∈ T
    split
    · exact h6 s hs
    · split
      · exact h6 r (by omega)
      · exact h6 k hk
  · obtain ⟨k, hk, e⟩ := h7 t ht
    by_cases hkr : k = r
    · refine ⟨s, hs, ?_⟩
      show (if s = r then a s else if s = s then a r else a s) = t
      by_cases hsr : s = r
      · rw [if_pos hsr, hsr, ← hkr]; exact e
      · rw [if_neg hsr, if_pos rfl, ← hkr]; exact e
    · by_cases hks : k = s
      · exact ⟨r, by omega, by show (if r = r then a s else _) = t; rw [if_pos rfl, ← hks]; exact e⟩
      · exact ⟨k, hk, by show (if k = r then a s else if k = s then a r else a k) = t; rw [if_neg hkr, if_neg hks]; exact e⟩
  · show Sp B (if k = r then a s else if k = s then a r else a k)
    rw [if_neg (by omega), if_neg (by omega)]; exact h8 k hk
  · rw [e3 k (by omega) (by omega)]; exact h9 k hk
  · show (∃ α β : Int, α ≠ 0 ∧ β ≠ 0 ∧ Sp B (fun j => α * (if k = r then a s else if k = s then a r else a k) j - β * f' k j)) ∧ _
    by_cases hkr : k = r
    · rw [if_pos hkr, hkr, e1]; exact h12 s hrs hs
    · by_cases hks : k = s
      · rw [if_neg hkr, if_pos hks, hks, e2]; exact h12 r (Nat.le_refl _) (by omega)
      · rw [if_neg hkr, if_neg hks, e3 k hkr hks]; exact h12 k hk hn
theorem MI_piv {T : List VV} {n o r : Nat} {f f' : Nat → VV} {pv pv' : Nat → Nat} (h : MI T n o r f pv) (hr : r < n) (hro : f r o ≠ 0) (e1 : f' r = f r) (e2 : ∀ k, k < n → k ≠ r → Cm (f k) (f r) o (f' k)) (p1 : pv' r = o) (p2 : ∀ k, k < r → pv' k = pv k) : MI T n (o + 1) (r + 1) f' pv' := by
  obtain ⟨a, B, P, ⟨h1, h2, h3, h4⟩, h5, h6, h7, h8, h9, h10, h11, h12⟩ := h
  obtain ⟨⟨α, β, hα, hβ, hs⟩, z0, z1⟩ := h12 r (Nat.le_refl _) hr
  have hw := wait_eq h1 hs (fun p hp => z0 p (h4 p hp))
  have hG : Gd (a r :: B) (o :: P) := by
    refine ⟨h1, fun hd => ?_⟩
    have q := hw o
    rw [show wv B P (a r) o = 0 from hd, Int.mul_zero] at q
    exact Int.mul_ne_zero (Gd_ne h1) (Int.mul_ne_zero hβ hro) q
  have hfr : Sp (a r :: B) (f r) := by
    have q : Sp (a r :: B) (fun j => α * a r j + -1 * (α * a r j - β * f r j)) := Sp_lin _ _ Sp_hd (Sp_up hs)
    exact Sp_div hβ q (fun j => by grind)
  have hpm : Pm (f r) := by
    rcases z1 with z1 | z1
    · exact z1
    · exact absurd (z1 o) hro
  refine ⟨a, a r :: B, o :: P, ⟨hG, by simp [h2], by omega, fun p hp => ?_⟩, fun b hb => ?_, h6, h7, fun k hk => ?_, fun k hk => ?_, fun p hp => ?_, fun k l hk hl => ?_, fun k hk hn => ?_⟩
  · rcases List.mem_cons.mp hp with rfl | hp
    · omega
    · have := h4 p hp; omega
  · rcases List.mem_cons.mp hb with rfl | hb
    · exact h6 r hr
    · exact h5 b hb
  · by_cases e : k = r
    · rw [e]; exact Sp_hd
    · exact Sp_up (h8 k (by omega))
  · by_cases e : k = r
    · subst e
      rw [p1, e1]
      refine ⟨by simp, hfr, hro, z0, fun q hq hne => ?_, hpm⟩
      exact z0 q (h4 q ((List.mem_cons.mp hq).resolve_left hne))
    · have hkr : k < r := by omega
      obtain ⟨q1, q2, q3, q4, q5, q6⟩ := h9 k hkr
      obtain ⟨g, hg, c1, c2⟩ := e2 k (by omega) e
      have hpo := h4 _ q1
      rw [p2 k hkr]
      have hz : ∀ j, f k j * f r o - f r j * f k o = 0 → f' k j = 0 := fun j hj => by
        have q := c1 j
        rw [hj] at q
        exact (Int.mul_eq_zero.mp q).resolve_left hg
      have hnz : f' k (pv k) ≠ 0 := fun q => by
        have c := c1 (pv k)
        rw [q, z0 _ hpo, Int.zero_mul, Int.sub_zero, Int.mul_zero] at c
        exact Int.mul_ne_zero q3 hro c.symm
      refine ⟨by simp [q1], ?_, hnz, fun j hj => hz j ?_, fun q hq hne => hz q ?_, ?_⟩
      · refine Sp_div hg (Sp_lin (f r o) (- f k o) (Sp_up q2) hfr) (fun j => ?_)
        rw [c1 j]; grind
      · rw [q4 j hj, z0 j (by omega)]; simp
      · rcases List.mem_cons.mp hq with rfl | hq
        · grind
        · rw [q5 q hq hne, z0 q (h4 q hq)]; simp
      · rcases c2 with c2 | c2
        · exact c2
        · exact absurd (c2 _) hnz
  · rcases List.mem_cons.mp hp with rfl | hp
    · exact ⟨r, by omega, p1⟩
    · obtain ⟨k, hk, e⟩ := h10 p hp
      exact ⟨k, by omega, by rw [p2 k hk]; exact e⟩
  · by_cases e : l = r
    · rw [e, p1, p2 k (by omega)]
      exact h4 _ (h9 k (by omega)).1
    · rw [p2 k (by omega), p2 l (by omega)]; exact h11 k l hk (by omega)
  · obtain ⟨⟨α', β', hα', hβ', hs'⟩, y0, y1⟩ := h12 k (by omega) hn
    obtain ⟨g, hg, c1, c2⟩ := e2 k hn (by omega)
    refine ⟨⟨α' * f r o, β' * g, Int.mul_ne_zero hα' hro, Int.mul_ne_zero hβ' hg, ?_⟩, fun j hj => ?_, c2⟩
    · refine Sp_ext (fun j => ?_) (Sp_lin (f r o) (β' * f k o) (Sp_up hs') hfr)
      show f r o * (α' * a k j - β' * f k j) + β' * f k o * f r j = α' * f r o * a k j - β' * g * f' k j
      rw [show β' * g * f' k j = β' * (g * f' k j) by grind, c1 j]
      grind
    · have q := c1 j
      have hz : f k j * f r o - f r j * f k o = 0 := by
        by_cases e : j = o
        · subst e; grind
        · rw [y0 j (by omega), z0 j (by omega)]; simp
      rw [hz] at q
      exact (Int.mul_eq_zero.mp q).resolve_left hg
/-- the class's family f and the reference's rows g tell the same -/
def MT (f g : Nat → VV) (pv : Nat → Nat) (r : Nat) : Prop :=
  (∀ k, k < r → pv k < 12 ∧ f (pv k) (pv k) ≠ 0 ∧ ((∀ j, g k j = f (pv k) j) ∨ ∀ j, g k j = - f (pv k) j)) ∧ (∀ p, p < 12 → f p p ≠ 0 → ∃ k, k < r ∧ pv k = p) ∧ (∀ k l, k < l → l < r → pv k < pv l)
theorem Sp_col {T : List VV} {z : VV} {j : Nat} (h : ∀ t, t ∈ T → t j = 0) (hz : Sp T z) : z j = 0 := by
  induction T generalizing z with
  | nil => exact hz j
  | cons t T ih =>
    obtain ⟨c, γ, z', hc, hz', e⟩ := hz
    have h1 := e j
    rw [h t (by simp), ih (fun x hx => h x (by simp [hx])) hz'] at h1
    simp only [Int.mul_zero, Int.add_zero] at h1
    exact (Int.mul_eq_zero.mp h1).resolve_left hc
theorem MI_end {T : List VV} {n o r N : Nat} {f g : Nat → VV} {pv : Nat → Nat} (h : MI T n N r g pv) (hN : N ≤ 12) (h0 : ∀ k, k < n → ∀ j, N ≤ j → g k j = 0) (hf : RD f T) : MT f g pv r := by
  obtain ⟨a, B, P, ⟨h1, h2, h3, h4⟩, h5, h6, h7, h8, h9, h10, h11, h12⟩ := h
  obtain ⟨B', P', hR, hT⟩ := hf
  have hall : ∀ k, k < n → Sp B (a k) := fun k hk => by
    by_cases hkr : k < r
    · exact h8 k hkr
    · obtain ⟨⟨α, β, hα, hβ, hs⟩, q2, -⟩ := h12 k (by omega) hk
      refine Sp_div hα hs (fun j => ?_)
      have : g k j = 0 := by
        by_cases hj : j < N
        · exact q2 j hj
        · exact h0 k hk j (by omega)
      rw [this]; simp
  have hBT : ∀ z, Sp B z ↔ Sp T z := fun z => by
    refine ⟨fun q => Sp_sub (fun b hb => Sp_mem (h5 b hb)) q, fun q => Sp_sub (fun t ht => ?_) q⟩
    obtain ⟨k, hk, e⟩ := h7 t ht
    rw [← e]; exact hall k hk
  -- the class's
  have R1 : RR (Sp B') (fun p => p ∈ P') f := ⟨fun p hp => by
    obtain ⟨r1, r2, r3, r4, r5⟩ := hR.2.2.2.1 p hp
    exact ⟨r1, by omega, r3, r4⟩, fun z hz q => Gd_ind hR.1 hz q⟩
  -- the reference's
  have hix : ∀ p, p ∈ P → ∃ k, k < r ∧ pv k = p := h10
  have hch : ∃ ix : Nat → Nat, ∀ p, p ∈ P → ix p < r ∧ pv (ix p) = p := by
    refine ⟨fun p => if hp : p ∈ P then Classical.choose (hix p hp) else 0, fun p hp => ?_⟩
    simp only [dif_pos hp]
    exact Classical.choose_spec (hix p hp)
  obtain ⟨ix, hix⟩ := hch
  have R2 : RR (Sp B) (fun p => p ∈ P) (fun p => g (ix p)) := ⟨fun p hp => by
    obtain ⟨i1, i2⟩ := hix p hp
    obtain ⟨q1, q2, q3, q4, q5, q6⟩ := h9 (ix p) i1
    rw [i2] at q3 q4 q5
    exact ⟨q2, q3, q4, q5⟩, fun z hz q => Gd_ind h1 hz q⟩
  obtain ⟨E1, E2⟩ := RR_eq (fun z => (hT z).trans (hBT z).symm) R1 R2 hR.2.2.1 (fun p hp => by have := h4 p hp; omega)
  have inj : ∀ k l, k < r → l < r → pv k = pv l → k = l := fun k l hk hl e => by
    rcases Nat.lt_trichotomy k l with q | q | q
    · have := h11 k l q hl; omega
    · exact q
    · have := h11 l k q hk; omega
  refine ⟨fun k hk => ?_, fun p hp hn => ?_, h11⟩
  · obtain ⟨q1, q2, q3, q4, q5, q6⟩ := h9 k hk
    have hp' := (E1 (pv k)).mpr q1
    obtain ⟨i1, i2⟩ := hix _ q1
    have hik : ix (pv k) = k := inj _ _ i1 hk i2
    obtain ⟨r1, r2, r3, r4, r5⟩ := hR.2.2.2.1 _ hp'
    refine ⟨hR.2.2.1 _ hp', by omega, ?_⟩
    have E3 := E2 _ hp'
    simp only [hik] at E3
    exact Pm_eq r5 q6 (by omega) q3 E3
  · have : p ∈ P' := (RDp_piv hR hp).mpr hn
    exact h10 p ((E1 p).mp this)
