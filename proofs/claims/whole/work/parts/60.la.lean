/-! rows of numbers: what they span, their determinants, how large a reduced row can be -/
abbrev VV : Type := Nat → Int
/-- what the rows of B span, up to multiples -/
def Sp : List VV → VV → Prop
  | [], z => ∀ j, z j = 0
  | b :: B, z => ∃ c γ : Int, ∃ z' : VV, c ≠ 0 ∧ Sp B z' ∧ ∀ j, c * z j = γ * b j + z' j
theorem Sp_ext : ∀ {B : List VV} {z w : VV}, (∀ j, z j = w j) → Sp B z → Sp B w
  | [], _, _, h, hz => fun j => by rw [← h j]; exact hz j
  | _ :: _, _, _, h, ⟨c, γ, z', hc, hz, e⟩ => ⟨c, γ, z', hc, hz, fun j => by rw [← h j]; exact e j⟩
theorem Sp_zero : ∀ {B : List VV}, Sp B (fun _ => 0)
  | [] => fun _ => rfl
  | _ :: _ => ⟨1, 0, fun _ => 0, by decide, Sp_zero, fun j => by simp⟩
theorem Sp_lin : ∀ {B : List VV} {v w : VV} (a b : Int), Sp B v → Sp B w → Sp B (fun j => a * v j + b * w j)
  | [], v, w, a, b, hv, hw => fun j => by simp [hv j, hw j]
  | x :: B, v, w, a, b, ⟨c, γ, v', hc, hv, e⟩, ⟨c2, γ2, w', hc2, hw, e2⟩ => by
    refine ⟨c * c2, a * c2 * γ + b * c * γ2, fun j => (a * c2) * v' j + (b * c) * w' j, ?_, Sp_lin _ _ hv hw, fun j => ?_⟩
    · exact Int.mul_ne_zero hc hc2
    · have h1 := e j; have h2 := e2 j; grind
theorem Sp_div {B : List VV} {v w : VV} {d : Int} (hd : d ≠ 0) (hv : Sp B v) (h : ∀ j, d * w j = v j) : Sp B w := by
  cases B with
  | nil =>
    intro j
    have h1 := h j
    rw [hv j] at h1
    exact (Int.mul_eq_zero.mp h1).resolve_left hd
  | cons b B =>
    obtain ⟨c, γ, z', hc, hz, e⟩ := hv
    exact ⟨c * d, γ, z', Int.mul_ne_zero hc hd, hz, fun j => by rw [Int.mul_assoc, h j]; exact e j⟩
theorem Sp_up {b : VV} {B : List VV} {z : VV} (h : Sp B z) : Sp (b :: B) z := ⟨1, 0, z, by decide, h, fun j => by simp⟩
theorem Sp_hd {b : VV} {B : List VV} : Sp (b :: B) b := ⟨1, 1, fun _ => 0, by decide, Sp_zero, fun j => by simp⟩
theorem Sp_mem : ∀ {B : List VV} {b : VV}, b ∈ B → Sp B b
  | x :: B, b, h => by
    rcases List.mem_cons.mp h with rfl | h
    · exact Sp_hd
    · exact Sp_up (Sp_mem h)
theorem Sp_sub {T : List VV} : ∀ {B : List VV} {z : VV}, (∀ b, b ∈ B → Sp T b) → Sp B z → Sp T z
  | [], z, _, hz => Sp_ext (fun j => (hz j).symm) Sp_zero
  | b :: B, z, h, ⟨c, γ, z', hc, hz, e⟩ => by
    have h1 := h b (by simp)
    have h2 : Sp T z' := Sp_sub (fun x hx => h x (by simp [hx])) hz
    exact Sp_div hc (Sp_lin γ 1 h1 h2) (fun j => by rw [e j]; simp)
/-- a sum over a list's rows, each with the list without it, in turn added and taken away -/
def Ex (f : VV → List VV → Int) : List VV → Int
  | [] => 0
  | a :: R => f a R - Ex (fun b S => f b (a :: S)) R
theorem Ex_lin (f g : VV → List VV → Int) (x y : Int) : ∀ R, Ex (fun a S => x * f a S + y * g a S) R = x * Ex f R + y * Ex g R := by
  intro R
  induction R generalizing f g with
  | nil => simp [Ex]
  | cons a R ih =>
    simp only [Ex]
    rw [ih (fun b S => f b (a :: S)) (fun b S => g b (a :: S))]
    grind
theorem Ex_mul (f : VV → List VV → Int) (x : Int) (R : List VV) : Ex (fun a S => x * f a S) R = x * Ex f R := by
  have h := Ex_lin f f x 0 R
  simp only [Int.zero_mul, Int.add_zero] at h
  exact h
def Dt : List Nat → List VV → Int
  | [], _ => 1
  | j :: P, R => Ex (fun a S => a j * Dt P S) R
theorem Ex_swap (j p : Nat) (g : List VV → Int) : ∀ R, Ex (fun a S => a j * Ex (fun b T => b p * g T) S) R + Ex (fun a S => a p * Ex (fun b T => b j * g T) S) R = 0 := by
  intro R
  induction R generalizing g with
  | nil => simp [Ex]
  | cons a R ih =>
    simp only [Ex]
    have h := ih (fun T => g (a :: T))
    have e1 : ∀ q r : Nat, Ex (fun b S => b q * (a r * g S - Ex (fun c T => c r * g (a :: T)) S)) R = a r * Ex (fun b S => b q * g S) R - Ex (fun b S => b q * Ex (fun c T => c r * g (a :: T)) S) R := fun q r => by
      have := Ex_lin (fun b S => b q * g S) (fun b S => b q * Ex (fun c T => c r * g (a :: T)) S) (a r) (-1) R
      rw [show (fun (b : VV) S => b q * (a r * g S - Ex (fun c T => c r * g (a :: T)) S)) = (fun b S => a r * (b q * g S) + -1 * (b q * Ex (fun c T => c r * g (a :: T)) S)) from by funext b S; grind]
      rw [this]; grind
    rw [e1 j p, e1 p j]
    grind
theorem Dt_swap (j p : Nat) (P : List Nat) (R : List VV) : Dt (j :: p :: P) R = - Dt (p :: j :: P) R := by
  have h := Ex_swap j p (Dt P) R
  simp only [Dt]
  omega
theorem Dt_rep : ∀ {P : List Nat} {j : Nat}, j ∈ P → ∀ R, Dt (j :: P) R = 0
  | p :: P, j, h, R => by
    by_cases hp : j = p
    · subst hp
      have := Dt_swap j j P R
      omega
    · have hm : j ∈ P := (List.mem_cons.mp h).resolve_left hp
      rw [Dt_swap]
      have h0 : ∀ S, Dt (j :: P) S = 0 := Dt_rep hm
      have : Dt (p :: j :: P) R = Ex (fun a S => 0 * (a p)) R := by
        show Ex (fun a S => a p * Dt (j :: P) S) R = _
        congr 1; funext a S; rw [h0 S]; simp
      rw [this, Ex_mul]; simp
theorem Sp_Ex : ∀ (B : List VV) (g : List VV → Int), Sp B (fun j => Ex (fun b S => b j * g S) B)
  | [], g => fun j => rfl
  | b :: B, g => ⟨1, g B, fun j => -1 * Ex (fun c S => c j * g (b :: S)) B + 0 * 0, by decide, Sp_lin _ _ (Sp_Ex B (fun S => g (b :: S))) Sp_zero, fun j => by simp only [Ex]; grind⟩
/-- built row by row and column by column, with a determinant that isn't 0 -/
def Gd : List VV → List Nat → Prop
  | [], [] => True
  | b :: B, p :: P => Gd B P ∧ Dt (p :: P) (b :: B) ≠ 0
  | _, _ => False
theorem Gd_ne : ∀ {B : List VV} {P : List Nat}, Gd B P → Dt P B ≠ 0
  | [], [], _ => by simp [Dt]
  | _ :: _, _ :: _, h => h.2
theorem Gd_len : ∀ {B : List VV} {P : List Nat}, Gd B P → B.length = P.length
  | [], [], _ => rfl
  | _ :: _, _ :: _, h => by simp [Gd_len h.1]
theorem Gd_nd : ∀ {B : List VV} {P : List Nat}, Gd B P → P.Nodup
  | [], [], _ => List.nodup_nil
  | b :: B, p :: P, h => List.nodup_cons.mpr ⟨fun q => h.2 (Dt_rep q _), Gd_nd h.1⟩
/-- the row a, cleared at the columns P by the rows B -/
def wv (B : List VV) (P : List Nat) (a : VV) : VV := fun j => Dt (j :: P) (a :: B)
theorem wv_eq (B : List VV) (P : List Nat) (a : VV) (j : Nat) : wv B P a j = a j * Dt P B - Ex (fun b S => b j * Dt P (a :: S)) B := rfl
theorem wv_0 {B : List VV} {P : List Nat} {a : VV} {j : Nat} (h : j ∈ P) : wv B P a j = 0 := Dt_rep h _
theorem Gd_ind : ∀ {B : List VV} {P : List Nat} {z : VV}, Gd B P → Sp B z → (∀ p, p ∈ P → z p = 0) → ∀ j, z j = 0
  | [], [], z, _, hz, _ => hz
  | b :: B, p :: P, z, ⟨hG, hD⟩, ⟨c, γ, z', hc, hz, e⟩, h0 => by
    have hΔ := Gd_ne hG
    have hy : Sp B (fun j => Dt P B * z' j + γ * Ex (fun x S => x j * Dt P (b :: S)) B) := Sp_lin _ _ hz (Sp_Ex B (fun S => Dt P (b :: S)))
    have hk : ∀ j, Dt P B * z' j + γ * Ex (fun x S => x j * Dt P (b :: S)) B = Dt P B * (c * z j) - γ * wv B P b j := fun j => by
      rw [e j, wv_eq]; grind
    have hy0 := Gd_ind hG hy (fun q hq => by
      show Dt P B * z' q + γ * Ex (fun x S => x q * Dt P (b :: S)) B = 0
      rw [hk q, h0 q (by simp [hq]), wv_0 hq]; simp)
    have hk2 : ∀ j, Dt P B * (c * z j) = γ * wv B P b j := fun j => by
      have h1 := hk j
      have h2 : Dt P B * z' j + γ * Ex (fun x S => x j * Dt P (b :: S)) B = 0 := hy0 j
      rw [h2] at h1; omega
    have hγ : γ = 0 := by
      have h1 := hk2 p
      rw [h0 p (by simp)] at h1
      simp only [Int.mul_zero] at h1
      exact (Int.mul_eq_zero.mp h1.symm).resolve_right hD
    intro j
    have h1 := hk2 j
    rw [hγ, Int.zero_mul] at h1
    exact (Int.mul_eq_zero.mp ((Int.mul_eq_zero.mp h1).resolve_left hΔ)).resolve_left hc
theorem Dt_front {p : Nat} : ∀ {P : List Nat}, p ∈ P → ∃ s : Int, (s = 1 ∨ s = -1) ∧ ∀ R, Dt P R = s * Dt (p :: P.erase p) R
  | q :: P, h => by
    by_cases hq : q = p
    · subst hq
      exact ⟨1, Or.inl rfl, fun R => by simp⟩
    · have hm : p ∈ P := by
        rcases List.mem_cons.mp h with h | h
        · exact absurd h.symm hq
        · exact h
      obtain ⟨s, hs, e⟩ := Dt_front hm
      refine ⟨-s, by omega, fun R => ?_⟩
      have he : (q :: P).erase p = q :: P.erase p := by
        rw [List.erase_cons]; simp [hq]
      rw [he, Dt_swap]
      show Ex (fun a S => a q * Dt P S) R = _
      rw [show (fun (a : VV) S => a q * Dt P S) = (fun a S => s * (a q * Dt (p :: P.erase p) S)) from by funext a S; rw [e S]; grind, Ex_mul]
      show s * Dt (q :: p :: P.erase p) R = _
      grind
/-! how large they are -/
def is01 (a : VV) : Prop := ∀ j, a j = 0 ∨ a j = 1
def fb : Nat → Nat → Nat
  | _, 0 => 1
  | n, k + 1 => n * fb (n - 1) k
theorem Ex_le {f : VV → List VV → Int} {M : Nat} : ∀ {R : List VV}, (∀ a, a ∈ R → is01 a) → (∀ a S, is01 a → (∀ b, b ∈ S → is01 b) → S.length + 1 = R.length → (f a S).natAbs ≤ M) → (Ex f R).natAbs ≤ R.length * M
  | [], _, _ => by simp [Ex]
  | a :: R, h, hf => by
    have h1 := hf a R (h a (by simp)) (fun b hb => h b (by simp [hb])) (by simp)
    have h2 := Ex_le (f := fun b S => f b (a :: S)) (M := M) (R := R) (fun b hb => h b (by simp [hb])) (fun b S hb hS hl => hf b (a :: S) hb (fun c hc => by
      rcases List.mem_cons.mp hc with rfl | hc
      · exact h _ (by simp)
      · exact hS c hc) (by simp; omega))
    simp only [Ex, List.length_cons]
    have : (R.length + 1) * M = R.length * M + M := by grind
    omega
theorem Dt_le : ∀ {P : List Nat} {R : List VV}, (∀ a, a ∈ R → is01 a) → (Dt P R).natAbs ≤ fb R.length P.length
  | [], R, _ => by simp [Dt, fb]
  | j :: P, R, h => by
    refine Ex_le h (fun a S ha hS hl => ?_)
    have h1 := Dt_le (P := P) hS
    have hl2 : R.length - 1 = S.length := by omega
    show (a j * Dt P S).natAbs ≤ fb (R.length - 1) P.length
    rw [hl2, Int.natAbs_mul]
    rcases ha j with e | e <;> rw [e] <;> simp <;> omega
theorem fb_le : ∀ n, n < 13 → ∀ k, k < 13 → fb n k ≤ 479001600 := by decide
/-- whole numbers without a common divisor -/
def Pm (v : VV) : Prop := ∀ d : Int, (∀ j, d ∣ v j) → d ∣ 1
theorem Pm_dv {v w : VV} {a b : Int} (hv : Pm v) (hb : b ≠ 0) (h : ∀ j, a * v j = b * w j) : ∃ m, a = b * m ∧ ∀ j, w j = m * v j := by
  have hg : b ∣ a := by
    have hgp : 0 < Int.gcd b a := Int.gcd_pos_of_ne_zero_left _ hb
    obtain ⟨b', hb'⟩ := Int.gcd_dvd_left b a
    obtain ⟨a', ha'⟩ := Int.gcd_dvd_right b a
    have hg0 : (Int.gcd b a : Int) ≠ 0 := by omega
    have hcop : Int.gcd b' a' = 1 := by
      have h1 := Int.gcd_mul_left (Int.gcd b a : Int) b' a'
      rw [← hb', ← ha'] at h1
      simp only [Int.natAbs_natCast] at h1
      have : Int.gcd b a * 1 = Int.gcd b a * Int.gcd b' a' := by omega
      exact (Nat.eq_of_mul_eq_mul_left hgp this).symm
    have hd : ∀ j, b' ∣ v j := fun j => by
      have h1 := h j
      have h2 : (Int.gcd b a : Int) * (a' * v j) = (Int.gcd b a : Int) * (b' * w j) := by
        have e1 : (Int.gcd b a : Int) * (a' * v j) = a * v j := by rw [← Int.mul_assoc, ← ha']
        have e2 : (Int.gcd b a : Int) * (b' * w j) = b * w j := by rw [← Int.mul_assoc, ← hb']
        rw [e1, e2, h1]
      have h3 := Int.eq_of_mul_eq_mul_left hg0 h2
      have h4 : b' ∣ a' * v j := ⟨w j, h3⟩
      have h5 := Int.natAbs_dvd_natAbs.mpr h4
      rw [Int.natAbs_mul] at h5
      exact Int.natAbs_dvd_natAbs.mp (Nat.Coprime.dvd_of_dvd_mul_left hcop h5)
    obtain ⟨u, hu⟩ := hv b' hd
    rw [hb']
    have h5 : (Int.gcd b a : Int) ∣ a := ⟨a', ha'⟩
    obtain ⟨t, ht⟩ := h5
    refine ⟨u * t, ?_⟩
    have h6 : (Int.gcd b a : Int) * b' * (u * t) = (Int.gcd b a : Int) * t * (b' * u) := by grind
    rw [h6, ← hu, Int.mul_one, ← ht]
  obtain ⟨m, hm⟩ := hg
  refine ⟨m, hm, fun j => ?_⟩
  have h1 := h j
  rw [hm, Int.mul_assoc] at h1
  exact (Int.eq_of_mul_eq_mul_left hb h1).symm
theorem le_mul {x y m : Int} (hm : m ≠ 0) (h : y = m * x) : x.natAbs ≤ y.natAbs := by
  rw [h, Int.natAbs_mul]
  have : 1 ≤ m.natAbs := by omega
  calc x.natAbs = 1 * x.natAbs := by simp
    _ ≤ m.natAbs * x.natAbs := Nat.mul_le_mul_right _ this
/-- a row that waits: what is left of the row a -/
theorem wait_eq {B : List VV} {P : List Nat} {a v : VV} {α β : Int} (hG : Gd B P) (hs : Sp B (fun j => α * a j - β * v j)) (h0 : ∀ p, p ∈ P → v p = 0) : ∀ j, Dt P B * (β * v j) = α * wv B P a j := by
  have hy := Sp_lin (Dt P B) (-α) hs (Sp_Ex B (fun S => Dt P (a :: S)))
  have hk : ∀ j, Dt P B * (α * a j - β * v j) + -α * Ex (fun b S => b j * Dt P (a :: S)) B = α * wv B P a j - Dt P B * (β * v j) := fun j => by
    rw [wv_eq]; grind
  have h1 := Gd_ind hG hy (fun p hp => by
    show Dt P B * (α * a p - β * v p) + -α * Ex (fun b S => b p * Dt P (a :: S)) B = 0
    rw [hk p, h0 p hp, wv_0 hp]; simp)
  intro j
  have h2 := h1 j
  have h3 : Dt P B * (α * a j - β * v j) + -α * Ex (fun b S => b j * Dt P (a :: S)) B = 0 := h2
  rw [hk j] at h3
  omega
theorem wait_le {B : List VV} {P : List Nat} {a v : VV} {α β : Int} (hG : Gd B P) (hB : ∀ b, b ∈ B → is01 b) (ha : is01 a) (hl : P.length < 12) (hα : α ≠ 0) (hβ : β ≠ 0) (hs : Sp B (fun j => α * a j - β * v j)) (h0 : ∀ p, p ∈ P → v p = 0) (hv : Pm v ∨ ∀ j, v j = 0) : ∀ j, (v j).natAbs ≤ 479001600 := by
  intro j
  rcases hv with hv | hv
  · have h1 := wait_eq hG hs h0
    obtain ⟨m, hm, hw⟩ := Pm_dv (a := Dt P B * β) (b := α) (w := wv B P a) hv hα (fun j => by rw [Int.mul_assoc]; exact h1 j)
    have hm0 : m ≠ 0 := fun q => by
      rw [q, Int.mul_zero] at hm
      exact Int.mul_ne_zero (Gd_ne hG) hβ hm
    refine Nat.le_trans (le_mul hm0 (hw j)) (Nat.le_trans (Dt_le (P := j :: P) (R := a :: B) (fun b hb => ?_)) (fb_le _ ?_ _ ?_))
    · rcases List.mem_cons.mp hb with rfl | hb
      · exact ha
      · exact hB b hb
    · simp [Gd_len hG]; omega
    · simp; omega
  · rw [hv j]; simp
/-- a row of a pivot -/
theorem piv_le {B : List VV} {P : List Nat} {v : VV} {p : Nat} (hG : Gd B P) (hB : ∀ b, b ∈ B → is01 b) (hl : P.length ≤ 12) (hp : p ∈ P) (hs : Sp B v) (h0 : ∀ q, q ∈ P → q ≠ p → v q = 0) (hv0 : v p ≠ 0) (hv : Pm v) : ∀ j, (v j).natAbs ≤ 479001600 := by
  obtain ⟨s, hs1, he⟩ := Dt_front hp
  have hy : Sp B (fun j => Dt (j :: P.erase p) B) := Sp_Ex B (fun S => Dt (P.erase p) S)
  have hyp : Dt (p :: P.erase p) B ≠ 0 := fun q => by
    have := he B; rw [q, Int.mul_zero] at this; exact Gd_ne hG this
  have h1 := Gd_ind hG (Sp_lin (Dt (p :: P.erase p) B) (- v p) hs hy) (fun q hq => by
    show Dt (p :: P.erase p) B * v q + - v p * Dt (q :: P.erase p) B = 0
    by_cases e : q = p
    · subst e; grind
    · rw [h0 q hq e, Dt_rep ((List.mem_erase_of_ne e).mpr hq)]; simp)
  obtain ⟨m, hm, hw⟩ := Pm_dv (a := Dt (p :: P.erase p) B) (b := v p) (w := fun j => Dt (j :: P.erase p) B) hv hv0 (fun j => by
    have h2 : Dt (p :: P.erase p) B * v j + - v p * Dt (j :: P.erase p) B = 0 := h1 j
    show Dt (p :: P.erase p) B * v j = v p * Dt (j :: P.erase p) B
    grind)
  have hm0 : m ≠ 0 := fun q => by rw [q, Int.mul_zero] at hm; exact hyp hm
  intro j
  refine Nat.le_trans (le_mul hm0 (hw j)) (Nat.le_trans (Dt_le (P := j :: P.erase p) (R := B) hB) (fb_le _ ?_ _ ?_))
  · rw [Gd_len hG]; omega
  · have := List.length_erase_of_mem hp; simp; omega
/-! the reduced form is the only one -/
def RR (S : VV → Prop) (P : Nat → Prop) (ρ : Nat → VV) : Prop :=
  (∀ p, P p → S (ρ p) ∧ ρ p p ≠ 0 ∧ (∀ k, k < p → ρ p k = 0) ∧ ∀ q, P q → q ≠ p → ρ p q = 0) ∧ ∀ z, S z → (∀ p, P p → z p = 0) → ∀ j, z j = 0
theorem RR_lead {B : List VV} {P : Nat → Prop} {ρ : Nat → VV} (h : RR (Sp B) P ρ) (hP : ∀ p, P p → p < 12) {z : VV} {l : Nat} (hz : Sp B z) (h0 : ∀ k, k < l → z k = 0) (hl : z l ≠ 0) : P l := by
  refine Classical.byContradiction fun hn => ?_
  have key : ∀ m : Nat, ∃ y : VV, Sp B y ∧ (∀ k, k < l → y k = 0) ∧ y l ≠ 0 ∧ ∀ p, P p → p < m → y p = 0 := by
    intro m
    induction m with
    | zero => exact ⟨z, hz, h0, hl, fun p _ hp => absurd hp (Nat.not_lt_zero p)⟩
    | succ m ih =>
      obtain ⟨y, y1, y2, y3, y4⟩ := ih
      by_cases hm : P m
      · by_cases hlm : m < l
        · refine ⟨y, y1, y2, y3, fun p hp hpm => ?_⟩
          by_cases e : p = m
          · rw [e]; exact y2 m hlm
          · exact y4 p hp (by omega)
        · have hne : m ≠ l := fun e => hn (e ▸ hm)
          obtain ⟨r1, r2, r3, r4⟩ := h.1 m hm
          refine ⟨fun j => ρ m m * y j + (- y m) * ρ m j, Sp_lin _ _ y1 r1, fun k hk => ?_, ?_, fun p hp hpm => ?_⟩
          · show ρ m m * y k + -y m * ρ m k = 0
            rw [y2 k hk, r3 k (by omega)]; simp
          · show ρ m m * y l + -y m * ρ m l ≠ 0
            rw [r3 l (by omega), Int.mul_zero, Int.add_zero]
            exact Int.mul_ne_zero r2 y3
          · show ρ m m * y p + -y m * ρ m p = 0
            by_cases e : p = m
            · subst e; grind
            · rw [r4 p hp e, y4 p hp (by omega)]; simp
      · refine ⟨y, y1, y2, y3, fun p hp hpm => ?_⟩
        by_cases e : p = m
        · subst e; exact absurd hp hm
        · exact y4 p hp (by omega)
  obtain ⟨y, y1, y2, y3, y4⟩ := key 12
  exact y3 (h.2 y y1 (fun p hp => y4 p hp (hP p hp)) l)
theorem RR_eq {B B' : List VV} {P P' : Nat → Prop} {ρ ρ' : Nat → VV} (hB : ∀ z, Sp B z ↔ Sp B' z) (h : RR (Sp B) P ρ) (h' : RR (Sp B') P' ρ') (hP : ∀ p, P p → p < 12) (hP' : ∀ p, P' p → p < 12) : (∀ p, P p ↔ P' p) ∧ ∀ p, P p → ∀ j, ρ' p p * ρ p j = ρ p p * ρ' p j := by
  have e : ∀ p, P p ↔ P' p := fun p => by
    constructor
    · intro hp
      obtain ⟨r1, r2, r3, -⟩ := h.1 p hp
      exact RR_lead h' hP' ((hB _).mp r1) r3 r2
    · intro hp
      obtain ⟨r1, r2, r3, -⟩ := h'.1 p hp
      exact RR_lead h hP ((hB _).mpr r1) r3 r2
  refine ⟨e, fun p hp j => ?_⟩
  obtain ⟨r1, r2, r3, r4⟩ := h.1 p hp
  obtain ⟨s1, s2, s3, s4⟩ := h'.1 p ((e p).mp hp)
  have h1 := h.2 _ (Sp_lin (ρ' p p) (- ρ p p) r1 ((hB _).mpr s1)) (fun q hq => by
    show ρ' p p * ρ p q + -ρ p p * ρ' p q = 0
    by_cases hqp : q = p
    · subst hqp; grind
    · rw [r4 q hq hqp, s4 q ((e q).mp hq) hqp]; simp)
  have h2 : ρ' p p * ρ p j + -ρ p p * ρ' p j = 0 := h1 j
  grind
theorem Pm_eq {v w : VV} {p : Nat} (hv : Pm v) (hw : Pm w) (hvp : v p ≠ 0) (hwp : w p ≠ 0) (h : ∀ j, w p * v j = v p * w j) : (∀ j, w j = v j) ∨ ∀ j, w j = - v j := by
  obtain ⟨m, hm, e⟩ := Pm_dv hv hvp h
  obtain ⟨u, hu⟩ := hw m (fun j => ⟨v j, e j⟩)
  have : m = 1 ∨ m = -1 := by
    have h1 : m ∣ 1 := ⟨u, hu⟩
    have h2 := Int.natAbs_dvd_natAbs.mpr h1
    have h3 := Nat.dvd_one.mp h2
    omega
  rcases this with rfl | rfl
  · exact Or.inl (fun j => by rw [e j]; simp)
  · exact Or.inr (fun j => by rw [e j]; simp)
