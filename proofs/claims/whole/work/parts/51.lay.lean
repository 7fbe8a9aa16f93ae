/-! where everything lies once the two objects are made: the class from 0, the reference from 81, the law's row at 97 -/
def z0l : List ((FieldType × Nat) ⊕ Nat) := [.inr 6, .inl (.int, 48), .inl (.object "HiddenSums$User", 4), .inl (.int, 300), .inl (.int, 12), .inr 0, .inl (.int, 750), .inr 1, .inr 4, .inl (.int, 60), .inl (.int, 60), .inl (.int, 60), .inr 2, .inl (.long, 60), .inl (.boolean, 60), .inr 3, .inl (.long, 156), .inr 5, .inr 4, .inl (.int, 60), .inl (.int, 60), .inr 4, .inl (.int, 60), .inl (.int, 60), .inl (.object "HiddenSums$Reduced", 4), .inr 3, .inl (.long, 156), .inr 3, .inl (.long, 156), .inr 3, .inl (.long, 156), .inr 3, .inl (.long, 156), .inr 5, .inr 4, .inl (.int, 60), .inl (.int, 60), .inr 4, .inl (.int, 60), .inl (.int, 60), .inl (.object "HiddenSums$Reduced", 4), .inr 3, .inl (.long, 156), .inr 3, .inl (.long, 156), .inr 3, .inl (.long, 156), .inr 3, .inl (.long, 156), .inr 5, .inr 4, .inl (.int, 60), .inl (.int, 60), .inr 4, .inl (.int, 60), .inl (.int, 60), .inl (.object "HiddenSums$Reduced", 4), .inr 3, .inl (.long, 156), .inr 3, .inl (.long, 156), .inr 3, .inl (.long, 156), .inr 3, .inl (.long, 156), .inr 5, .inr 4, .inl (.int, 60), .inl (.int, 60), .inr 4, .inl (.int, 60), .inl (.int, 60), .inl (.object "HiddenSums$Reduced", 4), .inr 3, .inl (.long, 156), .inr 3, .inl (.long, 156), .inr 3, .inl (.long, 156), .inr 3, .inl (.long, 156), .inr 7, .inl (.int, 48), .inl (.byte, 300), .inl (.int, 640), .inl (.int, 10), .inl (.int, 4), .inl (.boolean, 4), .inl (.int, 4), .inl (.int, 750), .inl (.int, 12), .inl (.int, 150), .inl (.int, 150), .inl (.long, 64), .inl (.boolean, 64), .inl (.long, 1824), .inl (.int, 12), .inl (.long, 1)]
def z0 (a : Nat) : (FieldType × Nat) ⊕ Nat := z0l.getD a (.inr 99)
def r0l : List (List (Option Nat)) := [[some 1, none, some 2, none, some 3, none, none, some 4, none, none, some 5, some 7, some 12, some 15], [], [some 17, some 33, some 49, some 65], [], [], [some 6], [], [some 8, none, none, none, none, none, none, none, none, some 11], [some 9, some 10], [], [], [], [some 13, some 14], [], [], [some 16], [], [some 18, some 21, some 24], [some 19, some 20], [], [], [some 22, some 23], [], [], [some 25, some 27, some 29, some 31], [some 26], [], [some 28], [], [some 30], [], [some 32], [], [some 34, some 37, some 40], [some 35, some 36], [], [], [some 38, some 39], [], [], [some 41, some 43, some 45, some 47], [some 42], [], [some 44], [], [some 46], [], [some 48], [], [some 50, some 53, some 56], [some 51, some 52], [], [], [some 54, some 55], [], [], [some 57, some 59, some 61, some 63], [some 58], [], [some 60], [], [some 62], [], [some 64], [], [some 66, some 69, some 72], [some 67, some 68], [], [], [some 70, some 71], [], [], [some 73, some 75, some 77, some 79], [some 74], [], [some 76], [], [some 78], [], [some 80], [], [none, none, none, some 82, some 83, none, none, some 84, some 85, some 86, some 87, some 88, some 89, none, some 90, none, some 91, some 92, none, none, none, none, none, none, none, none, none, some 93, some 94, some 95, some 96], [], [], [], [], [], [], [], [], [], [], [], [], [], [], [], []]
def r0 (a f : Nat) : Option Nat := (r0l.getD a []).getD f none
theorem z0_0 : z0 0 = .inr 6 := rfl
theorem z0_1 : z0 1 = .inl (.int, 48) := rfl
theorem z0_2 : z0 2 = .inl (.object "HiddenSums$User", 4) := rfl
theorem z0_3 : z0 3 = .inl (.int, 300) := rfl
theorem z0_4 : z0 4 = .inl (.int, 12) := rfl
theorem z0_5 : z0 5 = .inr 0 := rfl
theorem z0_6 : z0 6 = .inl (.int, 750) := rfl
theorem z0_7 : z0 7 = .inr 1 := rfl
theorem z0_8 : z0 8 = .inr 4 := rfl
theorem z0_9 : z0 9 = .inl (.int, 60) := rfl
theorem z0_10 : z0 10 = .inl (.int, 60) := rfl
theorem z0_11 : z0 11 = .inl (.int, 60) := rfl
theorem z0_12 : z0 12 = .inr 2 := rfl
theorem z0_13 : z0 13 = .inl (.long, 60) := rfl
theorem z0_14 : z0 14 = .inl (.boolean, 60) := rfl
theorem z0_15 : z0 15 = .inr 3 := rfl
theorem z0_16 : z0 16 = .inl (.long, 156) := rfl
theorem z0_81 : z0 81 = .inr 7 := rfl
theorem z0_82 : z0 82 = .inl (.int, 48) := rfl
theorem z0_83 : z0 83 = .inl (.byte, 300) := rfl
theorem z0_84 : z0 84 = .inl (.int, 640) := rfl
theorem z0_85 : z0 85 = .inl (.int, 10) := rfl
theorem z0_86 : z0 86 = .inl (.int, 4) := rfl
theorem z0_87 : z0 87 = .inl (.boolean, 4) := rfl
theorem z0_88 : z0 88 = .inl (.int, 4) := rfl
theorem z0_89 : z0 89 = .inl (.int, 750) := rfl
theorem z0_90 : z0 90 = .inl (.int, 12) := rfl
theorem z0_91 : z0 91 = .inl (.int, 150) := rfl
theorem z0_92 : z0 92 = .inl (.int, 150) := rfl
theorem z0_93 : z0 93 = .inl (.long, 64) := rfl
theorem z0_94 : z0 94 = .inl (.boolean, 64) := rfl
theorem z0_95 : z0 95 = .inl (.long, 1824) := rfl
theorem z0_96 : z0 96 = .inl (.int, 12) := rfl
theorem z0_97 : z0 97 = .inl (.long, 1) := rfl
theorem r0_0_0 : r0 0 0 = some 1 := rfl
theorem r0_0_2 : r0 0 2 = some 2 := rfl
theorem r0_0_4 : r0 0 4 = some 3 := rfl
theorem r0_0_7 : r0 0 7 = some 4 := rfl
theorem r0_0_10 : r0 0 10 = some 5 := rfl
theorem r0_0_11 : r0 0 11 = some 7 := rfl
theorem r0_0_12 : r0 0 12 = some 12 := rfl
theorem r0_0_13 : r0 0 13 = some 15 := rfl
theorem r0_5_0 : r0 5 0 = some 6 := rfl
theorem r0_7_0 : r0 7 0 = some 8 := rfl
theorem r0_7_9 : r0 7 9 = some 11 := rfl
theorem r0_8_0 : r0 8 0 = some 9 := rfl
theorem r0_8_1 : r0 8 1 = some 10 := rfl
theorem r0_12_0 : r0 12 0 = some 13 := rfl
theorem r0_12_1 : r0 12 1 = some 14 := rfl
theorem r0_15_0 : r0 15 0 = some 16 := rfl
theorem r0_81_3 : r0 81 3 = some 82 := rfl
theorem r0_81_4 : r0 81 4 = some 83 := rfl
theorem r0_81_7 : r0 81 7 = some 84 := rfl
theorem r0_81_8 : r0 81 8 = some 85 := rfl
theorem r0_81_9 : r0 81 9 = some 86 := rfl
theorem r0_81_10 : r0 81 10 = some 87 := rfl
theorem r0_81_11 : r0 81 11 = some 88 := rfl
theorem r0_81_12 : r0 81 12 = some 89 := rfl
theorem r0_81_14 : r0 81 14 = some 90 := rfl
theorem r0_81_16 : r0 81 16 = some 91 := rfl
theorem r0_81_17 : r0 81 17 = some 92 := rfl
theorem r0_81_27 : r0 81 27 = some 93 := rfl
theorem r0_81_28 : r0 81 28 = some 94 := rfl
theorem r0_81_29 : r0 81 29 = some 95 := rfl
theorem r0_81_30 : r0 81 30 = some 96 := rfl
/-- the shapes and references never change any more -/
def Ly (μ : mm_M) : Prop := mm_z μ = z0 ∧ mm_r μ = r0 ∧ mm_n μ = 98
theorem Ly_si {μ : mm_M} {a k : Nat} {v : Int32} (h : Ly μ) : Ly (mm_si μ a k v) := h
theorem Ly_sl {μ : mm_M} {a k : Nat} {v : Int64} (h : Ly μ) : Ly (mm_sl μ a k v) := h
theorem Ly_ci {μ : mm_M} {a b c d e : Nat} (h : Ly μ) : Ly (mm_ci μ a b c d e) := h
theorem Ly_cl {μ : mm_M} {a b c d e : Nat} (h : Ly μ) : Ly (mm_cl μ a b c d e) := h
/-- a text: its two rows lie behind it -/
def isT (t : Nat) : Prop := z0 t = .inr 4 ∧ z0 (t + 1) = .inl (.int, 60) ∧ z0 (t + 2) = .inl (.int, 60) ∧ r0 t 0 = some (t + 1) ∧ r0 t 1 = some (t + 2)
theorem isT_8 : isT 8 := ⟨rfl, rfl, rfl, rfl, rfl⟩
theorem isT_r : ∀ u, u < 4 → isT (18 + 16 * u)
  | 0, _ => ⟨rfl, rfl, rfl, rfl, rfl⟩
  | 1, _ => ⟨rfl, rfl, rfl, rfl, rfl⟩
  | 2, _ => ⟨rfl, rfl, rfl, rfl, rfl⟩
  | 3, _ => ⟨rfl, rfl, rfl, rfl, rfl⟩
  | n + 4, h => by omega
theorem isT_q : ∀ u, u < 4 → isT (21 + 16 * u)
  | 0, _ => ⟨rfl, rfl, rfl, rfl, rfl⟩
  | 1, _ => ⟨rfl, rfl, rfl, rfl, rfl⟩
  | 2, _ => ⟨rfl, rfl, rfl, rfl, rfl⟩
  | 3, _ => ⟨rfl, rfl, rfl, rfl, rfl⟩
  | n + 4, h => by omega
/-- a reduced family -/
def isR (a : Nat) : Prop := z0 a = .inr 3 ∧ z0 (a + 1) = .inl (.long, 156) ∧ r0 a 0 = some (a + 1)
theorem isR_15 : isR 15 := ⟨rfl, rfl, rfl⟩
theorem isR_k : ∀ u f, u < 4 → f < 4 → isR (25 + 16 * u + 2 * f) := by
  intro u f hu hf
  rcases (show u = 0 ∨ u = 1 ∨ u = 2 ∨ u = 3 by omega) with rfl | rfl | rfl | rfl <;> rcases (show f = 0 ∨ f = 1 ∨ f = 2 ∨ f = 3 by omega) with rfl | rfl | rfl | rfl <;> exact ⟨rfl, rfl, rfl⟩
/-- a user -/
theorem u0_z {u : Nat} (h : u < 4) : z0 (17 + 16 * u) = .inr 5 := by
  rcases (show u = 0 ∨ u = 1 ∨ u = 2 ∨ u = 3 by omega) with rfl | rfl | rfl | rfl <;> rfl
theorem u0_at {u : Nat} (h : u < 4) : r0 2 u = some (17 + 16 * u) := by
  rcases (show u = 0 ∨ u = 1 ∨ u = 2 ∨ u = 3 by omega) with rfl | rfl | rfl | rfl <;> rfl
theorem u0_r {u : Nat} (h : u < 4) : r0 (17 + 16 * u) 0 = some (18 + 16 * u) := by
  rcases (show u = 0 ∨ u = 1 ∨ u = 2 ∨ u = 3 by omega) with rfl | rfl | rfl | rfl <;> rfl
theorem u0_q {u : Nat} (h : u < 4) : r0 (17 + 16 * u) 1 = some (21 + 16 * u) := by
  rcases (show u = 0 ∨ u = 1 ∨ u = 2 ∨ u = 3 by omega) with rfl | rfl | rfl | rfl <;> rfl
theorem u0_k {u : Nat} (h : u < 4) : r0 (17 + 16 * u) 2 = some (24 + 16 * u) := by
  rcases (show u = 0 ∨ u = 1 ∨ u = 2 ∨ u = 3 by omega) with rfl | rfl | rfl | rfl <;> rfl
theorem u0_kz {u : Nat} (h : u < 4) : z0 (24 + 16 * u) = .inl (.object "HiddenSums$Reduced", 4) := by
  rcases (show u = 0 ∨ u = 1 ∨ u = 2 ∨ u = 3 by omega) with rfl | rfl | rfl | rfl <;> rfl
theorem u0_ka {u f : Nat} (h : u < 4) (hf : f < 4) : r0 (24 + 16 * u) f = some (25 + 16 * u + 2 * f) := by
  rcases (show u = 0 ∨ u = 1 ∨ u = 2 ∨ u = 3 by omega) with rfl | rfl | rfl | rfl <;> rcases (show f = 0 ∨ f = 1 ∨ f = 2 ∨ f = 3 by omega) with rfl | rfl | rfl | rfl <;> rfl
