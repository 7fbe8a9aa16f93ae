/-! what the machine holds beside the cells, for throws too -/
def xm_i (j : Nat) : Nat := ([125, 132, 148, 154, 156] : List Nat).getD j 0
def xm_t (j : Nat) : String := (["no such user, object or field", "the audit is full", "hidden, or kept back", "no such user or field, or no set of objects", "kept back"] : List String).getD j ""
def xn_1 : String := "java/lang/IndexOutOfBoundsException"
def xn_2 : String := "java/lang/IllegalStateException"
def xn_3 : String := "java/lang/IllegalArgumentException"
def xn_R : String := "java/lang/RuntimeException"
def xn_E : String := "java/lang/Exception"
def PE1 (A : Nat → Prop) (U : State) (H : Heap) : Prop := vx_Zq Bundle.tN "UNASSIGNED_STACK" Bundle.steD A U H ∧ vx_Zq Bundle.tN "SUPPRESSED_SENTINEL" Bundle.listD A U H ∧ (∀ j, j < 5 → ∃ sa, vk_R RX6 (xm_i j) (xm_t j) sa U) ∧ (∀ y, y = xn_R ∨ y = xn_E ∨ y = Bundle.tN → va_Nw (.declares (Bundle.initS y)) U) ∧ (∀ y, y = xn_1 ∨ y = xn_2 ∨ y = xn_3 → va_Nw (.castable y y) U) ∧ va_Nc xn_2 xn_1 U ∧ va_Nc xn_3 xn_1 U ∧ va_Nc xn_3 xn_2 U
def XX (ad : Nat → Nat) (A : Nat → Prop) (U : State) (H : Heap) : Prop := px_E0 ad A U H ∧ PE1 A U H
theorem XX_e0 : ∀ ad A U H, XX ad A U H → px_E0 ad A U H := fun _ _ _ _ h => h.1
theorem wm_al {u U : State} (h : u.WarmedH U.vm ∨ u.vm = U.vm) : u.vm.Alike U.vm := by
  rcases h with h | h
  · exact h.alike
  · rw [← h]; exact Vm.Alike.refl _
theorem XX_o : mm_xo XX := by
  refine ⟨fun ad A u U H hw h => ?_, fun ad A U H H1 h hq => ?_, fun ad A B U H h hAB => ?_, fun ad ad' A U H h ha => ?_⟩
  · obtain ⟨⟨h1, h2, h3, h4, h5, h6, h7, h8, h9, h10⟩, g1, g2, g3, g4, g5, g6, g7, g8⟩ := h
    have al := wm_al hw
    refine ⟨⟨h1.moved al, h2.moved al, ?_, fun q hq => ?_, h5.moved al, h6.moved al, fun j hj => ?_, h8.moved al, h9.moved al, ?_⟩, g1.moved al, g2.moved al, fun j hj => ?_, fun y hy => ?_, fun y hy => ?_, g6.moved al, g7.moved al, g8.moved al⟩
    · rcases hw with w | w
      · exact va_Nw.warmF w h3
      · exact va_Nw.same rfl w h3
    · rcases hw with w | w
      · exact va_Nw.warmM w (h4 q hq)
      · exact va_Nw.same rfl w (h4 q hq)
    · rcases hw with w | w
      · exact (h7 j hj).warm w
      · exact (h7 j hj).same w.symm
    · rcases h10 with h | h
      · exact Or.inl (h.moved al)
      · exact Or.inr (h.moved al)
    · obtain ⟨sa, h⟩ := g3 j hj
      rcases hw with w | w
      · exact ⟨sa, h.warm w⟩
      · exact ⟨sa, h.same w.symm⟩
    · rcases hw with w | w
      · exact va_Nw.warmD w (g4 y hy)
      · exact va_Nw.same rfl w (g4 y hy)
    · rcases hw with w | w
      · exact va_Nw.warmC w (g5 y hy)
      · exact va_Nw.same rfl w (g5 y hy)
  · obtain ⟨⟨h1, h2, h3, h4, h5, h6, h7, h8, h9, h10⟩, g1, g2, g3⟩ := h
    refine ⟨⟨h1.kept hq, h2.kept hq, h3, h4, h5, h6, h7, h8.kept hq, h9.kept hq, ?_⟩, g1.kept hq, g2.kept hq, g3⟩
    rcases h10 with h | h
    · exact Or.inl (h.kept hq)
    · exact Or.inr (h.kept hq)
  · obtain ⟨⟨h1, h2, h3, h4, h5, h6, h7, h8, h9, h10⟩, g1, g2, g3⟩ := h
    refine ⟨⟨h1.narrow hAB, h2.narrow hAB, h3, h4, h5, h6, h7, h8.narrow hAB, h9.narrow hAB, ?_⟩, g1.narrow hAB, g2.narrow hAB, g3⟩
    rcases h10 with h | h
    · exact Or.inl (h.narrow hAB)
    · exact Or.inr (h.narrow hAB)
  · obtain ⟨⟨h1, h2, h3, h4, h5, h6, h7, h8, h9, h10⟩, g⟩ := h
    refine ⟨⟨by rw [ha _ (Nat.le_refl _)]; exact h1, by rw [ha _ (Nat.le_refl _)]; exact h2, h3, h4, h5, h6, fun j hj => by rw [ha _ (by omega)]; exact h7 j hj, ?_, h9, by rw [ha _ (by omega)]; exact h10⟩, g⟩
    rw [show (fun j => ad' (mm_ext + (j + 1))) = (fun j => ad (mm_ext + (j + 1))) from funext fun j => ha _ (by omega), show (fun j => ad' (mm_ext + (j + 101))) = (fun j => ad (mm_ext + (j + 101))) from funext fun j => ha _ (by omega)]
    exact h8
