section KSh
theorem shRK {t : Nat} (ht : t = 5 ∨ t = 30) (i : Nat) (hi : i < 8) : t + (2 * i + 1) ∈ RK := by
  rcases ht with rfl | rfl
  · exact (by decide : ∀ i, i < 8 → 5 + (2 * i + 1) ∈ RK) i hi
  · exact (by decide : ∀ i, i < 8 → 30 + (2 * i + 1) ∈ RK) i hi
theorem mxS0 {t : Nat} (ht : t = 5 ∨ t = 30) : mxOf (t + 1) = 320000 := by rcases ht with rfl | rfl <;> rfl
theorem mxS1 {t : Nat} (ht : t = 5 ∨ t = 30) (i : Nat) (hi : 1 ≤ i ∧ i < 8) : mxOf (t + (2 * i + 1)) = 1501 := by
  rcases ht with rfl | rfl
  · exact (by decide : ∀ i, i < 8 → 1 ≤ i → mxOf (5 + (2 * i + 1)) = 1501) i hi.2 hi.1
  · exact (by decide : ∀ i, i < 8 → 1 ≤ i → mxOf (30 + (2 * i + 1)) = 1501) i hi.2 hi.1
/-- a method's room where Phi tells how much of it is left -/
abbrev rmP (k ph : Nat) : Room := { frames := 20 * k + 20, cells := 120 + (2663816 - ph) / 16, slots := 700000 + (2663816 - ph), locals := 300 * k + 600 }
variable {cI : ClassId} {ob : Nat → Nat} {td : Nat} {rs : RS} {sh : Nat → Int32 × Int32 × Int32} {dom : Nat → Prop} {loc : Nat → Nat} {val : Nat → va_E}
theorem LayI.sheet (h : LayI cI ob td rs sh dom loc val) {t : Nat} (ht : t = 5 ∨ t = 30) : SheetI ob sh dom loc val t := by
  rcases ht with rfl | rfl
  · exact h.2.1
  · exact h.2.2.1
/-- a sheet's numbers change -/
theorem LayI.put (h : LayI cI ob td rs sh dom loc val) {t : Nat} (ht : t = 5 ∨ t = 30) (p : Int32 × Int32 × Int32) : LayI cI ob td rs (va_up sh t p) dom loc (va_up val t (.inr (3, [.ref (ob (t + 1)), .ref (ob (t + 3)), .ref (ob (t + 5)), .ref (ob (t + 7)), .ref (ob (t + 9)), .ref (ob (t + 11)), .ref (ob (t + 13)), .ref (ob (t + 15)), .int p.1, .int p.2.1, .int p.2.2]))) ∧ frL loc val loc (va_up val t (.inr (3, [.ref (ob (t + 1)), .ref (ob (t + 3)), .ref (ob (t + 5)), .ref (ob (t + 7)), .ref (ob (t + 9)), .ref (ob (t + 11)), .ref (ob (t + 13)), .ref (ob (t + 15)), .int p.1, .int p.2.1, .int p.2.2]))) := by
  obtain ⟨⟨h1, hn⟩, h2, h3, h4, h5⟩ := h
  have one : ∀ t2, SheetI ob sh dom loc val t2 → SheetI ob (va_up sh t p) dom loc (va_up val t (.inr (3, [.ref (ob (t + 1)), .ref (ob (t + 3)), .ref (ob (t + 5)), .ref (ob (t + 7)), .ref (ob (t + 9)), .ref (ob (t + 11)), .ref (ob (t + 13)), .ref (ob (t + 15)), .int p.1, .int p.2.1, .int p.2.2]))) t2 := fun t2 z => by
    by_cases e : t2 = t
    · subst e
      exact ⟨z.1, z.2.1, by rw [va_up_self, va_up_self]⟩
    · exact ⟨z.1, z.2.1, by rw [va_up_ne _ _ e, va_up_ne _ _ e]; exact z.2.2⟩
  refine ⟨⟨⟨fun j hj => ?_, hn⟩, one 5 h2, one 30 h3, ⟨h4.1, h4.2.1, kup_ne (by omega) h4.2.2⟩, h5⟩, fun k a b => ⟨rfl, va_up_ne _ _ (by omega)⟩⟩
  obtain ⟨g1, g2, g3, g4, g5⟩ := h1 j hj
  have hin := RK_in j hj
  exact ⟨g1, g2, g3, g4.kept (va_up_ne _ _ (by omega)) rfl (va_up_ne _ _ (by omega)), g5⟩
/-- the draft's Rows of lines have one length -/
def DC (rs : RS) (t nl : Nat) : Prop := (rs (t + 3)).1 = nl ∧ (rs (t + 5)).1 = nl ∧ (rs (t + 7)).1 = nl ∧ (rs (t + 9)).1 = nl ∧ (rs (t + 11)).1 = nl ∧ nl ≤ 1500 ∧ (rs (t + 1)).1 ≤ 204 * nl
end KSh
