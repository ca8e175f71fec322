section KTr0b
/-- nodes alone have changed -/
def frO (val va : Nat → va_E) : Prop := ∀ k, ¬ (1000 ≤ k ∧ k < 1300) → va k = val k
variable {cI cN : ClassId} {ob : Nat → Nat} {td : Nat} {rs : RS} {sh : Nat → Int32 × Int32 × Int32} {n ha ch ts : Nat} {hp : Int32} {dom : Nat → Prop} {loc : Nat → Nat} {val va v3 : Nat → va_E}
theorem frO.rf : frO val val := fun _ _ => rfl
theorem frO.trans (h : frO val va) (h2 : frO va v3) : frO val v3 := fun k z => (h2 k z).trans (h k z)
theorem frO_up {i : Nat} (h : ∃ e, va = va_up val (1000 + i) e) (hi : i < 300) : frO val va := fun k z => by
  obtain ⟨e, rfl⟩ := h
  exact va_up_ne _ _ (by omega)
theorem frO.toC (h : frO val va) : frC loc val loc va := fun k _ _ z => ⟨rfl, h k z⟩
theorem LayI.frO (h : LayI cI ob td rs sh dom loc val) (hf : frO val va) : LayI cI ob td rs sh dom loc va := by
  obtain ⟨⟨h1, hn⟩, h2, h3, h4, h5⟩ := h
  refine ⟨⟨fun j hj => ?_, hn⟩, ⟨h2.1, h2.2.1, (hf _ (by omega)).trans h2.2.2⟩, ⟨h3.1, h3.2.1, (hf _ (by omega)).trans h3.2.2⟩, ⟨h4.1, h4.2.1, (hf _ (by omega)).trans h4.2.2⟩, h5⟩
  obtain ⟨g1, g2, g3, g4, g5⟩ := h1 j hj
  have hin := RK_in j hj
  exact ⟨g1, g2, g3, g4.kept (hf _ (by omega)) rfl (hf _ (by omega)), g5⟩
theorem DeskI.frO (h : DeskI cN ob n ha ch ts hp dom loc val) (hf : frO val va) : DeskI cN ob n ha ch ts hp dom loc va := by
  obtain ⟨⟨a1, a2, a3⟩, b1, b2, f, b3, b4⟩ := h
  exact ⟨⟨a1, a2, (hf 0 (by omega)).trans a3⟩, b1, b2, f, (hf 1 (by omega)).trans b3, b4⟩
end KTr0b
