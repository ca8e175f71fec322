theorem rel_sg {T : TR} {M : TS} {n ha ch : Nat} (h : Rel T M n ha ch) (hT : TrI M) (y : Int32) : (¬ y < 1 ∧ ¬ 4 < y ∧ ¬ mhC (tK T ha) 10 = 0) ↔ (1 ≤ y ∧ y ≤ 4 ∧ mh (ttK M (ttHa M)) 10 = 1) := by
  have e2 := rel_mh h hT 10
  have e3 := h.1.2.1
  rw [e2, e3]
  exact ⟨fun ⟨a, b, c⟩ => ⟨Int32.not_lt.mp a, Int32.not_lt.mp b, (mh_01 _ _).resolve_left c⟩, fun ⟨a, b, c⟩ => ⟨Int32.not_lt.mpr a, Int32.not_lt.mpr b, fun z => absurd (z.symm.trans c) (by decide)⟩⟩
