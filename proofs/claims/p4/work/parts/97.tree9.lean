section KTr9
theorem at_iae : ∀ w ∈ Bundle.ownAtoms "ProsePages" 62 "java/lang/IllegalArgumentException" ["java/lang/RuntimeException", "java/lang/Exception"], w ∈ TT ∨ w ∈ nfw := by
  have h : ∀ w ∈ Bundle.ownAtoms "ProsePages" 62 "java/lang/IllegalArgumentException" ["java/lang/RuntimeException", "java/lang/Exception"], (w ∈ lw_tbl ∧ goodWord w = true) ∨ w ∈ nfw := by decide +kernel
  exact fun w hw => (h w hw).imp (fun z => List.mem_filter.mpr z) id
theorem at_ise : ∀ w ∈ Bundle.ownAtoms "ProsePages" 51 "java/lang/IllegalStateException" ["java/lang/RuntimeException", "java/lang/Exception"], w ∈ TT ∨ w ∈ nfw := by
  have h : ∀ w ∈ Bundle.ownAtoms "ProsePages" 51 "java/lang/IllegalStateException" ["java/lang/RuntimeException", "java/lang/Exception"], (w ∈ lw_tbl ∧ goodWord w = true) ∨ w ∈ nfw := by decide +kernel
  exact fun w hw => (h w hw).imp (fun z => List.mem_filter.mpr z) id
/-- a method's room where a node may be made beside what Phi tells -/
abbrev rmQ (k ph : Nat) : Room := { frames := 20 * k + 20, cells := 140 + (2663816 - ph) / 16, slots := 700100 + (2663816 - ph), locals := 300 * k + 600 }
theorem hold9 : ∀ k ∈ KS, k ≤ 9 → (oneOf k (-1541) = 0 ↔ (k = 2 ∨ k = 9)) := by decide +kernel
/-- the class lets a node begin -/
def okB (T : TR) (n ha : Nat) (k x : Int32) : Prop := (if 300 ≤ n then (1 : Int32) else if 12 ≤ tD T ha then 1 else 0) = 0 ∧ ¬ k < 0 ∧ ¬ 9 < k ∧ ¬ mhC (tK T ha) k = 0 ∧ ¬ numC k x = 0
variable {T : TR} {n ha : Nat}
theorem okB_room {k x : Int32} (h : (if 300 ≤ n then (1 : Int32) else if 12 ≤ tD T ha then 1 else 0) = 0) : n < 300 ∧ tD T ha < 12 := by
  by_cases e : 300 ≤ n
  · rw [if_pos e] at h
    exact absurd h (by decide)
  · rw [if_neg e] at h
    by_cases e2 : 12 ≤ tD T ha
    · rw [if_pos e2] at h
      exact absurd h (by decide)
    · omega
/-- what a node added and taken leaves of the tree's order -/
theorem tk_U (hU : TreeU T n) (hh : ha < n) (k v : Int32) : TreeU (tkT (exT T n ha k v) ha n) (n + 1) := by
  have h1 := exT_U hU hh k v
  have hL : ∀ i, tL (tkT (exT T n ha k v) ha n) i = va_up (exT T n ha k v).2.2.2.2.2.1 ha (some n) i := fun i => by
    unfold tkT
    split <;> rfl
  have hUU : ∀ i, tU (tkT (exT T n ha k v) ha n) i = tU (exT T n ha k v) i := fun i => by
    unfold tkT
    split <;> rfl
  refine ⟨fun i j hi hj => ?_, fun i j hi hj => ?_⟩
  · rw [hUU] at hj
    exact h1.1 i j hi hj
  · rw [hL] at hj
    by_cases e : i = ha
    · subst e
      rw [va_up_self] at hj
      cases hj
      omega
    · rw [va_up_ne _ _ e] at hj
      exact h1.2 i j hi hj
theorem tk_D (k v : Int32) (i : Nat) : tD (tkT (exT T n ha k v) ha n) i = tD (exT T n ha k v) i ∧ tK (tkT (exT T n ha k v) ha n) i = tK (exT T n ha k v) i ∧ tU (tkT (exT T n ha k v) ha n) i = tU (exT T n ha k v) i ∧ tL (tkT (exT T n ha k v) ha n) i = va_up (exT T n ha k v).2.2.2.2.2.1 ha (some n) i := by
  unfold tkT
  split <;> exact ⟨rfl, rfl, rfl, rfl⟩
/-- last and first of a tree's nodes go together -/
def TreeF (T : TR) (n : Nat) : Prop := ∀ i j, i < n → tL T i = some j → i < j ∧ j < n ∧ tD T j = tD T i + 1
theorem tk_I (hT : TreeI T n) (hF : TreeF T n) (hh : ha < n) (hd : tD T ha < 12) (k v : Int32) : TreeI (tkT (exT T n ha k v) ha n) (n + 1) ∧ TreeF (tkT (exT T n ha k v) ha n) (n + 1) := by
  have hD : ∀ i, tD (tkT (exT T n ha k v) ha n) i = tD (exT T n ha k v) i := fun i => (tk_D k v i).1
  have hDo : ∀ i, i < n → tD (exT T n ha k v) i = tD T i := fun i hi => (exT_old (by omega)).2.2.1
  have hDn : tD (exT T n ha k v) n = tD T ha + 1 := exT_new.2.2.1
  have hLo : ∀ i, i < n → tL (exT T n ha k v) i = tL T i := fun i hi => (exT_old (by omega)).2.2.2.2.2.1
  refine ⟨⟨?_, ?_, ?_⟩, ?_⟩
  · intro i j hi hj
    rw [hD, hD]
    have hcase : (i < n ∧ tN T i = some j) ∨ (j = n ∧ i < n ∧ tD T i = tD T ha + 1) := by
      have hLh := hLo ha hh
      unfold tkT at hj
      rw [hLh] at hj
      cases hl : tL T ha with
      | none =>
        rw [hl] at hj
        have hj2 : tN (exT T n ha k v) i = some j := hj
        by_cases e : i = n
        · rw [e, exT_new.2.2.2.2.2.2] at hj2
          cases hj2
        · rw [(exT_old e).2.2.2.2.2.2] at hj2
          exact Or.inl ⟨by omega, hj2⟩
      | some b =>
        rw [hl] at hj
        have hj2 : va_up (exT T n ha k v).2.2.2.2.2.2 b (some n) i = some j := hj
        obtain ⟨f1, f2, f3⟩ := hF ha b hh hl
        by_cases e : i = b
        · rw [e, va_up_self] at hj2
          cases hj2
          exact Or.inr ⟨rfl, by omega, by rw [e]; exact f3⟩
        · rw [va_up_ne _ _ e] at hj2
          have hj3 : tN (exT T n ha k v) i = some j := hj2
          by_cases e2 : i = n
          · rw [e2, exT_new.2.2.2.2.2.2] at hj3
            cases hj3
          · rw [(exT_old e2).2.2.2.2.2.2] at hj3
            exact Or.inl ⟨by omega, hj3⟩
    rcases hcase with ⟨h1, h2⟩ | ⟨h1, h2, h3⟩
    · obtain ⟨q1, q2, q3⟩ := hT.1 i j h1 h2
      rw [hDo i h1, hDo j q2]
      exact ⟨q1, by omega, q3⟩
    · subst h1
      rw [hDo i h2, hDn]
      exact ⟨h2, by omega, h3.symm⟩
  · intro i j hi hj
    rw [hD, hD]
    have hcase : (i < n ∧ tF T i = some j) ∨ (j = n ∧ i = ha) := by
      have hLh := hLo ha hh
      unfold tkT at hj
      rw [hLh] at hj
      cases hl : tL T ha with
      | none =>
        rw [hl] at hj
        have hj2 : va_up (exT T n ha k v).2.2.2.2.1 ha (some n) i = some j := hj
        by_cases e : i = ha
        · rw [e, va_up_self] at hj2
          cases hj2
          exact Or.inr ⟨rfl, e⟩
        · rw [va_up_ne _ _ e] at hj2
          have hj3 : tF (exT T n ha k v) i = some j := hj2
          by_cases e2 : i = n
          · rw [e2, exT_new.2.2.2.2.1] at hj3
            cases hj3
          · rw [(exT_old e2).2.2.2.2.1] at hj3
            exact Or.inl ⟨by omega, hj3⟩
      | some b =>
        rw [hl] at hj
        have hj3 : tF (exT T n ha k v) i = some j := hj
        by_cases e2 : i = n
        · rw [e2, exT_new.2.2.2.2.1] at hj3
          cases hj3
        · rw [(exT_old e2).2.2.2.2.1] at hj3
          exact Or.inl ⟨by omega, hj3⟩
    rcases hcase with ⟨h1, h2⟩ | ⟨h1, h2⟩
    · obtain ⟨q1, q2, q3⟩ := hT.2.1 i j h1 h2
      rw [hDo i h1, hDo j q2]
      exact ⟨q1, by omega, q3⟩
    · subst h1
      subst h2
      rw [hDo i hh, hDn]
      exact ⟨hh, by omega, rfl⟩
  · intro i hi
    rw [hD]
    by_cases e : i = n
    · rw [e, hDn]
      have := (hT.2.2 ha hh).1
      omega
    · rw [hDo i (by omega)]
      exact hT.2.2 i (by omega)
  · intro i j hi hj
    rw [hD, hD]
    rw [(tk_D k v i).2.2.2] at hj
    by_cases e : i = ha
    · subst e
      rw [va_up_self] at hj
      cases hj
      rw [hDo i hh, hDn]
      exact ⟨hh, by omega, rfl⟩
    · rw [va_up_ne _ _ e] at hj
      have hj3 : tL (exT T n ha k v) i = some j := hj
      by_cases e2 : i = n
      · rw [e2, exT_new.2.2.2.2.2.1] at hj3
        cases hj3
      · rw [(exT_old e2).2.2.2.2.2.1] at hj3
        obtain ⟨q1, q2, q3⟩ := hF i j (by omega) hj3
        rw [hDo i (by omega), hDo j q2]
        exact ⟨q1, by omega, q3⟩
theorem sTV_ok {i : Nat} {v : Int32} (hT : TreeI T n) (hU : TreeU T n) (hF : TreeF T n) : TreeI (sTV T i v) n ∧ TreeU (sTV T i v) n ∧ TreeF (sTV T i v) n := ⟨hT, hU, hF⟩
end KTr9
