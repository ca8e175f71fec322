section KLa6
theorem keep_add {rs rs' : RS} {p t : Nat} (ho : ∀ i, i ≠ p → rs' i = rs i) (hp : p = t + 13 ∨ p = t + 15) : ∀ j, j ≠ t + 13 → j ≠ t + 15 → (rs' j).1 = (rs j).1 := fun j h1 h2 => congrArg Prod.fst (ho j (by omega))
theorem keep_set {rs rs' : RS} {p t : Nat} (hs : (rs' p).1 = (rs p).1) (ho : ∀ i, i ≠ p → rs' i = rs i) : ∀ j, j ≠ t + 13 → j ≠ t + 15 → (rs' j).1 = (rs j).1 := fun j _ _ => by
  by_cases e : j = p
  · rw [e]; exact hs
  · exact congrArg Prod.fst (ho j e)
end KLa6
