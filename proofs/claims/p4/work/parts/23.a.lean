section KIt
theorem i32_succ {k m : Int32} (h : k < m) : (k + 1).toInt = k.toInt + 1 := by
  have h1 : k.toInt < m.toInt := Int32.lt_iff_toInt_lt.mp h
  have h2 := Int32.toInt_lt m
  have h3 := Int32.le_toInt k
  rw [Int32.toInt_add]
  show (k.toInt + 1).bmod (2 ^ 32) = _
  exact Int.bmod_eq_of_le (by omega) (by omega)
/-- a counter that goes up to m -/
theorem iter_lt {k m : Int32} {n : Nat} (c : k < m) (hk : (m.toInt - k.toInt).toNat < n + 1) : (m.toInt - (k + 1).toInt).toNat < n := by
  have h1 : k.toInt < m.toInt := Int32.lt_iff_toInt_lt.mp c
  have h2 := i32_succ c
  omega
theorem nI_dec {e : Nat} (h : 0 < e) : nI e + (-1) = nI (e - 1) := by
  obtain ⟨n, rfl⟩ : ∃ n, e = n + 1 := ⟨e - 1, by omega⟩
  rw [nI_succ, Int32.add_assoc, show (1 : Int32) + -1 = 0 by decide, Int32.add_zero]
  rfl
theorem eq_add {x a b c d : Nat} (h : x = a + c) (h1 : a = b) (h2 : c = d) : x = b + d := by rw [h, h1, h2]
theorem eq_add1 {x a b : Nat} (h : x = a + 1) (h1 : a = b) : x = b + 1 := by rw [h, h1]
theorem eq_min {x m a b : Nat} (h : x = min m a) (h1 : a = b) : x = min m b := by rw [h, h1]
end KIt
