section KS
theorem i32_of {k c : Int32} {n : Int} (h : k.toInt = n) (hc : c.toInt = n) : k = c := Int32.toInt_inj.mp (h.trans hc.symm)
theorem i32_09 {k : Int32} (h0 : ¬ k < 0) (h9 : ¬ 9 < k) : k = 0 ∨ k = 1 ∨ k = 2 ∨ k = 3 ∨ k = 4 ∨ k = 5 ∨ k = 6 ∨ k = 7 ∨ k = 8 ∨ k = 9 := by
  have a0 : (0 : Int32).toInt = 0 := by decide
  have a9 : (9 : Int32).toInt = 9 := by decide
  have h1 : ¬ k.toInt < 0 := fun h => h0 (Int32.lt_iff_toInt_lt.mpr (by rw [a0]; exact h))
  have h2 : ¬ 9 < k.toInt := fun h => h9 (Int32.lt_iff_toInt_lt.mpr (by rw [a9]; exact h))
  have h3 : k.toInt = 0 ∨ k.toInt = 1 ∨ k.toInt = 2 ∨ k.toInt = 3 ∨ k.toInt = 4 ∨ k.toInt = 5 ∨ k.toInt = 6 ∨ k.toInt = 7 ∨ k.toInt = 8 ∨ k.toInt = 9 := by omega
  rcases h3 with h | h | h | h | h | h | h | h | h | h
  · exact Or.inl (i32_of h (by decide))
  · exact Or.inr (Or.inl (i32_of h (by decide)))
  · exact Or.inr (Or.inr (Or.inl (i32_of h (by decide))))
  · exact Or.inr (Or.inr (Or.inr (Or.inl (i32_of h (by decide)))))
  · exact Or.inr (Or.inr (Or.inr (Or.inr (Or.inl (i32_of h (by decide))))))
  · exact Or.inr (Or.inr (Or.inr (Or.inr (Or.inr (Or.inl (i32_of h (by decide)))))))
  · exact Or.inr (Or.inr (Or.inr (Or.inr (Or.inr (Or.inr (Or.inl (i32_of h (by decide))))))))
  · exact Or.inr (Or.inr (Or.inr (Or.inr (Or.inr (Or.inr (Or.inr (Or.inl (i32_of h (by decide)))))))))
  · exact Or.inr (Or.inr (Or.inr (Or.inr (Or.inr (Or.inr (Or.inr (Or.inr (Or.inl (i32_of h (by decide))))))))))
  · exact Or.inr (Or.inr (Or.inr (Or.inr (Or.inr (Or.inr (Or.inr (Or.inr (Or.inr (i32_of h (by decide))))))))))
theorem i32_0 {x : Int32} (h0 : ¬ x < 0) (h1 : ¬ 1 ≤ x) : x = 0 := by
  have a0 : (0 : Int32).toInt = 0 := by decide
  have a1 : (1 : Int32).toInt = 1 := by decide
  have g0 : ¬ x.toInt < 0 := fun h => h0 (Int32.lt_iff_toInt_lt.mpr (by rw [a0]; exact h))
  have g1 : ¬ 1 ≤ x.toInt := fun h => h1 (Int32.le_iff_toInt_le.mpr (by rw [a1]; exact h))
  exact i32_of (show x.toInt = 0 by omega) (by decide)
theorem and15 (x : Int32) : 0 ≤ (x &&& 15).toInt ∧ (x &&& 15).toInt ≤ 15 := by
  have h : (x &&& 15).toBitVec.toNat ≤ 15 := by
    rw [Int32.toBitVec_and, BitVec.toNat_and]
    exact Nat.and_le_right
  have h2 : (x &&& 15).toInt = ((x &&& 15).toBitVec.toNat : Int) := by
    show (x &&& 15).toBitVec.toInt = _
    rw [BitVec.toInt_eq_toNat_of_lt (by omega)]
  omega
theorem isNum_01 (k n : Int32) : isNum k n = 1 ∨ isNum k n = 0 := by
  unfold isNum
  split
  · split
    · exact Or.inr rfl
    · split
      · exact Or.inr rfl
      · exact Or.inl rfl
  · split
    · split
      · exact Or.inr rfl
      · split
        · exact Or.inr rfl
        · exact Or.inl rfl
    · exact Or.inl rfl
def gB (k n : Int32) : Prop := (k = 0 ∨ k = 1 ∨ k = 2 ∨ k = 3 ∨ k = 4 ∨ k = 5 ∨ k = 6) ∧ isNum k n = 1
def bB (k n : Int32) : Prop := k < 0 ∨ (¬ k < 0 ∧ 9 < k) ∨ k = 7 ∨ k = 8 ∨ k = 9 ∨ (k = 1 ∧ isNum 1 n = 0) ∨ (k = 6 ∧ isNum 6 n = 0)
theorem gB_or (k n : Int32) : gB k n ∨ bB k n := by
  by_cases h0 : k < 0
  · exact Or.inr (Or.inl h0)
  by_cases h9 : 9 < k
  · exact Or.inr (Or.inr (Or.inl ⟨h0, h9⟩))
  rcases i32_09 h0 h9 with rfl | rfl | rfl | rfl | rfl | rfl | rfl | rfl | rfl | rfl
  · exact Or.inl ⟨by decide, rfl⟩
  · rcases isNum_01 1 n with h | h
    · exact Or.inl ⟨by decide, h⟩
    · exact Or.inr (Or.inr (Or.inr (Or.inr (Or.inr (Or.inr (Or.inl ⟨rfl, h⟩))))))
  · exact Or.inl ⟨by decide, rfl⟩
  · exact Or.inl ⟨by decide, rfl⟩
  · exact Or.inl ⟨by decide, rfl⟩
  · exact Or.inl ⟨by decide, rfl⟩
  · rcases isNum_01 6 n with h | h
    · exact Or.inl ⟨by decide, h⟩
    · exact Or.inr (Or.inr (Or.inr (Or.inr (Or.inr (Or.inr (Or.inr ⟨rfl, h⟩))))))
  · exact Or.inr (Or.inr (Or.inr (Or.inl rfl)))
  · exact Or.inr (Or.inr (Or.inr (Or.inr (Or.inl rfl))))
  · exact Or.inr (Or.inr (Or.inr (Or.inr (Or.inr (Or.inl rfl)))))
/-- a number is 0 .. n, or lies outside -/
theorem sw_cases {y : Int32} (n : Nat) (h : ¬ (y.toInt < 0 ∨ (n : Int) < y.toInt)) : ∃ i : Nat, i ≤ n ∧ y.toInt = (i : Int) := ⟨y.toInt.toNat, by omega, by omega⟩
abbrev PR (loc : Nat → Nat) (val : Nat → va_E) (v : Int32) : kT := fun rv d lo va kc ns => rv = some (.int v) ∧ keepM loc val d lo va ∧ kc = 0 ∧ ns = 0
abbrev PM (loc : Nat → Nat) (val : Nat → va_E) (r : Option Value) (t : Int32) : kT := fun rv d lo va kc ns => rv = r ∧ (∃ xs9, va 48 = .inr (5, .int t :: xs9)) ∧ keepO loc val d lo va ∧ kc = 0 ∧ ns = 0
end KS
