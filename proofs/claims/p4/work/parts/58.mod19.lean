section KM19
variable {T : TS} {C : CT}
theorem OI_st {f : Nat → Int32} {k : Nat} {x : Int32} (h : ∀ i, 0 ≤ (f i).toInt ∨ (f i).toInt ≤ -2) (hx : 0 ≤ x.toInt ∨ x.toInt ≤ -2) : ∀ i, 0 ≤ (upd f k x i).toInt ∨ (upd f k x i).toInt ≤ -2 := fun i => by
  unfold upd
  split
  · exact hx
  · exact h i
theorem st_ok {n : Nat} (h : n ≤ 400000000) : ((-2) - nI n : Int32).toInt = -2 - n := by
  rw [Int32.toInt_sub, nI_toInt (by omega), show (-2 : Int32).toInt = -2 by decide]
  exact Int.bmod_eq_of_le (by omega) (by omega)
theorem ew_mono (C : CT) : zCnt C ≤ zCnt (ew C) := by
  unfold ew
  split
  · exact Nat.le_refl _
  · split
    · exact Nat.le_refl _
    · have g := (ewL_ok (zWm C) 0 (if 0 < zNm C then gn C else C)).2.1
      have e : zCnt (ewE (ewL (zWm C) 0 (if 0 < zNm C then gn C else C))) = zCnt (ewL (zWm C) 0 (if 0 < zNm C then gn C else C)).1 := rfl
      rw [e]
      refine Nat.le_trans ?_ g
      split
      · have := (gn_ok C).2.2.2.1
        omega
      · exact Nat.le_refl _
theorem hearF_mono (c : Int32) (C : CT) : zCnt C ≤ zCnt (hearF c C) := by
  unfold hearF
  split
  · exact ew_mono C
  · exact Nat.le_refl _
theorem hearL_mono (T : TS) : ∀ (k q : Nat) (C : CT), zCnt C ≤ zCnt (hearL T k q C)
  | 0, _, _ => Nat.le_refl _
  | k + 1, q, C => Nat.le_trans (hearF_mono _ C) (hearL_mono T k (q + 1) _)
theorem hearN_mono : ∀ (k : Nat) (C : CT), zCnt C ≤ zCnt (hearN k C)
  | 0, _ => Nat.le_refl _
  | k + 1, C => Nat.le_trans (hearF_mono _ C) (hearN_mono k _)
theorem hearN_1 {n j : Nat} {C C0 : CT} (h : hearN (n - j) C = C0) (hj : j < n) : hearN (n - (j + 1)) (hearF 61 C) = C0 := by
  rw [← h, show n - j = n - (j + 1) + 1 by omega, hearN_s]
theorem hearL_1 {m q j : Nat} {C C0 : CT} (h : hearL T (m - j) (q + j) C = C0) (hj : j < m) : hearL T (m - (j + 1)) (q + (j + 1)) (hearF (ttTe T (q + j) &&& 255) C) = C0 := by
  rw [← h, show m - j = m - (j + 1) + 1 by omega, hearL_s, Nat.add_assoc]
theorem ll_nat {C : CT} (h : LLI C) (h0 : ¬ zLl C < 0) : ∃ j, zLl C = nI j ∧ j < zCnt C := by
  obtain ⟨j, hj, e⟩ := nI_of h0
  have := h.2
  rw [e, nI_toInt hj] at this
  exact ⟨j, e, by omega⟩
theorem he_ok {a b : Nat} (hb : b < a) (ha : a ≤ 1501) : (nI a - nI b : Int32).toInt ≤ 3000 := by
  rw [nI_sub (by omega), nI_toInt (by omega)]
  omega
theorem nI_nm1 {n : Nat} (h : n < 2 ^ 31) : ¬ nI n = -1 := fun z => by
  have := congrArg Int32.toInt z
  rw [nI_toInt h, show (-1 : Int32).toInt = -1 by decide] at this
  omega
theorem hk7 : hk 7 = 1 := by decide
theorem en7 {x : Nat} (e : ttK T x = 7) (C : CT) : en T x C = szHo (enC 7 (enB 7 C)) (zHo (enC 7 (enB 7 C)) - 1) := by
  have q : enA 7 C = C := if_neg (by decide)
  unfold en
  rw [e, q]
  exact if_pos hk7
theorem enC_mono (C : CT) : zCnt C ≤ zCnt (enC 7 C) ∧ zHo (enC 7 C) = zHo C := by
  unfold enC
  rw [if_pos rfl]
  split
  · exact ⟨Nat.le_refl _, rfl⟩
  · have := (gl_ok (szLl C (-1))).2.1
    have e : zCnt (szLl C (-1)) = zCnt C := rfl
    exact ⟨by omega, (gl_ok (szLl C (-1))).1.1⟩
theorem en_el {x : Nat} (e : ttK T x = 0 ∨ ttK T x = 1) (C : CT) : en T x C = el C := by
  unfold en
  rcases e with e | e <;> rw [e] <;> rfl
theorem en_no {x : Nat} (e : ttK T x = 2 ∨ ttK T x = 3 ∨ ttK T x = 8 ∨ ttK T x = 9 ∨ ttK T x = 10) (C : CT) : en T x C = C := by
  unfold en
  rcases e with e | e | e | e | e <;> rw [e] <;> rfl
theorem en_ho {x : Nat} (e : ttK T x = 4 ∨ ttK T x = 5 ∨ ttK T x = 6 ∨ ttK T x = 11) (C : CT) : en T x C = szHo C (zHo C - 1) := by
  unfold en
  rcases e with e | e | e | e <;> rw [e] <;> rfl
end KM19
section KM19b
theorem he_nat {x : Int32} (h0 : ¬ x ≤ 0) (h : x.toInt ≤ 3000) : ∃ n, n ≤ 3000 ∧ x = nI n := by
  have h1 : ¬ x < 0 := fun z => h0 (Int32.le_of_lt z)
  obtain ⟨j, hj, e⟩ := nI_of h1
  rw [e, nI_toInt hj] at h
  exact ⟨j, by omega, e⟩
theorem col_nat {c : Int32} (h1 : ¬ c < 8) (h2 : c ≤ 60) : ∃ n, 8 ≤ n ∧ n ≤ 60 ∧ c = nI n := by
  have a1 : 8 ≤ c.toInt := by
    have := Int32.le_iff_toInt_le.mp (Int32.not_lt.mp h1)
    exact this
  have a2 : c.toInt ≤ 60 := Int32.le_iff_toInt_le.mp h2
  have h3 : ¬ c < 0 := fun z => by
    have := Int32.lt_iff_toInt_lt.mp z
    rw [show (0 : Int32).toInt = 0 by decide] at this
    omega
  obtain ⟨j, hj, e⟩ := nI_of h3
  rw [e, nI_toInt hj] at a1 a2
  exact ⟨j, by omega, by omega, e⟩
theorem neg_nat {x : Int32} (h : x < 0) (h2 : 0 ≤ x.toInt ∨ x.toInt ≤ -2) : ∃ n, n < 2 ^ 31 ∧ (-2) - x = nI n := by
  have a1 : x.toInt < 0 := by
    have := Int32.lt_iff_toInt_lt.mp h
    exact this
  have a2 := Int32.le_toInt x
  have e : ((-2) - x : Int32).toInt = -2 - x.toInt := by
    rw [Int32.toInt_sub, show (-2 : Int32).toInt = -2 by decide]
    exact Int.bmod_eq_of_le (by omega) (by omega)
  have h3 : ¬ ((-2) - x : Int32) < 0 := fun z => by
    have := Int32.lt_iff_toInt_lt.mp z
    rw [e, show (0 : Int32).toInt = 0 by decide] at this
    omega
  exact nI_of h3
end KM19b
