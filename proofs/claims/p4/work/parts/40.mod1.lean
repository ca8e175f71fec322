section KM1
/-- Nats under a change at one place -/
def updN (f : Nat → Nat) (k x : Nat) : Nat → Nat := fun j => if j = k then x else f j
theorem updN_nI {f : Nat → Nat} {k x : Nat} : upd (fun i => nI (f i)) k (nI x) = fun i => nI (updN f k x i) := by
  funext j
  by_cases h : j = k <;> simp [upd, updN, h]
theorem nI_mul (a b : Nat) : nI a * nI b = nI (a * b) := (Int32.ofNat_mul a b).symm
theorem i32_div10 {v : Int32} (h : 0 ≤ v.toInt) : (v / 10).toInt = v.toInt / 10 := by
  have h2 := Int32.toInt_lt v
  rw [Int32.toInt_div, show (10 : Int32).toInt = 10 by decide, Int.tdiv_eq_ediv_of_nonneg h]
  exact Int.bmod_eq_of_le (by omega) (by omega)
theorem i32_divG {v : Int32} (h : 0 ≤ v) : ¬ 9 < v / 1000000000 := by
  have h1 : 0 ≤ v.toInt := Int32.le_iff_toInt_le.mp h
  have h2 := Int32.toInt_lt v
  have h3 : (v / 1000000000).toInt = v.toInt / 1000000000 := by
    rw [Int32.toInt_div, show (1000000000 : Int32).toInt = 1000000000 by decide, Int.tdiv_eq_ediv_of_nonneg h1]
    exact Int.bmod_eq_of_le (by omega) (by omega)
  intro z
  have z2 := Int32.lt_iff_toInt_lt.mp z
  rw [h3, show (9 : Int32).toInt = 9 by decide] at z2
  omega
/-- how many digits a number has beyond the first -/
def lgF : Nat → Int32 → Nat
  | 0, _ => 0
  | k + 1, v => if 9 < v then lgF k (v / 10) + 1 else 0
theorem lgF_le : ∀ (k : Nat) (v : Int32), lgF k v ≤ k
  | 0, _ => Nat.le_refl _
  | k + 1, v => by
    unfold lgF
    split
    · exact Nat.succ_le_succ (lgF_le k _)
    · exact Nat.zero_le _
/-- a sign's length -/
def sl (x : Int32) : Nat := if x < 0 then 2 else 3 + lgF 10 x
theorem sl_le (x : Int32) : sl x ≤ 13 := by
  unfold sl
  split
  · omega
  · have := lgF_le 10 x; omega
/-- signs ahead of n that were due are so no longer -/
def due (n : Nat) (C : CT) : CT := szD C (fun h => if h < n ∧ zK C h = 7 then 0 else zD C h)
theorem due0 (C : CT) : due 0 C = C := by
  unfold due
  have : (fun h => if h < 0 ∧ zK C h = 7 then 0 else zD C h) = zD C := by funext h; simp
  rw [this]
theorem due_hit {n : Nat} {C : CT} (h : zK C n = 7) : szD (due n C) (upd (zD (due n C)) n 0) = due (n + 1) C := by
  have e9 : upd (fun h => if h < n ∧ zK C h = 7 then 0 else zD C h) n 0 = (fun h => if h < n + 1 ∧ zK C h = 7 then 0 else zD C h) := by
    funext j
    unfold upd
    by_cases e : j = n
    · subst e; simp [h]
    · have : (j < n + 1) = (j < n) := by apply propext; omega
      simp [e, this]
  show szD C (upd (fun h => if h < n ∧ zK C h = 7 then 0 else zD C h) n 0) = szD C (fun h => if h < n + 1 ∧ zK C h = 7 then 0 else zD C h)
  rw [e9]
theorem due_miss {n : Nat} {C : CT} (h : ¬ zK C n = 7 ∨ zD (due n C) n = 0) : due n C = due (n + 1) C := by
  have : (fun h => if h < n ∧ zK C h = 7 then 0 else zD C h) = (fun h => if h < n + 1 ∧ zK C h = 7 then 0 else zD C h) := by
    funext j
    by_cases e : j = n
    · subst e
      rcases h with h | h
      · simp [h]
      · have h2 : zD C j = 0 := by
          have h3 : (if j < j ∧ zK C j = 7 then 0 else zD C j) = 0 := h
          simpa using h3
        simp [h2]
    · have : (j < n + 1) = (j < n) := by apply propext; omega
      simp [this]
  unfold due
  rw [this]
end KM1
