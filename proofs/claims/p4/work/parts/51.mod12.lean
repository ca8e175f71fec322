section KM12
theorem bl_ok (C : CT) : zHo (bl C) = zHo C ∧ zLw (bl C) = wdt C ∧ zWm (bl C) = 0 ∧ zNm (bl C) = 0 ∧ zCnt (bl C) = zCnt C ∧ zLo (bl C) = 1 ∧ zLl (bl C) = -1 ∧ zW (bl C) = zW C := ⟨rfl, rfl, rfl, rfl, rfl, rfl, rfl, rfl⟩
theorem lcE_mono (C : CT) : zCnt C ≤ zCnt (lcE C) := by
  unfold lcE
  split
  · exact (lp_ok C).2.2.2.1
  · exact Nat.le_refl _
theorem lcI_1 {T : TS} {m q j : Nat} {C C0 : CT} (h : lcI T (m - j) (q + j) C = lcI T m q C0) (hj : j < m) : lcI T (m - (j + 1)) (q + (j + 1)) (if ttTe T (q + j) &&& 255 = 10 then lp C else szWm C (zWm C + 1)) = lcI T m q C0 := by
  rw [← h, show m - j = m - (j + 1) + 1 by omega, lcI_s, Nat.add_assoc]
theorem lcL_1 {T : TS} {i p : Nat} {C R : CT} (h : lcL T i (ttN T - p) p C = R) (hp : p < ttN T) : lcL T i (ttN T - (p + 1)) (p + 1) (if ttU T p = nI i then lcI T (ttMa T p) (ttFr T p) C else C) = R := by
  rw [← h, show ttN T - p = ttN T - (p + 1) + 1 by omega, lcL_s]
theorem TrI.sum {T : TS} (h : TrI T) {p : Nat} (hp : p < ttN T) : sumN (ttMa T) p + ttMa T p ≤ 4000 ∧ ttFr T p + ttMa T p ≤ 4000 := by
  have h1 := sumN_mono (ttMa T) (show p + 1 ≤ ttN T by omega)
  have h2 : sumN (ttMa T) (p + 1) = sumN (ttMa T) p + ttMa T p := rfl
  have h3 := h.2.2.2.2.1
  have h4 := h.1.2.2.1
  have h5 := h.2.2.2.1 p hp
  exact ⟨by omega, by omega⟩
end KM12
