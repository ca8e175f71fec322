section KM10
def isB (k : Int32) : Int32 := if k < 0 then 0 else if 6 < k then 0 else 1
def isL (k : Int32) : Int32 := if k < 8 then 0 else if 10 < k then 0 else 1
/-- whether a kind holds another -/
def mh (a k : Int32) : Int32 := if a = 11 ∨ a = 4 then isB k else if a = 5 ∨ a = 6 then (if k = 7 then 1 else 0) else if a = 7 then (if isB k = 0 then isL k else 1) else if a = 0 ∨ a = 1 ∨ a = 8 then isL k else if a = 3 then (if k = 10 then 1 else 0) else 0
def pu (T : TS) (i : Nat) : Nat := (ttU T i).toNatClampNeg
def hk (k : Int32) : Nat := if k = 11 ∨ k = 4 ∨ k = 5 ∨ k = 6 ∨ k = 7 then 1 else 0
def sumN (f : Nat → Nat) : Nat → Nat
  | 0 => 0
  | n + 1 => sumN f n + f n
theorem sumN_mono (f : Nat → Nat) {m n : Nat} (h : m ≤ n) : sumN f m ≤ sumN f n := by
  induction n with
  | zero => rw [Nat.le_zero.mp h]; exact Nat.le_refl _
  | succ n ih =>
    by_cases e : m = n + 1
    · rw [e]; exact Nat.le_refl _
    · have := ih (by omega)
      show sumN f m ≤ sumN f n + f n
      omega
/-- n steps up -/
def itr (T : TS) : Nat → Nat → Nat
  | 0, x => x
  | k + 1, x => itr T k (pu T x)
/-- the reference's tree -/
def TrI (T : TS) : Prop := (1 ≤ ttN T ∧ ttN T ≤ 300 ∧ ttCh T ≤ 4000 ∧ ttHa T < ttN T) ∧ (ttK T 0 = 11 ∧ ttU T 0 = -1 ∧ ttHc T 0 = 1 ∧ ttDe T 0 = 1) ∧
  (∀ i, 0 < i → i < ttN T → pu T i < i ∧ ttU T i = nI (pu T i) ∧ ttDe T i = ttDe T (pu T i) + 1 ∧ ttDe T i ≤ 12 ∧ ttHc T i = ttHc T (pu T i) + hk (ttK T i) ∧ mh (ttK T (pu T i)) (ttK T i) = 1 ∧ (0 ≤ ttK T i ∧ ttK T i ≤ 10) ∧ (ttK T i = 1 → 1 ≤ ttNu T i ∧ ttNu T i ≤ 6)) ∧
  (∀ i, i < ttN T → ttFr T i + ttMa T i ≤ ttCh T) ∧ sumN (ttMa T) (ttN T) ≤ ttCh T ∧ (∀ i, 0 < i → i < ttN T → ∃ k, itr T k (i - 1) = pu T i) ∧ (∃ k, itr T k (ttN T - 1) = ttHa T)
/-- does a node hold a paragraph, a wide item -/
def hpL (T : TS) (i : Nat) : Nat → Nat → Int32 → Int32
  | 0, _, b => b
  | k + 1, p, b => hpL T i k (p + 1) (if b = 0 then (if ttU T p = nI i then (if ttK T p = 0 then 1 else 0) else 0) else 1)
def hp (T : TS) (i : Nat) : Int32 := hpL T i (ttN T - (i + 1)) (i + 1) 0
def hwL (T : TS) (i : Nat) : Nat → Nat → Int32 → Int32
  | 0, _, b => b
  | k + 1, p, b => hwL T i k (p + 1) (if b = 0 then (if ttU T p = nI i then (if hp T p = 0 then 0 else 1) else 0) else 1)
def hw (T : TS) (i : Nat) : Int32 := hwL T i (ttN T - (i + 1)) (i + 1) 0
theorem hpL_s (T : TS) (i k p : Nat) (b : Int32) : hpL T i (k + 1) p b = hpL T i k (p + 1) (if b = 0 then (if ttU T p = nI i then (if ttK T p = 0 then 1 else 0) else 0) else 1) := rfl
theorem hwL_s (T : TS) (i k p : Nat) (b : Int32) : hwL T i (k + 1) p b = hwL T i k (p + 1) (if b = 0 then (if ttU T p = nI i then (if hp T p = 0 then 0 else 1) else 0) else 1) := rfl
theorem hpL_01 (T : TS) (i : Nat) : ∀ (k p : Nat) (b : Int32), b = 0 ∨ b = 1 → hpL T i k p b = 0 ∨ hpL T i k p b = 1
  | 0, _, _, h => h
  | k + 1, p, b, h => by
    rw [hpL_s]
    apply hpL_01 T i k (p + 1)
    split
    · split
      · split
        · exact Or.inr rfl
        · exact Or.inl rfl
      · exact Or.inl rfl
    · exact Or.inr rfl
theorem hwL_01 (T : TS) (i : Nat) : ∀ (k p : Nat) (b : Int32), b = 0 ∨ b = 1 → hwL T i k p b = 0 ∨ hwL T i k p b = 1
  | 0, _, _, h => h
  | k + 1, p, b, h => by
    rw [hwL_s]
    apply hwL_01 T i k (p + 1)
    split
    · split
      · split
        · exact Or.inl rfl
        · exact Or.inr rfl
      · exact Or.inl rfl
    · exact Or.inr rfl
theorem nar01 {b : Int32} (h : b = 0 ∨ b = 1) : narrow .boolean (.int b) = .int b := by
  rcases h with rfl | rfl
  · decide
  · decide
/-- code: its characters, its texts, the whole -/
def lcI (T : TS) : Nat → Nat → CT → CT
  | 0, _, C => C
  | k + 1, q, C => lcI T k (q + 1) (if ttTe T q &&& 255 = 10 then lp C else szWm C (zWm C + 1))
def lcL (T : TS) (i : Nat) : Nat → Nat → CT → CT
  | 0, _, C => C
  | k + 1, p, C => lcL T i k (p + 1) (if ttU T p = nI i then lcI T (ttMa T p) (ttFr T p) C else C)
def lcE (C : CT) : CT := szLo (if 0 < zWm C then lp C else C) 0
def lc (T : TS) (i : Nat) (C : CT) : CT := lcE (lcL T i (ttN T - (i + 1)) (i + 1) (bl C))
theorem lcI_s (T : TS) (k q : Nat) (C : CT) : lcI T (k + 1) q C = lcI T k (q + 1) (if ttTe T q &&& 255 = 10 then lp C else szWm C (zWm C + 1)) := rfl
theorem lcL_s (T : TS) (i k p : Nat) (C : CT) : lcL T i (k + 1) p C = lcL T i k (p + 1) (if ttU T p = nI i then lcI T (ttMa T p) (ttFr T p) C else C) := rfl
theorem kq_ok {A B : CT} (h : kq A B) : zHo B = zHo A ∧ zLw B = zLw A ∧ zLo B = zLo A := ⟨h.1, h.2.1, h.2.2.1⟩
theorem szWm_cnt (C : CT) (x : Nat) : zCnt (szWm C x) = zCnt C := rfl
theorem szWm_nm (C : CT) (x : Nat) : zNm (szWm C x) = zNm C := rfl
/-- what code's characters change -/
theorem lcI_ok (T : TS) : ∀ (k q : Nat) (C : CT), zWm C + k ≤ 4010 → zHo C ≤ 13 → kq C (lcI T k q C) ∧ zNm (lcI T k q C) = zNm C ∧ zWm (lcI T k q C) ≤ zWm C + k ∧ zCnt C ≤ zCnt (lcI T k q C) ∧ zCnt (lcI T k q C) ≤ zCnt C + k * 60000
  | 0, _, C, _, _ => ⟨kq.rf, rfl, Nat.le_refl _, Nat.le_refl _, by show zCnt C ≤ _; omega⟩
  | k + 1, q, C, h, hh => by
    rw [lcI_s, Nat.succ_mul]
    split
    · obtain ⟨a1, a2, a3, a4, a5⟩ := lp_ok C
      obtain ⟨b1, b2, b3, b4, b5⟩ := lcI_ok T k (q + 1) (lp C) (by omega) (by rw [a1.1]; exact hh)
      have hm : (zWm C + 1) * (zHo C + 1) ≤ 4011 * 14 := Nat.mul_le_mul (by omega) (by omega)
      exact ⟨a1.trans b1, b2.trans a3, by omega, by omega, by omega⟩
    · obtain ⟨b1, b2, b3, b4, b5⟩ := lcI_ok T k (q + 1) (szWm C (zWm C + 1)) (by show zWm C + 1 + k ≤ 4010; omega) hh
      rw [szWm_cnt] at b4 b5
      refine ⟨(kq_Wm _ _).trans b1, b2, ?_, b4, Nat.le_trans b5 (by rw [← Nat.add_assoc]; exact Nat.le_add_right _ _)⟩
      exact Nat.le_trans b3 (by show zWm C + 1 + k ≤ zWm C + (k + 1); omega)
theorem lcL_ok (T : TS) (i : Nat) : ∀ (k p : Nat) (C : CT), zWm C ≤ sumN (ttMa T) p → sumN (ttMa T) (p + k) ≤ 4000 → zHo C ≤ 13 → kq C (lcL T i k p C) ∧ zNm (lcL T i k p C) = zNm C ∧ zWm (lcL T i k p C) ≤ sumN (ttMa T) (p + k) ∧ zCnt C ≤ zCnt (lcL T i k p C) ∧ zCnt (lcL T i k p C) + 60000 * sumN (ttMa T) p ≤ zCnt C + 60000 * sumN (ttMa T) (p + k)
  | 0, _, C, h, _, _ => ⟨kq.rf, rfl, h, Nat.le_refl _, Nat.le_refl _⟩
  | k + 1, p, C, h, hs, hh => by
    have e1 : sumN (ttMa T) (p + 1) = sumN (ttMa T) p + ttMa T p := rfl
    have e2 : p + (k + 1) = p + 1 + k := by omega
    have e3 := sumN_mono (ttMa T) (show p + 1 ≤ p + (k + 1) by omega)
    rw [lcL_s]
    split
    · obtain ⟨a1, a2, a3, a4, a5⟩ := lcI_ok T (ttMa T p) (ttFr T p) C (by omega) hh
      obtain ⟨b1, b2, b3, b4, b5⟩ := lcL_ok T i k (p + 1) (lcI T (ttMa T p) (ttFr T p) C) (by omega) (by rw [← e2]; exact hs) (by rw [a1.1]; exact hh)
      rw [← e2] at b3 b5
      exact ⟨a1.trans b1, b2.trans a2, b3, by omega, by omega⟩
    · obtain ⟨b1, b2, b3, b4, b5⟩ := lcL_ok T i k (p + 1) C (by omega) (by rw [← e2]; exact hs) hh
      rw [← e2] at b3 b5
      exact ⟨b1, b2, b3, b4, by omega⟩
end KM10
