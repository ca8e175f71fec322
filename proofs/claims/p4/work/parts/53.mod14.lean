section KM14
def hearL (T : TS) : Nat → Nat → CT → CT
  | 0, _, C => C
  | k + 1, q, C => hearL T k (q + 1) (hearF (ttTe T q &&& 255) C)
def hearN : Nat → CT → CT
  | 0, C => C
  | k + 1, C => hearN k (hearF 61 C)
theorem hearL_s (T : TS) (k q : Nat) (C : CT) : hearL T (k + 1) q C = hearL T k (q + 1) (hearF (ttTe T q &&& 255) C) := rfl
theorem hearN_s (k : Nat) (C : CT) : hearN (k + 1) C = hearN k (hearF 61 C) := rfl
def wvF (T : TS) (C : CT) : Int32 := if 0 < zHo C then zW C (zHo C - 1) else nI (ttCo T)
def sgF (C : CT) : Int32 := if zK C (zHo C - 1) = 6 then zX C (zHo C - 1) else -1
def bnA1 (T : TS) (i : Nat) (C : CT) : CT := if isB (ttK T i) = 0 then C else if zLo C = 0 then C else el C
def bnA2 (T : TS) (i : Nat) (C : CT) : CT := if isL (ttK T i) = 0 then C else if zLo C = 0 then (if 0 < zHo C then (if zK C (zHo C - 1) = 7 then (if ttK T (pu T i) = 7 then bl C else C) else C) else C) else C
def itF (T : TS) (i : Nat) (C : CT) : CT := hd 7 (wvF T C - nI (sl (sgF C))) (sgF C) (hp T i) (szX C (upd (zX C) (zHo C - 1) (zX C (zHo C - 1) + 1)))
def ruF (C : CT) : CT := el (szNm (bl C) (wdt C))
def hgF (T : TS) (i : Nat) (C : CT) : CT := ew (hearN (ttNu T i).toNatClampNeg (bl C))
def bnB (T : TS) (i : Nat) (C : CT) : CT := if ttK T i = 11 then hd 11 (nI (ttCo T)) (-1) 1 C else if ttK T i = 4 then hd 4 (wvF T C - 2) (-1) 1 C else if ttK T i = 5 then hd 5 (wvF T C) (-1) (hw T i) C else if ttK T i = 6 then hd 6 (wvF T C) (ttNu T i) (hw T i) C else if ttK T i = 7 then itF T i C else if ttK T i = 0 then bl C else if ttK T i = 1 then hgF T i C else if ttK T i = 2 then ruF C else if ttK T i = 3 then lc T i C else if ttK T i = 9 then gn (ew C) else if ttK T i = 10 then (if ttK T (pu T i) = 3 then C else hearL T (ttMa T i) (ttFr T i) C) else C
/-- a node begins -/
def bn (T : TS) (i : Nat) (C : CT) : CT := bnB T i (bnA2 T i (bnA1 T i C))
/-- a node ends -/
def enA (k : Int32) (C : CT) : CT := if k = 0 ∨ k = 1 then el C else C
def enB (k : Int32) (C : CT) : CT := if k = 7 then (if zLo C = 0 then C else el C) else C
def enC (k : Int32) (C : CT) : CT := if k = 7 then (if zD C (zHo C - 1) = 0 then C else gl (szLl C (-1))) else C
def enD (k : Int32) (C : CT) : CT := if hk k = 1 then szHo C (zHo C - 1) else C
def en (T : TS) (x : Nat) (C : CT) : CT := enD (ttK T x) (enC (ttK T x) (enB (ttK T x) (enA (ttK T x) C)))
theorem mulb {a b : Nat} (ha : a ≤ 4010) (hb : b ≤ 13) : (a + 1) * (b + 1) ≤ 56154 := Nat.mul_le_mul (show a + 1 ≤ 4011 by omega) (show b + 1 ≤ 14 by omega)
theorem six1 {a k b : Nat} (h : a + (k * 60000 + 60000) < b) : a + 60000 < b := Nat.lt_of_le_of_lt (Nat.add_le_add_left (Nat.le_add_left _ _) _) h
theorem six3 {a k b : Nat} (h : a + (k * 60000 + 60000) < b) : a + k * 60000 < b := Nat.lt_of_le_of_lt (Nat.add_le_add_left (Nat.le_add_right _ _) _) h
theorem six2 {a c k b : Nat} (h1 : c ≤ a + 60000) (h : a + (k * 60000 + 60000) < b) : c + k * 60000 < b := by
  have q := Nat.add_le_add_right h1 (k * 60000)
  rw [Nat.add_assoc, Nat.add_comm 60000] at q
  exact Nat.lt_of_le_of_lt q h
theorem hearF_ok (c : Int32) (C : CT) (hl : 1 ≤ zLw C) (hn : zNm C ≤ zLw C) (hw : zWm C ≤ 4009) (hh : zHo C ≤ 13) : kq C (hearF c C) ∧ zNm (hearF c C) ≤ zLw C ∧ zWm (hearF c C) ≤ zWm C + 1 ∧ zCnt C ≤ zCnt (hearF c C) ∧ zCnt (hearF c C) ≤ zCnt C + 60000 ∧ (LLI C → zCnt C + 60000 < 2 ^ 31 → LLI (hearF c C)) := by
  unfold hearF
  split
  · obtain ⟨a1, a2, a3, a4, a5⟩ := ew_ok C hl hn
    have hm := mulb (show zWm C ≤ 4010 by omega) hh
    exact ⟨a1, a3, by omega, a4, by omega, fun h hb => ew_ll C h (by omega)⟩
  · exact ⟨kq_Wm _ _, hn, Nat.le_refl _, Nat.le_refl _, Nat.le_add_right _ _, fun h _ => h⟩
theorem hearL_ok (T : TS) : ∀ (k q : Nat) (C : CT), 1 ≤ zLw C → zNm C ≤ zLw C → zWm C + k ≤ 4009 → zHo C ≤ 13 → kq C (hearL T k q C) ∧ zNm (hearL T k q C) ≤ zLw C ∧ zWm (hearL T k q C) ≤ zWm C + k ∧ zCnt C ≤ zCnt (hearL T k q C) ∧ zCnt (hearL T k q C) ≤ zCnt C + k * 60000 ∧ (LLI C → zCnt C + k * 60000 < 2 ^ 31 → LLI (hearL T k q C))
  | 0, q, C, hl, hn, hw, hh => ⟨kq.rf, hn, Nat.le_refl _, Nat.le_refl _, by show zCnt C ≤ _; omega, fun h _ => h⟩
  | k + 1, q, C, hl, hn, hw, hh => by
    obtain ⟨a1, a2, a3, a4, a5, a6⟩ := hearF_ok (ttTe T q &&& 255) C hl hn (by omega) hh
    obtain ⟨b1, b2, b3, b4, b5, b6⟩ := hearL_ok T k (q + 1) (hearF (ttTe T q &&& 255) C) (by rw [a1.2.1]; exact hl) (by rw [a1.2.1]; exact a2) (by omega) (by rw [a1.1]; exact hh)
    rw [hearL_s, Nat.succ_mul]
    rw [a1.2.1] at b2
    exact ⟨a1.trans b1, b2, by omega, by omega, by omega, fun h hb => b6 (a6 h (six1 hb)) (six2 a5 hb)⟩
theorem hearN_ok : ∀ (k : Nat) (C : CT), 1 ≤ zLw C → zNm C ≤ zLw C → zWm C + k ≤ 4009 → zHo C ≤ 13 → kq C (hearN k C) ∧ zNm (hearN k C) ≤ zLw C ∧ zWm (hearN k C) ≤ zWm C + k ∧ zCnt C ≤ zCnt (hearN k C) ∧ zCnt (hearN k C) ≤ zCnt C + k * 60000 ∧ (LLI C → zCnt C + k * 60000 < 2 ^ 31 → LLI (hearN k C))
  | 0, C, hl, hn, hw, hh => ⟨kq.rf, hn, Nat.le_refl _, Nat.le_refl _, by show zCnt C ≤ _; omega, fun h _ => h⟩
  | k + 1, C, hl, hn, hw, hh => by
    obtain ⟨a1, a2, a3, a4, a5, a6⟩ := hearF_ok 61 C hl hn (by omega) hh
    obtain ⟨b1, b2, b3, b4, b5, b6⟩ := hearN_ok k (hearF 61 C) (by rw [a1.2.1]; exact hl) (by rw [a1.2.1]; exact a2) (by omega) (by rw [a1.1]; exact hh)
    rw [hearN_s, Nat.succ_mul]
    rw [a1.2.1] at b2
    exact ⟨a1.trans b1, b2, by omega, by omega, by omega, fun h hb => b6 (a6 h (six1 hb)) (six2 a5 hb)⟩
theorem hd_ok (k w sg wi : Int32) (C : CT) : zHo (hd k w sg wi C) = zHo C + 1 ∧ zCnt (hd k w sg wi C) = zCnt C ∧ zLw (hd k w sg wi C) = zLw C ∧ zWm (hd k w sg wi C) = zWm C ∧ zNm (hd k w sg wi C) = zNm C ∧ zLo (hd k w sg wi C) = zLo C ∧ zLl (hd k w sg wi C) = zLl C ∧ zK (hd k w sg wi C) = upd (zK C) (zHo C) k ∧ zW (hd k w sg wi C) = upd (zW C) (zHo C) (if w < 4 then 4 else w) := by
  unfold hd
  split
  · exact ⟨rfl, rfl, rfl, rfl, rfl, rfl, rfl, rfl, rfl⟩
  · exact ⟨rfl, rfl, rfl, rfl, rfl, rfl, rfl, rfl, rfl⟩
theorem kq_Lo0 (C : CT) : zHo (szLo C 0) = zHo C ∧ zCnt (szLo C 0) = zCnt C ∧ zLw (szLo C 0) = zLw C ∧ zWm (szLo C 0) = zWm C ∧ zNm (szLo C 0) = zNm C ∧ zLo (szLo C 0) = 0 ∧ zLl (szLo C 0) = zLl C ∧ zK (szLo C 0) = zK C ∧ zW (szLo C 0) = zW C := ⟨rfl, rfl, rfl, rfl, rfl, rfl, rfl, rfl, rfl⟩
/-- a leaf ends -/
theorem el_ok (C : CT) (hl : 1 ≤ zLw C) (hn : zNm C ≤ zLw C) (hw : zWm C ≤ 4010) (hh : zHo C ≤ 13) : zHo (el C) = zHo C ∧ zK (el C) = zK C ∧ zW (el C) = zW C ∧ zWm (el C) = 0 ∧ zNm (el C) ≤ zLw C ∧ zLw (el C) = zLw C ∧ zLo (el C) = 0 ∧ zCnt C ≤ zCnt (el C) ∧ zCnt (el C) ≤ zCnt C + 60000 ∧ (LLI C → zCnt C + 60000 < 2 ^ 31 → LLI (el C)) := by
  obtain ⟨a1, a2, a3, a4, a5⟩ := ew_ok C hl hn
  have hm := mulb hw hh
  have e1 := a1.1
  unfold el
  split
  · obtain ⟨b1, b2, b3, b4, b5⟩ := gn_ok (ew C)
    have g1 := (kq_Lo0 (gn (ew C)))
    obtain ⟨c1, c2, c3, c4, c5, c6, c7, c8, c9⟩ := g1
    refine ⟨c1.trans (b1.1.trans a1.1), c8.trans (b1.2.2.2.1.trans a1.2.2.2.1), c9.trans (b1.2.2.2.2.1.trans a1.2.2.2.2.1), c4.trans (b2.trans a2), by rw [c5, b3]; exact Nat.zero_le _, c3.trans (b1.2.1.trans a1.2.1), c6, by rw [c2]; omega, by rw [c2]; omega, fun h hb => ?_⟩
    have h1 := ew_ll C h (by omega)
    exact LLI_Nm (gl_ll h1 (by omega)) 0
  · obtain ⟨c1, c2, c3, c4, c5, c6, c7, c8, c9⟩ := kq_Lo0 (ew C)
    refine ⟨c1.trans a1.1, c8.trans a1.2.2.2.1, c9.trans a1.2.2.2.2.1, c4.trans a2, by rw [c5]; exact a3, c3.trans a1.2.1, c6, by rw [c2]; exact a4, by rw [c2]; omega, fun h hb => ?_⟩
    exact ew_ll C h (by omega)
theorem lp_ll (C : CT) (h : LLI C) (hb : zCnt C + (zWm C + 1) * (zHo C + 1) < 2 ^ 31) : LLI (lp C) := by
  have key : ∀ (k p : Nat) (C : CT), LLI C → zCnt C + k * (zHo C + 1) < 2 ^ 31 → LLI (lpL k p C) := by
    intro k
    induction k with
    | zero => intro p C h _; exact h
    | succ k ih =>
      intro p C h hb
      rw [Nat.succ_mul] at hb
      obtain ⟨a1, a2, a3⟩ := gl_ok C
      have e1 := a1.1
      have h1 := gl_ll h (by omega)
      by_cases c : p + lpN p C < zWm C
      · rw [lpL_go k c]
        exact ih _ _ h1 (by rw [e1]; omega)
      · rw [lpL_end k c]
        exact h1
  exact LLI_Wm (key _ _ _ h hb) 0
theorem lcI_ll (T : TS) : ∀ (k q : Nat) (C : CT), zWm C + k ≤ 4010 → zHo C ≤ 13 → LLI C → zCnt C + k * 60000 < 2 ^ 31 → LLI (lcI T k q C)
  | 0, _, _, _, _, h, _ => h
  | k + 1, q, C, hw, hh, h, hb => by
    rw [Nat.succ_mul] at hb
    have hm := mulb (show zWm C ≤ 4010 by omega) hh
    rw [lcI_s]
    split
    · obtain ⟨a1, a2, a3, a4, a5⟩ := lp_ok C
      exact lcI_ll T k (q + 1) (lp C) (by omega) (by rw [a1.1]; exact hh) (lp_ll C h (by omega)) (by omega)
    · exact lcI_ll T k (q + 1) (szWm C (zWm C + 1)) (by show zWm C + 1 + k ≤ 4010; omega) hh (LLI_Wm h _) (by rw [szWm_cnt]; exact six3 hb)
theorem lcL_ll (T : TS) (i : Nat) : ∀ (k p : Nat) (C : CT), zWm C ≤ sumN (ttMa T) p → sumN (ttMa T) (p + k) ≤ 4000 → zHo C ≤ 13 → LLI C → zCnt C + 60000 * sumN (ttMa T) (p + k) < 2 ^ 31 + 60000 * sumN (ttMa T) p → LLI (lcL T i k p C)
  | 0, _, _, _, _, _, h, _ => h
  | k + 1, p, C, hw, hs, hh, h, hb => by
    have e1 : sumN (ttMa T) (p + 1) = sumN (ttMa T) p + ttMa T p := rfl
    have e2 : p + (k + 1) = p + 1 + k := by omega
    have e3 := sumN_mono (ttMa T) (show p + 1 ≤ p + (k + 1) by omega)
    rw [lcL_s]
    split
    · obtain ⟨a1, a2, a3, a4, a5⟩ := lcI_ok T (ttMa T p) (ttFr T p) C (by omega) hh
      have h1 := lcI_ll T (ttMa T p) (ttFr T p) C (by omega) hh h (by omega)
      exact lcL_ll T i k (p + 1) _ (by omega) (by rw [← e2]; exact hs) (by rw [a1.1]; exact hh) h1 (by rw [← e2]; omega)
    · exact lcL_ll T i k (p + 1) C (by omega) (by rw [← e2]; exact hs) hh h (by rw [← e2]; omega)
theorem w_ok {wd b : Nat} (h : 4 ≤ wd ∧ wd ≤ 60) (hb : b ≤ 200) : ∃ wd2, (if nI wd - nI b < 4 then 4 else nI wd - nI b) = nI wd2 ∧ 4 ≤ wd2 ∧ wd2 ≤ 60 := by
  by_cases c : nI wd - nI b < 4
  · rw [if_pos c]
    exact ⟨4, rfl, by omega, by omega⟩
  · rw [if_neg c]
    have h1 : ¬ (nI wd - nI b).toInt < 4 := fun z => c (Int32.lt_iff_toInt_lt.mpr z)
    rw [nI_subI (by omega) (by omega)] at h1
    exact ⟨wd - b, nI_sub (by omega), by omega, by omega⟩
end KM14
