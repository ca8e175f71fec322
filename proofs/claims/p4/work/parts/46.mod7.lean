section KM7
theorem szNm_id {C : CT} {x : Nat} (h : zNm C = x) : szNm C x = C := by
  subst h
  rfl
theorem szNm2 (C : CT) (x y : Nat) : szNm (szNm C x) y = szNm C y := rfl
theorem szNm_cnt (C : CT) (x : Nat) : zCnt (szNm C x) = zCnt C := rfl
/-- the line at hand is given -/
def gn (C : CT) : CT := szNm (gl C) 0
/-- a word that is too long goes out in pieces -/
def ewL : Nat → Nat → CT → CT × Nat
  | 0, p, C => (C, p)
  | k + 1, p, C => if zLw C < zWm C - p then ewL k (p + zLw C) (gl C) else (C, p)
theorem ewL_stop {C : CT} {p : Nat} (h : ¬ zLw C < zWm C - p) : ∀ k, ewL k p C = (C, p)
  | 0 => rfl
  | k + 1 => if_neg h
theorem ewL_step {C : CT} {p : Nat} (k : Nat) (h : zLw C < zWm C - p) : ewL (k + 1) p C = ewL k (p + zLw C) (gl C) := if_pos h
theorem ewL_ok : ∀ (k p : Nat) (C : CT), kp C (ewL k p C).1 ∧ zCnt C ≤ zCnt (ewL k p C).1 ∧ zCnt (ewL k p C).1 ≤ zCnt C + k * (zHo C + 1) ∧ (zWm C - p ≤ k → 1 ≤ zLw C → zWm C - (ewL k p C).2 ≤ zLw C)
  | 0, p, C => ⟨kp.rf, Nat.le_refl _, by show zCnt C ≤ _; omega, fun h _ => by show zWm C - p ≤ _; omega⟩
  | k + 1, p, C => by
    by_cases h : zLw C < zWm C - p
    · rw [ewL_step k h]
      obtain ⟨a1, a2, a3⟩ := gl_ok C
      obtain ⟨b1, b2, b3, b4⟩ := ewL_ok k (p + zLw C) (gl C)
      have e1 := a1.1
      have e2 := a1.2.1
      have e3 := a1.2.2.1
      rw [e1] at b3
      rw [e2, e3] at b4
      refine ⟨a1.trans b1, by omega, ?_, fun h1 h2 => b4 (by omega) h2⟩
      rw [Nat.succ_mul]
      omega
    · rw [ewL_stop h]
      refine ⟨kp.rf, Nat.le_refl _, ?_, fun _ _ => by show zWm C - p ≤ _; omega⟩
      show zCnt C ≤ _
      omega
theorem ewL_ll : ∀ (k p : Nat) (C : CT), LLI C → zCnt C + k * (zHo C + 1) < 2 ^ 31 → LLI (ewL k p C).1
  | 0, _, _, h, _ => h
  | k + 1, p, C, h, hb => by
    by_cases c : zLw C < zWm C - p
    · rw [ewL_step k c]
      obtain ⟨a1, a2, a3⟩ := gl_ok C
      have e1 := a1.1
      rw [Nat.succ_mul] at hb
      exact ewL_ll k _ _ (gl_ll h (by omega)) (by rw [e1]; omega)
    · rw [ewL_stop c]
      exact h
def ewE (q : CT × Nat) : CT := szWm (szNm q.1 (zWm q.1 - q.2)) 0
/-- a word ends -/
def ew (C : CT) : CT := if zWm C = 0 then C else if 0 < zNm C ∧ zNm C + 1 + zWm C ≤ zLw C then szWm (szNm C (zNm C + 1 + zWm C)) 0 else ewE (ewL (zWm C) 0 (if 0 < zNm C then gn C else C))
/-- what only holders change -/
def kq (C C2 : CT) : Prop := zHo C2 = zHo C ∧ zLw C2 = zLw C ∧ zLo C2 = zLo C ∧ zK C2 = zK C ∧ zW C2 = zW C ∧ zS C2 = zS C ∧ zX C2 = zX C ∧ zI C2 = zI C
theorem kq.rf {C : CT} : kq C C := ⟨rfl, rfl, rfl, rfl, rfl, rfl, rfl, rfl⟩
theorem kq.trans {A B C : CT} (h : kq A B) (g : kq B C) : kq A C := by
  obtain ⟨h1, h2, h3, h4, h5, h6, h7, h8⟩ := h
  obtain ⟨g1, g2, g3, g4, g5, g6, g7, g8⟩ := g
  exact ⟨g1.trans h1, g2.trans h2, g3.trans h3, g4.trans h4, g5.trans h5, g6.trans h6, g7.trans h7, g8.trans h8⟩
theorem kp.q {A B : CT} (h : kp A B) : kq A B := by
  obtain ⟨h1, h2, h3, h4, h5, h6, h7, h8, h9, h0⟩ := h
  exact ⟨h1, h2, h5, h6, h7, h8, h9, h0⟩
theorem kq_Nm (C : CT) (x : Nat) : kq C (szNm C x) := ⟨rfl, rfl, rfl, rfl, rfl, rfl, rfl, rfl⟩
theorem kq_Wm (C : CT) (x : Nat) : kq C (szWm C x) := ⟨rfl, rfl, rfl, rfl, rfl, rfl, rfl, rfl⟩
theorem LLI_Nm {C : CT} (h : LLI C) (x : Nat) : LLI (szNm C x) := h
theorem LLI_Wm {C : CT} (h : LLI C) (x : Nat) : LLI (szWm C x) := h
theorem gn_ok (C : CT) : kq C (gn C) ∧ zWm (gn C) = zWm C ∧ zNm (gn C) = 0 ∧ zCnt C + 1 ≤ zCnt (gn C) ∧ zCnt (gn C) ≤ zCnt C + zHo C + 1 := by
  obtain ⟨a1, a2, a3⟩ := gl_ok C
  exact ⟨a1.q.trans (kq_Nm _ _), a1.2.2.1, rfl, a2, a3⟩
theorem ewE_ok (k p : Nat) (C : CT) (hk : zWm C - p ≤ k) (hl : 1 ≤ zLw C) : kq C (ewE (ewL k p C)) ∧ zWm (ewE (ewL k p C)) = 0 ∧ zNm (ewE (ewL k p C)) ≤ zLw C ∧ zCnt C ≤ zCnt (ewE (ewL k p C)) ∧ zCnt (ewE (ewL k p C)) ≤ zCnt C + k * (zHo C + 1) ∧ zCnt (ewE (ewL k p C)) = zCnt (ewL k p C).1 := by
  obtain ⟨b1, b2, b3, b4⟩ := ewL_ok k p C
  have e3 := b1.2.2.1
  refine ⟨(b1.q.trans (kq_Nm _ _)).trans (kq_Wm _ _), rfl, ?_, b2, b3, rfl⟩
  show zWm (ewL k p C).1 - (ewL k p C).2 ≤ zLw C
  rw [e3]
  exact b4 hk hl
/-- what a word's end leaves -/
theorem ew_ok (C : CT) (hl : 1 ≤ zLw C) (hn : zNm C ≤ zLw C) : kq C (ew C) ∧ zWm (ew C) = 0 ∧ zNm (ew C) ≤ zLw C ∧ zCnt C ≤ zCnt (ew C) ∧ zCnt (ew C) ≤ zCnt C + (zWm C + 1) * (zHo C + 1) := by
  unfold ew
  split
  · rename_i h
    refine ⟨kq.rf, h, hn, Nat.le_refl _, by omega⟩
  · split
    · rename_i h
      exact ⟨(kq_Nm _ _).trans (kq_Wm _ _), rfl, h.2, Nat.le_refl _, Nat.le_add_right _ _⟩
    · split
      · obtain ⟨a1, a2, a3, a4, a5⟩ := gn_ok C
        obtain ⟨b1, b2, b3, b4, b5, b6⟩ := ewE_ok (zWm C) 0 (gn C) (by rw [a2]; omega) (by rw [a1.2.1]; exact hl)
        rw [a1.2.1] at b3
        rw [a1.1] at b5
        refine ⟨a1.trans b1, b2, b3, by omega, ?_⟩
        rw [Nat.succ_mul]
        omega
      · obtain ⟨b1, b2, b3, b4, b5, b6⟩ := ewE_ok (zWm C) 0 C (by omega) hl
        refine ⟨b1, b2, b3, b4, ?_⟩
        rw [Nat.succ_mul]
        omega
theorem ew_ll (C : CT) (h : LLI C) (hb : zCnt C + (zWm C + 1) * (zHo C + 1) < 2 ^ 31) : LLI (ew C) := by
  rw [Nat.succ_mul] at hb
  unfold ew
  split
  · exact h
  · split
    · exact h
    · split
      · obtain ⟨a1, a2, a3, a4, a5⟩ := gn_ok C
        have h1 : LLI (gn C) := LLI_Nm (gl_ll h (by omega)) 0
        have h2 := ewL_ll (zWm C) 0 (gn C) h1 (by rw [a1.1]; omega)
        exact h2
      · have h2 := ewL_ll (zWm C) 0 C h (by omega)
        exact h2
/-- a character is heard -/
def hearF (c : Int32) (C : CT) : CT := if c = 9 ∨ c = 10 ∨ c = 13 ∨ c = 32 then ew C else szWm C (zWm C + 1)
/-- the width at hand -/
def wdt (C : CT) : Nat := (zW C (zHo C - 1)).toNatClampNeg
def bl (C : CT) : CT := szNm (szWm (szLw (szLl (szLo (szF C (upd (zF C) (zHo C - 1) 1)) 1) (-1)) (wdt C)) 0) 0
def el (C : CT) : CT := szLo (if 0 < zNm (ew C) then gn (ew C) else ew C) 0
def hd (k w sg wi : Int32) (C : CT) : CT := szHo (szF (szH (szI (szD (szX (szS (szW (szK (if 0 < zHo C then szF C (upd (zF C) (zHo C - 1) 1) else C) (upd (zK C) (zHo C) k)) (upd (zW C) (zHo C) (if w < 4 then 4 else w))) (upd (zS C) (zHo C) sg)) (upd (zX C) (zHo C) sg)) (upd (zD C) (zHo C) (if k = 7 then 1 else 0))) (upd (zI C) (zHo C) (vp_nar .boolean wi))) (upd (zH C) (zHo C) 0)) (upd (if 0 < zHo C then upd (zF C) (zHo C - 1) 1 else zF C) (zHo C) 0)) (zHo C + 1)
/-- code goes out in pieces -/
def lpN (p : Nat) (C : CT) : Nat := if zWm C - p < zLw C then zWm C - p else zLw C
def lpL : Nat → Nat → CT → CT
  | 0, _, C => C
  | k + 1, p, C => if p + lpN p C < zWm C then lpL k (p + lpN p C) (gl C) else gl C
def lp (C : CT) : CT := szWm (lpL (zWm C + 1) 0 C) 0
theorem lpL_ok : ∀ (k p : Nat) (C : CT), kp C (lpL k p C) ∧ zCnt C ≤ zCnt (lpL k p C) ∧ zCnt (lpL k p C) ≤ zCnt C + k * (zHo C + 1)
  | 0, p, C => ⟨kp.rf, Nat.le_refl _, by show zCnt C ≤ _; omega⟩
  | k + 1, p, C => by
    obtain ⟨a1, a2, a3⟩ := gl_ok C
    unfold lpL
    split
    · obtain ⟨b1, b2, b3⟩ := lpL_ok k (p + lpN p C) (gl C)
      rw [a1.1] at b3
      refine ⟨a1.trans b1, by omega, ?_⟩
      rw [Nat.succ_mul]
      omega
    · refine ⟨a1, by omega, ?_⟩
      rw [Nat.succ_mul]
      omega
theorem lp_ok (C : CT) : kq C (lp C) ∧ zWm (lp C) = 0 ∧ zNm (lp C) = zNm C ∧ zCnt C ≤ zCnt (lp C) ∧ zCnt (lp C) ≤ zCnt C + (zWm C + 1) * (zHo C + 1) := by
  obtain ⟨b1, b2, b3⟩ := lpL_ok (zWm C + 1) 0 C
  exact ⟨b1.q.trans (kq_Wm _ _), rfl, b1.2.2.2.1, b2, b3⟩
theorem el_mono (C : CT) : zCnt (ew C) ≤ zCnt (el C) := by
  unfold el
  split
  · have := (gn_ok (ew C)).2.2.2.1
    show _ ≤ zCnt (gn (ew C))
    omega
  · exact Nat.le_refl _
theorem lpN_le (p : Nat) (C : CT) : lpN p C ≤ zWm C - p ∧ lpN p C ≤ zLw C ∧ (0 < zLw C → p < zWm C → 0 < lpN p C) := by
  unfold lpN
  split
  · refine ⟨?_, ?_, ?_⟩ <;> omega
  · refine ⟨?_, ?_, ?_⟩ <;> omega
theorem lpL_go {p : Nat} {C : CT} (k : Nat) (h : p + lpN p C < zWm C) : lpL (k + 1) p C = lpL k (p + lpN p C) (gl C) := if_pos h
theorem lpL_end {p : Nat} {C : CT} (k : Nat) (h : ¬ p + lpN p C < zWm C) : lpL (k + 1) p C = gl C := if_neg h
theorem lpL_gl (k p : Nat) (C : CT) : zCnt (gl C) ≤ zCnt (lpL (k + 1) p C) := by
  by_cases h : p + lpN p C < zWm C
  · rw [lpL_go k h]
    exact (lpL_ok k _ _).2.1
  · rw [lpL_end k h]
    exact Nat.le_refl _
end KM7
