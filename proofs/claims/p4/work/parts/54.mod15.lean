section KM15
def KS : List Int32 := [0, 1, 2, 3, 4, 5, 6, 7, 8, 9, 10]
def KS1 : List Int32 := [0, 1, 2, 3, 4, 5, 6, 7, 8, 9, 10, 11]
theorem i32_lit {k : Int32} {z : Int} (h : k.toInt = z) (v : Int32) (hv : v.toInt = z) : k = v := Int32.toInt_inj.mp (h.trans hv.symm)
theorem ks_of {k : Int32} (h : 0 ≤ k ∧ k ≤ 10) : k ∈ KS := by
  have h1 : 0 ≤ k.toInt := Int32.le_iff_toInt_le.mp h.1
  have h2 : k.toInt ≤ 10 := Int32.le_iff_toInt_le.mp h.2
  have h3 : k.toInt = 0 ∨ k.toInt = 1 ∨ k.toInt = 2 ∨ k.toInt = 3 ∨ k.toInt = 4 ∨ k.toInt = 5 ∨ k.toInt = 6 ∨ k.toInt = 7 ∨ k.toInt = 8 ∨ k.toInt = 9 ∨ k.toInt = 10 := by omega
  rcases h3 with e | e | e | e | e | e | e | e | e | e | e
  · rw [i32_lit e 0 (by decide)]; decide
  · rw [i32_lit e 1 (by decide)]; decide
  · rw [i32_lit e 2 (by decide)]; decide
  · rw [i32_lit e 3 (by decide)]; decide
  · rw [i32_lit e 4 (by decide)]; decide
  · rw [i32_lit e 5 (by decide)]; decide
  · rw [i32_lit e 6 (by decide)]; decide
  · rw [i32_lit e 7 (by decide)]; decide
  · rw [i32_lit e 8 (by decide)]; decide
  · rw [i32_lit e 9 (by decide)]; decide
  · rw [i32_lit e 10 (by decide)]; decide
theorem mh_inl : ∀ a ∈ KS1, ∀ k ∈ KS, mh a k = 1 → isL k = 1 → (a = 7 ∨ a = 0 ∨ a = 1 ∨ a = 8) ∨ (a = 3 ∧ k = 10) := by decide +kernel
theorem mh_leaf : ∀ a ∈ KS1, ∀ k ∈ KS, mh a k = 1 → (a = 0 ∨ a = 1 ∨ isL a = 1) → isL k = 1 ∧ ¬ a = 3 ∧ (a = 0 ∨ a = 1 ∨ a = 8) := by decide +kernel
theorem KS_in : ∀ k ∈ KS, k ∈ KS1 := by decide
theorem isL_isB : ∀ k ∈ KS, isL k = 1 → isB k = 0 := by decide +kernel
theorem isL_01 (k : Int32) : isL k = 0 ∨ isL k = 1 := by
  unfold isL
  split
  · exact Or.inl rfl
  · split
    · exact Or.inl rfl
    · exact Or.inr rfl
def WI (C : CT) : Prop := ∀ h, h < zHo C → ∃ wd, zW C h = nI wd ∧ 4 ≤ wd ∧ wd ≤ 60
def LI (C : CT) : Prop := ¬ zLo C = 0 → 4 ≤ zLw C ∧ zLw C ≤ 60 ∧ zNm C ≤ zLw C
def OPN (T : TS) (x : Nat) (C : CT) : Prop := (ttK T x = 0 ∨ ttK T x = 1 ∨ (isL (ttK T x) = 1 ∧ ¬ ttK T (pu T x) = 3)) → ¬ zLo C = 0
def KI (T : TS) (x : Nat) (C : CT) : Prop := ∀ k, hk (ttK T (itr T k x)) = 1 → zK C (ttHc T (itr T k x) - 1) = ttK T (itr T k x)
/-- the state while the node x is open -/
def SI (T : TS) (x : Nat) (C : CT) : Prop := zHo C = ttHc T x ∧ WI C ∧ LI C ∧ OPN T x C ∧ KI T x C ∧ LLI C
variable {T : TS}
theorem hk_01 (k : Int32) : hk k = 0 ∨ hk k = 1 := by
  unfold hk
  split
  · exact Or.inr rfl
  · exact Or.inl rfl
theorem TrI.kin (hT : TrI T) {x : Nat} (hx : x < ttN T) : ttK T x ∈ KS1 := by
  by_cases h : x = 0
  · rw [h, hT.2.1.1]; decide
  · exact KS_in _ (ks_of (hT.2.2.1 x (by omega) hx).2.2.2.2.2.2.1)
theorem TrI.hc (hT : TrI T) : ∀ x, x < ttN T → 1 ≤ ttHc T x ∧ ttHc T x ≤ ttDe T x ∧ ttDe T x ≤ 12 := by
  intro x
  induction x using Nat.strongRecOn with
  | ind x ih =>
    intro hx
    by_cases h : x = 0
    · rw [h, hT.2.1.2.2.1, hT.2.1.2.2.2]; omega
    · obtain ⟨a1, a2, a3, a4, a5, a6⟩ := hT.2.2.1 x (by omega) hx
      have := ih (pu T x) a1 (by omega)
      have h01 := hk_01 (ttK T x)
      omega
theorem TrI.pu0 (hT : TrI T) : pu T 0 = 0 := by
  unfold pu
  rw [hT.2.1.2.1]
  decide
theorem TrI.pule (hT : TrI T) {x : Nat} (hx : x < ttN T) : pu T x ≤ x := by
  by_cases h : x = 0
  · rw [h, hT.pu0]; exact Nat.le_refl _
  · exact Nat.le_of_lt (hT.2.2.1 x (by omega) hx).1
theorem TrI.itr_le (hT : TrI T) : ∀ k x, x < ttN T → itr T k x ≤ x ∧ ttHc T (itr T k x) ≤ ttHc T x
  | 0, x, _ => ⟨Nat.le_refl _, Nat.le_refl _⟩
  | k + 1, x, hx => by
    have h1 := hT.pule hx
    obtain ⟨a1, a2⟩ := hT.itr_le k (pu T x) (by omega)
    refine ⟨Nat.le_trans a1 h1, Nat.le_trans a2 ?_⟩
    by_cases h : x = 0
    · rw [h, hT.pu0]; exact Nat.le_refl _
    · have := (hT.2.2.1 x (by omega) hx).2.2.2.2.1
      omega
theorem WI_wdt {C : CT} (h : WI C) (h1 : 1 ≤ zHo C) : zW C (zHo C - 1) = nI (wdt C) ∧ 4 ≤ wdt C ∧ wdt C ≤ 60 := by
  obtain ⟨wd, e, g1, g2⟩ := h (zHo C - 1) (by omega)
  have : wdt C = wd := by
    unfold wdt
    rw [e]
    exact nI_clamp (by omega)
  rw [this]
  exact ⟨e, g1, g2⟩
theorem WI.of {C C2 : CT} (h : WI C) (e1 : zHo C2 ≤ zHo C) (e2 : zW C2 = zW C) : WI C2 := fun h9 hl => by
  obtain ⟨wd, e, g⟩ := h h9 (by omega)
  exact ⟨wd, by rw [e2]; exact e, g⟩
theorem WI.hd {C : CT} (h : WI C) (k w sg wi : Int32) (hw : ∃ wd2, (if w < 4 then 4 else w) = nI wd2 ∧ 4 ≤ wd2 ∧ wd2 ≤ 60) : WI (hd k w sg wi C) := fun j hj => by
  obtain ⟨a1, a2, a3, a4, a5, a6, a7, a8, a9⟩ := hd_ok k w sg wi C
  rw [a1] at hj
  rw [a9]
  unfold upd
  split
  · exact hw
  · exact h j (by omega)
theorem KI.of {C C2 : CT} {x : Nat} (h : KI T x C) (e : zK C2 = zK C) : KI T x C2 := fun k hk => by rw [e]; exact h k hk
theorem KI.up {C : CT} {x : Nat} (h : KI T x C) : KI T (pu T x) C := fun k hk => h (k + 1) hk
theorem KI.down {C : CT} {i : Nat} (h : KI T (pu T i) C) (h0 : hk (ttK T i) = 0) : KI T i C := fun k hk9 => by
  cases k with
  | zero => have : hk (ttK T i) = 1 := hk9; omega
  | succ k => exact h k hk9
theorem KI.hd (hT : TrI T) {C : CT} {i : Nat} (hi : 0 < i ∧ i < ttN T) (h : KI T (pu T i) C) (hh : zHo C = ttHc T (pu T i)) (h1 : hk (ttK T i) = 1) (w sg wi : Int32) : KI T i (hd (ttK T i) w sg wi C) := fun k hk9 => by
  obtain ⟨a1, a2, a3, a4, a5, a6, a7, a8, a9⟩ := hd_ok (ttK T i) w sg wi C
  obtain ⟨b1, b2, b3, b4, b5, b6⟩ := hT.2.2.1 i hi.1 hi.2
  rw [a8]
  unfold upd
  cases k with
  | zero =>
    have e : ttHc T (itr T 0 i) - 1 = zHo C := by show ttHc T i - 1 = _; omega
    rw [if_pos e]
    rfl
  | succ k =>
    have g := (hT.itr_le k (pu T i) (by omega)).2
    have g2 := (hT.itr_le k (pu T i) (by omega)).1
    have g1 := hT.hc (itr T k (pu T i)) (by omega)
    have e : ¬ ttHc T (itr T (k + 1) i) - 1 = zHo C := by show ¬ ttHc T (itr T k (pu T i)) - 1 = _; omega
    rw [if_neg e]
    exact h k hk9
/-- ahead of a node's own part -/
def SA (T : TS) (i : Nat) (C : CT) : Prop := zHo C = ttHc T (pu T i) ∧ WI C ∧ LI C ∧ KI T (pu T i) C ∧ LLI C ∧ ((isL (ttK T i) = 1 ∧ ¬ ttK T (pu T i) = 3) → ¬ zLo C = 0) ∧ zWm C ≤ sumN (ttMa T) i
theorem A1_ok (hT : TrI T) {i : Nat} (hi : 0 < i ∧ i < ttN T) {C : CT} (h : SI T (pu T i) C) (hw : zWm C ≤ sumN (ttMa T) i) (hb : zCnt C < 30000000) : SI T (pu T i) (bnA1 T i C) ∨ (zHo (bnA1 T i C) = ttHc T (pu T i) ∧ WI (bnA1 T i C) ∧ LI (bnA1 T i C) ∧ KI T (pu T i) (bnA1 T i C) ∧ LLI (bnA1 T i C) ∧ isB (ttK T i) ≠ 0) := by
  have hs := hT.sum hi.2
  obtain ⟨h1, h2, h3, h4, h5, h6⟩ := h
  have hp := hT.pule hi.2
  have hc := hT.hc (pu T i) (by omega)
  unfold bnA1
  split
  · exact Or.inl ⟨h1, h2, h3, h4, h5, h6⟩
  · rename_i hB
    split
    · exact Or.inl ⟨h1, h2, h3, h4, h5, h6⟩
    · rename_i ho
      obtain ⟨g1, g2, g3⟩ := h3 ho
      obtain ⟨e1, e2, e3, e4, e5, e6, e7, e8, e9, e0⟩ := el_ok C (by omega) g3 (by omega) (by omega)
      exact Or.inr ⟨e1.trans h1, h2.of (Nat.le_of_eq e1) e3, fun z => absurd e7 z, h5.of e2, e0 h6 (by omega), hB⟩
theorem A1_cnt (hT : TrI T) {i : Nat} (hi : 0 < i ∧ i < ttN T) {C : CT} (h : SI T (pu T i) C) (hw : zWm C ≤ sumN (ttMa T) i) : zCnt C ≤ zCnt (bnA1 T i C) ∧ zCnt (bnA1 T i C) ≤ zCnt C + 60000 ∧ zWm (bnA1 T i C) ≤ sumN (ttMa T) i := by
  have hs := hT.sum hi.2
  obtain ⟨h1, h2, h3, h4, h5, h6⟩ := h
  have hp := hT.pule hi.2
  have hc := hT.hc (pu T i) (by omega)
  unfold bnA1
  split
  · exact ⟨Nat.le_refl _, Nat.le_add_right _ _, hw⟩
  · split
    · exact ⟨Nat.le_refl _, Nat.le_add_right _ _, hw⟩
    · rename_i ho
      obtain ⟨g1, g2, g3⟩ := h3 ho
      obtain ⟨e1, e2, e3, e4, e5, e6, e7, e8, e9, e0⟩ := el_ok C (by omega) g3 (by omega) (by omega)
      exact ⟨e8, e9, by rw [e4]; exact Nat.zero_le _⟩
theorem A2_cnt (T : TS) (i : Nat) (C : CT) : zCnt (bnA2 T i C) = zCnt C ∧ zHo (bnA2 T i C) = zHo C ∧ zK (bnA2 T i C) = zK C ∧ zW (bnA2 T i C) = zW C ∧ zWm (bnA2 T i C) ≤ zWm C := by
  unfold bnA2
  split
  · exact ⟨rfl, rfl, rfl, rfl, Nat.le_refl _⟩
  · split
    · split
      · split
        · split
          · exact ⟨rfl, rfl, rfl, rfl, Nat.zero_le _⟩
          · exact ⟨rfl, rfl, rfl, rfl, Nat.le_refl _⟩
        · exact ⟨rfl, rfl, rfl, rfl, Nat.le_refl _⟩
      · exact ⟨rfl, rfl, rfl, rfl, Nat.le_refl _⟩
    · exact ⟨rfl, rfl, rfl, rfl, Nat.le_refl _⟩
theorem bl_inv {C : CT} (h2 : WI C) (h1 : 1 ≤ zHo C) : WI (bl C) ∧ LI (bl C) ∧ LLI (bl C) ∧ ¬ zLo (bl C) = 0 := by
  obtain ⟨w1, w2, w3⟩ := WI_wdt h2 h1
  obtain ⟨b1, b2, b3, b4, b5, b6, b7, b8⟩ := bl_ok C
  refine ⟨h2.of (Nat.le_of_eq b1) b8, fun _ => ⟨by rw [b2]; exact w2, by rw [b2]; exact w3, by rw [b4]; exact Nat.zero_le _⟩, ?_, by rw [b6]; decide⟩
  unfold LLI
  rw [b7, b5, show (-1 : Int32).toInt = -1 by decide]
  omega
theorem A2_ok (hT : TrI T) {i : Nat} (hi : 0 < i ∧ i < ttN T) {C : CT} (h : SI T (pu T i) C ∨ (zHo C = ttHc T (pu T i) ∧ WI C ∧ LI C ∧ KI T (pu T i) C ∧ LLI C ∧ isB (ttK T i) ≠ 0)) (hw : zWm C ≤ sumN (ttMa T) i) : SA T i (bnA2 T i C) := by
  obtain ⟨b1, b2, b3, b4, b5, b6, b7, b8⟩ := hT.2.2.1 i hi.1 hi.2
  have hki := ks_of b7
  obtain ⟨q1, q2, q3, q4, q5⟩ := A2_cnt T i C
  have hc := hT.hc (pu T i) (by omega)
  have base : zHo C = ttHc T (pu T i) ∧ WI C ∧ LI C ∧ KI T (pu T i) C ∧ LLI C := by
    rcases h with h | h
    · exact ⟨h.1, h.2.1, h.2.2.1, h.2.2.2.2.1, h.2.2.2.2.2⟩
    · exact ⟨h.1, h.2.1, h.2.2.1, h.2.2.2.1, h.2.2.2.2.1⟩
  obtain ⟨h1, h2, h3, h5, h6⟩ := base
  have same : bnA2 T i C = C → ((isL (ttK T i) = 1 ∧ ¬ ttK T (pu T i) = 3) → ¬ zLo C = 0) → SA T i (bnA2 T i C) := fun e g => by
    rw [e]
    exact ⟨h1, h2, h3, h5, h6, g, hw⟩
  rcases isL_01 (ttK T i) with hL | hL
  · exact same (if_pos hL) (fun z => by rw [hL] at z; exact absurd z.1 (by decide))
  · have hne : ¬ isL (ttK T i) = 0 := by rw [hL]; decide
    by_cases ho : zLo C = 0
    · rcases mh_inl _ (hT.kin (show pu T i < ttN T by omega)) _ hki b6 hL with ha | ha
      · have hSI : SI T (pu T i) C := by
          rcases h with h | h
          · exact h
          · exact absurd (isL_isB _ hki hL) h.2.2.2.2.2
        have hO := hSI.2.2.2.1
        rcases ha with ha | ha | ha | ha
        · have hz : zK C (zHo C - 1) = 7 := by
            have := h5 0 (by show hk (ttK T (pu T i)) = 1; rw [ha]; decide)
            rw [h1]
            exact this.trans ha
          have e : bnA2 T i C = bl C := by
            unfold bnA2
            rw [if_neg hne, if_pos ho, if_pos (by omega), if_pos hz, if_pos ha]
          obtain ⟨g1, g2, g3, g4⟩ := bl_inv h2 (by omega)
          rw [e]
          exact ⟨h1, g1, g2, h5, g3, fun _ => g4, Nat.zero_le _⟩
        · exact absurd ho (hO (Or.inl ha))
        · exact absurd ho (hO (Or.inr (Or.inl ha)))
        · refine absurd ho (hO (Or.inr (Or.inr ⟨by rw [ha]; decide, fun z => ?_⟩)))
          have h0 : 0 < pu T i := by
            refine Nat.pos_of_ne_zero (fun z0 => ?_)
            rw [z0, hT.2.1.1] at ha
            exact absurd ha (by decide)
          have := (hT.2.2.1 (pu T i) h0 (by omega)).2.2.2.2.2.1
          rw [z, ha] at this
          exact absurd this (by decide)
      · have e : bnA2 T i C = C := by
          unfold bnA2
          rw [if_neg hne, if_pos ho]
          split
          · split
            · rw [if_neg (by rw [ha.1]; decide)]
            · rfl
          · rfl
        exact same e (fun z => absurd ha.1 z.2)
    · have e : bnA2 T i C = C := by
        unfold bnA2
        rw [if_neg hne, if_neg ho]
      exact same e (fun _ => ho)
end KM15
