section KM17
variable {T : TS}
theorem isB11 : isB 11 = 0 ∧ isL 11 = 0 := by decide
/-- the body begins -/
theorem bn0_eq (hT : TrI T) (C : CT) : bn T 0 C = hd 11 (nI (ttCo T)) (-1) 1 C := by
  have e := hT.2.1.1
  unfold bn bnA2 bnA1 bnB
  rw [e, if_pos isB11.1, if_pos isB11.2, if_pos rfl]
theorem itr0 (hT : TrI T) : ∀ k, itr T k 0 = 0
  | 0 => rfl
  | k + 1 => by
    show itr T k (pu T 0) = 0
    rw [hT.pu0]
    exact itr0 hT k
theorem bn0_ok (hT : TrI T) (hc : 8 ≤ ttCo T ∧ ttCo T ≤ 60) {C : CT} (h0 : zHo C = 0) (h1 : zLo C = 0) (h2 : LLI C) : SI T 0 (bn T 0 C) ∧ zWm (bn T 0 C) = zWm C ∧ zCnt (bn T 0 C) = zCnt C := by
  rw [bn0_eq hT]
  obtain ⟨a1, a2, a3, a4, a5, a6, a7, a8, a9⟩ := hd_ok 11 (nI (ttCo T)) (-1) 1 C
  refine ⟨⟨?_, ?_, ?_, ?_, ?_, ?_⟩, a4, a2⟩
  · rw [a1, h0, hT.2.1.2.2.1]
  · intro j hj
    have : j = 0 := by omega
    subst this
    rw [a9, h0]
    show ∃ wd, (if 0 = 0 then _ else _) = nI wd ∧ _
    rw [if_pos rfl]
    exact w_ok0 (by omega)
  · exact LI0 (a6.trans h1)
  · intro z
    rw [hT.2.1.1] at z
    rcases z with z | z | z
    · exact absurd z (by decide)
    · exact absurd z (by decide)
    · exact absurd z.1 (by decide)
  · intro k _
    rw [itr0 hT k, hT.2.1.2.2.1, hT.2.1.1, a8, h0]
    rfl
  · unfold LLI
    rw [a7, a2]
    exact h2
/-- what a node's end leaves -/
theorem enD_f (k : Int32) (C : CT) : zLw (enD k C) = zLw C ∧ zLo (enD k C) = zLo C ∧ zNm (enD k C) = zNm C ∧ zWm (enD k C) = zWm C ∧ zCnt (enD k C) = zCnt C ∧ zLl (enD k C) = zLl C ∧ zK (enD k C) = zK C ∧ zW (enD k C) = zW C ∧ zHo (enD k C) = zHo C - hk k := by
  unfold enD
  split
  · rename_i h
    rw [h]
    exact ⟨rfl, rfl, rfl, rfl, rfl, rfl, rfl, rfl, rfl⟩
  · rename_i h
    have := hk_01 k
    exact ⟨rfl, rfl, rfl, rfl, rfl, rfl, rfl, rfl, by show zHo C = _; omega⟩
/-- a node's end, but for its holder -/
def enX (k : Int32) (C : CT) : CT := enC k (enB k (enA k C))
theorem enX_ok {x : Nat} {C : CT} (hT : TrI T) (hx : x < ttN T) (h : SI T x C) (hw : zWm C ≤ 4000) (hb : zCnt C < 30000000) : zHo (enX (ttK T x) C) = zHo C ∧ WI (enX (ttK T x) C) ∧ LI (enX (ttK T x) C) ∧ KI T x (enX (ttK T x) C) ∧ LLI (enX (ttK T x) C) ∧ zWm (enX (ttK T x) C) ≤ zWm C ∧ zCnt C ≤ zCnt (enX (ttK T x) C) ∧ zCnt (enX (ttK T x) C) ≤ zCnt C + 60020 ∧ (isL (ttK T x) = 1 → enX (ttK T x) C = C) := by
  obtain ⟨h1, h2, h3, h4, h5, h6⟩ := h
  have hc := hT.hc x hx
  have h13 : zHo C ≤ 13 := by omega
  by_cases e : ttK T x = 0 ∨ ttK T x = 1
  · have q : enX (ttK T x) C = el C := by
      unfold enX enC enB enA
      rcases e with e | e <;> rw [e] <;> rfl
    have hop : ¬ zLo C = 0 := h4 (by rcases e with e | e; exact Or.inl e; exact Or.inr (Or.inl e))
    obtain ⟨g1, g2, g3⟩ := h3 hop
    obtain ⟨e1, e2, e3, e4, e5, e6, e7, e8, e9, e0⟩ := el_ok C (by omega) g3 (by omega) h13
    rw [q]
    refine ⟨e1, h2.of (Nat.le_of_eq e1) e3, LI0 e7, h5.of e2, e0 h6 (by omega), by omega, e8, by omega, fun z => ?_⟩
    rcases e with e | e <;> rw [e] at z <;> exact absurd z (by decide)
  · have qA : enA (ttK T x) C = C := if_neg e
    by_cases e7 : ttK T x = 7
    · have qB : zHo (enB (ttK T x) C) = zHo C ∧ zK (enB (ttK T x) C) = zK C ∧ zW (enB (ttK T x) C) = zW C ∧ zLo (enB (ttK T x) C) = 0 ∧ LLI (enB (ttK T x) C) ∧ zWm (enB (ttK T x) C) ≤ zWm C ∧ zCnt C ≤ zCnt (enB (ttK T x) C) ∧ zCnt (enB (ttK T x) C) ≤ zCnt C + 60000 := by
        unfold enB
        rw [if_pos e7]
        split
        · rename_i ho
          exact ⟨rfl, rfl, rfl, ho, h6, Nat.le_refl _, Nat.le_refl _, Nat.le_add_right _ _⟩
        · rename_i ho
          obtain ⟨g1, g2, g3⟩ := h3 ho
          obtain ⟨e1, e2, e3, e4, e5, e6, e7, e8, e9, e0⟩ := el_ok C (by omega) g3 (by omega) h13
          exact ⟨e1, e2, e3, e7, e0 h6 (by omega), by omega, e8, e9⟩
      obtain ⟨q1, q2, q3, q4, q5, q6, q7, q8⟩ := qB
      have hnl : isL (ttK T x) = 1 → enX (ttK T x) C = C := fun z => by
        rw [e7] at z
        exact absurd z (by decide)
      have qX : enX (ttK T x) C = enC (ttK T x) (enB (ttK T x) C) := by unfold enX; rw [qA]
      refine ⟨?_, ?_, ?_, ?_, ?_, ?_, ?_, ?_, hnl⟩ <;> rw [qX] <;> generalize enB (ttK T x) C = C3 at q1 q2 q3 q4 q5 q6 q7 q8 <;> unfold enC <;> rw [if_pos e7]
      · split
        · exact q1
        · exact (gl_ok (szLl C3 (-1))).1.1.trans q1
      · split
        · exact h2.of (Nat.le_of_eq q1) q3
        · have g := (gl_ok (szLl C3 (-1))).1
          exact h2.of (Nat.le_of_eq (g.1.trans q1)) (g.2.2.2.2.2.2.1.trans q3)
      · split
        · exact LI0 q4
        · exact LI0 ((gl_ok (szLl C3 (-1))).1.2.2.2.2.1.trans q4)
      · split
        · exact h5.of q2
        · exact h5.of ((gl_ok (szLl C3 (-1))).1.2.2.2.2.2.1.trans q2)
      · split
        · exact q5
        · have g : LLI (szLl C3 (-1)) := by
            unfold LLI
            show -1 ≤ (-1 : Int32).toInt ∧ (-1 : Int32).toInt < zCnt C3
            rw [show (-1 : Int32).toInt = -1 by decide]
            omega
          exact gl_ll g (show zCnt C3 + zHo C3 < 2 ^ 31 by omega)
      · split
        · exact q6
        · rw [(gl_ok (szLl C3 (-1))).1.2.2.1]
          exact q6
      · split
        · exact q7
        · have g := (gl_ok (szLl C3 (-1))).2.1
          have g2 : zCnt (szLl C3 (-1)) = zCnt C3 := rfl
          omega
      · split
        · omega
        · have g := (gl_ok (szLl C3 (-1))).2.2
          have g2 : zCnt (szLl C3 (-1)) = zCnt C3 := rfl
          have g3 : zHo (szLl C3 (-1)) = zHo C3 := rfl
          omega
    · have q : enX (ttK T x) C = C := by
        unfold enX
        rw [qA]
        unfold enC enB
        rw [if_neg e7, if_neg e7]
      rw [q]
      exact ⟨rfl, h2, h3, h5, h6, Nat.le_refl _, Nat.le_refl _, Nat.le_add_right _ _, fun _ => rfl⟩
theorem en_eq (x : Nat) (C : CT) : en T x C = enD (ttK T x) (enX (ttK T x) C) := rfl
theorem en_cnt {x : Nat} {C : CT} (hT : TrI T) (hx : x < ttN T) (h : SI T x C) (hw : zWm C ≤ 4000) (hb : zCnt C < 30000000) : zCnt C ≤ zCnt (en T x C) ∧ zCnt (en T x C) ≤ zCnt C + 60020 ∧ zWm (en T x C) ≤ zWm C := by
  obtain ⟨a1, a2, a3, a4, a5, a6, a7, a8, a9⟩ := enX_ok hT hx h hw hb
  obtain ⟨d1, d2, d3, d4, d5, d6, d7, d8, d9⟩ := enD_f (ttK T x) (enX (ttK T x) C)
  rw [en_eq, d5, d4]
  exact ⟨a7, a8, a6⟩
theorem en_ok {x : Nat} {C : CT} (hT : TrI T) (hx : 0 < x ∧ x < ttN T) (h : SI T x C) (hw : zWm C ≤ 4000) (hb : zCnt C < 30000000) : SI T (pu T x) (en T x C) := by
  obtain ⟨a1, a2, a3, a4, a5, a6, a7, a8, a9⟩ := enX_ok hT hx.2 h hw hb
  obtain ⟨d1, d2, d3, d4, d5, d6, d7, d8, d9⟩ := enD_f (ttK T x) (enX (ttK T x) C)
  obtain ⟨b1, b2, b3, b4, b5, b6, b7, b8⟩ := hT.2.2.1 x hx.1 hx.2
  rw [en_eq]
  refine ⟨?_, a2.of (by rw [d9]; exact Nat.sub_le _ _) d8, ?_, ?_, (a4.of d7).up, ?_⟩
  · rw [d9, a1, h.1, b5]
    omega
  · intro z
    rw [d2] at z
    rw [d1, d3]
    exact a3 z
  · intro z
    have hp := hT.kin (show pu T x < ttN T by omega)
    have g := mh_leaf _ hp _ (ks_of b7) b6 (by
      rcases z with z | z | z
      · exact Or.inl z
      · exact Or.inr (Or.inl z)
      · exact Or.inr (Or.inr z.1))
    rw [d2, a9 g.1]
    exact h.2.2.2.1 (Or.inr (Or.inr ⟨g.1, g.2.1⟩))
  · unfold LLI
    rw [d6, d5]
    exact a5
/-- nodes end up to one above -/
def ue (T : TS) (a : Int32) : Nat → Nat → CT → CT
  | 0, _, C => C
  | f + 1, x, C => if nI x = a then C else if x = 0 then en T 0 C else ue T a f (pu T x) (en T x C)
theorem ue_s (T : TS) (a : Int32) (f x : Nat) (C : CT) : ue T a (f + 1) x C = if nI x = a then C else if x = 0 then en T 0 C else ue T a f (pu T x) (en T x C) := rfl
theorem itr_s (T : TS) (k x : Nat) : itr T (k + 1) x = itr T k (pu T x) := rfl
/-- above a node that is not the body: it ends there -/
theorem ue_ok (hT : TrI T) {a : Nat} (ha : a < ttN T) : ∀ (f x : Nat) (C : CT), x < f → x < ttN T → (∃ k, itr T k x = a) → SI T x C → zWm C ≤ 4000 → zCnt C + f * 60020 < 30000000 → SI T a (ue T (nI a) f x C) ∧ zWm (ue T (nI a) f x C) ≤ zWm C ∧ zCnt C ≤ zCnt (ue T (nI a) f x C) ∧ zCnt (ue T (nI a) f x C) ≤ zCnt C + f * 60020
  | 0, x, C, h, _, _, _, _, _ => absurd h (Nat.not_lt_zero _)
  | f + 1, x, C, hf, hx, ⟨k, hk9⟩, h, hw, hb => by
    have hN := hT.1.2.1
    rw [ue_s]
    rw [Nat.succ_mul] at hb ⊢
    by_cases e : x = a
    · rw [if_pos (by rw [e])]
      rw [← e]
      exact ⟨h, Nat.le_refl _, Nat.le_refl _, Nat.le_add_right _ _⟩
    · rw [if_neg (fun z => e ((nI_eq (by omega) (by omega)).mp z))]
      have hx0 : x ≠ 0 := fun z => e (by rw [z, itr0 hT k] at hk9; rw [z]; exact hk9)
      rw [if_neg hx0]
      have b1 := (hT.2.2.1 x (by omega) hx).1
      have hk2 : ∃ k, itr T k (pu T x) = a := by
        cases k with
        | zero => exact absurd hk9 e
        | succ k => exact ⟨k, hk9⟩
      have hbb : zCnt C < 30000000 := Nat.lt_of_le_of_lt (Nat.le_add_right _ _) hb
      have s1 := en_ok hT ⟨by omega, hx⟩ h hw hbb
      obtain ⟨c1, c2, c3⟩ := en_cnt hT hx h hw hbb
      obtain ⟨r1, r2, r3, r4⟩ := ue_ok hT ha f (pu T x) (en T x C) (by omega) (by omega) hk2 s1 (by omega) (by omega)
      exact ⟨r1, by omega, by omega, by omega⟩
/-- all end -/
theorem ueE_ok (hT : TrI T) : ∀ (f x : Nat) (C : CT), x < f → x < ttN T → SI T x C → zWm C ≤ 4000 → zCnt C + f * 60020 < 30000000 → zCnt C ≤ zCnt (ue T (-1) f x C) ∧ zCnt (ue T (-1) f x C) ≤ zCnt C + f * 60020
  | 0, x, C, h, _, _, _, _ => absurd h (Nat.not_lt_zero _)
  | f + 1, x, C, hf, hx, h, hw, hb => by
    have hN := hT.1.2.1
    rw [ue_s]
    rw [Nat.succ_mul] at hb ⊢
    have hbb : zCnt C < 30000000 := Nat.lt_of_le_of_lt (Nat.le_add_right _ _) hb
    obtain ⟨c1, c2, c3⟩ := en_cnt hT hx h hw hbb
    have hne : ¬ nI x = -1 := fun z => by
      have := congrArg Int32.toInt z
      rw [nI_toInt (by omega), show (-1 : Int32).toInt = -1 by decide] at this
      omega
    rw [if_neg hne]
    by_cases e : x = 0
    · subst e
      rw [if_pos rfl]
      exact ⟨c1, Nat.le_trans c2 (Nat.add_le_add_left (Nat.le_add_left _ _) _)⟩
    · rw [if_neg e]
      have b1 := (hT.2.2.1 x (by omega) hx).1
      have s1 := en_ok hT ⟨by omega, hx⟩ h hw hbb
      obtain ⟨r3, r4⟩ := ueE_ok hT f (pu T x) (en T x C) (by omega) (by omega) s1 (by omega) (by omega)
      exact ⟨by omega, by omega⟩
/-- one turn of the layout -/
def lyS (T : TS) (i : Nat) (C : CT) : CT := if i = 0 then bn T 0 C else if i = ttN T then ue T (-1) i (i - 1) C else bn T i (ue T (ttU T i) i (i - 1) C)
def ly (T : TS) : Nat → Nat → CT → CT
  | 0, _, C => C
  | k + 1, i, C => if 1500 < zCnt C then C else ly T k (i + 1) (lyS T i C)
theorem ly_s (T : TS) (k i : Nat) (C : CT) : ly T (k + 1) i C = if 1500 < zCnt C then C else ly T k (i + 1) (lyS T i C) := rfl
/-- where the layout begins -/
def ly0 (C : CT) : CT := szNm (szWm (szLl (szLo (szHo (szCnt C 0) 0) 0) (-1)) 0) 0
theorem ly0_ok (C : CT) : zHo (ly0 C) = 0 ∧ zLo (ly0 C) = 0 ∧ LLI (ly0 C) ∧ zWm (ly0 C) = 0 ∧ zCnt (ly0 C) = 0 := by
  refine ⟨rfl, rfl, ?_, rfl, rfl⟩
  show -1 ≤ (-1 : Int32).toInt ∧ (-1 : Int32).toInt < ((0 : Nat) : Int)
  decide
/-- between two turns, the i-th to come -/
def LY (T : TS) (i : Nat) (C : CT) : Prop := (i = 0 → zHo C = 0 ∧ zLo C = 0 ∧ LLI C ∧ zWm C = 0 ∧ zCnt C = 0) ∧ (0 < i → i ≤ ttN T → SI T (i - 1) C ∧ zWm C ≤ sumN (ttMa T) i) ∧ zCnt C ≤ 300000000
theorem TrI.sumi (hT : TrI T) {i : Nat} (hi : i ≤ ttN T) : sumN (ttMa T) i ≤ 4000 := by
  have h1 := sumN_mono (ttMa T) hi
  have h3 := hT.2.2.2.2.1
  have h4 := hT.1.2.2.1
  omega
/-- ahead of a node's beginning -/
theorem lyU_ok (hT : TrI T) {i : Nat} (hi : 0 < i ∧ i < ttN T) {C : CT} (h : LY T i C) (hb : zCnt C ≤ 1500) : SI T (pu T i) (ue T (ttU T i) i (i - 1) C) ∧ zWm (ue T (ttU T i) i (i - 1) C) ≤ sumN (ttMa T) i ∧ zCnt C ≤ zCnt (ue T (ttU T i) i (i - 1) C) ∧ zCnt (ue T (ttU T i) i (i - 1) C) < 30000000 := by
  have hN := hT.1.2.1
  obtain ⟨b1, b2, b3⟩ := hT.2.2.1 i hi.1 hi.2
  obtain ⟨s1, s2⟩ := h.2.1 hi.1 (by omega)
  have hs := hT.sumi (i := i) (by omega)
  obtain ⟨r1, r2, r3, r4⟩ := ue_ok hT (a := pu T i) (by omega) i (i - 1) C (by omega) (by omega) (hT.2.2.2.2.2.1 i hi.1 hi.2) s1 (by omega) (by omega)
  rw [b2]
  exact ⟨r1, by omega, r3, by omega⟩
theorem lyS_ok (hT : TrI T) (hc : 8 ≤ ttCo T ∧ ttCo T ≤ 60) {i : Nat} (hi : i ≤ ttN T) {C : CT} (h : LY T i C) (hb : zCnt C ≤ 1500) : LY T (i + 1) (lyS T i C) ∧ zCnt C ≤ zCnt (lyS T i C) := by
  have hN := hT.1.2.1
  have hN1 := hT.1.1
  by_cases e : i = 0
  · subst e
    obtain ⟨g1, g2, g3, g4, g5⟩ := h.1 rfl
    obtain ⟨r1, r2, r3⟩ := bn0_ok hT hc g1 g2 g3
    have q : lyS T 0 C = bn T 0 C := if_pos rfl
    rw [q]
    exact ⟨⟨fun z => by omega, fun _ _ => ⟨r1, by rw [r2, g4]; exact Nat.zero_le _⟩, by omega⟩, by omega⟩
  · by_cases e2 : i = ttN T
    · have q : lyS T i C = ue T (-1) i (i - 1) C := by
        unfold lyS
        rw [if_neg e, if_pos e2]
      obtain ⟨s1, s2⟩ := h.2.1 (by omega) (by omega)
      have hs := hT.sumi (i := i) (by omega)
      obtain ⟨r3, r4⟩ := ueE_ok hT i (i - 1) C (by omega) (by omega) s1 (by omega) (by omega)
      rw [q]
      exact ⟨⟨fun z => by omega, fun _ z => by omega, by omega⟩, r3⟩
    · have q : lyS T i C = bn T i (ue T (ttU T i) i (i - 1) C) := by
        unfold lyS
        rw [if_neg e, if_neg e2]
      obtain ⟨s1, s2, s3, s4⟩ := lyU_ok hT (i := i) ⟨by omega, by omega⟩ h hb
      obtain ⟨r1, r2, r3, r4⟩ := bn_ok hT (i := i) ⟨by omega, by omega⟩ s1 s2 s4
      rw [q]
      exact ⟨⟨fun z => by omega, fun _ _ => ⟨r1, r2⟩, by omega⟩, by omega⟩
theorem ly_ok (hT : TrI T) (hc : 8 ≤ ttCo T ∧ ttCo T ≤ 60) : ∀ (k i : Nat) (C : CT), i + k ≤ ttN T + 1 → LY T i C → zCnt C ≤ zCnt (ly T k i C) ∧ zCnt (ly T k i C) ≤ 300000000
  | 0, i, C, _, h => ⟨Nat.le_refl _, h.2.2⟩
  | k + 1, i, C, hi, h => by
    rw [ly_s]
    split
    · exact ⟨Nat.le_refl _, h.2.2⟩
    · rename_i hb
      obtain ⟨s1, s2⟩ := lyS_ok hT hc (i := i) (by omega) h (by omega)
      obtain ⟨r1, r2⟩ := ly_ok hT hc k (i + 1) (lyS T i C) (by omega) s1
      exact ⟨by omega, r2⟩
theorem LY0 (T : TS) (C : CT) : LY T 0 (ly0 C) := ⟨fun _ => ly0_ok C, fun z => absurd z (Nat.lt_irrefl _), by rw [(ly0_ok C).2.2.2.2]; exact Nat.zero_le _⟩
end KM17
