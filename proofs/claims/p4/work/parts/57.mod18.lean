section KM18
variable {T : TS} {C E : CT}
/-- what the layout reads is the same: what lies beyond the holders, and the width of no leaf, is never read -/
def R0 (C E : CT) : Prop := zCnt E = zCnt C ∧ zHo E = zHo C ∧ zWm E = zWm C ∧ zNm E = zNm C ∧ zLo E = zLo C ∧ zLl E = zLl C ∧ ∀ h, h < zHo C → zK E h = zK C h ∧ zW E h = zW C h ∧ zS E h = zS C h ∧ zX E h = zX C h ∧ zD E h = zD C h ∧ zI E h = zI C h ∧ zH E h = zH C h ∧ zF E h = zF C h
def RL (C E : CT) : Prop := R0 C E ∧ zLw E = zLw C
def RR (C E : CT) : Prop := R0 C E ∧ (zLo C = 0 ∨ zLw E = zLw C)
theorem RL.rr (h : RL C E) : RR C E := ⟨h.1, Or.inr h.2⟩
theorem RR.rl (h : RR C E) (ho : ¬ zLo C = 0) : RL C E := ⟨h.1, h.2.resolve_left ho⟩
theorem upd_eq {f g : Nat → Int32} {j h : Nat} {x : Int32} (e : f j = g j) : upd f h x j = upd g h x j := by
  unfold upd
  split
  · rfl
  · exact e
theorem R0.sNm (h : R0 C E) (x : Nat) : R0 (szNm C x) (szNm E x) := ⟨h.1, h.2.1, h.2.2.1, rfl, h.2.2.2.2.1, h.2.2.2.2.2.1, h.2.2.2.2.2.2⟩
theorem R0.sWm (h : R0 C E) (x : Nat) : R0 (szWm C x) (szWm E x) := ⟨h.1, h.2.1, rfl, h.2.2.2.1, h.2.2.2.2.1, h.2.2.2.2.2.1, h.2.2.2.2.2.2⟩
theorem R0.sCnt (h : R0 C E) (x : Nat) : R0 (szCnt C x) (szCnt E x) := ⟨rfl, h.2.1, h.2.2.1, h.2.2.2.1, h.2.2.2.2.1, h.2.2.2.2.2.1, h.2.2.2.2.2.2⟩
theorem R0.sLo (h : R0 C E) (x : Int32) : R0 (szLo C x) (szLo E x) := ⟨h.1, h.2.1, h.2.2.1, h.2.2.2.1, rfl, h.2.2.2.2.2.1, h.2.2.2.2.2.2⟩
theorem R0.sLl (h : R0 C E) (x : Int32) : R0 (szLl C x) (szLl E x) := ⟨h.1, h.2.1, h.2.2.1, h.2.2.2.1, h.2.2.2.2.1, rfl, h.2.2.2.2.2.2⟩
theorem R0.sLw (h : R0 C E) (x : Nat) : RL (szLw C x) (szLw E x) := ⟨⟨h.1, h.2.1, h.2.2.1, h.2.2.2.1, h.2.2.2.2.1, h.2.2.2.2.2.1, h.2.2.2.2.2.2⟩, rfl⟩
theorem R0.sF (h : R0 C E) (p : Nat) (x : Int32) : R0 (szF C (upd (zF C) p x)) (szF E (upd (zF E) p x)) := ⟨h.1, h.2.1, h.2.2.1, h.2.2.2.1, h.2.2.2.2.1, h.2.2.2.2.2.1, fun j hj => by
  obtain ⟨a1, a2, a3, a4, a5, a6, a7, a8⟩ := h.2.2.2.2.2.2 j hj
  exact ⟨a1, a2, a3, a4, a5, a6, a7, upd_eq a8⟩⟩
theorem R0.sH (h : R0 C E) (p : Nat) (x : Int32) : R0 (szH C (upd (zH C) p x)) (szH E (upd (zH E) p x)) := ⟨h.1, h.2.1, h.2.2.1, h.2.2.2.1, h.2.2.2.2.1, h.2.2.2.2.2.1, fun j hj => by
  obtain ⟨a1, a2, a3, a4, a5, a6, a7, a8⟩ := h.2.2.2.2.2.2 j hj
  exact ⟨a1, a2, a3, a4, a5, a6, upd_eq a7, a8⟩⟩
theorem R0.sX (h : R0 C E) (p : Nat) (x : Int32) : R0 (szX C (upd (zX C) p x)) (szX E (upd (zX E) p x)) := ⟨h.1, h.2.1, h.2.2.1, h.2.2.2.1, h.2.2.2.2.1, h.2.2.2.2.2.1, fun j hj => by
  obtain ⟨a1, a2, a3, a4, a5, a6, a7, a8⟩ := h.2.2.2.2.2.2 j hj
  exact ⟨a1, a2, a3, upd_eq a4, a5, a6, a7, a8⟩⟩
theorem R0.sFH (h : R0 C E) (p : Nat) : R0 (szH (szF C (upd (zF C) p 0)) (upd (zH C) p 1)) (szH (szF E (upd (zF E) p 0)) (upd (zH E) p 1)) := ⟨h.1, h.2.1, h.2.2.1, h.2.2.2.1, h.2.2.2.2.1, h.2.2.2.2.2.1, fun j hj => by
  obtain ⟨a1, a2, a3, a4, a5, a6, a7, a8⟩ := h.2.2.2.2.2.2 j hj
  exact ⟨a1, a2, a3, a4, a5, a6, upd_eq a7, upd_eq a8⟩⟩
theorem R0.rdue (h : R0 C E) (n : Nat) : R0 (due n C) (due n E) := ⟨h.1, h.2.1, h.2.2.1, h.2.2.2.1, h.2.2.2.2.1, h.2.2.2.2.2.1, fun j hj => by
  obtain ⟨a1, a2, a3, a4, a5, a6, a7, a8⟩ := h.2.2.2.2.2.2 j hj
  refine ⟨a1, a2, a3, a4, ?_, a6, a7, a8⟩
  show (if j < n ∧ zK E j = 7 then 0 else zD E j) = (if j < n ∧ zK C j = 7 then 0 else zD C j)
  rw [a1, a5]⟩
theorem R0.rglS (h : R0 C E) {p : Nat} (hp : p < zHo C) : R0 (glS p C) (glS p E) := by
  obtain ⟨a1, a2, a3, a4, a5, a6, a7, a8⟩ := h.2.2.2.2.2.2 p hp
  unfold glS
  rw [a8, a7, a6, h.1]
  by_cases c1 : zF C p = 0
  · rw [if_pos c1, if_pos c1]
    exact h
  · rw [if_neg c1, if_neg c1]
    by_cases c2 : zH C p = 0
    · rw [if_pos c2, if_pos c2]
      exact h.sFH p
    · rw [if_neg c2, if_neg c2]
      by_cases c3 : zI C p = 0
      · rw [if_pos c3, if_pos c3]
        exact h.sFH p
      · rw [if_neg c3, if_neg c3]
        exact ((h.rdue (p + 1)).sCnt (zCnt C + 1)).sFH p
theorem R0.rglL : ∀ (k p : Nat) (C E : CT), R0 C E → p + k ≤ zHo C → R0 (glL k p C) (glL k p E)
  | 0, _, _, _, h, _ => h
  | k + 1, p, C, E, h, hk9 => by
    rw [glL_succ, glL_succ]
    exact R0.rglL k (p + 1) _ _ (h.rglS (by omega)) (by rw [(glS_ok p C).1.1]; omega)
theorem R0.rglE (h : R0 C E) : R0 (glE C) (glE E) := by
  unfold glE
  rw [h.1, h.2.1, h.2.2.2.2.2.1]
  by_cases c : zLl C < 0
  · rw [if_pos c, if_pos c]
    exact ((h.sLl (nI (zCnt C))).rdue (zHo C)).sCnt _
  · rw [if_neg c, if_neg c]
    exact (h.rdue (zHo C)).sCnt _
theorem R0.rgl (h : R0 C E) : R0 (gl C) (gl E) := by
  unfold gl
  rw [h.2.1]
  exact (R0.rglL (zHo C) 0 C E h (by omega)).rglE
theorem gl_lw (C : CT) : zLw (gl C) = zLw C := (gl_ok C).1.2.1
theorem RL.rgl (h : RL C E) : RL (gl C) (gl E) := ⟨h.1.rgl, by rw [gl_lw, gl_lw]; exact h.2⟩
theorem RL.rgn (h : RL C E) : RL (gn C) (gn E) := ⟨h.1.rgl.sNm 0, h.rgl.2⟩
theorem RL.sNm (h : RL C E) (x : Nat) : RL (szNm C x) (szNm E x) := ⟨h.1.sNm x, h.2⟩
theorem RL.sWm (h : RL C E) (x : Nat) : RL (szWm C x) (szWm E x) := ⟨h.1.sWm x, h.2⟩
theorem RL.sLo (h : RL C E) (x : Int32) : RL (szLo C x) (szLo E x) := ⟨h.1.sLo x, h.2⟩
theorem RL.rewL : ∀ (k p : Nat) (C E : CT), RL C E → RL (ewL k p C).1 (ewL k p E).1 ∧ (ewL k p E).2 = (ewL k p C).2
  | 0, _, _, _, h => ⟨h, rfl⟩
  | k + 1, p, C, E, h => by
    by_cases c : zLw C < zWm C - p
    · rw [ewL_step k c, ewL_step k (by rw [h.2, h.1.2.2.1]; exact c), h.2]
      exact RL.rewL k _ _ _ h.rgl
    · rw [ewL_stop c, ewL_stop (by rw [h.2, h.1.2.2.1]; exact c)]
      exact ⟨h, rfl⟩
theorem RL.rewE {q r : CT × Nat} (h : RL q.1 r.1) (e : r.2 = q.2) : RL (ewE q) (ewE r) := by
  unfold ewE
  rw [e, h.1.2.2.1]
  exact (h.sNm _).sWm 0
theorem RL.rew (h : RL C E) : RL (ew C) (ew E) := by
  unfold ew
  rw [h.1.2.2.1, h.1.2.2.2.1, h.2]
  by_cases c : zWm C = 0
  · rw [if_pos c, if_pos c]
    exact h
  · rw [if_neg c, if_neg c]
    by_cases c2 : 0 < zNm C ∧ zNm C + 1 + zWm C ≤ zLw C
    · rw [if_pos c2, if_pos c2]
      exact (h.sNm _).sWm 0
    · rw [if_neg c2, if_neg c2]
      by_cases c3 : 0 < zNm C
      · rw [if_pos c3, if_pos c3]
        have q := RL.rewL (zWm C) 0 _ _ h.rgn
        exact RL.rewE q.1 q.2
      · rw [if_neg c3, if_neg c3]
        have q := RL.rewL (zWm C) 0 _ _ h
        exact RL.rewE q.1 q.2
theorem RL.rhearF (h : RL C E) (c : Int32) : RL (hearF c C) (hearF c E) := by
  unfold hearF
  split
  · exact h.rew
  · rw [h.1.2.2.1]
    exact h.sWm _
theorem RL.rhearL : ∀ (k q : Nat) (C E : CT), RL C E → RL (hearL T k q C) (hearL T k q E)
  | 0, _, _, _, h => h
  | k + 1, q, C, E, h => RL.rhearL k (q + 1) _ _ (h.rhearF _)
theorem RL.rhearN : ∀ (k : Nat) (C E : CT), RL C E → RL (hearN k C) (hearN k E)
  | 0, _, _, h => h
  | k + 1, C, E, h => RL.rhearN k _ _ (h.rhearF _)
theorem R0.rwdt (h : R0 C E) (h1 : 1 ≤ zHo C) : wdt E = wdt C := by
  obtain ⟨a1, a2, a3, a4, a5, a6, a7, a8⟩ := h.2.2.2.2.2.2 (zHo C - 1) (by omega)
  show (zW E (zHo E - 1)).toNatClampNeg = (zW C (zHo C - 1)).toNatClampNeg
  rw [h.2.1, a2]
theorem R0.rbl (h : R0 C E) (h1 : 1 ≤ zHo C) : RL (bl C) (bl E) := by
  unfold bl
  rw [h.rwdt h1, h.2.1]
  exact (((((h.sF (zHo C - 1) 1).sLo 1).sLl (-1)).sLw (wdt C)).sWm 0).sNm 0
theorem RL.rel (h : RL C E) : RL (el C) (el E) := by
  have q := h.rew
  unfold el
  rw [q.1.2.2.2.1]
  by_cases c : 0 < zNm (ew C)
  · rw [if_pos c, if_pos c]
    exact q.rgn.sLo 0
  · rw [if_neg c, if_neg c]
    exact q.sLo 0
theorem upd_eq2 {f g : Nat → Int32} {j p : Nat} {x : Int32} (e : j < p → f j = g j) (hj : j < p + 1) : upd f p x j = upd g p x j := by
  unfold upd
  split
  · rfl
  · exact e (by omega)
theorem hd_F (k w sg wi : Int32) (C : CT) : zF (hd k w sg wi C) = upd (if 0 < zHo C then upd (zF C) (zHo C - 1) 1 else zF C) (zHo C) 0 ∧ zS (hd k w sg wi C) = upd (zS C) (zHo C) sg ∧ zX (hd k w sg wi C) = upd (zX C) (zHo C) sg ∧ zD (hd k w sg wi C) = upd (zD C) (zHo C) (if k = 7 then 1 else 0) ∧ zI (hd k w sg wi C) = upd (zI C) (zHo C) (vp_nar .boolean wi) ∧ zH (hd k w sg wi C) = upd (zH C) (zHo C) 0 := by
  unfold hd
  split
  · exact ⟨rfl, rfl, rfl, rfl, rfl, rfl⟩
  · exact ⟨rfl, rfl, rfl, rfl, rfl, rfl⟩
theorem R0.rhd (h : R0 C E) (k w sg wi : Int32) : R0 (hd k w sg wi C) (hd k w sg wi E) := by
  obtain ⟨a1, a2, a3, a4, a5, a6, a7, a8, a9⟩ := hd_ok k w sg wi C
  obtain ⟨b1, b2, b3, b4, b5, b6, b7, b8, b9⟩ := hd_ok k w sg wi E
  obtain ⟨c1, c2, c3, c4, c5, c6⟩ := hd_F k w sg wi C
  obtain ⟨d1, d2, d3, d4, d5, d6⟩ := hd_F k w sg wi E
  obtain ⟨g1, g2, g3, g4, g5, g6, g7⟩ := h
  refine ⟨by rw [b2, a2]; exact g1, by rw [b1, a1, g2], by rw [b4, a4]; exact g3, by rw [b5, a5]; exact g4, by rw [b6, a6]; exact g5, by rw [b7, a7]; exact g6, fun j hj => ?_⟩
  rw [a1] at hj
  rw [a8, a9, b8, b9, c1, c2, c3, c4, c5, c6, d1, d2, d3, d4, d5, d6, g2]
  refine ⟨upd_eq2 (fun z => (g7 j z).1) hj, upd_eq2 (fun z => (g7 j z).2.1) hj, upd_eq2 (fun z => (g7 j z).2.2.1) hj, upd_eq2 (fun z => (g7 j z).2.2.2.1) hj, upd_eq2 (fun z => (g7 j z).2.2.2.2.1) hj, upd_eq2 (fun z => (g7 j z).2.2.2.2.2.1) hj, upd_eq2 (fun z => (g7 j z).2.2.2.2.2.2.1) hj, upd_eq2 (fun z => ?_) hj⟩
  have g8 := (g7 j z).2.2.2.2.2.2.2
  split
  · exact upd_eq g8
  · exact g8
theorem RR.rhd (h : RR C E) (k w sg wi : Int32) : RR (hd k w sg wi C) (hd k w sg wi E) := by
  obtain ⟨a1, a2, a3, a4, a5, a6, a7, a8, a9⟩ := hd_ok k w sg wi C
  obtain ⟨b1, b2, b3, b4, b5, b6, b7, b8, b9⟩ := hd_ok k w sg wi E
  exact ⟨h.1.rhd k w sg wi, by rw [a6, b3, a3]; exact h.2⟩
theorem RL.rlpN (h : RL C E) (p : Nat) : lpN p E = lpN p C := by
  unfold lpN
  rw [h.1.2.2.1, h.2]
theorem RL.rlpL : ∀ (k p : Nat) (C E : CT), RL C E → RL (lpL k p C) (lpL k p E)
  | 0, _, _, _, h => h
  | k + 1, p, C, E, h => by
    by_cases c : p + lpN p C < zWm C
    · rw [lpL_go k c, lpL_go k (by rw [h.rlpN, h.1.2.2.1]; exact c), h.rlpN]
      exact RL.rlpL k _ _ _ h.rgl
    · rw [lpL_end k c, lpL_end k (by rw [h.rlpN, h.1.2.2.1]; exact c)]
      exact h.rgl
theorem RL.rlp (h : RL C E) : RL (lp C) (lp E) := by
  unfold lp
  rw [h.1.2.2.1]
  exact (RL.rlpL _ 0 _ _ h).sWm 0
theorem RL.rlcI : ∀ (k q : Nat) (C E : CT), RL C E → RL (lcI T k q C) (lcI T k q E)
  | 0, _, _, _, h => h
  | k + 1, q, C, E, h => by
    rw [lcI_s, lcI_s]
    refine RL.rlcI k (q + 1) _ _ ?_
    split
    · exact h.rlp
    · rw [h.1.2.2.1]
      exact h.sWm _
theorem RL.rlcL (i : Nat) : ∀ (k p : Nat) (C E : CT), RL C E → RL (lcL T i k p C) (lcL T i k p E)
  | 0, _, _, _, h => h
  | k + 1, p, C, E, h => by
    rw [lcL_s, lcL_s]
    refine RL.rlcL i k (p + 1) _ _ ?_
    split
    · exact RL.rlcI _ _ _ _ h
    · exact h
theorem RL.rlcE (h : RL C E) : RL (lcE C) (lcE E) := by
  unfold lcE
  rw [h.1.2.2.1]
  by_cases c : 0 < zWm C
  · rw [if_pos c, if_pos c]
    exact h.rlp.sLo 0
  · rw [if_neg c, if_neg c]
    exact h.sLo 0
theorem R0.rlc (h : R0 C E) (h1 : 1 ≤ zHo C) (i : Nat) : RL (lc T i C) (lc T i E) := (RL.rlcL i _ _ _ _ (h.rbl h1)).rlcE
theorem RR.A1 (h : RR C E) (i : Nat) : RR (bnA1 T i C) (bnA1 T i E) := by
  unfold bnA1
  rw [h.1.2.2.2.2.1]
  by_cases c : isB (ttK T i) = 0
  · rw [if_pos c, if_pos c]
    exact h
  · rw [if_neg c, if_neg c]
    by_cases c2 : zLo C = 0
    · rw [if_pos c2, if_pos c2]
      exact h
    · rw [if_neg c2, if_neg c2]
      exact (h.rl c2).rel.rr
theorem RR.A2 (h : RR C E) (i : Nat) : RR (bnA2 T i C) (bnA2 T i E) := by
  unfold bnA2
  rw [h.1.2.2.2.2.1, h.1.2.1]
  by_cases c : isL (ttK T i) = 0
  · rw [if_pos c, if_pos c]
    exact h
  · rw [if_neg c, if_neg c]
    by_cases c2 : zLo C = 0
    · rw [if_pos c2, if_pos c2]
      by_cases c3 : 0 < zHo C
      · rw [if_pos c3, if_pos c3, (h.1.2.2.2.2.2.2 (zHo C - 1) (by omega)).1]
        by_cases c4 : zK C (zHo C - 1) = 7
        · rw [if_pos c4, if_pos c4]
          by_cases c5 : ttK T (pu T i) = 7
          · rw [if_pos c5, if_pos c5]
            exact (h.1.rbl c3).rr
          · rw [if_neg c5, if_neg c5]
            exact h
        · rw [if_neg c4, if_neg c4]
          exact h
      · rw [if_neg c3, if_neg c3]
        exact h
    · rw [if_neg c2, if_neg c2]
      exact h
theorem R0.wv (h : R0 C E) : wvF T E = wvF T C := by
  unfold wvF
  rw [h.2.1]
  by_cases c3 : 0 < zHo C
  · rw [if_pos c3, if_pos c3, (h.2.2.2.2.2.2 (zHo C - 1) (by omega)).2.1]
  · rw [if_neg c3, if_neg c3]
theorem RR.ritF (h : RR C E) (h1 : 1 ≤ zHo C) (i : Nat) : RR (itF T i C) (itF T i E) := by
  obtain ⟨a1, a2, a3, a4, a5, a6, a7, a8⟩ := h.1.2.2.2.2.2.2 (zHo C - 1) (by omega)
  have e : sgF E = sgF C := by
    unfold sgF
    rw [h.1.2.1, a1, a4]
  unfold itF
  rw [e, h.1.wv, h.1.2.1, a4]
  exact RR.rhd ⟨h.1.sX _ _, h.2⟩ _ _ _ _
theorem RR.rbnB (hT : TrI T) {i : Nat} (hi : 0 < i ∧ i < ttN T) (h : RR C E) (hs : SA T i C) : RR (bnB T i C) (bnB T i E) := by
  obtain ⟨b1, b2, b3, b4, b5, b6, b7, b8⟩ := hT.2.2.1 i hi.1 hi.2
  have hc := hT.hc (pu T i) (by omega)
  have h1 : 1 ≤ zHo C := by have := hs.1; omega
  have hki := ks_of b7
  simp only [KS, List.mem_cons, List.not_mem_nil, or_false] at hki
  rcases hki with e | e | e | e | e | e | e | e | e | e | e
  · have q : ∀ C, bnB T i C = bl C := fun C => by simp [bnB, e]
    rw [q, q]
    exact (h.1.rbl h1).rr
  · have q : ∀ C, bnB T i C = hgF T i C := fun C => by simp [bnB, e]
    rw [q, q]
    exact (RL.rhearN _ _ _ (h.1.rbl h1)).rew.rr
  · have q : ∀ C, bnB T i C = ruF C := fun C => by simp [bnB, e]
    rw [q, q]
    unfold ruF
    rw [h.1.rwdt h1]
    exact ((h.1.rbl h1).sNm _).rel.rr
  · have q : ∀ C, bnB T i C = lc T i C := fun C => by simp [bnB, e]
    rw [q, q]
    exact (h.1.rlc h1 i).rr
  · have q : ∀ C, bnB T i C = hd 4 (wvF T C - 2) (-1) 1 C := fun C => by simp [bnB, e]
    rw [q, q, h.1.wv]
    exact h.rhd _ _ _ _
  · have q : ∀ C, bnB T i C = hd 5 (wvF T C) (-1) (hw T i) C := fun C => by simp [bnB, e]
    rw [q, q, h.1.wv]
    exact h.rhd _ _ _ _
  · have q : ∀ C, bnB T i C = hd 6 (wvF T C) (ttNu T i) (hw T i) C := fun C => by simp [bnB, e]
    rw [q, q, h.1.wv]
    exact h.rhd _ _ _ _
  · have q : ∀ C, bnB T i C = itF T i C := fun C => by simp [bnB, e]
    rw [q, q]
    exact h.ritF h1 i
  · have q : ∀ C, bnB T i C = C := fun C => by simp [bnB, e]
    rw [q, q]
    exact h
  · have hpa : ¬ ttK T (pu T i) = 3 := fun z => by
      rw [z, e] at b6
      exact absurd b6 (by decide)
    have q : ∀ C, bnB T i C = gn (ew C) := fun C => by simp [bnB, e]
    rw [q, q]
    exact (h.rl (hs.2.2.2.2.2.1 ⟨by rw [e]; decide, hpa⟩)).rew.rgn.rr
  · by_cases hpa : ttK T (pu T i) = 3
    · have q : ∀ C, bnB T i C = C := fun C => by simp [bnB, e, hpa]
      rw [q, q]
      exact h
    · have q : ∀ C, bnB T i C = hearL T (ttMa T i) (ttFr T i) C := fun C => by simp [bnB, e, hpa]
      rw [q, q]
      exact (RL.rhearL _ _ _ _ (h.rl (hs.2.2.2.2.2.1 ⟨by rw [e]; decide, hpa⟩))).rr
theorem RR.rbn (hT : TrI T) {i : Nat} (hi : 0 < i ∧ i < ttN T) (h : RR C E) (hs : SI T (pu T i) C) (hw : zWm C ≤ sumN (ttMa T) i) (hb : zCnt C < 30000000) : RR (bn T i C) (bn T i E) :=
  RR.rbnB hT hi ((h.A1 i).A2 i) (A2_ok hT hi (A1_ok hT hi hs hw hb) (A1_cnt hT hi hs hw).2.2)
theorem R0.sHo (h : R0 C E) {x : Nat} (hx : x ≤ zHo C) : R0 (szHo C x) (szHo E x) := ⟨h.1, rfl, h.2.2.1, h.2.2.2.1, h.2.2.2.2.1, h.2.2.2.2.2.1, fun j hj => h.2.2.2.2.2.2 j (Nat.lt_of_lt_of_le hj hx)⟩
theorem RR.ren (hT : TrI T) {x : Nat} (hx : x < ttN T) (h : RR C E) (hs : SI T x C) (hw : zWm C ≤ 4000) (hb : zCnt C < 30000000) : RR (en T x C) (en T x E) := by
  have hc := hT.hc x hx
  have hA : RR (enA (ttK T x) C) (enA (ttK T x) E) := by
    unfold enA
    by_cases c : ttK T x = 0 ∨ ttK T x = 1
    · rw [if_pos c, if_pos c]
      exact (h.rl (hs.2.2.2.1 (by rcases c with c | c; exact Or.inl c; exact Or.inr (Or.inl c)))).rel.rr
    · rw [if_neg c, if_neg c]
      exact h
  have hB : RR (enB (ttK T x) (enA (ttK T x) C)) (enB (ttK T x) (enA (ttK T x) E)) := by
    generalize enA (ttK T x) C = C1 at hA ⊢
    generalize enA (ttK T x) E = E1 at hA ⊢
    unfold enB
    by_cases c : ttK T x = 7
    · rw [if_pos c, if_pos c, hA.1.2.2.2.2.1]
      by_cases c2 : zLo C1 = 0
      · rw [if_pos c2, if_pos c2]
        exact hA
      · rw [if_neg c2, if_neg c2]
        exact (hA.rl c2).rel.rr
    · rw [if_neg c, if_neg c]
      exact hA
  have ho2 : ttK T x = 7 → zHo (enB (ttK T x) (enA (ttK T x) C)) = zHo C := fun c => by
    have qA : enA (ttK T x) C = C := if_neg (by rw [c]; decide)
    rw [qA]
    unfold enB
    rw [if_pos c]
    split
    · rfl
    · rename_i ho
      obtain ⟨g1, g2, g3⟩ := hs.2.2.1 ho
      have := hs.1
      exact (el_ok C (by omega) g3 (by omega) (by omega)).1
  have hC9 : RR (enX (ttK T x) C) (enX (ttK T x) E) := by
    unfold enX
    generalize enB (ttK T x) (enA (ttK T x) C) = C1 at hB ho2 ⊢
    generalize enB (ttK T x) (enA (ttK T x) E) = E1 at hB ⊢
    unfold enC
    by_cases c : ttK T x = 7
    · have h9 := ho2 c
      have h8 := hs.1
      rw [if_pos c, if_pos c, hB.1.2.1, (hB.1.2.2.2.2.2.2 (zHo C1 - 1) (by omega)).2.2.2.2.1]
      by_cases c2 : zD C1 (zHo C1 - 1) = 0
      · rw [if_pos c2, if_pos c2]
        exact hB
      · rw [if_neg c2, if_neg c2]
        refine ⟨(hB.1.sLl (-1)).rgl, ?_⟩
        rw [(gl_ok (szLl C1 (-1))).1.2.2.2.2.1, gl_lw, gl_lw]
        exact hB.2
    · rw [if_neg c, if_neg c]
      exact hB
  rw [en_eq, en_eq]
  generalize enX (ttK T x) C = C1 at hC9 ⊢
  generalize enX (ttK T x) E = E1 at hC9 ⊢
  unfold enD
  by_cases c : hk (ttK T x) = 1
  · rw [if_pos c, if_pos c, hC9.1.2.1]
    exact ⟨hC9.1.sHo (Nat.sub_le _ _), hC9.2⟩
  · rw [if_neg c, if_neg c]
    exact hC9
theorem RR.rue (hT : TrI T) {a : Nat} (ha : a < ttN T) : ∀ (f x : Nat) (C E : CT), x < f → x < ttN T → (∃ k, itr T k x = a) → SI T x C → zWm C ≤ 4000 → zCnt C + f * 60020 < 30000000 → RR C E → RR (ue T (nI a) f x C) (ue T (nI a) f x E)
  | 0, x, C, E, h, _, _, _, _, _, _ => absurd h (Nat.not_lt_zero _)
  | f + 1, x, C, E, hf, hx, ⟨k, hk9⟩, h, hw, hb, hr => by
    have hN := hT.1.2.1
    rw [ue_s, ue_s]
    rw [Nat.succ_mul] at hb
    by_cases e : x = a
    · rw [if_pos (by rw [e]), if_pos (by rw [e])]
      exact hr
    · have e9 : ¬ nI x = nI a := fun z => e ((nI_eq (by omega) (by omega)).mp z)
      rw [if_neg e9, if_neg e9]
      have hx0 : x ≠ 0 := fun z => e (by rw [z, itr0 hT k] at hk9; rw [z]; exact hk9)
      rw [if_neg hx0, if_neg hx0]
      have b1 := (hT.2.2.1 x (by omega) hx).1
      have hk2 : ∃ k, itr T k (pu T x) = a := by
        cases k with
        | zero => exact absurd hk9 e
        | succ k => exact ⟨k, hk9⟩
      have hbb : zCnt C < 30000000 := Nat.lt_of_le_of_lt (Nat.le_add_right _ _) hb
      have s1 := en_ok hT ⟨by omega, hx⟩ h hw hbb
      obtain ⟨c1, c2, c3⟩ := en_cnt hT hx h hw hbb
      exact RR.rue hT ha f (pu T x) (en T x C) (en T x E) (by omega) (by omega) hk2 s1 (by omega) (by omega) (RR.ren hT hx hr h hw hbb)
theorem RR.rueE (hT : TrI T) : ∀ (f x : Nat) (C E : CT), x < f → x < ttN T → SI T x C → zWm C ≤ 4000 → zCnt C + f * 60020 < 30000000 → RR C E → RR (ue T (-1) f x C) (ue T (-1) f x E)
  | 0, x, C, E, h, _, _, _, _, _ => absurd h (Nat.not_lt_zero _)
  | f + 1, x, C, E, hf, hx, h, hw, hb, hr => by
    have hN := hT.1.2.1
    rw [ue_s, ue_s]
    rw [Nat.succ_mul] at hb
    have hbb : zCnt C < 30000000 := Nat.lt_of_le_of_lt (Nat.le_add_right _ _) hb
    obtain ⟨c1, c2, c3⟩ := en_cnt hT hx h hw hbb
    have hr2 := RR.ren hT hx hr h hw hbb
    have hne : ¬ nI x = -1 := fun z => by
      have := congrArg Int32.toInt z
      rw [nI_toInt (by omega), show (-1 : Int32).toInt = -1 by decide] at this
      omega
    rw [if_neg hne, if_neg hne]
    by_cases e : x = 0
    · subst e
      rw [if_pos rfl, if_pos rfl]
      exact hr2
    · rw [if_neg e, if_neg e]
      have b1 := (hT.2.2.1 x (by omega) hx).1
      have s1 := en_ok hT ⟨by omega, hx⟩ h hw hbb
      exact RR.rueE hT f (pu T x) (en T x C) (en T x E) (by omega) (by omega) s1 (by omega) (by omega) hr2
theorem RR.rlyS (hT : TrI T) {i : Nat} (hi : i ≤ ttN T) (h : LY T i C) (hb : zCnt C ≤ 1500) (hr : RR C E) : RR (lyS T i C) (lyS T i E) := by
  have hN := hT.1.2.1
  have hN1 := hT.1.1
  unfold lyS
  by_cases e : i = 0
  · rw [if_pos e, if_pos e, bn0_eq hT, bn0_eq hT]
    exact hr.rhd _ _ _ _
  · rw [if_neg e, if_neg e]
    obtain ⟨s1, s2⟩ := h.2.1 (by omega) hi
    have hs := hT.sumi (i := i) (by omega)
    by_cases e2 : i = ttN T
    · rw [if_pos e2, if_pos e2]
      exact RR.rueE hT i (i - 1) C E (by omega) (by omega) s1 (by omega) (by omega) hr
    · rw [if_neg e2, if_neg e2]
      obtain ⟨b1, b2, b3⟩ := hT.2.2.1 i (by omega) (by omega)
      obtain ⟨u1, u2, u3, u4⟩ := lyU_ok hT (i := i) ⟨by omega, by omega⟩ h hb
      have q := RR.rue hT (a := pu T i) (by omega) i (i - 1) C E (by omega) (by omega) (hT.2.2.2.2.2.1 i (by omega) (by omega)) s1 (by omega) (by omega) hr
      rw [← b2] at q
      exact RR.rbn hT ⟨by omega, by omega⟩ q u1 u2 u4
theorem RR.rly (hT : TrI T) (hc : 8 ≤ ttCo T ∧ ttCo T ≤ 60) : ∀ (k i : Nat) (C E : CT), i + k ≤ ttN T + 1 → LY T i C → RR C E → RR (ly T k i C) (ly T k i E)
  | 0, _, _, _, _, _, hr => hr
  | k + 1, i, C, E, hi, h, hr => by
    rw [ly_s, ly_s, hr.1.1]
    by_cases c : 1500 < zCnt C
    · rw [if_pos c, if_pos c]
      exact hr
    · rw [if_neg c, if_neg c]
      exact RR.rly hT hc k (i + 1) _ _ (by omega) (lyS_ok hT hc (i := i) (by omega) h (by omega)).1 (RR.rlyS hT (i := i) (by omega) h (by omega) hr)
/-- the second pass counts as the first did -/
theorem ly_det (hT : TrI T) (hc : 8 ≤ ttCo T ∧ ttCo T ≤ 60) (C E : CT) : zCnt (ly T (ttN T + 1) 0 (ly0 E)) = zCnt (ly T (ttN T + 1) 0 (ly0 C)) :=
  (RR.rly hT hc (ttN T + 1) 0 (ly0 C) (ly0 E) (by omega) (LY0 T C) ⟨⟨rfl, rfl, rfl, rfl, rfl, rfl, fun h hh => absurd hh (Nat.not_lt_zero _)⟩, Or.inl rfl⟩).1.1
end KM18
