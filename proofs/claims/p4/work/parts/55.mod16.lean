section KM16
variable {T : TS}
theorem LI0 {C : CT} (h : zLo C = 0) : LI C := fun z => absurd h z
theorem SIq {i : Nat} {C C2 : CT} (hT : TrI T) (hi : 0 < i ∧ i < ttN T) (h : SA T i C) (h0 : hk (ttK T i) = 0) (e1 : zHo C2 = zHo C) (e2 : zW C2 = zW C) (e3 : zK C2 = zK C) (hL : LI C2) (hO : OPN T i C2) (hl : LLI C2) : SI T i C2 := by
  obtain ⟨a1, a2, a3, a4, a5, a6, a7⟩ := h
  have b5 := (hT.2.2.1 i hi.1 hi.2).2.2.2.2.1
  exact ⟨by rw [e1, a1, b5, h0]; rfl, a2.of (Nat.le_of_eq e1) e2, hL, hO, (a4.of e3).down h0, hl⟩
theorem SIh {i : Nat} {C : CT} (hT : TrI T) (hi : 0 < i ∧ i < ttN T) (h1 : zHo C = ttHc T (pu T i)) (h2 : WI C) (h3 : LI C) (h4 : KI T (pu T i) C) (h5 : LLI C) (h : hk (ttK T i) = 1) (hO : ¬ (ttK T i = 0 ∨ ttK T i = 1 ∨ (isL (ttK T i) = 1 ∧ ¬ ttK T (pu T i) = 3))) (w sg wi : Int32) (hw : ∃ wd2, (if w < 4 then 4 else w) = nI wd2 ∧ 4 ≤ wd2 ∧ wd2 ≤ 60) : SI T i (hd (ttK T i) w sg wi C) ∧ zWm (hd (ttK T i) w sg wi C) = zWm C ∧ zCnt (hd (ttK T i) w sg wi C) = zCnt C := by
  obtain ⟨a1, a2, a3, a4, a5, a6, a7, a8, a9⟩ := hd_ok (ttK T i) w sg wi C
  have b5 := (hT.2.2.1 i hi.1 hi.2).2.2.2.2.1
  refine ⟨⟨by rw [a1, h1, b5, h], h2.hd _ _ _ _ hw, ?_, fun z => absurd z hO, KI.hd hT hi h4 h1 h w sg wi, ?_⟩, a4, a2⟩
  · intro z
    rw [a6] at z
    rw [a3, a5]
    exact h3 z
  · unfold LLI
    rw [a7, a2]
    exact h5
theorem w_ok0 {wd : Nat} (h : 4 ≤ wd ∧ wd ≤ 60) : ∃ wd2, (if nI wd < 4 then 4 else nI wd) = nI wd2 ∧ 4 ≤ wd2 ∧ wd2 ≤ 60 := by
  by_cases c : nI wd < 4
  · rw [if_pos c]
    exact ⟨4, rfl, by omega, by omega⟩
  · rw [if_neg c]
    exact ⟨wd, rfl, h⟩
theorem wv_ok {C : CT} (h : WI C) (h1 : 1 ≤ zHo C) : ∃ wd, wvF T C = nI wd ∧ 4 ≤ wd ∧ wd ≤ 60 := by
  unfold wvF
  rw [if_pos (show 0 < zHo C by omega)]
  exact h _ (by omega)
theorem nu_le {x : Int32} (h : 1 ≤ x ∧ x ≤ 6) : x.toNatClampNeg ≤ 6 ∧ x = nI x.toNatClampNeg := by
  have h1 : 1 ≤ x.toInt := Int32.le_iff_toInt_le.mp h.1
  have h2 : x.toInt ≤ 6 := Int32.le_iff_toInt_le.mp h.2
  have h3 : x.toInt = 1 ∨ x.toInt = 2 ∨ x.toInt = 3 ∨ x.toInt = 4 ∨ x.toInt = 5 ∨ x.toInt = 6 := by omega
  rcases h3 with e | e | e | e | e | e
  · rw [i32_lit e 1 (by decide)]; decide
  · rw [i32_lit e 2 (by decide)]; decide
  · rw [i32_lit e 3 (by decide)]; decide
  · rw [i32_lit e 4 (by decide)]; decide
  · rw [i32_lit e 5 (by decide)]; decide
  · rw [i32_lit e 6 (by decide)]; decide
theorem sumS (f : Nat → Nat) (i : Nat) : sumN f (i + 1) = sumN f i + f i := rfl
/-- what a node's own part leaves -/
def BNR (T : TS) (i : Nat) (C C2 : CT) : Prop := SI T i C2 ∧ zWm C2 ≤ sumN (ttMa T) (i + 1) ∧ zCnt C ≤ zCnt C2 ∧ zCnt C2 ≤ zCnt C + 241000000
theorem bn_hold (hT : TrI T) {i : Nat} (hi : 0 < i ∧ i < ttN T) {C C1 : CT} (h : SA T i C) (e1 : zHo C1 = zHo C) (e2 : zW C1 = zW C) (e3 : zK C1 = zK C) (e4 : zLo C1 = zLo C) (e5 : zLw C1 = zLw C) (e6 : zNm C1 = zNm C) (e7 : zLl C1 = zLl C) (e8 : zCnt C1 = zCnt C) (e9 : zWm C1 = zWm C) (hk1 : hk (ttK T i) = 1) (hO : ¬ (ttK T i = 0 ∨ ttK T i = 1 ∨ (isL (ttK T i) = 1 ∧ ¬ ttK T (pu T i) = 3))) (w sg wi : Int32) (hw : ∃ wd2, (if w < 4 then 4 else w) = nI wd2 ∧ 4 ≤ wd2 ∧ wd2 ≤ 60) : BNR T i C (hd (ttK T i) w sg wi C1) := by
  obtain ⟨a1, a2, a3, a4, a5, a6, a7⟩ := h
  have q : LI C1 := fun z => by
    rw [e4] at z
    rw [e5, e6]
    exact a3 z
  have q2 : LLI C1 := by
    unfold LLI
    rw [e7, e8]
    exact a5
  obtain ⟨s1, s2, s3⟩ := SIh hT hi (e1.trans a1) (a2.of (Nat.le_of_eq e1) e2) q (a4.of e3) q2 hk1 hO w sg wi hw
  refine ⟨s1, ?_, by rw [s3, e8]; exact Nat.le_refl _, by rw [s3, e8]; exact Nat.le_add_right _ _⟩
  rw [s2, e9, sumS]
  exact Nat.le_trans a7 (Nat.le_add_right _ _)
theorem LI_of {C C2 : CT} (h : 4 ≤ zLw C ∧ zLw C ≤ 60) (e : zLw C2 = zLw C) (hn : zNm C2 ≤ zLw C) : LI C2 := fun _ => by
  rw [e]
  exact ⟨h.1, h.2, hn⟩
theorem nleaf {k : Int32} {p : Prop} (h : k = 2 ∨ k = 3 ∨ k = 4 ∨ k = 5 ∨ k = 6 ∨ k = 7) : ¬ (k = 0 ∨ k = 1 ∨ (isL k = 1 ∧ p)) := by
  rcases h with rfl | rfl | rfl | rfl | rfl | rfl
  all_goals
    intro z
    rcases z with z | z | z
    · exact absurd z (by decide)
    · exact absurd z (by decide)
    · exact absurd z.1 (by decide)
set_option maxHeartbeats 2000000 in
theorem bnB_0 (hT : TrI T) {i : Nat} (hi : 0 < i ∧ i < ttN T) {C : CT} (h : SA T i C) (hb : zCnt C < 40000000) (e : ttK T i = 0) : BNR T i C (bnB T i C) := by
  obtain ⟨b1, b2, b3, b4, b5, b6, b7, b8⟩ := hT.2.2.1 i hi.1 hi.2
  obtain ⟨a1, a2, a3, a4, a5, a6, a7⟩ := h
  have hs := hT.sum hi.2
  have hs1 := sumS (ttMa T) i
  have hc := hT.hc (pu T i) (by omega)
  have h1 : 1 ≤ zHo C := by omega
  have h13 : zHo C ≤ 13 := by omega
  obtain ⟨wd, ew1, ew2⟩ := wv_ok (T := T) a2 h1
  obtain ⟨w1, w2, w3⟩ := WI_wdt a2 h1
  obtain ⟨l1, l2, l3, l4, l5, l6, l7, l8⟩ := bl_ok C
  obtain ⟨i1, i2, i3, i4⟩ := bl_inv a2 h1
  have lK : zK (bl C) = zK C := rfl
  have q : bnB T i C = bl C := by simp [bnB, e]
  rw [q]
  refine ⟨SIq hT hi ⟨a1, a2, a3, a4, a5, a6, a7⟩ (by rw [e]; decide) l1 l8 lK i2 (fun _ => i4) i3, by rw [l3]; exact Nat.zero_le _, by rw [l5]; exact Nat.le_refl _, by rw [l5]; exact Nat.le_add_right _ _⟩
set_option maxHeartbeats 2000000 in
theorem bnB_1 (hT : TrI T) {i : Nat} (hi : 0 < i ∧ i < ttN T) {C : CT} (h : SA T i C) (hb : zCnt C < 40000000) (e : ttK T i = 1) : BNR T i C (bnB T i C) := by
  obtain ⟨b1, b2, b3, b4, b5, b6, b7, b8⟩ := hT.2.2.1 i hi.1 hi.2
  obtain ⟨a1, a2, a3, a4, a5, a6, a7⟩ := h
  have hs := hT.sum hi.2
  have hs1 := sumS (ttMa T) i
  have hc := hT.hc (pu T i) (by omega)
  have h1 : 1 ≤ zHo C := by omega
  have h13 : zHo C ≤ 13 := by omega
  obtain ⟨wd, ew1, ew2⟩ := wv_ok (T := T) a2 h1
  obtain ⟨w1, w2, w3⟩ := WI_wdt a2 h1
  obtain ⟨l1, l2, l3, l4, l5, l6, l7, l8⟩ := bl_ok C
  obtain ⟨i1, i2, i3, i4⟩ := bl_inv a2 h1
  have lK : zK (bl C) = zK C := rfl
  have q : bnB T i C = hgF T i C := by simp [bnB, e]
  obtain ⟨n1, n2⟩ := nu_le (b8 e)
  rw [q]
  unfold hgF
  obtain ⟨c1, c2, c3, c4, c5, c6⟩ := hearN_ok (ttNu T i).toNatClampNeg (bl C) (by omega) (by omega) (by omega) (by omega)
  have lwe := c1.2.1
  have hoe := c1.1
  have hm := mulb (show zWm (hearN (ttNu T i).toNatClampNeg (bl C)) ≤ 4010 by omega) (show zHo (hearN (ttNu T i).toNatClampNeg (bl C)) ≤ 13 by omega)
  obtain ⟨d1, d2, d3, d4, d5⟩ := ew_ok (hearN (ttNu T i).toNatClampNeg (bl C)) (by omega) (by omega)
  have q1 := c6 i3 (by omega)
  have q2 := ew_ll _ q1 (by omega)
  have q3 := c1.trans d1
  refine ⟨SIq hT hi ⟨a1, a2, a3, a4, a5, a6, a7⟩ (by rw [e]; decide) (q3.1.trans l1) (q3.2.2.2.2.1.trans l8) (q3.2.2.2.1.trans lK) (LI_of (C := bl C) (by rw [l2]; exact ⟨w2, w3⟩) q3.2.1 (by omega)) (fun _ => by rw [q3.2.2.1]; exact i4) q2, by rw [d2]; exact Nat.zero_le _, by omega, by omega⟩
set_option maxHeartbeats 2000000 in
theorem bnB_2 (hT : TrI T) {i : Nat} (hi : 0 < i ∧ i < ttN T) {C : CT} (h : SA T i C) (hb : zCnt C < 40000000) (e : ttK T i = 2) : BNR T i C (bnB T i C) := by
  obtain ⟨b1, b2, b3, b4, b5, b6, b7, b8⟩ := hT.2.2.1 i hi.1 hi.2
  obtain ⟨a1, a2, a3, a4, a5, a6, a7⟩ := h
  have hs := hT.sum hi.2
  have hs1 := sumS (ttMa T) i
  have hc := hT.hc (pu T i) (by omega)
  have h1 : 1 ≤ zHo C := by omega
  have h13 : zHo C ≤ 13 := by omega
  obtain ⟨wd, ew1, ew2⟩ := wv_ok (T := T) a2 h1
  obtain ⟨w1, w2, w3⟩ := WI_wdt a2 h1
  obtain ⟨l1, l2, l3, l4, l5, l6, l7, l8⟩ := bl_ok C
  obtain ⟨i1, i2, i3, i4⟩ := bl_inv a2 h1
  have lK : zK (bl C) = zK C := rfl
  have q : bnB T i C = ruF C := by simp [bnB, e]
  rw [q]
  unfold ruF
  obtain ⟨c1, c2, c3, c4, c5, c6, c7, c8, c9, c0⟩ := el_ok (szNm (bl C) (wdt C)) (show 1 ≤ zLw (bl C) by omega) (show wdt C ≤ zLw (bl C) by omega) (show zWm (bl C) ≤ 4010 by omega) (show zHo (bl C) ≤ 13 by omega)
  have q1 : zCnt (szNm (bl C) (wdt C)) = zCnt C := rfl
  refine ⟨SIq hT hi ⟨a1, a2, a3, a4, a5, a6, a7⟩ (by rw [e]; decide) c1 c3 c2 (LI0 c7) (fun z => ?_) (c0 i3 (by omega)), by rw [c4]; exact Nat.zero_le _, by omega, by omega⟩
  exact absurd z (nleaf (by rw [e]; decide))
set_option maxHeartbeats 2000000 in
theorem bnB_3 (hT : TrI T) {i : Nat} (hi : 0 < i ∧ i < ttN T) {C : CT} (h : SA T i C) (hb : zCnt C < 40000000) (e : ttK T i = 3) : BNR T i C (bnB T i C) := by
  obtain ⟨b1, b2, b3, b4, b5, b6, b7, b8⟩ := hT.2.2.1 i hi.1 hi.2
  obtain ⟨a1, a2, a3, a4, a5, a6, a7⟩ := h
  have hs := hT.sum hi.2
  have hs1 := sumS (ttMa T) i
  have hc := hT.hc (pu T i) (by omega)
  have h1 : 1 ≤ zHo C := by omega
  have h13 : zHo C ≤ 13 := by omega
  obtain ⟨wd, ew1, ew2⟩ := wv_ok (T := T) a2 h1
  obtain ⟨w1, w2, w3⟩ := WI_wdt a2 h1
  obtain ⟨l1, l2, l3, l4, l5, l6, l7, l8⟩ := bl_ok C
  obtain ⟨i1, i2, i3, i4⟩ := bl_inv a2 h1
  have lK : zK (bl C) = zK C := rfl
  have q : bnB T i C = lc T i C := by simp [bnB, e]
  rw [q]
  unfold lc
  have hsn : sumN (ttMa T) (i + 1 + (ttN T - (i + 1))) ≤ 4000 := by
    rw [show i + 1 + (ttN T - (i + 1)) = ttN T by omega]
    have g1 := hT.2.2.2.2.1
    have g2 := hT.1.2.2.1
    omega
  obtain ⟨c1, c2, c3, c4, c5⟩ := lcL_ok T i (ttN T - (i + 1)) (i + 1) (bl C) (by omega) hsn (by omega)
  have q1 := lcL_ll T i (ttN T - (i + 1)) (i + 1) (bl C) (by omega) hsn (by omega) i3 (by omega)
  generalize lcL T i (ttN T - (i + 1)) (i + 1) (bl C) = C3 at c1 c2 c3 c4 c5 q1 ⊢
  have hoe := c1.1
  have hm := mulb (show zWm C3 ≤ 4010 by omega) (show zHo C3 ≤ 13 by omega)
  have hno : ¬ (ttK T i = 0 ∨ ttK T i = 1 ∨ (isL (ttK T i) = 1 ∧ ¬ ttK T (pu T i) = 3)) := nleaf (by rw [e]; decide)
  unfold lcE
  split
  · obtain ⟨d1, d2, d3, d4, d5⟩ := lp_ok C3
    have q2 := lp_ll C3 q1 (by omega)
    have q3 := c1.trans d1
    refine ⟨SIq hT hi ⟨a1, a2, a3, a4, a5, a6, a7⟩ (by rw [e]; decide) (q3.1.trans l1) (q3.2.2.2.2.1.trans l8) (q3.2.2.2.1.trans lK) (LI0 rfl) (fun z => absurd z hno) q2, ?_, ?_, ?_⟩
    · show zWm (lp C3) ≤ _
      rw [d2]; exact Nat.zero_le _
    · show _ ≤ zCnt (lp C3)
      omega
    · show zCnt (lp C3) ≤ _
      omega
  · rename_i hz
    refine ⟨SIq hT hi ⟨a1, a2, a3, a4, a5, a6, a7⟩ (by rw [e]; decide) (c1.1.trans l1) (c1.2.2.2.2.1.trans l8) (c1.2.2.2.1.trans lK) (LI0 rfl) (fun z => absurd z hno) q1, ?_, ?_, ?_⟩
    · show zWm C3 ≤ _
      omega
    · show _ ≤ zCnt C3
      omega
    · show zCnt C3 ≤ _
      omega
set_option maxHeartbeats 2000000 in
theorem bnB_4 (hT : TrI T) {i : Nat} (hi : 0 < i ∧ i < ttN T) {C : CT} (h : SA T i C) (hb : zCnt C < 40000000) (e : ttK T i = 4) : BNR T i C (bnB T i C) := by
  obtain ⟨b1, b2, b3, b4, b5, b6, b7, b8⟩ := hT.2.2.1 i hi.1 hi.2
  obtain ⟨a1, a2, a3, a4, a5, a6, a7⟩ := h
  have hs := hT.sum hi.2
  have hs1 := sumS (ttMa T) i
  have hc := hT.hc (pu T i) (by omega)
  have h1 : 1 ≤ zHo C := by omega
  have h13 : zHo C ≤ 13 := by omega
  obtain ⟨wd, ew1, ew2⟩ := wv_ok (T := T) a2 h1
  obtain ⟨w1, w2, w3⟩ := WI_wdt a2 h1
  obtain ⟨l1, l2, l3, l4, l5, l6, l7, l8⟩ := bl_ok C
  obtain ⟨i1, i2, i3, i4⟩ := bl_inv a2 h1
  have lK : zK (bl C) = zK C := rfl
  have q : bnB T i C = hd (ttK T i) (wvF T C - 2) (-1) 1 C := by simp [bnB, e]
  rw [q]
  exact bn_hold hT hi ⟨a1, a2, a3, a4, a5, a6, a7⟩ rfl rfl rfl rfl rfl rfl rfl rfl rfl (by rw [e]; decide) (nleaf (by rw [e]; decide)) _ _ _ (by rw [ew1]; exact w_ok (b := 2) ew2 (by omega))
set_option maxHeartbeats 2000000 in
theorem bnB_5 (hT : TrI T) {i : Nat} (hi : 0 < i ∧ i < ttN T) {C : CT} (h : SA T i C) (hb : zCnt C < 40000000) (e : ttK T i = 5) : BNR T i C (bnB T i C) := by
  obtain ⟨b1, b2, b3, b4, b5, b6, b7, b8⟩ := hT.2.2.1 i hi.1 hi.2
  obtain ⟨a1, a2, a3, a4, a5, a6, a7⟩ := h
  have hs := hT.sum hi.2
  have hs1 := sumS (ttMa T) i
  have hc := hT.hc (pu T i) (by omega)
  have h1 : 1 ≤ zHo C := by omega
  have h13 : zHo C ≤ 13 := by omega
  obtain ⟨wd, ew1, ew2⟩ := wv_ok (T := T) a2 h1
  obtain ⟨w1, w2, w3⟩ := WI_wdt a2 h1
  obtain ⟨l1, l2, l3, l4, l5, l6, l7, l8⟩ := bl_ok C
  obtain ⟨i1, i2, i3, i4⟩ := bl_inv a2 h1
  have lK : zK (bl C) = zK C := rfl
  have q : bnB T i C = hd (ttK T i) (wvF T C) (-1) (hw T i) C := by simp [bnB, e]
  rw [q]
  exact bn_hold hT hi ⟨a1, a2, a3, a4, a5, a6, a7⟩ rfl rfl rfl rfl rfl rfl rfl rfl rfl (by rw [e]; decide) (nleaf (by rw [e]; decide)) _ _ _ (by rw [ew1]; exact w_ok0 ew2)
set_option maxHeartbeats 2000000 in
theorem bnB_6 (hT : TrI T) {i : Nat} (hi : 0 < i ∧ i < ttN T) {C : CT} (h : SA T i C) (hb : zCnt C < 40000000) (e : ttK T i = 6) : BNR T i C (bnB T i C) := by
  obtain ⟨b1, b2, b3, b4, b5, b6, b7, b8⟩ := hT.2.2.1 i hi.1 hi.2
  obtain ⟨a1, a2, a3, a4, a5, a6, a7⟩ := h
  have hs := hT.sum hi.2
  have hs1 := sumS (ttMa T) i
  have hc := hT.hc (pu T i) (by omega)
  have h1 : 1 ≤ zHo C := by omega
  have h13 : zHo C ≤ 13 := by omega
  obtain ⟨wd, ew1, ew2⟩ := wv_ok (T := T) a2 h1
  obtain ⟨w1, w2, w3⟩ := WI_wdt a2 h1
  obtain ⟨l1, l2, l3, l4, l5, l6, l7, l8⟩ := bl_ok C
  obtain ⟨i1, i2, i3, i4⟩ := bl_inv a2 h1
  have lK : zK (bl C) = zK C := rfl
  have q : bnB T i C = hd (ttK T i) (wvF T C) (ttNu T i) (hw T i) C := by simp [bnB, e]
  rw [q]
  exact bn_hold hT hi ⟨a1, a2, a3, a4, a5, a6, a7⟩ rfl rfl rfl rfl rfl rfl rfl rfl rfl (by rw [e]; decide) (nleaf (by rw [e]; decide)) _ _ _ (by rw [ew1]; exact w_ok0 ew2)
set_option maxHeartbeats 2000000 in
theorem bnB_7 (hT : TrI T) {i : Nat} (hi : 0 < i ∧ i < ttN T) {C : CT} (h : SA T i C) (hb : zCnt C < 40000000) (e : ttK T i = 7) : BNR T i C (bnB T i C) := by
  obtain ⟨b1, b2, b3, b4, b5, b6, b7, b8⟩ := hT.2.2.1 i hi.1 hi.2
  obtain ⟨a1, a2, a3, a4, a5, a6, a7⟩ := h
  have hs := hT.sum hi.2
  have hs1 := sumS (ttMa T) i
  have hc := hT.hc (pu T i) (by omega)
  have h1 : 1 ≤ zHo C := by omega
  have h13 : zHo C ≤ 13 := by omega
  obtain ⟨wd, ew1, ew2⟩ := wv_ok (T := T) a2 h1
  obtain ⟨w1, w2, w3⟩ := WI_wdt a2 h1
  obtain ⟨l1, l2, l3, l4, l5, l6, l7, l8⟩ := bl_ok C
  obtain ⟨i1, i2, i3, i4⟩ := bl_inv a2 h1
  have lK : zK (bl C) = zK C := rfl
  have q : bnB T i C = hd (ttK T i) (wvF T C - nI (sl (sgF C))) (sgF C) (hp T i) (szX C (upd (zX C) (zHo C - 1) (zX C (zHo C - 1) + 1))) := by simp [bnB, e, itF]
  have q8 := sl_le (sgF C)
  rw [q]
  generalize hxx : upd (zX C) (zHo C - 1) (zX C (zHo C - 1) + 1) = xx
  exact bn_hold (C1 := szX C xx) hT hi ⟨a1, a2, a3, a4, a5, a6, a7⟩ rfl rfl rfl rfl rfl rfl rfl rfl rfl (by rw [e]; decide) (nleaf (by rw [e]; decide)) (wvF T C - nI (sl (sgF C))) (sgF C) (hp T i) (by rw [ew1]; exact w_ok ew2 (by omega))
set_option maxHeartbeats 2000000 in
theorem bnB_8 (hT : TrI T) {i : Nat} (hi : 0 < i ∧ i < ttN T) {C : CT} (h : SA T i C) (hb : zCnt C < 40000000) (e : ttK T i = 8) : BNR T i C (bnB T i C) := by
  obtain ⟨b1, b2, b3, b4, b5, b6, b7, b8⟩ := hT.2.2.1 i hi.1 hi.2
  obtain ⟨a1, a2, a3, a4, a5, a6, a7⟩ := h
  have hs := hT.sum hi.2
  have hs1 := sumS (ttMa T) i
  have hc := hT.hc (pu T i) (by omega)
  have h1 : 1 ≤ zHo C := by omega
  have h13 : zHo C ≤ 13 := by omega
  obtain ⟨wd, ew1, ew2⟩ := wv_ok (T := T) a2 h1
  obtain ⟨w1, w2, w3⟩ := WI_wdt a2 h1
  obtain ⟨l1, l2, l3, l4, l5, l6, l7, l8⟩ := bl_ok C
  obtain ⟨i1, i2, i3, i4⟩ := bl_inv a2 h1
  have lK : zK (bl C) = zK C := rfl
  have q : bnB T i C = C := by simp [bnB, e]
  rw [q]
  refine ⟨SIq hT hi ⟨a1, a2, a3, a4, a5, a6, a7⟩ (by rw [e]; decide) rfl rfl rfl a3 (fun z => ?_) a5, by omega, Nat.le_refl _, Nat.le_add_right _ _⟩
  rcases z with z | z | z
  · rw [e] at z; exact absurd z (by decide)
  · rw [e] at z; exact absurd z (by decide)
  · exact a6 z
set_option maxHeartbeats 2000000 in
theorem bnB_9 (hT : TrI T) {i : Nat} (hi : 0 < i ∧ i < ttN T) {C : CT} (h : SA T i C) (hb : zCnt C < 40000000) (e : ttK T i = 9) : BNR T i C (bnB T i C) := by
  obtain ⟨b1, b2, b3, b4, b5, b6, b7, b8⟩ := hT.2.2.1 i hi.1 hi.2
  obtain ⟨a1, a2, a3, a4, a5, a6, a7⟩ := h
  have hs := hT.sum hi.2
  have hs1 := sumS (ttMa T) i
  have hc := hT.hc (pu T i) (by omega)
  have h1 : 1 ≤ zHo C := by omega
  have h13 : zHo C ≤ 13 := by omega
  obtain ⟨wd, ew1, ew2⟩ := wv_ok (T := T) a2 h1
  obtain ⟨w1, w2, w3⟩ := WI_wdt a2 h1
  obtain ⟨l1, l2, l3, l4, l5, l6, l7, l8⟩ := bl_ok C
  obtain ⟨i1, i2, i3, i4⟩ := bl_inv a2 h1
  have lK : zK (bl C) = zK C := rfl
  have hpa : ¬ ttK T (pu T i) = 3 := fun z => by
    rw [z, e] at b6
    exact absurd b6 (by decide)
  have hop := a6 ⟨by rw [e]; decide, hpa⟩
  obtain ⟨g1, g2, g3⟩ := a3 hop
  have q : bnB T i C = gn (ew C) := by simp [bnB, e]
  rw [q]
  have hm := mulb (show zWm C ≤ 4010 by omega) h13
  obtain ⟨d1, d2, d3, d4, d5⟩ := ew_ok C (by omega) g3
  obtain ⟨f1, f2, f3, f4, f5⟩ := gn_ok (ew C)
  have hoe := d1.1
  have q1 := ew_ll C a5 (by omega)
  have q2 : LLI (gn (ew C)) := LLI_Nm (gl_ll q1 (by omega)) 0
  have q3 := d1.trans f1
  refine ⟨SIq hT hi ⟨a1, a2, a3, a4, a5, a6, a7⟩ (by rw [e]; decide) q3.1 q3.2.2.2.2.1 q3.2.2.2.1 (LI_of ⟨g1, g2⟩ q3.2.1 (by omega)) (fun _ => by rw [q3.2.2.1]; exact hop) q2, by rw [f2, d2]; exact Nat.zero_le _, by omega, by omega⟩
set_option maxHeartbeats 2000000 in
theorem bnB_10 (hT : TrI T) {i : Nat} (hi : 0 < i ∧ i < ttN T) {C : CT} (h : SA T i C) (hb : zCnt C < 40000000) (e : ttK T i = 10) : BNR T i C (bnB T i C) := by
  obtain ⟨b1, b2, b3, b4, b5, b6, b7, b8⟩ := hT.2.2.1 i hi.1 hi.2
  obtain ⟨a1, a2, a3, a4, a5, a6, a7⟩ := h
  have hs := hT.sum hi.2
  have hs1 := sumS (ttMa T) i
  have hc := hT.hc (pu T i) (by omega)
  have h1 : 1 ≤ zHo C := by omega
  have h13 : zHo C ≤ 13 := by omega
  obtain ⟨wd, ew1, ew2⟩ := wv_ok (T := T) a2 h1
  obtain ⟨w1, w2, w3⟩ := WI_wdt a2 h1
  obtain ⟨l1, l2, l3, l4, l5, l6, l7, l8⟩ := bl_ok C
  obtain ⟨i1, i2, i3, i4⟩ := bl_inv a2 h1
  have lK : zK (bl C) = zK C := rfl
  by_cases hpa : ttK T (pu T i) = 3
  · have q : bnB T i C = C := by simp [bnB, e, hpa]
    rw [q]
    refine ⟨SIq hT hi ⟨a1, a2, a3, a4, a5, a6, a7⟩ (by rw [e]; decide) rfl rfl rfl a3 (fun z => ?_) a5, by omega, Nat.le_refl _, Nat.le_add_right _ _⟩
    rcases z with z | z | z
    · rw [e] at z; exact absurd z (by decide)
    · rw [e] at z; exact absurd z (by decide)
    · exact a6 z
  · have hop := a6 ⟨by rw [e]; decide, hpa⟩
    obtain ⟨g1, g2, g3⟩ := a3 hop
    have q : bnB T i C = hearL T (ttMa T i) (ttFr T i) C := by simp [bnB, e, hpa]
    rw [q]
    obtain ⟨c1, c2, c3, c4, c5, c6⟩ := hearL_ok T (ttMa T i) (ttFr T i) C (by omega) g3 (by omega) h13
    refine ⟨SIq hT hi ⟨a1, a2, a3, a4, a5, a6, a7⟩ (by rw [e]; decide) c1.1 c1.2.2.2.2.1 c1.2.2.2.1 (LI_of ⟨g1, g2⟩ c1.2.1 c2) (fun _ => by rw [c1.2.2.1]; exact hop) (c6 a5 (by omega)), by omega, c4, by omega⟩
theorem bnB_ok (hT : TrI T) {i : Nat} (hi : 0 < i ∧ i < ttN T) {C : CT} (h : SA T i C) (hb : zCnt C < 40000000) : BNR T i C (bnB T i C) := by
  have hki := ks_of (hT.2.2.1 i hi.1 hi.2).2.2.2.2.2.2.1
  simp only [KS, List.mem_cons, List.not_mem_nil, or_false] at hki
  rcases hki with e | e | e | e | e | e | e | e | e | e | e
  · exact bnB_0 hT hi h hb e
  · exact bnB_1 hT hi h hb e
  · exact bnB_2 hT hi h hb e
  · exact bnB_3 hT hi h hb e
  · exact bnB_4 hT hi h hb e
  · exact bnB_5 hT hi h hb e
  · exact bnB_6 hT hi h hb e
  · exact bnB_7 hT hi h hb e
  · exact bnB_8 hT hi h hb e
  · exact bnB_9 hT hi h hb e
  · exact bnB_10 hT hi h hb e
/-- a node begins -/
theorem bn_ok (hT : TrI T) {i : Nat} (hi : 0 < i ∧ i < ttN T) {C : CT} (h : SI T (pu T i) C) (hw : zWm C ≤ sumN (ttMa T) i) (hb : zCnt C < 30000000) : SI T i (bn T i C) ∧ zWm (bn T i C) ≤ sumN (ttMa T) (i + 1) ∧ zCnt C ≤ zCnt (bn T i C) ∧ zCnt (bn T i C) ≤ zCnt C + 242000000 := by
  have g1 := A1_ok hT hi h hw hb
  obtain ⟨c1, c2, c3⟩ := A1_cnt hT hi h hw
  have g2 := A2_ok hT hi g1 c3
  have c4 := (A2_cnt T i (bnA1 T i C)).1
  obtain ⟨r1, r2, r3, r4⟩ := bnB_ok hT hi g2 (by omega)
  exact ⟨r1, r2, by show _ ≤ zCnt (bnB T i _); omega, by show zCnt (bnB T i _) ≤ _; omega⟩
end KM16
