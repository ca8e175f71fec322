section KM24
variable {T : TS}
theorem updN_ne {f : Nat → Nat} {k x j : Nat} (h : ¬ j = k) : updN f k x j = f j := if_neg h
theorem updN_self {f : Nat → Nat} {k x : Nat} : updN f k x k = x := if_pos rfl
theorem upd_ne' {f : Nat → Int32} {k j : Nat} {x : Int32} (h : ¬ j = k) : upd f k x j = f j := if_neg h
theorem upd_self' {f : Nat → Int32} {k : Nat} {x : Int32} : upd f k x k = x := if_pos rfl
theorem itr_cg {T T2 : TS} (hT : TrI T) (h : ∀ x, x < ttN T → pu T2 x = pu T x) : ∀ k x, x < ttN T → itr T2 k x = itr T k x
  | 0, _, _ => rfl
  | k + 1, x, hx => by
    rw [itr_s, itr_s, h x hx]
    exact itr_cg hT h k (pu T x) (Nat.lt_of_le_of_lt (hT.pule hx) hx)
theorem sumN_cg {f g : Nat → Nat} : ∀ n, (∀ i, i < n → f i = g i) → sumN f n = sumN g n
  | 0, _ => rfl
  | n + 1, h => by
    show sumN f n + f n = sumN g n + g n
    rw [sumN_cg n (fun i hi => h i (by omega)), h n (by omega)]
/-- the last that a node holds; the body's text begins at 0; columns are few -/
def TrX (T : TS) : Prop := ttFr T 0 = 0 ∧ ttCo T ≤ 60 ∧ ∀ i, i < ttN T → ttLa T i = -1 ∨ ∃ j, j < ttN T ∧ ttLa T i = nI j
/-- a node is added -/
def adT0 (T : TS) (k n : Int32) : TS := sxN (sxLa (sxLa (sxMa (sxFr (sxDe (sxNu (sxU (sxK T (upd (ttK T) (ttN T) k)) (upd (ttU T) (ttN T) (nI (ttHa T)))) (upd (ttNu T) (ttN T) n)) (updN (ttDe T) (ttN T) (ttDe T (ttHa T) + 1))) (updN (ttFr T) (ttN T) (ttCh T))) (updN (ttMa T) (ttN T) 0)) (upd (ttLa T) (ttN T) (-1))) (upd (upd (ttLa T) (ttN T) (-1)) (ttHa T) (nI (ttN T)))) (ttN T + 1)
def adT (T : TS) (k n : Int32) : TS := sxHc (adT0 T k n) (updN (ttHc T) (ttN T) (ttHc T (ttHa T) + hk k))
theorem adT_f (T : TS) (k n : Int32) : ttN (adT T k n) = ttN T + 1 ∧ ttHa (adT T k n) = ttHa T ∧ ttCh (adT T k n) = ttCh T ∧ ttK (adT T k n) = upd (ttK T) (ttN T) k ∧ ttU (adT T k n) = upd (ttU T) (ttN T) (nI (ttHa T)) ∧ ttNu (adT T k n) = upd (ttNu T) (ttN T) n ∧ ttDe (adT T k n) = updN (ttDe T) (ttN T) (ttDe T (ttHa T) + 1) ∧ ttFr (adT T k n) = updN (ttFr T) (ttN T) (ttCh T) ∧ ttMa (adT T k n) = updN (ttMa T) (ttN T) 0 ∧ ttLa (adT T k n) = upd (upd (ttLa T) (ttN T) (-1)) (ttHa T) (nI (ttN T)) ∧ ttHc (adT T k n) = updN (ttHc T) (ttN T) (ttHc T (ttHa T) + hk k) ∧ ttCo (adT T k n) = ttCo T := ⟨rfl, rfl, rfl, rfl, rfl, rfl, rfl, rfl, rfl, rfl, rfl, rfl⟩
theorem adT_pu (hT : TrI T) (k n : Int32) : (∀ x, x < ttN T → pu (adT T k n) x = pu T x) ∧ pu (adT T k n) (ttN T) = ttHa T := by
  have e := (adT_f T k n).2.2.2.2.1
  have hN := hT.1
  refine ⟨fun x hx => ?_, ?_⟩
  · unfold pu
    rw [e, upd_ne' (by omega)]
  · unfold pu
    rw [e, upd_self']
    exact nI_clamp (by omega)
theorem adT_ok (hT : TrI T) {k n : Int32} (hN : ttN T < 300) (hD : ttDe T (ttHa T) < 12) (hm : mh (ttK T (ttHa T)) k = 1) (hk0 : 0 ≤ k ∧ k ≤ 10) (hn : k = 1 → 1 ≤ n ∧ n ≤ 6) : TrI (adT T k n) := by
  obtain ⟨f1, f2, f3, f4, f5, f6, f7, f8, f9, f10, f11, f12⟩ := adT_f T k n
  obtain ⟨p1, p2⟩ := adT_pu hT k n
  obtain ⟨t1, t2, t3, t4, t5, t6, t7⟩ := hT
  have hT : TrI T := ⟨t1, t2, t3, t4, t5, t6, t7⟩
  have hH : ttHa T < ttN T := t1.2.2.2
  have hcg := itr_cg hT p1
  refine ⟨⟨by omega, by omega, by omega, by omega⟩, ⟨?_, ?_, ?_, ?_⟩, ?_, ?_, ?_, ?_, ?_⟩
  · rw [f4, upd_ne' (by omega)]; exact t2.1
  · rw [f5, upd_ne' (by omega)]; exact t2.2.1
  · rw [f11, updN_ne (by omega)]; exact t2.2.2.1
  · rw [f7, updN_ne (by omega)]; exact t2.2.2.2
  · intro i hi0 hi
    rw [f1] at hi
    by_cases e : i = ttN T
    · subst e
      rw [p2, f5, f7, f11, f4, f6, upd_self', updN_self, updN_self, upd_self', upd_self', updN_ne (by omega), updN_ne (by omega), upd_ne' (by omega)]
      exact ⟨hH, rfl, rfl, by omega, rfl, hm, hk0, hn⟩
    · obtain ⟨b1, b2, b3, b4, b5, b6, b7, b8⟩ := t3 i hi0 (by omega)
      rw [p1 i (by omega), f5, f7, f11, f4, f6, upd_ne' e, updN_ne e, updN_ne e, upd_ne' e, upd_ne' e, updN_ne (by omega), updN_ne (by omega), upd_ne' (by omega)]
      exact ⟨b1, b2, b3, b4, b5, b6, b7, b8⟩
  · intro i hi
    rw [f1] at hi
    rw [f8, f9, f3]
    by_cases e : i = ttN T
    · subst e
      rw [updN_self, updN_self]
      omega
    · rw [updN_ne e, updN_ne e]
      exact t4 i (by omega)
  · rw [f1, f9, f3]
    show sumN (updN (ttMa T) (ttN T) 0) (ttN T) + updN (ttMa T) (ttN T) 0 (ttN T) ≤ _
    rw [updN_self, sumN_cg (g := ttMa T) (ttN T) (fun i hi => updN_ne (by omega))]
    omega
  · intro i hi0 hi
    rw [f1] at hi
    by_cases e : i = ttN T
    · subst e
      obtain ⟨q, hq⟩ := t7
      exact ⟨q, by rw [hcg q _ (by omega), p2]; exact hq⟩
    · obtain ⟨q, hq⟩ := t6 i hi0 (by omega)
      exact ⟨q, by rw [hcg q _ (by omega), p1 i (by omega)]; exact hq⟩
  · refine ⟨1, ?_⟩
    rw [f1, f2]
    show itr (adT T k n) 0 (pu (adT T k n) (ttN T)) = ttHa T
    rw [p2]
    rfl
theorem TrX.ad (hX : TrX T) (hT : TrI T) (k n : Int32) : TrX (adT T k n) := by
  obtain ⟨f1, f2, f3, f4, f5, f6, f7, f8, f9, f10, f11, f12⟩ := adT_f T k n
  have hN := hT.1
  refine ⟨by rw [f8, updN_ne (by omega)]; exact hX.1, by rw [f12]; exact hX.2.1, fun i hi => ?_⟩
  rw [f1] at hi
  rw [f10, f1]
  by_cases e : i = ttHa T
  · subst e
    rw [upd_self']
    exact Or.inr ⟨ttN T, by omega, rfl⟩
  · rw [upd_ne' e]
    by_cases e2 : i = ttN T
    · rw [e2, upd_self']
      exact Or.inl rfl
    · rw [upd_ne' e2]
      rcases hX.2.2 i (by omega) with h | ⟨j, h1, h2⟩
      · exact Or.inl h
      · exact Or.inr ⟨j, by omega, h2⟩
/-- the hand moves -/
theorem haT_ok (hT : TrI T) {x : Nat} (hx : x < ttN T) (hk9 : ∃ k, itr T k (ttN T - 1) = x) : TrI (sxHa T x) := by
  have hN := hT.1
  have hcg : ∀ k y, y < ttN T → itr (sxHa T x) k y = itr T k y := itr_cg hT (fun _ _ => rfl)
  obtain ⟨t1, t2, t3, t4, t5, t6, t7⟩ := hT
  refine ⟨⟨t1.1, t1.2.1, t1.2.2.1, hx⟩, t2, t3, t4, t5, ?_, ?_⟩
  · intro i hi0 hi
    have hi2 : i < ttN T := hi
    obtain ⟨q, hq⟩ := t6 i hi0 hi
    exact ⟨q, by rw [hcg q _ (by omega)]; exact hq⟩
  · obtain ⟨q, hq⟩ := hk9
    exact ⟨q, (hcg q (ttN T - 1) (by omega)).trans hq⟩
theorem itr_add (T : TS) : ∀ k x, itr T (k + 1) x = pu T (itr T k x)
  | 0, _ => rfl
  | k + 1, x => by
    rw [itr_s T (k + 1), itr_add T k, itr_s T k]
theorem end_ok (hT : TrI T) : TrI (sxHa T (pu T (ttHa T))) := by
  have hN := hT.1
  refine haT_ok hT (Nat.lt_of_le_of_lt (hT.pule hN.2.2.2) hN.2.2.2) ?_
  obtain ⟨q, hq⟩ := hT.2.2.2.2.2.2
  exact ⟨q + 1, by rw [itr_add, hq]⟩
theorem coT_ok (hT : TrI T) (c : Nat) : TrI (sxCo T c) := by
  have hcg : ∀ k y, y < ttN T → itr (sxCo T c) k y = itr T k y := itr_cg hT (fun _ _ => rfl)
  have hN := hT.1
  obtain ⟨t1, t2, t3, t4, t5, t6, t7⟩ := hT
  refine ⟨t1, t2, t3, t4, t5, ?_, ?_⟩
  · intro i hi0 hi
    have hi2 : i < ttN T := hi
    obtain ⟨q, hq⟩ := t6 i hi0 hi
    exact ⟨q, by rw [hcg q _ (by omega)]; exact hq⟩
  · obtain ⟨q, hq⟩ := t7
    exact ⟨q, (hcg q (ttN T - 1) (by omega)).trans hq⟩
/-- characters are told to a node -/
def tlT (T : TS) (te : Nat → Int32) (i n : Nat) : TS := sxMa (sxCh (sxTe T te) (ttCh T + n)) (updN (ttMa T) i (ttMa T i + n))
theorem sumN_add {f : Nat → Nat} {i x : Nat} : ∀ n, i < n → sumN (updN f i (f i + x)) n = sumN f n + x
  | 0, h => absurd h (Nat.not_lt_zero _)
  | n + 1, h => by
    show sumN (updN f i (f i + x)) n + updN f i (f i + x) n = sumN f n + f n + x
    by_cases e : i = n
    · subst e
      rw [updN_self, sumN_cg (g := f) i (fun j hj => updN_ne (by omega))]
      omega
    · rw [updN_ne (fun z => e z.symm), sumN_add n (by omega)]
      omega
theorem tlT_ok (hT : TrI T) (te : Nat → Int32) {i n : Nat} (hi : i < ttN T) (hn : ttCh T + n ≤ 4000) : TrI (tlT T te i n) := by
  have hcg : ∀ k y, y < ttN T → itr (tlT T te i n) k y = itr T k y := itr_cg hT (fun _ _ => rfl)
  have hN := hT.1
  obtain ⟨t1, t2, t3, t4, t5, t6, t7⟩ := hT
  refine ⟨⟨t1.1, t1.2.1, hn, t1.2.2.2⟩, t2, t3, ?_, ?_, ?_, ?_⟩
  · intro j hj
    have hj2 : j < ttN T := hj
    have h4 := t4 j hj
    show ttFr T j + updN (ttMa T) i (ttMa T i + n) j ≤ ttCh T + n
    by_cases e : j = i
    · subst e
      rw [updN_self]
      omega
    · rw [updN_ne e]
      omega
  · show sumN (updN (ttMa T) i (ttMa T i + n)) (ttN T) ≤ ttCh T + n
    rw [sumN_add (ttN T) hi]
    omega
  · intro j hj0 hj
    have hj2 : j < ttN T := hj
    obtain ⟨q, hq⟩ := t6 j hj0 hj
    exact ⟨q, by rw [hcg q _ (by omega)]; exact hq⟩
  · obtain ⟨q, hq⟩ := t7
    exact ⟨q, (hcg q (ttN T - 1) (by omega)).trans hq⟩
/-- all is forgotten -/
def clT (T : TS) : TS := sxCo (sxHa (sxCh (sxN (sxMa (sxNu (sxLa (sxDe (sxU (sxK T (upd (ttK T) 0 11)) (upd (ttU T) 0 (-1))) (updN (ttDe T) 0 1)) (upd (ttLa T) 0 (-1))) (upd (ttNu T) 0 0)) (updN (ttMa T) 0 0)) 1) 0) 0) 0
theorem clT_ok (h1 : ttHc T 0 = 1) (h0 : ttFr T 0 = 0) : TrI (clT T) ∧ TrX (clT T) := by
  refine ⟨⟨⟨by show 1 ≤ 1; omega, by show 1 ≤ 300; omega, by show 0 ≤ 4000; omega, by show 0 < 1; omega⟩, ⟨show upd (ttK T) 0 11 0 = 11 from upd_self', show upd (ttU T) 0 (-1) 0 = -1 from upd_self', h1, show updN (ttDe T) 0 1 0 = 1 from updN_self⟩, fun i hi0 hi => ?_, fun i hi => ?_, ?_, fun i hi0 hi => ?_, ⟨0, rfl⟩⟩, h0, by show 0 ≤ 60; omega, fun i hi => ?_⟩
  · have : i < 1 := hi
    omega
  · have hi1 : i < 1 := hi
    have : i = 0 := by omega
    subst this
    show ttFr T 0 + updN (ttMa T) 0 0 0 ≤ 0
    rw [updN_self, h0]
    exact Nat.le_refl _
  · show 0 + updN (ttMa T) 0 0 0 ≤ 0
    rw [updN_self]
    exact Nat.le_refl _
  · have : i < 1 := hi
    omega
  · have hi1 : i < 1 := hi
    have : i = 0 := by omega
    subst this
    exact Or.inl (show upd (ttLa T) 0 (-1) 0 = -1 from upd_self')
end KM24
