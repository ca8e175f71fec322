section KRl
/-- the class's tree is the reference's -/
def Rel (T : TR) (M : TS) (n ha ch : Nat) : Prop := (ttN M = n ∧ ttHa M = ha ∧ ttCh M = ch) ∧ (tK T 0 = -1 ∧ tU T 0 = none) ∧ (∀ i, 0 < i → i < n → tK T i = ttK M i ∧ tU T i = some (pu M i)) ∧ (∀ i, i < n → tD T i = ttDe M i ∧ ((tL T i = none ∧ ttLa M i = -1) ∨ ∃ j, (0 < j ∧ j < n) ∧ tL T i = some j ∧ ttLa M i = nI j))
variable {T : TR} {M : TS} {n ha ch : Nat}
theorem rel_fl (h : Rel T M n ha ch) (hT : TrI M) : (if 300 ≤ n then (1 : Int32) else if 12 ≤ tD T ha then 1 else 0) = flM M := by
  obtain ⟨⟨e1, e2, e3⟩, -, -, h4⟩ := h
  subst e1
  subst e2
  have hN := hT.1
  have hD := hT.hc (ttHa M) hN.2.2.2
  have e := (h4 (ttHa M) hN.2.2.2).1
  unfold flM
  rw [e]
  by_cases c : ttN M = 300
  · rw [if_pos (by omega), if_pos c]
  · rw [if_neg (by omega), if_neg c]
    by_cases c2 : ttDe M (ttHa M) = 12
    · rw [if_pos (by omega), if_pos c2]
    · rw [if_neg (by omega), if_neg c2]
theorem rel_mh (h : Rel T M n ha ch) (hT : TrI M) (k : Int32) : mhC (tK T ha) k = mh (ttK M ha) k := by
  obtain ⟨⟨e1, e2, e3⟩, h2, h3, -⟩ := h
  subst e1
  subst e2
  have hN := hT.1
  by_cases c : ttHa M = 0
  · rw [c, h2.1, hT.2.1.1]
    exact mhC_body k
  · rw [(h3 (ttHa M) (by omega) hN.2.2.2).1]
    exact mhC_eq (ks_of (hT.2.2.1 (ttHa M) (by omega) hN.2.2.2).2.2.2.2.2.2.1) k
theorem num_gd (k x : Int32) : ¬ numC k x = 0 ↔ ((k = 1 → 1 ≤ x ∧ x ≤ 6) ∧ (k = 6 → 0 ≤ x ∧ x ≤ 999999999)) := by
  unfold numC
  by_cases c : k = 1
  · subst c
    rw [if_pos rfl]
    by_cases a : x < 1
    · rw [if_pos a]
      exact ⟨fun z => absurd rfl z, fun z => absurd a (Int32.not_lt.mpr (z.1 rfl).1)⟩
    · rw [if_neg a]
      by_cases b : 6 < x
      · rw [if_pos b]
        exact ⟨fun z => absurd rfl z, fun z => absurd b (Int32.not_lt.mpr (z.1 rfl).2)⟩
      · rw [if_neg b]
        exact ⟨fun _ => ⟨fun _ => ⟨Int32.not_lt.mp a, Int32.not_lt.mp b⟩, fun z => absurd z (by decide)⟩, fun _ => by decide⟩
  · rw [if_neg c]
    by_cases d : k = 6
    · subst d
      rw [if_pos rfl]
      by_cases a : x < 0
      · rw [if_pos a]
        exact ⟨fun z => absurd rfl z, fun z => absurd a (Int32.not_lt.mpr (z.2 rfl).1)⟩
      · rw [if_neg a]
        by_cases b : 999999999 < x
        · rw [if_pos b]
          exact ⟨fun z => absurd rfl z, fun z => absurd b (Int32.not_lt.mpr (z.2 rfl).2)⟩
        · rw [if_neg b]
          exact ⟨fun _ => ⟨fun z => absurd z (by decide), fun _ => ⟨Int32.not_lt.mp a, Int32.not_lt.mp b⟩⟩, fun _ => by decide⟩
    · rw [if_neg d]
      exact ⟨fun _ => ⟨fun z => absurd z c, fun z => absurd z d⟩, fun _ => by decide⟩
theorem rel_ok (h : Rel T M n ha ch) (hT : TrI M) (k x : Int32) : okB T n ha k x ↔ (flM M = 0 ∧ gdM M k x) := by
  have e1 := rel_fl h hT
  have e2 := rel_mh h hT k
  have e3 := h.1.2.1
  unfold okB gdM
  rw [e1, e2, e3]
  constructor
  · intro ⟨a, b, c, d, e⟩
    exact ⟨a, Int32.not_lt.mp b, Int32.not_lt.mp c, (mh_01 _ _).resolve_left d, ((num_gd k x).mp e).1, ((num_gd k x).mp e).2⟩
  · intro ⟨a, b, c, d, e, f⟩
    exact ⟨a, Int32.not_lt.mpr b, Int32.not_lt.mpr c, fun z => absurd (z.symm.trans d) (by decide), (num_gd k x).mpr ⟨e, f⟩⟩
theorem rel_ad (h : Rel T M n ha ch) (hT : TrI M) (k v w : Int32) : Rel (tkT (exT T n ha k v) ha n) (adT M k w) (n + 1) ha ch := by
  obtain ⟨f1, f2, f3, f4, f5, f6, f7, f8, f9, f10, f11, f12⟩ := adT_f M k w
  obtain ⟨p1, p2⟩ := adT_pu hT k w
  obtain ⟨⟨e1, e2, e3⟩, h2, h3, h4⟩ := h
  have hN := hT.1
  subst e1
  subst e2
  subst e3
  refine ⟨⟨f1, f2, f3⟩, ⟨?_, ?_⟩, fun i hi0 hi => ?_, fun i hi => ?_⟩
  · rw [(tk_D k v 0).2.1, (exT_old (by omega)).1]
    exact h2.1
  · rw [(tk_D k v 0).2.2.1, (exT_old (by omega)).2.1]
    exact h2.2
  · rw [(tk_D k v i).2.1, (tk_D k v i).2.2.1, f4]
    by_cases e : i = ttN M
    · subst e
      rw [exT_new.1, exT_new.2.1, upd_self', p2]
      exact ⟨rfl, rfl⟩
    · rw [(exT_old e).1, (exT_old e).2.1, upd_ne' e, p1 i (by omega)]
      exact h3 i hi0 (by omega)
  · rw [(tk_D k v i).1, (tk_D k v i).2.2.2, f7, f10]
    by_cases e : i = ttN M
    · subst e
      rw [exT_new.2.2.1, updN_self, (h4 (ttHa M) hN.2.2.2).1]
      refine ⟨rfl, Or.inl ⟨?_, ?_⟩⟩
      · rw [va_up_ne _ _ (by omega)]
        exact exT_new.2.2.2.2.2.1
      · rw [upd_ne' (by omega), upd_self']
    · rw [(exT_old e).2.2.1, updN_ne e]
      refine ⟨(h4 i (by omega)).1, ?_⟩
      by_cases e2 : i = ttHa M
      · subst e2
        rw [va_up_self, upd_self']
        exact Or.inr ⟨ttN M, ⟨by omega, by omega⟩, rfl, rfl⟩
      · rw [va_up_ne _ _ e2, upd_ne' e2, upd_ne' e]
        have hl : (exT T (ttN M) (ttHa M) k v).2.2.2.2.2.1 i = tL T i := (exT_old e).2.2.2.2.2.1
        rw [hl]
        rcases (h4 i (by omega)).2 with q | ⟨j, q1, q2, q3⟩
        · exact Or.inl q
        · exact Or.inr ⟨j, ⟨q1.1, by omega⟩, q2, q3⟩
theorem rel_ha (h : Rel T M n ha ch) (x : Nat) : Rel T (sxHa M x) n x ch := ⟨⟨h.1.1, rfl, h.1.2.2⟩, h.2.1, h.2.2.1, h.2.2.2⟩
theorem rel_begin (h : Rel T M n ha ch) (hT : TrI M) (k x : Int32) : Rel (tkT (exT T n ha k (bgN k x)) ha n) (bgT M k x) (n + 1) (if k = 2 ∨ k = 9 then ha else n) ch := by
  have h1 := rel_ad h hT k (bgN k x) (bgN k x)
  unfold bgT
  by_cases c : k = 2 ∨ k = 9
  · rw [if_pos c, if_pos c]
    exact h1
  · rw [if_neg c, if_neg c, h.1.1]
    exact rel_ha h1 n
theorem rel_co (h : Rel T M n ha ch) (c : Nat) : Rel T (sxCo M c) n ha ch := h
theorem rel_tl (h : Rel T M n ha ch) (te : Nat → Int32) (i j nn : Nat) (v : Int32) : Rel (sTV T j v) (tlT M te i nn) n ha (ch + nn) := ⟨⟨h.1.1, h.1.2.1, by rw [← h.1.2.2]; rfl⟩, h.2.1, h.2.2.1, h.2.2.2⟩
theorem rel_cl (M : TS) : Rel T0 (clT M) 1 0 0 := by
  refine ⟨⟨rfl, rfl, rfl⟩, ⟨rfl, rfl⟩, fun i h0 hi => by omega, fun i hi => ?_⟩
  have e : i = 0 := by omega
  subst e
  exact ⟨(show updN (ttDe M) 0 1 0 = 1 from updN_self).symm, Or.inl ⟨rfl, show upd (ttLa M) 0 (-1) 0 = -1 from upd_self'⟩⟩
theorem rel_an (h : Rel T M n ha ch) (hT : TrI M) : anC T ha ↔ anM M := by
  obtain ⟨⟨e1, e2, e3⟩, h2, h3, h4⟩ := h
  subst e1
  subst e2
  have hN := hT.1
  unfold anC anM
  rcases (h4 (ttHa M) hN.2.2.2).2 with ⟨q1, q2⟩ | ⟨j, q1, q2, q3⟩
  · exact ⟨fun _ => Or.inl q2, fun _ => Or.inl q1⟩
  · rw [q2, q3, nI_clamp (by omega), ← (h3 j q1.1 q1.2).1]
    constructor
    · intro z
      rcases z with z | ⟨j9, z1, z2⟩
      · cases z
      · cases z1
        exact Or.inr z2
    · intro z
      rcases z with z | z
      · exact absurd z (nI_nm1 (by omega))
      · exact Or.inr ⟨j, rfl, z⟩
theorem rel_sy (h : Rel T M n ha ch) (hT : TrI M) (y : Int32) : okS T n ha ch y ↔ syM M y := by
  have e1 := rel_fl h hT
  have e2 := rel_mh h hT 10
  have e3 := h.1.2.1
  have e4 := h.1.2.2
  have e5 := rel_an h hT
  unfold okS syM
  rw [e1, e2, e3, e4, e5]
  constructor
  · intro ⟨a, b, c, d, e⟩
    exact ⟨Int32.not_lt.mp a, Int32.not_lt.mp b, (mh_01 _ _).resolve_left c, d, e⟩
  · intro ⟨a, b, c, d, e⟩
    exact ⟨Int32.not_lt.mpr a, Int32.not_lt.mpr b, fun z => absurd (z.symm.trans c) (by decide), d, e⟩
end KRl
