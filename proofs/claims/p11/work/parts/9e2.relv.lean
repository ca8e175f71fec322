section KRv
variable {T : TR} {M : TS} {n ha ch : Nat}
theorem tk_V (T : TR) (i m j : Nat) : tV (tkT T i m) j = tV T j := by
  unfold tkT
  split <;> rfl
theorem relV_ad (h : RelV T M n) (hn : ttN M = n) {k v : Int32} (hk : ¬ k = 10 ∨ v = 0) : RelV (tkT (exT T n ha k v) ha n) (adT M k v) (n + 1) := by
  intro i hi
  subst hn
  obtain ⟨f1, f2, f3, f4, f5, f6, f7, f8, f9, f10, f11, f12⟩ := adT_f M k v
  rw [tk_V]
  show _ = if ttK (adT M k v) i = 10 then nI (ttMa (adT M k v) i) else ttNu (adT M k v) i
  rw [f4, f9, f6]
  by_cases e : i = ttN M
  · subst e
    rw [exT_new.2.2.2.1, upd_self', updN_self, upd_self']
    by_cases c : k = 10
    · rw [if_pos c]
      exact hk.resolve_left (fun z => z c)
    · rw [if_neg c]
  · rw [(exT_old e).2.2.2.1, upd_ne' e, updN_ne e, upd_ne' e]
    exact h i (by omega)
theorem relV_begin (h : RelV T M n) (hn : ttN M = n) {k x : Int32} (hk : ¬ k = 10) : RelV (tkT (exT T n ha k (bgN k x)) ha n) (bgT M k x) (n + 1) := by
  have h1 := relV_ad (ha := ha) h hn (k := k) (v := bgN k x) (Or.inl hk)
  unfold bgT
  by_cases c : k = 2 ∨ k = 9
  · rw [if_pos c]
    exact h1
  · rw [if_neg c]
    exact h1
theorem relV_tl (h : RelV T M n) {j nn : Nat} (hj : j < n) (hk : ttK M j = 10) (te : Nat → Int32) : RelV (sTV T j (tV T j + nI nn)) (tlT M te j nn) n := by
  intro i hi
  show upd T.2.2.2.1 j (T.2.2.2.1 j + nI nn) i = if ttK M i = 10 then nI (updN (ttMa M) j (ttMa M j + nn) i) else ttNu M i
  by_cases e : i = j
  · subst e
    have q : T.2.2.2.1 i = if ttK M i = 10 then nI (ttMa M i) else ttNu M i := h i hi
    rw [upd_self', updN_self, if_pos hk, q, if_pos hk]
    exact nI_add _ _
  · rw [upd_ne' e, updN_ne e]
    exact h i hi
theorem relV_cl (M : TS) : RelV T0 (clT M) 1 := by
  intro i hi
  have e : i = 0 := by omega
  subst e
  show (0 : Int32) = if upd (ttK M) 0 11 0 = 10 then nI (updN (ttMa M) 0 0 0) else upd (ttNu M) 0 0 0
  rw [upd_self', if_neg (by decide), upd_self']
theorem rel_node (h : Rel T M n ha ch) (hv : RelV T M n) (hT : TrI M) : ∀ i, i < n → tK T i = mdK M i ∧ tdU T i = ttU M i ∧ tV T i = mdW M i := by
  obtain ⟨⟨e1, e2, e3⟩, ⟨h1, h2⟩, h3, -⟩ := h
  subst e1
  intro i hi
  refine ⟨?_, ?_, hv i hi⟩
  · by_cases e : i = 0
    · subst e
      rw [h1]
      exact (if_pos hT.2.1.1).symm
    · rw [(h3 i (by omega) hi).1]
      have q := (hT.2.2.1 i (by omega) hi).2.2.2.2.2.2.1.2
      exact (if_neg (fun z => by rw [z] at q; exact absurd q (by decide))).symm
  · show (match tU T i with | none => -1 | some j => nI j) = _
    by_cases e : i = 0
    · subst e
      rw [h2]
      exact hT.2.1.2.1.symm
    · rw [(h3 i (by omega) hi).2]
      exact (hT.2.2.1 i (by omega) hi).2.1.symm
end KRv
