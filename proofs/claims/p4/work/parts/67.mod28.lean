section KM28
variable {T : TS}
theorem mh_out {a k : Int32} (h : a.toInt < 0 ∨ 11 < a.toInt) : mh a k = 0 := by
  have n : ∀ v : Int32, 0 ≤ v.toInt → v.toInt ≤ 11 → ¬ a = v := fun v h1 h2 e => by subst e; omega
  unfold mh
  rw [if_neg (fun z => z.elim (n 11 (by decide) (by decide)) (n 4 (by decide) (by decide))), if_neg (fun z => z.elim (n 5 (by decide) (by decide)) (n 6 (by decide) (by decide))), if_neg (n 7 (by decide) (by decide)), if_neg (fun z => z.elim (n 0 (by decide) (by decide)) (fun z => z.elim (n 1 (by decide) (by decide)) (n 8 (by decide) (by decide)))), if_neg (n 3 (by decide) (by decide))]
theorem mh_body (k : Int32) : mh 11 k = isB k ∧ mh 4 k = isB k := ⟨rfl, rfl⟩
theorem mh_row (k : Int32) : mh 5 k = (if k = 7 then 1 else 0) ∧ mh 6 k = (if k = 7 then 1 else 0) := ⟨rfl, rfl⟩
theorem mh_item (k : Int32) : mh 7 k = (if isB k = 0 then isL k else 1) := rfl
theorem mh_inls (k : Int32) : mh 0 k = isL k ∧ mh 1 k = isL k ∧ mh 8 k = isL k := ⟨rfl, rfl, rfl⟩
theorem mh_code (k : Int32) : mh 3 k = (if k = 10 then 1 else 0) := rfl
theorem mh_none (k : Int32) : mh 2 k = 0 ∧ mh 9 k = 0 ∧ mh 10 k = 0 := ⟨rfl, rfl, rfl⟩
theorem isB_01 (k : Int32) : isB k = 0 ∨ isB k = 1 := by
  unfold isB
  split
  · exact Or.inl rfl
  · split
    · exact Or.inl rfl
    · exact Or.inr rfl
theorem mh_01 (a k : Int32) : mh a k = 0 ∨ mh a k = 1 := by
  unfold mh
  have h1 := isB_01 k
  have h2 := isL_01 k
  split
  · exact h1
  · split
    · split
      · exact Or.inr rfl
      · exact Or.inl rfl
    · split
      · split
        · exact h2
        · exact Or.inr rfl
      · split
        · exact h2
        · split
          · split
            · exact Or.inr rfl
            · exact Or.inl rfl
          · exact Or.inl rfl
/-- no room for a node -/
def flM (T : TS) : Int32 := if ttN T = 300 then 1 else if ttDe T (ttHa T) = 12 then 1 else 0
theorem fl_room (hT : TrI T) (h : flM T = 0) : ttN T < 300 ∧ ttDe T (ttHa T) < 12 := by
  have hN := hT.1
  have hD := hT.hc (ttHa T) hN.2.2.2
  unfold flM at h
  by_cases e : ttN T = 300
  · rw [if_pos e] at h
    exact absurd h (by decide)
  · rw [if_neg e] at h
    by_cases e2 : ttDe T (ttHa T) = 12
    · rw [if_pos e2] at h
      exact absurd h (by decide)
    · omega
/-- a kind and a number that a node may begin with -/
def gdM (T : TS) (k n : Int32) : Prop := 0 ≤ k ∧ k ≤ 9 ∧ mh (ttK T (ttHa T)) k = 1 ∧ (k = 1 → 1 ≤ n ∧ n ≤ 6) ∧ (k = 6 → 0 ≤ n ∧ n ≤ 999999999)
def bgN (k n : Int32) : Int32 := if k = 1 ∨ k = 6 then n else 0
def bgT (T : TS) (k n : Int32) : TS := if k = 2 ∨ k = 9 then adT T k (bgN k n) else sxHa (adT T k (bgN k n)) (ttN T)
theorem bg_ok (hT : TrI T) (hX : TrX T) {k n : Int32} (hf : flM T = 0) (hg : gdM T k n) : TrI (bgT T k n) ∧ TrX (bgT T k n) := by
  obtain ⟨r1, r2⟩ := fl_room hT hf
  obtain ⟨g1, g2, g3, g4, g5⟩ := hg
  have h10 : k ≤ 10 := Int32.le_trans g2 (by decide)
  have a1 := adT_ok hT (k := k) (n := bgN k n) r1 r2 g3 ⟨g1, h10⟩ (fun e => by
    unfold bgN
    rw [if_pos (Or.inl e)]
    exact g4 e)
  have a2 := hX.ad hT k (bgN k n)
  unfold bgT
  split
  · exact ⟨a1, a2⟩
  · have e := (adT_f T k (bgN k n)).1
    exact ⟨haT_ok a1 (by omega) ⟨0, by rw [e]; rfl⟩, a2⟩
/-- a text is begun anew -/
def anM (T : TS) : Prop := ttLa T (ttHa T) = -1 ∨ ¬ ttK T (ttLa T (ttHa T)).toNatClampNeg = 10
end KM28
section KM28b
variable {T : TS}
theorem n_nat {n : Int32} (h1 : ¬ n < 1) (h2 : ¬ 4 < n) : ∃ m, 1 ≤ m ∧ m ≤ 4 ∧ n = nI m := by
  have a1 : 1 ≤ n.toInt := Int32.le_iff_toInt_le.mp (Int32.not_lt.mp h1)
  have a2 : n.toInt ≤ 4 := Int32.le_iff_toInt_le.mp (Int32.not_lt.mp h2)
  have h3 : ¬ n < 0 := fun z => by
    have := Int32.lt_iff_toInt_lt.mp z
    rw [show (0 : Int32).toInt = 0 by decide] at this
    omega
  obtain ⟨j, hj, e⟩ := nI_of h3
  rw [e, nI_toInt hj] at a1 a2
  exact ⟨j, by omega, by omega, e⟩
/-- characters may be told here -/
def syM (T : TS) (n : Int32) : Prop := 1 ≤ n ∧ n ≤ 4 ∧ mh (ttK T (ttHa T)) 10 = 1 ∧ ttCh T + n.toNatClampNeg ≤ 4000 ∧ (anM T → flM T = 0)
end KM28b
section KM28c
variable {cI cB cZ : ClassId} {ob : Nat → Nat} {C : CT} {T : TS} {O : OS} {dom : Nat → Prop} {loc : Nat → Nat} {val : Nat → va_E}
theorem ModI.hc (h : ModI cI cB cZ ob C T O dom loc val) (x : Nat → Nat) : ModI cI cB cZ ob C (sxHc T x) O dom loc val := h
theorem ModI.hahc {y : Nat} (h : ModI cI cB cZ ob C (sxHa T y) O dom loc val) (x : Nat → Nat) : ModI cI cB cZ ob C (sxHa (sxHc T x) y) O dom loc val := h
theorem tl_hc (A : TS) (x : Nat → Nat) (te : Nat → Int32) (i n : Nat) : tlT (sxHc A x) te i n = sxHc (tlT A te i n) x := rfl
theorem tlc (T : TS) (t1 : Nat → Int32) (c1 : Nat) (t2 : Nat → Int32) (c2 : Nat) : sxCh (sxTe (sxCh (sxTe T t1) c1) t2) c2 = sxCh (sxTe T t2) c2 := rfl
theorem ModI.tl {te : Nat → Int32} {i n c : Nat} (h : ModI cI cB cZ ob C (sxMa (sxCh (sxTe T te) c) (updN (ttMa T) i (ttMa T i + n))) O dom loc val) (hc : c = ttCh T + n) : ModI cI cB cZ ob C (tlT T te i n) O dom loc val := by
  subst hc
  exact h
theorem ModI.tlad {te : Nat → Int32} {i n : Nat} (h : ModI cI cB cZ ob C (tlT (adT0 T 10 0) te i n) O dom loc val) : ModI cI cB cZ ob C (tlT (adT T 10 0) te i n) O dom loc val := by
  have e : tlT (adT T 10 0) te i n = sxHc (tlT (adT0 T 10 0) te i n) (updN (ttHc T) (ttN T) (ttHc T (ttHa T) + hk 10)) := tl_hc _ _ _ _ _
  rw [e]
  exact h.hc _
theorem ModI.ad {k n : Int32} (h : ModI cI cB cZ ob C (adT0 T k n) O dom loc val) : ModI cI cB cZ ob C (adT T k n) O dom loc val := h.hc _
theorem ModI.haad {k n : Int32} {y : Nat} (h : ModI cI cB cZ ob C (sxHa (adT0 T k n) y) O dom loc val) : ModI cI cB cZ ob C (sxHa (adT T k n) y) O dom loc val := h.hahc _
end KM28c
