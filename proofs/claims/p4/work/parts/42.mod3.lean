section KM3
theorem OI_he {f : Nat → Int32} {k : Nat} {x : Int32} (h : ∀ i, (f i).toInt ≤ 3000) (hx : x.toInt ≤ 3000) : ∀ i, (upd f k x i).toInt ≤ 3000 := fun i => by
  unfold upd
  split
  · exact hx
  · exact h i
theorem mar_of {cI cB cZ : ClassId} {C : CT} {T : TS} {O : OS} {j : Nat} (hj : j = 24 ∨ j = 25) : ∃ f, (mar cI cB cZ C T O)[j]? = some (.inl (cI, 4010, .inl f)) := by
  rcases hj with rfl | rfl
  · exact ⟨_, rfl⟩
  · exact ⟨_, rfl⟩
theorem due_miss2 {n : Nat} {C CL : CT} (hC : CL = due n C) (h : ¬ zK CL n = 7 ∨ zD CL n = 0) : CL = due (n + 1) C := by
  subst hC
  exact due_miss h
theorem nar0 : vp_nar .boolean 0 = 0 := by decide +kernel
theorem nar1 : vp_nar .boolean 1 = 1 := by decide +kernel
theorem due_hit2 {n : Nat} {C CL : CT} (hC : CL = due n C) (h : zK CL n = 7) : szD CL (upd (zD CL) n (vp_nar .boolean 0)) = due (n + 1) C := by
  rw [nar0]
  subst hC
  exact due_hit h
/-- a holder whose turn it is: an empty line ahead of it, if it is wide and had one -/
def glS (h : Nat) (C : CT) : CT := if zF C h = 0 then C else (fun C1 => szH (szF C1 (upd (zF C1) h 0)) (upd (zH C1) h 1)) (if zH C h = 0 then C else if zI C h = 0 then C else szCnt (due (h + 1) C) (zCnt C + 1))
def glL : Nat → Nat → CT → CT
  | 0, _, C => C
  | k + 1, h, C => glL k (h + 1) (glS h C)
theorem glL_succ (k h : Nat) (C : CT) : glL (k + 1) h C = glL k (h + 1) (glS h C) := rfl
/-- a line is given -/
def glE (C : CT) : CT := (fun C2 => szCnt (due (zHo C) C2) (zCnt C + 1)) (if zLl C < 0 then szLl C (nI (zCnt C)) else C)
def gl (C : CT) : CT := glE (glL (zHo C) 0 C)
def kp (C C2 : CT) : Prop := zHo C2 = zHo C ∧ zLw C2 = zLw C ∧ zWm C2 = zWm C ∧ zNm C2 = zNm C ∧ zLo C2 = zLo C ∧ zK C2 = zK C ∧ zW C2 = zW C ∧ zS C2 = zS C ∧ zX C2 = zX C ∧ zI C2 = zI C
theorem kp.rf {C : CT} : kp C C := ⟨rfl, rfl, rfl, rfl, rfl, rfl, rfl, rfl, rfl, rfl⟩
theorem kp.trans {A B C : CT} (h : kp A B) (g : kp B C) : kp A C := by
  obtain ⟨h1, h2, h3, h4, h5, h6, h7, h8, h9, h0⟩ := h
  obtain ⟨g1, g2, g3, g4, g5, g6, g7, g8, g9, g0⟩ := g
  exact ⟨g1.trans h1, g2.trans h2, g3.trans h3, g4.trans h4, g5.trans h5, g6.trans h6, g7.trans h7, g8.trans h8, g9.trans h9, g0.trans h0⟩
theorem due_ok (n : Nat) (C : CT) : kp C (due n C) ∧ zCnt (due n C) = zCnt C := ⟨⟨rfl, rfl, rfl, rfl, rfl, rfl, rfl, rfl, rfl, rfl⟩, rfl⟩
theorem szLl_cnt (C : CT) (x : Int32) : zCnt (szLl C x) = zCnt C := rfl
theorem glS_ok (h : Nat) (C : CT) : kp C (glS h C) ∧ zCnt C ≤ zCnt (glS h C) ∧ zCnt (glS h C) ≤ zCnt C + 1 ∧ zLl (glS h C) = zLl C := by
  unfold glS
  split
  · exact ⟨kp.rf, Nat.le_refl _, by omega, rfl⟩
  · split
    · exact ⟨⟨rfl, rfl, rfl, rfl, rfl, rfl, rfl, rfl, rfl, rfl⟩, Nat.le_refl _, Nat.le_succ _, rfl⟩
    · split
      · exact ⟨⟨rfl, rfl, rfl, rfl, rfl, rfl, rfl, rfl, rfl, rfl⟩, Nat.le_refl _, Nat.le_succ _, rfl⟩
      · exact ⟨⟨rfl, rfl, rfl, rfl, rfl, rfl, rfl, rfl, rfl, rfl⟩, Nat.le_succ _, Nat.le_refl _, rfl⟩
theorem glL_ok : ∀ (k h : Nat) (C : CT), kp C (glL k h C) ∧ zCnt C ≤ zCnt (glL k h C) ∧ zCnt (glL k h C) ≤ zCnt C + k ∧ zLl (glL k h C) = zLl C
  | 0, _, _ => ⟨kp.rf, Nat.le_refl _, Nat.le_refl _, rfl⟩
  | k + 1, h, C => by
    obtain ⟨a1, a2, a3, a4⟩ := glS_ok h C
    obtain ⟨b1, b2, b3, b4⟩ := glL_ok k (h + 1) (glS h C)
    exact ⟨a1.trans b1, Nat.le_trans a2 b2, by show zCnt (glL k (h + 1) (glS h C)) ≤ _; omega, b4.trans a4⟩
theorem glE_ok (C : CT) : kp C (glE C) ∧ zCnt (glE C) = zCnt C + 1 ∧ zLl (glE C) = (if zLl C < 0 then nI (zCnt C) else zLl C) := by
  unfold glE
  split
  · exact ⟨⟨rfl, rfl, rfl, rfl, rfl, rfl, rfl, rfl, rfl, rfl⟩, rfl, rfl⟩
  · exact ⟨⟨rfl, rfl, rfl, rfl, rfl, rfl, rfl, rfl, rfl, rfl⟩, rfl, rfl⟩
/-- a line is reckoned within what is counted -/
def LLI (C : CT) : Prop := -1 ≤ (zLl C).toInt ∧ (zLl C).toInt < zCnt C
theorem gl_ok (C : CT) : kp C (gl C) ∧ zCnt C + 1 ≤ zCnt (gl C) ∧ zCnt (gl C) ≤ zCnt C + zHo C + 1 := by
  obtain ⟨a1, a2, a3, a4⟩ := glL_ok (zHo C) 0 C
  obtain ⟨b1, b2, b3⟩ := glE_ok (glL (zHo C) 0 C)
  exact ⟨a1.trans b1, by show _ ≤ zCnt (glE _); omega, by show zCnt (glE _) ≤ _; omega⟩
theorem gl_ll {C : CT} (h : LLI C) (hb : zCnt C + zHo C < 2 ^ 31) : LLI (gl C) := by
  obtain ⟨a1, a2, a3, a4⟩ := glL_ok (zHo C) 0 C
  obtain ⟨b1, b2, b3⟩ := glE_ok (glL (zHo C) 0 C)
  obtain ⟨h1, h2⟩ := h
  unfold LLI gl
  rw [b2, b3, a4]
  split
  · rw [nI_toInt (by omega)]
    omega
  · omega
end KM3
