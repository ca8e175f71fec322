section KWc
variable {l : Launch} {D : va_G} {A : Nat → Prop} {cI cB cZ cJ cN : ClassId} {ob : Nat → Nat} {td ts : Nat} {rs : RS} {sh : Nat → Int32 × Int32 × Int32} {T : TR} {n ha ch : Nat} {hp : Int32} {C : CT} {M : TS} {O : OS} {dom : Nat → Prop} {loc : Nat → Nat} {val : Nat → va_E}
abbrev PTo2 (cI cB cZ : ClassId) (ob : Nat → Nat) (C : CT) (M2 : TS) (v c : Int32) (dom : Nat → Prop) (loc : Nat → Nat) (val : Nat → va_E) : kT := fun rv d lo va kc ns => rv = some (.int v) ∧ dom = d ∧ loc = lo ∧ kc = 0 ∧ ns = 0 ∧ ∃ O2, ooTh O2 = c ∧ ModI cI cB cZ ob C M2 O2 dom loc va ∧ OI O2 ∧ frM val va
abbrev PTs2 (cI cB cZ : ClassId) (ob : Nat → Nat) (C : CT) (M1 : TS) (i nn : Nat) (v c : Int32) (dom : Nat → Prop) (loc : Nat → Nat) (val : Nat → va_E) : kT := fun rv d lo va kc ns => rv = some (.int v) ∧ dom = d ∧ loc = lo ∧ kc = 0 ∧ ns = 0 ∧ ∃ te O2, ooTh O2 = c ∧ ModI cI cB cZ ob C (tlT M1 te i nn) O2 dom loc va ∧ OI O2 ∧ frM val va
theorem m_say_no2 (hM : ModI cI cB cZ ob C M O dom loc val) (hO : OI O) (x0 x1 x2 x3 y : Int32) (hT : TrI M) (hTX : TrX M) (h : ¬ syM M y) : kM l y_M_say (Cond.code y_M_say b_M_say 9 (some FieldType.int) :: TT) (rmM 3) D CL (TY cI cB cZ cJ cN) A [.ref (ob 48), .int x0, .int x1, .int x2, .int x3, .int y] dom loc val (PTo2 cI cB cZ ob C M 0 (if (1 ≤ y ∧ y ≤ 4 ∧ mh (ttK M (ttHa M)) 10 = 1) then 2 else 1) dom loc val) := by
  refine kM.to (c_M_say2 hM hO x0 x1 x2 x3 y hT hTX) (fun rv d lo va kc ns ⟨e1, e2, e3, e4, T2, O2, hc, h1, h2, h3⟩ => ?_)
  rcases hc with ⟨-, rfl, rfl, hth⟩ | ⟨z, -⟩
  · exact ⟨rfl, e1, e2, e3, e4, O2, hth, h1, h2, h3⟩
  · exact absurd z h
theorem m_say_an2 (hM : ModI cI cB cZ ob C M O dom loc val) (hO : OI O) (x0 x1 x2 x3 : Int32) {nn : Nat} (hn : nn ≤ 4) (hT : TrI M) (hTX : TrX M) (h : syM M (nI nn)) (ha : anM M) : kM l y_M_say (Cond.code y_M_say b_M_say 9 (some FieldType.int) :: TT) (rmM 3) D CL (TY cI cB cZ cJ cN) A [.ref (ob 48), .int x0, .int x1, .int x2, .int x3, .int (nI nn)] dom loc val (PTs2 cI cB cZ ob C (adT M 10 0) (ttN M) nn (nI (ttN M)) 0 dom loc val) := by
  refine kM.to (c_M_say2 hM hO x0 x1 x2 x3 (nI nn) hT hTX) (fun rv d lo va kc ns ⟨e1, e2, e3, e4, T2, O2, hc, h1, h2, h3⟩ => ?_)
  rcases hc with ⟨z, -, -, -⟩ | ⟨-, hth, te, n2, i, ⟨q1, q2, q3⟩, rfl, hcase⟩
  · exact absurd h z
  · have e : n2 = nn := ((nI_eq (by omega) (by omega)).mp q1).symm
    subst e
    rcases hcase with ⟨-, rfl, rfl⟩ | ⟨z, -⟩
    · exact ⟨rfl, e1, e2, e3, e4, te, O2, hth, h1, h2, h3⟩
    · exact absurd ha z
theorem m_say_la2 (hM : ModI cI cB cZ ob C M O dom loc val) (hO : OI O) (x0 x1 x2 x3 : Int32) {nn j : Nat} (hn : nn ≤ 4) (hT : TrI M) (hTX : TrX M) (h : syM M (nI nn)) (ha : ¬ anM M) (hj : j < ttN M) (hje : ttLa M (ttHa M) = nI j) : kM l y_M_say (Cond.code y_M_say b_M_say 9 (some FieldType.int) :: TT) (rmM 3) D CL (TY cI cB cZ cJ cN) A [.ref (ob 48), .int x0, .int x1, .int x2, .int x3, .int (nI nn)] dom loc val (PTs2 cI cB cZ ob C M j nn (nI j) 0 dom loc val) := by
  have hN := hT.1
  refine kM.to (c_M_say2 hM hO x0 x1 x2 x3 (nI nn) hT hTX) (fun rv d lo va kc ns ⟨e1, e2, e3, e4, T2, O2, hc, h1, h2, h3⟩ => ?_)
  rcases hc with ⟨z, -, -, -⟩ | ⟨-, hth, te, n2, i, ⟨q1, q2, q3⟩, rfl, hcase⟩
  · exact absurd h z
  · have e : n2 = nn := ((nI_eq (by omega) (by omega)).mp q1).symm
    subst e
    rcases hcase with ⟨z, -⟩ | ⟨-, hi, hie, -, rfl⟩
    · exact absurd z ha
    · have e9 : i = j := (nI_eq (by omega) (by omega)).mp (hie.symm.trans hje)
      subst e9
      exact ⟨rfl, e1, e2, e3, e4, te, O2, hth, h1, h2, h3⟩
end KWc
