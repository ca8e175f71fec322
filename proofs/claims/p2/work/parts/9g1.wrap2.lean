section KWc
variable {l : Launch} {D : va_G} {A : Nat → Prop} {cI cB cZ cJ cN : ClassId} {ob : Nat → Nat} {td ts : Nat} {rs : RS} {sh : Nat → Int32 × Int32 × Int32} {T : TR} {n ha ch : Nat} {hp : Int32} {C : CT} {M : TS} {O : OS} {dom : Nat → Prop} {loc : Nat → Nat} {val : Nat → va_E}
abbrev PTo2 (cI cB cZ : ClassId) (ob : Nat → Nat) (C : CT) (M2 : TS) (v c : Int32) (dom : Nat → Prop) (loc : Nat → Nat) (val : Nat → va_E) : kT := fun rv d lo va kc ns => rv = some (.int v) ∧ dom = d ∧ loc = lo ∧ kc = 0 ∧ ns = 0 ∧ ∃ O2, ooTh O2 = c ∧ ModI cI cB cZ ob C M2 O2 dom loc va ∧ OI O2 ∧ frM val va
abbrev PTs2 (cI cB cZ : ClassId) (ob : Nat → Nat) (C : CT) (M1 : TS) (i nn : Nat) (v c : Int32) (dom : Nat → Prop) (loc : Nat → Nat) (val : Nat → va_E) : kT := fun rv d lo va kc ns => rv = some (.int v) ∧ dom = d ∧ loc = lo ∧ kc = 0 ∧ ns = 0 ∧ ∃ te O2, ooTh O2 = c ∧ ModI cI cB cZ ob C (tlT M1 te i nn) O2 dom loc va ∧ OI O2 ∧ frM val va
theorem m_begin_ok2 (hM : ModI cI cB cZ ob C M O dom loc val) (hO : OI O) (k x : Int32) (hT : TrI M) (h : flM M = 0 ∧ gdM M k x) : kM l y_M_begin (Cond.code y_M_begin b_M_begin 5 (some FieldType.int) :: TT) (rmM 3) D CL (TY cI cB cZ cJ cN) A [.ref (ob 48), .int k, .int x] dom loc val (PTo2 cI cB cZ ob C (bgT M k x) (nI (ttN M)) 0 dom loc val) := by
  refine kM.to (c_M_begin2 hM hO k x hT) (fun rv d lo va kc ns ⟨e1, e2, e3, e4, T2, O2, hc, h1, h2, h3⟩ => ?_)
  rcases hc with ⟨z, -, -, -⟩ | ⟨-, -, rfl, rfl, hth⟩
  · exact absurd h z
  · exact ⟨rfl, e1, e2, e3, e4, O2, hth, h1, h2, h3⟩
theorem m_begin_no2 (hM : ModI cI cB cZ ob C M O dom loc val) (hO : OI O) (k x : Int32) (hT : TrI M) (h : ¬ (flM M = 0 ∧ gdM M k x)) : kM l y_M_begin (Cond.code y_M_begin b_M_begin 5 (some FieldType.int) :: TT) (rmM 3) D CL (TY cI cB cZ cJ cN) A [.ref (ob 48), .int k, .int x] dom loc val (PTo2 cI cB cZ ob C M 0 (if flM M = 0 then 2 else 1) dom loc val) := by
  refine kM.to (c_M_begin2 hM hO k x hT) (fun rv d lo va kc ns ⟨e1, e2, e3, e4, T2, O2, hc, h1, h2, h3⟩ => ?_)
  rcases hc with ⟨-, rfl, rfl, hth⟩ | ⟨z1, z2, -, -, -⟩
  · exact ⟨rfl, e1, e2, e3, e4, O2, hth, h1, h2, h3⟩
  · exact absurd ⟨z1, z2⟩ h
end KWc
