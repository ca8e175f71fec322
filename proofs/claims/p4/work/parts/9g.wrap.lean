section KWr
variable {l : Launch} {D : va_G} {A : Nat → Prop} {cI cB cZ cJ cN : ClassId} {ob : Nat → Nat} {td ts : Nat} {rs : RS} {sh : Nat → Int32 × Int32 × Int32} {T : TR} {n ha ch : Nat} {hp : Int32} {C : CT} {M : TS} {O : OS} {dom : Nat → Prop} {loc : Nat → Nat} {val : Nat → va_E}
/-- how a method of the reference that changes the tree ends, so or so -/
abbrev PTo (cI cB cZ : ClassId) (ob : Nat → Nat) (C : CT) (M2 : TS) (dom : Nat → Prop) (loc : Nat → Nat) (val : Nat → va_E) : kT := fun rv d lo va kc ns => (∃ v, rv = some (.int v)) ∧ dom = d ∧ loc = lo ∧ kc = 0 ∧ ns = 0 ∧ ∃ O2, ModI cI cB cZ ob C M2 O2 dom loc va ∧ OI O2 ∧ frM val va
theorem m_begin_ok (hM : ModI cI cB cZ ob C M O dom loc val) (hO : OI O) (k x : Int32) (hT : TrI M) (h : flM M = 0 ∧ gdM M k x) : kM l y_M_begin (Cond.code y_M_begin b_M_begin 5 (some FieldType.int) :: TT) (rmM 3) D CL (TY cI cB cZ cJ cN) A [.ref (ob 48), .int k, .int x] dom loc val (PTo cI cB cZ ob C (bgT M k x) dom loc val) := by
  refine kM.to (c_M_begin hM hO k x hT) (fun rv d lo va kc ns ⟨e1, e2, e3, e4, T2, O2, hc, h1, h2, h3⟩ => ?_)
  rcases hc with ⟨z, -, -⟩ | ⟨-, -, rfl, rfl⟩
  · exact absurd h z
  · exact ⟨⟨_, rfl⟩, e1, e2, e3, e4, O2, h1, h2, h3⟩
theorem m_begin_no (hM : ModI cI cB cZ ob C M O dom loc val) (hO : OI O) (k x : Int32) (hT : TrI M) (h : ¬ (flM M = 0 ∧ gdM M k x)) : kM l y_M_begin (Cond.code y_M_begin b_M_begin 5 (some FieldType.int) :: TT) (rmM 3) D CL (TY cI cB cZ cJ cN) A [.ref (ob 48), .int k, .int x] dom loc val (PTo cI cB cZ ob C M dom loc val) := by
  refine kM.to (c_M_begin hM hO k x hT) (fun rv d lo va kc ns ⟨e1, e2, e3, e4, T2, O2, hc, h1, h2, h3⟩ => ?_)
  rcases hc with ⟨-, rfl, rfl⟩ | ⟨z1, z2, -, -⟩
  · exact ⟨⟨_, rfl⟩, e1, e2, e3, e4, O2, h1, h2, h3⟩
  · exact absurd ⟨z1, z2⟩ h
theorem m_say_no (hM : ModI cI cB cZ ob C M O dom loc val) (hO : OI O) (x0 x1 x2 x3 y : Int32) (hT : TrI M) (hTX : TrX M) (h : ¬ syM M y) : kM l y_M_say (Cond.code y_M_say b_M_say 9 (some FieldType.int) :: TT) (rmM 3) D CL (TY cI cB cZ cJ cN) A [.ref (ob 48), .int x0, .int x1, .int x2, .int x3, .int y] dom loc val (PTo cI cB cZ ob C M dom loc val) := by
  refine kM.to (c_M_say hM hO x0 x1 x2 x3 y hT hTX) (fun rv d lo va kc ns ⟨e1, e2, e3, e4, T2, O2, hc, h1, h2, h3⟩ => ?_)
  rcases hc with ⟨-, rfl, rfl⟩ | ⟨z, -⟩
  · exact ⟨⟨_, rfl⟩, e1, e2, e3, e4, O2, h1, h2, h3⟩
  · exact absurd z h
/-- .. that told characters to a new text, or to the last one -/
abbrev PTs (cI cB cZ : ClassId) (ob : Nat → Nat) (C : CT) (M1 : TS) (i nn : Nat) (dom : Nat → Prop) (loc : Nat → Nat) (val : Nat → va_E) : kT := fun rv d lo va kc ns => (∃ v, rv = some (.int v)) ∧ dom = d ∧ loc = lo ∧ kc = 0 ∧ ns = 0 ∧ ∃ te O2, ModI cI cB cZ ob C (tlT M1 te i nn) O2 dom loc va ∧ OI O2 ∧ frM val va
theorem m_say_an (hM : ModI cI cB cZ ob C M O dom loc val) (hO : OI O) (x0 x1 x2 x3 : Int32) {nn : Nat} (hn : nn ≤ 4) (hT : TrI M) (hTX : TrX M) (h : syM M (nI nn)) (ha : anM M) : kM l y_M_say (Cond.code y_M_say b_M_say 9 (some FieldType.int) :: TT) (rmM 3) D CL (TY cI cB cZ cJ cN) A [.ref (ob 48), .int x0, .int x1, .int x2, .int x3, .int (nI nn)] dom loc val (PTs cI cB cZ ob C (adT M 10 0) (ttN M) nn dom loc val) := by
  refine kM.to (c_M_say hM hO x0 x1 x2 x3 (nI nn) hT hTX) (fun rv d lo va kc ns ⟨e1, e2, e3, e4, T2, O2, hc, h1, h2, h3⟩ => ?_)
  rcases hc with ⟨z, -, -⟩ | ⟨-, te, n2, i, ⟨q1, q2, q3⟩, rfl, hcase⟩
  · exact absurd h z
  · have e : n2 = nn := ((nI_eq (by omega) (by omega)).mp q1).symm
    subst e
    rcases hcase with ⟨-, rfl, rfl⟩ | ⟨z, -⟩
    · exact ⟨⟨_, rfl⟩, e1, e2, e3, e4, te, O2, h1, h2, h3⟩
    · exact absurd ha z
theorem m_say_la (hM : ModI cI cB cZ ob C M O dom loc val) (hO : OI O) (x0 x1 x2 x3 : Int32) {nn j : Nat} (hn : nn ≤ 4) (hT : TrI M) (hTX : TrX M) (h : syM M (nI nn)) (ha : ¬ anM M) (hj : j < ttN M) (hje : ttLa M (ttHa M) = nI j) : kM l y_M_say (Cond.code y_M_say b_M_say 9 (some FieldType.int) :: TT) (rmM 3) D CL (TY cI cB cZ cJ cN) A [.ref (ob 48), .int x0, .int x1, .int x2, .int x3, .int (nI nn)] dom loc val (PTs cI cB cZ ob C M j nn dom loc val) := by
  have hN := hT.1
  refine kM.to (c_M_say hM hO x0 x1 x2 x3 (nI nn) hT hTX) (fun rv d lo va kc ns ⟨e1, e2, e3, e4, T2, O2, hc, h1, h2, h3⟩ => ?_)
  rcases hc with ⟨z, -, -⟩ | ⟨-, te, n2, i, ⟨q1, q2, q3⟩, rfl, hcase⟩
  · exact absurd h z
  · have e : n2 = nn := ((nI_eq (by omega) (by omega)).mp q1).symm
    subst e
    rcases hcase with ⟨z, -⟩ | ⟨-, hi, hie, -, rfl⟩
    · exact absurd z ha
    · have e9 : i = j := (nI_eq (by omega) (by omega)).mp (hie.symm.trans hje)
      subst e9
      exact ⟨⟨_, rfl⟩, e1, e2, e3, e4, te, O2, h1, h2, h3⟩
/-- how end() ends -/
abbrev PEn (cI cB cZ : ClassId) (ob : Nat → Nat) (C : CT) (M2 : TS) (v : Int32) (dom : Nat → Prop) (loc : Nat → Nat) (val : Nat → va_E) : kT := fun rv d lo va kc ns => rv = some (.int v) ∧ dom = d ∧ loc = lo ∧ kc = 0 ∧ ns = 0 ∧ ∃ O2, ModI cI cB cZ ob C M2 O2 dom loc va ∧ OI O2 ∧ frM val va
theorem m_end0 (hM : ModI cI cB cZ ob C M O dom loc val) (hO : OI O) (hT : TrI M) (h : ttHa M = 0) : kM l y_M_end (Cond.code y_M_end b_M_end 1 (some FieldType.int) :: TT) (rmM 1) D CL (TY cI cB cZ cJ cN) A [.ref (ob 48)] dom loc val (PEn cI cB cZ ob C M (-1) dom loc val) := by
  refine kM.to (c_M_end hM hO hT) (fun rv d lo va kc ns ⟨e1, e2, e3, e4, T2, O2, hc, h1, h2, h3⟩ => ?_)
  rcases hc with ⟨-, rfl, rfl⟩ | ⟨z, -, -⟩
  · exact ⟨rfl, e1, e2, e3, e4, O2, h1, h2, h3⟩
  · exact absurd h z
theorem m_endS (hM : ModI cI cB cZ ob C M O dom loc val) (hO : OI O) (hT : TrI M) (h : ¬ ttHa M = 0) : kM l y_M_end (Cond.code y_M_end b_M_end 1 (some FieldType.int) :: TT) (rmM 1) D CL (TY cI cB cZ cJ cN) A [.ref (ob 48)] dom loc val (PEn cI cB cZ ob C (sxHa M (pu M (ttHa M))) (nI (pu M (ttHa M))) dom loc val) := by
  refine kM.to (c_M_end hM hO hT) (fun rv d lo va kc ns ⟨e1, e2, e3, e4, T2, O2, hc, h1, h2, h3⟩ => ?_)
  rcases hc with ⟨z, -, -⟩ | ⟨-, rfl, rfl⟩
  · exact absurd z h
  · exact ⟨rfl, e1, e2, e3, e4, O2, h1, h2, h3⟩
abbrev PEc (cI cN : ClassId) (ob : Nat → Nat) (td : Nat) (rs : RS) (sh : Nat → Int32 × Int32 × Int32) (T : TR) (n ha ch ts : Nat) (hp v : Int32) (dom : Nat → Prop) (loc : Nat → Nat) (val : Nat → va_E) : kT := fun rv d lo va kc ns => rv = some (.int v) ∧ dom = d ∧ loc = lo ∧ kc = 0 ∧ ns = 0 ∧ frC loc val lo va ∧ LayI cI ob td rs sh dom lo va ∧ NodesI ob T n dom lo va ∧ DeskI cN ob n ha ch ts hp dom lo va
theorem p_end0 (hI : LayI cI ob td rs sh dom loc val) (hN : NodesI ob T n dom loc val) (hD : DeskI cN ob n ha ch ts hp dom loc val) (hU : TreeU T n) (hha : ha < n) (hts : ts = 5 ∨ ts = 30) (h : tU T ha = none) : kM l y_P_end (Cond.code y_P_end b_P_end 1 (some FieldType.int) :: TT) (rmP 1 (Phi rs)) D CL (TY cI cB cZ cJ cN) A [.ref (ob 0)] dom loc val (PEc cI cN ob td rs sh T n ha ch ts hp (-1) dom loc val) := by
  refine kM.to (c_P_end hI hN hD hU hha hts) (fun rv d lo va kc ns ⟨e1, e2, e3, e4, e5, e6, e7, hc⟩ => ?_)
  rcases hc with ⟨-, rfl, h1⟩ | ⟨j, z, -, -⟩
  · exact ⟨rfl, e1, e2, e3, e4, e5, e6, e7, h1⟩
  · rw [h] at z
    cases z
theorem p_endS (hI : LayI cI ob td rs sh dom loc val) (hN : NodesI ob T n dom loc val) (hD : DeskI cN ob n ha ch ts hp dom loc val) (hU : TreeU T n) (hha : ha < n) (hts : ts = 5 ∨ ts = 30) {j : Nat} (h : tU T ha = some j) : kM l y_P_end (Cond.code y_P_end b_P_end 1 (some FieldType.int) :: TT) (rmP 1 (Phi rs)) D CL (TY cI cB cZ cJ cN) A [.ref (ob 0)] dom loc val (PEc cI cN ob td rs sh T n j ch ts hp (nI j) dom loc val) := by
  refine kM.to (c_P_end hI hN hD hU hha hts) (fun rv d lo va kc ns ⟨e1, e2, e3, e4, e5, e6, e7, hc⟩ => ?_)
  rcases hc with ⟨z, -, -⟩ | ⟨j2, z, rfl, h1⟩
  · rw [h] at z
    cases z
  · have e9 : j = j2 := Option.some.inj (h.symm.trans z)
    subst e9
    exact ⟨rfl, e1, e2, e3, e4, e5, e6, e7, h1⟩
theorem ModI.o76 (h : ModI cI cB cZ ob C M O dom loc val) (e : va_E) : ModI cI cB cZ ob C M O dom loc (va_up val 76 e) := by
  obtain ⟨⟨a1, a2, a3⟩, h2⟩ := h
  refine ⟨⟨a1, a2, kup_ne (by omega) a3⟩, fun j e9 he => ?_⟩
  have hj : j < 27 := (List.getElem?_eq_some_iff.mp he).1
  obtain ⟨g1, g2, g3⟩ := h2 j e9 he
  exact ⟨g1, g2, kup_ne (by omega) g3⟩
theorem Z4_of {rs2 : RS} (h : Z4 rs) (ho : ∀ j, j ≠ 3 → rs2 j = rs j) : Z4 rs2 := by
  obtain ⟨a, b, c, d⟩ := h
  exact ⟨by rw [ho 26 (by omega)]; exact a, by rw [ho 28 (by omega)]; exact b, by rw [ho 22 (by omega)]; exact c, by rw [ho 24 (by omega)]; exact d⟩
end KWr
