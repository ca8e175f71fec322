section KS0
variable {l : Launch} {D : va_G} {A : Nat → Prop} {cI cB cZ cJ cN : ClassId} {ob : Nat → Nat} {td w c a al nl pf tl ph : Nat} {dom : Nat → Prop} {loc : Nat → Nat} {val : Nat → va_E}
/-- the setter's state in numbers: the lengths of word, content, ahead, aheadLater, the draft's lines and pages, what is told, and the account -/
def LayS (cI : ClassId) (ob : Nat → Nat) (td w c a al nl pf tl ph : Nat) (dom : Nat → Prop) (loc : Nat → Nat) (val : Nat → va_E) : Prop := ∃ rs sh, LayI cI ob td rs sh dom loc val ∧ (rs 26).1 = w ∧ (rs 28).1 = c ∧ (rs 22).1 = a ∧ (rs 24).1 = al ∧ DC rs td nl ∧ ((rs (td + 13)).1 = pf ∧ (rs (td + 15)).1 = pf) ∧ (rs 3).1 = tl ∧ Phi rs = ph
abbrev PSt (cI : ClassId) (ob : Nat → Nat) (td w c a al nl pf tl ph : Nat) (dom : Nat → Prop) (loc : Nat → Nat) (val : Nat → va_E) : kT := fun rv d lo va kc ns => rv = none ∧ dom = d ∧ (∃ nl2 ph2, LayS cI ob td w c a al nl2 pf tl ph2 dom lo va ∧ nl ≤ nl2 ∧ (ns + ph ≤ ph2 ∧ 16 * kc + ph ≤ ph2)) ∧ frL loc val lo va
/-- .. where word and content come out no longer than wd -/
abbrev PSw (cI : ClassId) (ob : Nat → Nat) (td wd a al nl pf tl ph : Nat) (dom : Nat → Prop) (loc : Nat → Nat) (val : Nat → va_E) : kT := fun rv d lo va kc ns => rv = none ∧ dom = d ∧ (∃ w2 c2 nl2 ph2, (w2 ≤ wd ∧ c2 ≤ wd) ∧ LayS cI ob td w2 c2 a al nl2 pf tl ph2 dom lo va ∧ nl ≤ nl2 ∧ (ns + ph ≤ ph2 ∧ 16 * kc + ph ≤ ph2)) ∧ frL loc val lo va
theorem LayS.phi (h : LayS cI ob td w c a al nl pf tl ph dom loc val) : ph ≤ 2663816 := by
  obtain ⟨rs, sh, hI, -, -, -, -, -, -, -, e⟩ := h
  rw [← e]; exact hI.1.phi
theorem LayS.set (h : LayS cI ob td w c a al nl pf tl ph dom loc val) : SetI ob td dom loc val := by
  obtain ⟨rs, sh, hI, -⟩ := h
  exact hI.2.2.2.1
theorem LayS.htd (h : LayS cI ob td w c a al nl pf tl ph dom loc val) : td = 5 ∨ td = 30 := by
  obtain ⟨rs, sh, hI, -⟩ := h
  exact hI.2.2.2.2
theorem LayS.sheet (h : LayS cI ob td w c a al nl pf tl ph dom loc val) : ∃ sh, SheetI ob sh dom loc val td := by
  obtain ⟨rs, sh, hI, -⟩ := h
  exact ⟨sh, hI.sheet hI.2.2.2.2⟩
theorem LayS.row (h : LayS cI ob td w c a al nl pf tl ph dom loc val) (j : Nat) (hj : j ∈ RK) : dom j ∧ loc j = ob j ∧ ∃ fs, val j = .inr (1, fs) := by
  obtain ⟨rs, sh, hI, -⟩ := h
  obtain ⟨g1, g2, g3, g4, g5⟩ := hI.1.1 j hj
  exact ⟨g1, g3, _, g4.v⟩
theorem LayS.hnl (h : LayS cI ob td w c a al nl pf tl ph dom loc val) : nl ≤ 1500 := by
  obtain ⟨rs, sh, hI, -, -, -, -, hD, -⟩ := h
  exact hD.2.2.2.2.2.1
theorem DC.kept {rs rs2 : RS} {t nl : Nat} (h : DC rs t nl) (ho : ∀ k, t < k → k ≤ t + 15 → rs2 k = rs k) : DC rs2 t nl := by
  obtain ⟨h1, h2, h3, h4, h5, h6, h7⟩ := h
  exact ⟨by rw [ho _ (by omega) (by omega)]; exact h1, by rw [ho _ (by omega) (by omega)]; exact h2, by rw [ho _ (by omega) (by omega)]; exact h3, by rw [ho _ (by omega) (by omega)]; exact h4, by rw [ho _ (by omega) (by omega)]; exact h5, h6, by rw [ho _ (by omega) (by omega)]; exact h7⟩
/-- a change of one of the four Rows -/
theorem S_lift {y : MethodName} {ws : List Cond} {rm : Room} {av : List Value} {rs : RS} {sh : Nat → Int32 × Int32 × Int32} {j s : Nat} (hD : DC rs td nl) (hpf : (rs (td + 13)).1 = pf ∧ (rs (td + 15)).1 = pf) (htl : (rs 3).1 = tl) (hph : Phi rs = ph) (htd : td = 5 ∨ td = 30) (hj : j = 22 ∨ j = 24 ∨ j = 26 ∨ j = 28)
    (h : kM l y ws rm D CL (TY cI cB cZ cJ cN) A av dom loc val (PRow cI ob td rs sh dom loc val j s)) {w c a al : Nat} (e1 : (if j = 26 then s else (rs 26).1) = w) (e2 : (if j = 28 then s else (rs 28).1) = c) (e3 : (if j = 22 then s else (rs 22).1) = a) (e4 : (if j = 24 then s else (rs 24).1) = al) :
    kM l y ws rm D CL (TY cI cB cZ cJ cN) A av dom loc val (PSt cI ob td w c a al nl pf tl ph dom loc val) := by
  refine kM.to h (fun rv d lo va kc ns ⟨a1, a2, ⟨rs2, hI2, hs, ho, hp⟩, hf⟩ => ⟨a1, a2, ⟨nl, Phi rs2, ⟨rs2, sh, hI2, ?_, ?_, ?_, ?_, hD.kept (fun k x y => ho k (by omega)), ⟨by rw [ho _ (by omega)]; exact hpf.1, by rw [ho _ (by omega)]; exact hpf.2⟩, by rw [ho _ (by omega)]; exact htl, rfl⟩, Nat.le_refl _, by rw [← hph]; exact hp⟩, hf⟩)
  · by_cases z : j = 26
    · rw [if_pos z] at e1; rw [← z, hs]; exact e1
    · rw [if_neg z] at e1; rw [ho 26 (fun q => z q.symm)]; exact e1
  · by_cases z : j = 28
    · rw [if_pos z] at e2; rw [← z, hs]; exact e2
    · rw [if_neg z] at e2; rw [ho 28 (fun q => z q.symm)]; exact e2
  · by_cases z : j = 22
    · rw [if_pos z] at e3; rw [← z, hs]; exact e3
    · rw [if_neg z] at e3; rw [ho 22 (fun q => z q.symm)]; exact e3
  · by_cases z : j = 24
    · rw [if_pos z] at e4; rw [← z, hs]; exact e4
    · rw [if_neg z] at e4; rw [ho 24 (fun q => z q.symm)]; exact e4
abbrev KAdd (l : Launch) (D : va_G) (A : Nat → Prop) (cI cB cZ cJ cN : ClassId) (ob : Nat → Nat) (j : Nat) (x : Int32) (dom : Nat → Prop) (loc : Nat → Nat) (val : Nat → va_E) (Post : kT) : Prop := kM l y_R_add (Cond.code y_R_add b_R_add 2 none :: TT) rmR D CL (TY cI cB cZ cJ cN) A [.ref (ob j), .int x] dom loc val Post
abbrev KCut (l : Launch) (D : va_G) (A : Nat → Prop) (cI cB cZ cJ cN : ClassId) (ob : Nat → Nat) (j m : Nat) (dom : Nat → Prop) (loc : Nat → Nat) (val : Nat → va_E) (Post : kT) : Prop := kM l y_R_cut (Cond.code y_R_cut b_R_cut 2 none :: TT) (rmL 1) D CL (TY cI cB cZ cJ cN) A [.ref (ob j), .int (nI m)] dom loc val Post
theorem S_add26 (h : LayS cI ob td w c a al nl pf tl ph dom loc val) (x : Int32) (hm : w + 1 ≤ 70) : KAdd l D A cI cB cZ cJ cN ob 26 x dom loc val (PSt cI ob td (w + 1) c a al nl pf tl ph dom loc val) := by
  obtain ⟨rs, sh, hI, h1, h2, h3, h4, h5, h6, h7, h8⟩ := h
  exact S_lift h5 h6 h7 h8 hI.2.2.2.2 (by omega) (L_add hI 26 (by decide) x (by rw [h1]; exact hm)) (by rw [if_pos rfl, h1]) (by rw [if_neg (by decide)]; exact h2) (by rw [if_neg (by decide)]; exact h3) (by rw [if_neg (by decide)]; exact h4)
theorem S_add28 (h : LayS cI ob td w c a al nl pf tl ph dom loc val) (x : Int32) (hm : c + 1 ≤ 70) : KAdd l D A cI cB cZ cJ cN ob 28 x dom loc val (PSt cI ob td w (c + 1) a al nl pf tl ph dom loc val) := by
  obtain ⟨rs, sh, hI, h1, h2, h3, h4, h5, h6, h7, h8⟩ := h
  exact S_lift h5 h6 h7 h8 hI.2.2.2.2 (by omega) (L_add hI 28 (by decide) x (by rw [h2]; exact hm)) (by rw [if_neg (by decide)]; exact h1) (by rw [if_pos rfl, h2]) (by rw [if_neg (by decide)]; exact h3) (by rw [if_neg (by decide)]; exact h4)
theorem S_add22 (h : LayS cI ob td w c a al nl pf tl ph dom loc val) (x : Int32) (hm : a + 1 ≤ 200) : KAdd l D A cI cB cZ cJ cN ob 22 x dom loc val (PSt cI ob td w c (a + 1) al nl pf tl ph dom loc val) := by
  obtain ⟨rs, sh, hI, h1, h2, h3, h4, h5, h6, h7, h8⟩ := h
  exact S_lift h5 h6 h7 h8 hI.2.2.2.2 (by omega) (L_add hI 22 (by decide) x (by rw [h3]; exact hm)) (by rw [if_neg (by decide)]; exact h1) (by rw [if_neg (by decide)]; exact h2) (by rw [if_pos rfl, h3]) (by rw [if_neg (by decide)]; exact h4)
theorem S_add24 (h : LayS cI ob td w c a al nl pf tl ph dom loc val) (x : Int32) (hm : al + 1 ≤ 200) : KAdd l D A cI cB cZ cJ cN ob 24 x dom loc val (PSt cI ob td w c a (al + 1) nl pf tl ph dom loc val) := by
  obtain ⟨rs, sh, hI, h1, h2, h3, h4, h5, h6, h7, h8⟩ := h
  exact S_lift h5 h6 h7 h8 hI.2.2.2.2 (by omega) (L_add hI 24 (by decide) x (by rw [h4]; exact hm)) (by rw [if_neg (by decide)]; exact h1) (by rw [if_neg (by decide)]; exact h2) (by rw [if_neg (by decide)]; exact h3) (by rw [if_pos rfl, h4])
theorem S_cut26 (h : LayS cI ob td w c a al nl pf tl ph dom loc val) : KCut l D A cI cB cZ cJ cN ob 26 0 dom loc val (PSt cI ob td 0 c a al nl pf tl ph dom loc val) := by
  obtain ⟨rs, sh, hI, h1, h2, h3, h4, h5, h6, h7, h8⟩ := h
  exact S_lift h5 h6 h7 h8 hI.2.2.2.2 (by omega) (L_cut hI 26 (by decide) 0 (by decide)) (by rw [if_pos rfl, Nat.zero_min]) (by rw [if_neg (by decide)]; exact h2) (by rw [if_neg (by decide)]; exact h3) (by rw [if_neg (by decide)]; exact h4)
theorem S_cut28 (h : LayS cI ob td w c a al nl pf tl ph dom loc val) : KCut l D A cI cB cZ cJ cN ob 28 0 dom loc val (PSt cI ob td w 0 a al nl pf tl ph dom loc val) := by
  obtain ⟨rs, sh, hI, h1, h2, h3, h4, h5, h6, h7, h8⟩ := h
  exact S_lift h5 h6 h7 h8 hI.2.2.2.2 (by omega) (L_cut hI 28 (by decide) 0 (by decide)) (by rw [if_neg (by decide)]; exact h1) (by rw [if_pos rfl, Nat.zero_min]) (by rw [if_neg (by decide)]; exact h3) (by rw [if_neg (by decide)]; exact h4)
theorem S_cut22 (h : LayS cI ob td w c a al nl pf tl ph dom loc val) (m : Nat) (hm : m < 2 ^ 31) : KCut l D A cI cB cZ cJ cN ob 22 m dom loc val (PSt cI ob td w c (min m a) al nl pf tl ph dom loc val) := by
  obtain ⟨rs, sh, hI, h1, h2, h3, h4, h5, h6, h7, h8⟩ := h
  exact S_lift h5 h6 h7 h8 hI.2.2.2.2 (by omega) (L_cut hI 22 (by decide) m hm) (by rw [if_neg (by decide)]; exact h1) (by rw [if_neg (by decide)]; exact h2) (by rw [if_pos rfl, h3]) (by rw [if_neg (by decide)]; exact h4)
theorem S_cut24 (h : LayS cI ob td w c a al nl pf tl ph dom loc val) (m : Nat) (hm : m < 2 ^ 31) : KCut l D A cI cB cZ cJ cN ob 24 m dom loc val (PSt cI ob td w c a (min m al) nl pf tl ph dom loc val) := by
  obtain ⟨rs, sh, hI, h1, h2, h3, h4, h5, h6, h7, h8⟩ := h
  exact S_lift h5 h6 h7 h8 hI.2.2.2.2 (by omega) (L_cut hI 24 (by decide) m hm) (by rw [if_neg (by decide)]; exact h1) (by rw [if_neg (by decide)]; exact h2) (by rw [if_neg (by decide)]; exact h3) (by rw [if_pos rfl, h4])
theorem S_set22 (h : LayS cI ob td w c a al nl pf tl ph dom loc val) (x y : Int32) : kM l y_R_set (Cond.code y_R_set b_R_set 3 none :: TT) (rmL 1) D CL (TY cI cB cZ cJ cN) A [.ref (ob 22), .int x, .int y] dom loc val (PSt cI ob td w c a al nl pf tl ph dom loc val) := by
  obtain ⟨rs, sh, hI, h1, h2, h3, h4, h5, h6, h7, h8⟩ := h
  exact S_lift h5 h6 h7 h8 hI.2.2.2.2 (by omega) (L_set hI 22 (by decide) x y) (by rw [if_neg (by decide)]; exact h1) (by rw [if_neg (by decide)]; exact h2) (by rw [if_pos rfl, h3]) (by rw [if_neg (by decide)]; exact h4)
theorem S_all (h : LayS cI ob td w c a al nl pf tl ph dom loc val) (hm : c + w ≤ 70) : kM l y_R_addAll (Cond.code y_R_addAll b_R_addAll 3 none :: TT) rmR D CL (TY cI cB cZ cJ cN) A [.ref (ob 28), .ref (ob 26)] dom loc val (PSt cI ob td w (c + w) a al nl pf tl ph dom loc val) := by
  obtain ⟨rs, sh, hI, h1, h2, h3, h4, h5, h6, h7, h8⟩ := h
  exact S_lift h5 h6 h7 h8 hI.2.2.2.2 (by omega) (L_addAll hI 28 (by decide) 26 (by decide) (by decide) (by rw [h1, h2]; exact hm)) (by rw [if_neg (by decide)]; exact h1) (by rw [if_pos rfl, h1, h2]) (by rw [if_neg (by decide)]; exact h3) (by rw [if_neg (by decide)]; exact h4)
abbrev KSz (l : Launch) (D : va_G) (A : Nat → Prop) (cI cB cZ cJ cN : ClassId) (ob : Nat → Nat) (j n : Nat) (dom : Nat → Prop) (loc : Nat → Nat) (val : Nat → va_E) : Prop := kM l y_R_size (Cond.code y_R_size b_R_size 1 (some FieldType.int) :: TT) (rmL 1) D CL (TY cI cB cZ cJ cN) A [.ref (ob j)] dom loc val (fun rv d lo va kc ns => rv = some (.int (nI n)) ∧ dom = d ∧ loc = lo ∧ val = va ∧ kc = 0 ∧ ns = 0)
theorem S_size26 (h : LayS cI ob td w c a al nl pf tl ph dom loc val) : KSz l D A cI cB cZ cJ cN ob 26 w dom loc val := by
  obtain ⟨rs, sh, hI, h1, -⟩ := h
  subst h1
  exact L_size hI 26 (by decide)
theorem S_size28 (h : LayS cI ob td w c a al nl pf tl ph dom loc val) : KSz l D A cI cB cZ cJ cN ob 28 c dom loc val := by
  obtain ⟨rs, sh, hI, -, h1, -⟩ := h
  subst h1
  exact L_size hI 28 (by decide)
theorem S_size22 (h : LayS cI ob td w c a al nl pf tl ph dom loc val) : KSz l D A cI cB cZ cJ cN ob 22 a dom loc val := by
  obtain ⟨rs, sh, hI, -, -, h1, -⟩ := h
  subst h1
  exact L_size hI 22 (by decide)
theorem S_get (h : LayS cI ob td w c a al nl pf tl ph dom loc val) (j : Nat) (hj : j ∈ RK) (x : Int32) : kM l y_R_get (Cond.code y_R_get b_R_get 2 (some FieldType.int) :: TT) (rmL 1) D CL (TY cI cB cZ cJ cN) A [.ref (ob j), .int x] dom loc val (fun rv d lo va kc ns => (∃ v, rv = some (.int v)) ∧ dom = d ∧ loc = lo ∧ val = va ∧ kc = 0 ∧ ns = 0) := by
  obtain ⟨rs, sh, hI, -⟩ := h
  exact L_get hI j hj x
theorem S_addLine (h : LayS cI ob td w c a al nl pf tl ph dom loc val) (x : Int32) (ha : a ≤ 144) (hc : c ≤ 60) : kM l y_T_addLine (Cond.code y_T_addLine b_T_addLine 6 none :: TT) (rmP 2 ph) D CL (TY cI cB cZ cJ cN) A [.ref (ob td), .ref (ob 22), .ref (ob 28), .int x] dom loc val (PSt cI ob td w c a al nl pf tl ph dom loc val) := by
  obtain ⟨rs, sh, hI, h1, h2, h3, h4, h5, h6, h7, h8⟩ := h
  have ht := hI.2.2.2.2
  subst h8
  refine kM.to (c_T_addLine hI ht x h5 (by rw [h3]; exact ha) (by rw [h2]; exact hc)) (fun rv d lo va kc ns ⟨a1, a2, ⟨rs2, sh2, nl2, hI2, hD2, hn, ho, hp⟩, hf⟩ => ⟨a1, a2, ⟨nl2, Phi rs2, ⟨rs2, sh2, hI2, by rw [ho _ (by omega)]; exact h1, by rw [ho _ (by omega)]; exact h2, by rw [ho _ (by omega)]; exact h3, by rw [ho _ (by omega)]; exact h4, hD2, ⟨by rw [ho _ (by omega)]; exact h6.1, by rw [ho _ (by omega)]; exact h6.2⟩, by rw [ho _ (by omega)]; exact h7, rfl⟩, hn, hp⟩, hf⟩)
theorem S_lines (h : LayS cI ob td w c a al nl pf tl ph dom loc val) : kM l y_T_lineCount (Cond.code y_T_lineCount b_T_lineCount 1 (some FieldType.int) :: TT) (rmP 1 ph) D CL (TY cI cB cZ cJ cN) A [.ref (ob td)] dom loc val (fun rv d lo va kc ns => rv = some (.int (nI nl)) ∧ dom = d ∧ loc = lo ∧ val = va ∧ kc = 0 ∧ ns = 0) := by
  obtain ⟨rs, sh, hI, h1, h2, h3, h4, h5, h6, h7, h8⟩ := h
  have ht := hI.2.2.2.2
  subst h8
  have := c_T_lineCount (l := l) (D := D) (A := A) (cB := cB) (cZ := cZ) (cJ := cJ) (cN := cN) hI ht
  rw [h5.1] at this
  exact this
theorem S_head (h : LayS cI ob td w c a al nl pf tl ph dom loc val) (x y : Int32) : kM l y_R_set (Cond.code y_R_set b_R_set 3 none :: TT) (rmL 1) D CL (TY cI cB cZ cJ cN) A [.ref (ob (td + 9)), .int x, .int y] dom loc val (PSt cI ob td w c a al nl pf tl ph dom loc val) := by
  obtain ⟨rs, sh, hI, h1, h2, h3, h4, h5, h6, h7, h8⟩ := h
  have ht := hI.2.2.2.2
  refine kM.to (L_set hI (td + 9) (shRK ht 4 (by decide)) x y) (fun rv d lo va kc ns ⟨a1, a2, ⟨rs2, hI2, hs, ho, hp⟩, hf⟩ => ?_)
  obtain ⟨g1, g2, g3, g4, g5, g6, g7⟩ := h5
  exact ⟨a1, a2, ⟨nl, Phi rs2, ⟨rs2, sh, hI2, by rw [ho _ (by omega)]; exact h1, by rw [ho _ (by omega)]; exact h2, by rw [ho _ (by omega)]; exact h3, by rw [ho _ (by omega)]; exact h4, ⟨by rw [ho _ (by omega)]; exact g1, by rw [ho _ (by omega)]; exact g2, by rw [ho _ (by omega)]; exact g3, by rw [hs]; exact g4, by rw [ho _ (by omega)]; exact g5, g6, by rw [ho _ (by omega)]; exact g7⟩, ⟨by rw [ho _ (by omega)]; exact h6.1, by rw [ho _ (by omega)]; exact h6.2⟩, by rw [ho _ (by omega)]; exact h7, rfl⟩, Nat.le_refl _, by rw [← h8]; exact hp⟩, hf⟩
end KS0
