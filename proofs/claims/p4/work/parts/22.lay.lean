section KL
/-- the keys of the Rows; the array of each lies under the next key -/
def RK : List Nat := [3, 6, 8, 10, 12, 14, 16, 18, 20, 22, 24, 26, 28, 31, 33, 35, 37, 39, 41, 43, 45]
/-- how large each may get -/
def mxOf (j : Nat) : Nat := if j = 3 then 4400 else if j = 6 ∨ j = 31 then 320000 else if j = 22 ∨ j = 24 then 200 else if j = 26 ∨ j = 28 then 70 else 1501
abbrev RS : Type := Nat → Nat × Nat
def Phi (rs : RS) : Nat := (RK.map (fun j => 2 * (rs j).2)).sum
abbrev PMx : Nat := 2663816
theorem mx_le : ∀ j ∈ RK, 2 * mxOf j ≤ 640000 := by decide
theorem RK_apart : ∀ i ∈ RK, ∀ j ∈ RK, i ≠ j → i ≠ j + 1 ∧ i + 1 ≠ j := by decide
theorem RK_in : ∀ j ∈ RK, 3 ≤ j ∧ j + 1 ≤ 46 ∧ j ≠ 5 ∧ j ≠ 30 ∧ j + 1 ≠ 5 ∧ j + 1 ≠ 30 := by decide
theorem Phi_up (rs : RS) (p : Nat × Nat) : ∀ j ∈ RK, Phi (va_up rs j p) + 2 * (rs j).2 = Phi rs + 2 * p.2 := by
  intro j hj
  simp only [RK, List.mem_cons, List.not_mem_nil, or_false] at hj
  rcases hj with rfl | rfl | rfl | rfl | rfl | rfl | rfl | rfl | rfl | rfl | rfl | rfl | rfl | rfl | rfl | rfl | rfl | rfl | rfl | rfl | rfl <;> simp [Phi, RK, va_up] <;> omega
/-- the Rows as rs says (length, room) -/
def RowsI (cI : ClassId) (ob : Nat → Nat) (rs : RS) (dom : Nat → Prop) (loc : Nat → Nat) (val : Nat → va_E) : Prop := (∀ j ∈ RK, dom j ∧ dom (j + 1) ∧ loc j = ob j ∧ rowOK cI loc val j (rs j).1 (rs j).2 ∧ (rs j).2 ≤ 2 * mxOf j) ∧ ¬ dom 2000
def SheetI (ob : Nat → Nat) (sh : Nat → Int32 × Int32 × Int32) (dom : Nat → Prop) (loc : Nat → Nat) (val : Nat → va_E) (t : Nat) : Prop := dom t ∧ loc t = ob t ∧ val t = .inr (3, [.ref (ob (t + 1)), .ref (ob (t + 3)), .ref (ob (t + 5)), .ref (ob (t + 7)), .ref (ob (t + 9)), .ref (ob (t + 11)), .ref (ob (t + 13)), .ref (ob (t + 15)), .int (sh t).1, .int (sh t).2.1, .int (sh t).2.2])
def SetI (ob : Nat → Nat) (td : Nat) (dom : Nat → Prop) (loc : Nat → Nat) (val : Nat → va_E) : Prop := dom 2 ∧ loc 2 = ob 2 ∧ val 2 = .inr (2, [.ref (ob 3), .ref (ob td), .ref (ob 22), .ref (ob 24), .ref (ob 26), .ref (ob 28)])
/-- the setter with its Rows and both sheets; td: the draft's key -/
def LayI (cI : ClassId) (ob : Nat → Nat) (td : Nat) (rs : RS) (sh : Nat → Int32 × Int32 × Int32) (dom : Nat → Prop) (loc : Nat → Nat) (val : Nat → va_E) : Prop := RowsI cI ob rs dom loc val ∧ SheetI ob sh dom loc val 5 ∧ SheetI ob sh dom loc val 30 ∧ SetI ob td dom loc val ∧ (td = 5 ∨ td = 30)
/-- what is neither a Row nor a sheet is as it was -/
def frL (loc : Nat → Nat) (val : Nat → va_E) (lo : Nat → Nat) (va : Nat → va_E) : Prop := ∀ k, ¬ (3 ≤ k ∧ k ≤ 46) → k ≠ 2000 → lo k = loc k ∧ va k = val k
theorem frL.rf {loc : Nat → Nat} {val : Nat → va_E} : frL loc val loc val := fun _ _ _ => ⟨rfl, rfl⟩
theorem frL.trans {loc l2 l3 : Nat → Nat} {val v2 v3 : Nat → va_E} (h : frL loc val l2 v2) (h2 : frL l2 v2 l3 v3) : frL loc val l3 v3 := fun k a b => ⟨(h2 k a b).1.trans (h k a b).1, (h2 k a b).2.trans (h k a b).2⟩
def pay (rs rs' : RS) (kc ns : Nat) : Prop := ns + Phi rs ≤ Phi rs' ∧ 16 * kc + Phi rs ≤ Phi rs'
theorem pay.rf {rs : RS} : pay rs rs 0 0 := ⟨by omega, by omega⟩
theorem pay.trans {a b c : RS} {k n k2 n2 : Nat} (h : pay a b k n) (h2 : pay b c k2 n2) : pay a c (k + k2) (n + n2) := ⟨by have := h.1; have := h2.1; omega, by have := h.2; have := h2.2; omega⟩
variable {cI : ClassId} {ob : Nat → Nat} {td : Nat} {rs : RS} {sh : Nat → Int32 × Int32 × Int32} {dom : Nat → Prop} {loc : Nat → Nat} {val : Nat → va_E}
theorem sum_le (f g : Nat → Nat) : ∀ ks : List Nat, (∀ j ∈ ks, f j ≤ g j) → (ks.map f).sum ≤ (ks.map g).sum
  | [], _ => Nat.le_refl _
  | k :: ks, h => by
    have h1 := h k List.mem_cons_self
    have h2 := sum_le f g ks (fun j hj => h j (List.mem_cons_of_mem _ hj))
    simp only [List.map_cons, List.sum_cons]
    omega
theorem RowsI.phi (h : RowsI cI ob rs dom loc val) : Phi rs ≤ PMx := by
  have h1 := sum_le (fun j => 2 * (rs j).2) (fun j => 4 * mxOf j) RK (fun j hj => by have := (h.1 j hj).2.2.2.2; show 2 * (rs j).2 ≤ 4 * mxOf j; omega)
  have h2 : (RK.map (fun j => 4 * mxOf j)).sum = PMx := by decide
  unfold Phi
  omega
theorem rowOK.v {j sz cap : Nat} (h : rowOK cI loc val j sz cap) : val j = .inr (1, [.ref (loc (j + 1)), .int (nI sz)]) := by obtain ⟨f, h1, -⟩ := h; exact h1
theorem rowOK.kept {lo : Nat → Nat} {va : Nat → va_E} {j sz cap : Nat} (h : rowOK cI loc val j sz cap) (h1 : va j = val j) (h2 : lo (j + 1) = loc (j + 1)) (h3 : va (j + 1) = val (j + 1)) : rowOK cI lo va j sz cap := by
  obtain ⟨f, g1, g2, g3⟩ := h
  exact ⟨f, by rw [h1, h2]; exact g1, by rw [h3]; exact g2, g3⟩
/-- one Row changes, the rest of the layout doesn't -/
theorem LayI.row (h : LayI cI ob td rs sh dom loc val) {j : Nat} (hj : j ∈ RK) {lo : Nat → Nat} {va : Nat → va_E} {s c : Nat} (hr : rowOK cI lo va j s c) (hc : c ≤ 2 * mxOf j) (hf : frR j loc val lo va) : LayI cI ob td (va_up rs j (s, c)) sh dom lo va ∧ frL loc val lo va := by
  obtain ⟨⟨h1, hn⟩, h2, h3, h4, h5⟩ := h
  have hin := RK_in j hj
  have sheet : ∀ t, t = 5 ∨ t = 30 → SheetI ob sh dom loc val t → SheetI ob sh dom lo va t := fun t ht z => by
    have hk := hf.2 t (by omega) (by omega) (by omega)
    exact ⟨z.1, hk.1.trans z.2.1, hk.2.trans z.2.2⟩
  refine ⟨⟨⟨fun i hi => ?_, hn⟩, sheet 5 (Or.inl rfl) h2, sheet 30 (Or.inr rfl) h3, ?_, h5⟩, fun k a b => hf.2 k (by omega) (by omega) b⟩
  · obtain ⟨g1, g2, g3, g4, g5⟩ := h1 i hi
    by_cases e : i = j
    · subst e
      refine ⟨g1, g2, hf.1.trans g3, ?_, ?_⟩
      · rw [va_up_self]; exact hr
      · rw [va_up_self]; exact hc
    · have ap := RK_apart i hi j hj e
      have ii := RK_in i hi
      have k1 := hf.2 i e (by omega) (by omega)
      have k2 := hf.2 (i + 1) (by omega) (by omega) (by omega)
      refine ⟨g1, g2, k1.1.trans g3, ?_, ?_⟩
      · rw [va_up_ne _ _ e]; exact g4.kept k1.2 k2.1 k2.2
      · rw [va_up_ne _ _ e]; exact g5
  · have hk := hf.2 2 (by omega) (by omega) (by omega)
    exact ⟨h4.1, hk.1.trans h4.2.1, hk.2.trans h4.2.2⟩
variable {l : Launch} {D : va_G} {A : Nat → Prop} {cB cZ cJ cN : ClassId}
/-- a call on the Row under j that leaves it with the length s -/
abbrev PRow (cI : ClassId) (ob : Nat → Nat) (td : Nat) (rs : RS) (sh : Nat → Int32 × Int32 × Int32) (dom : Nat → Prop) (loc : Nat → Nat) (val : Nat → va_E) (j s : Nat) : kT := fun rv d lo va kc ns => rv = none ∧ dom = d ∧ (∃ rs', LayI cI ob td rs' sh dom lo va ∧ (rs' j).1 = s ∧ (∀ i, i ≠ j → rs' i = rs i) ∧ pay rs rs' kc ns) ∧ frL loc val lo va
theorem L_size (hI : LayI cI ob td rs sh dom loc val) (j : Nat) (hj : j ∈ RK) : kM l y_R_size (Cond.code y_R_size b_R_size 1 (some FieldType.int) :: TT) (rmL 1) D CL (TY cI cB cZ cJ cN) A [.ref (ob j)] dom loc val (fun rv d lo va kc ns => rv = some (.int (nI (rs j).1)) ∧ dom = d ∧ loc = lo ∧ val = va ∧ kc = 0 ∧ ns = 0) := by
  obtain ⟨g1, g2, g3, g4, g5⟩ := hI.1.1 j hj
  have h := c_R_size (l := l) (D := D) (A := A) (cB := cB) (cZ := cZ) (cJ := cJ) (cN := cN) j _ _ g1 g4
  rw [g3] at h
  exact h
theorem L_get (hI : LayI cI ob td rs sh dom loc val) (j : Nat) (hj : j ∈ RK) (x : Int32) : kM l y_R_get (Cond.code y_R_get b_R_get 2 (some FieldType.int) :: TT) (rmL 1) D CL (TY cI cB cZ cJ cN) A [.ref (ob j), .int x] dom loc val (fun rv d lo va kc ns => (∃ v, rv = some (.int v)) ∧ dom = d ∧ loc = lo ∧ val = va ∧ kc = 0 ∧ ns = 0) := by
  obtain ⟨g1, g2, g3, g4, g5⟩ := hI.1.1 j hj
  have h := c_R_get (l := l) (D := D) (A := A) (cB := cB) (cZ := cZ) (cJ := cJ) (cN := cN) j _ _ x g1 g2 g4
  rw [g3] at h
  exact h
theorem L_set (hI : LayI cI ob td rs sh dom loc val) (j : Nat) (hj : j ∈ RK) (x y : Int32) : kM l y_R_set (Cond.code y_R_set b_R_set 3 none :: TT) (rmL 1) D CL (TY cI cB cZ cJ cN) A [.ref (ob j), .int x, .int y] dom loc val (PRow cI ob td rs sh dom loc val j (rs j).1) := by
  obtain ⟨g1, g2, g3, g4, g5⟩ := hI.1.1 j hj
  have h := c_R_set (l := l) (D := D) (A := A) (cB := cB) (cZ := cZ) (cJ := cJ) (cN := cN) j _ _ x y g1 g2 g4
  rw [g3] at h
  refine kM.to h (fun rv d lo va kc ns ⟨e1, e2, e3, e4, e5, e6⟩ => ?_)
  obtain ⟨i1, i2⟩ := hI.row hj e3 g5 e4
  have hp := Phi_up rs ((rs j).1, (rs j).2) j hj
  exact ⟨e1, e2, ⟨_, i1, by rw [va_up_self], fun i hi => va_up_ne _ _ hi, ⟨by subst e6; omega, by subst e5; omega⟩⟩, i2⟩
theorem L_cut (hI : LayI cI ob td rs sh dom loc val) (j : Nat) (hj : j ∈ RK) (m : Nat) (hm : m < 2 ^ 31) : kM l y_R_cut (Cond.code y_R_cut b_R_cut 2 none :: TT) (rmL 1) D CL (TY cI cB cZ cJ cN) A [.ref (ob j), .int (nI m)] dom loc val (PRow cI ob td rs sh dom loc val j (min m (rs j).1)) := by
  obtain ⟨g1, g2, g3, g4, g5⟩ := hI.1.1 j hj
  have h := c_R_cut (l := l) (D := D) (A := A) (cB := cB) (cZ := cZ) (cJ := cJ) (cN := cN) j _ _ m hm g1 g4
  rw [g3] at h
  refine kM.to h (fun rv d lo va kc ns ⟨e1, e2, e3, e4, e5, e6⟩ => ?_)
  obtain ⟨i1, i2⟩ := hI.row hj e3 g5 e4
  have hp := Phi_up rs (min m (rs j).1, (rs j).2) j hj
  exact ⟨e1, e2, ⟨_, i1, by rw [va_up_self], fun i hi => va_up_ne _ _ hi, ⟨by subst e6; omega, by subst e5; omega⟩⟩, i2⟩
theorem L_add (hI : LayI cI ob td rs sh dom loc val) (j : Nat) (hj : j ∈ RK) (x : Int32) (hm : (rs j).1 + 1 ≤ mxOf j) : kM l y_R_add (Cond.code y_R_add b_R_add 2 none :: TT) rmR D CL (TY cI cB cZ cJ cN) A [.ref (ob j), .int x] dom loc val (PRow cI ob td rs sh dom loc val j ((rs j).1 + 1)) := by
  obtain ⟨g1, g2, g3, g4, g5⟩ := hI.1.1 j hj
  have hin := RK_in j hj
  have h := c_R_add (l := l) (D := D) (A := A) (cB := cB) (cZ := cZ) (cJ := cJ) (cN := cN) j _ _ (mxOf j) x g1 g2 (by omega) hI.1.2 g4 hm g5 (mx_le j hj)
  rw [g3] at h
  refine kM.to h (fun rv d lo va kc ns ⟨e1, e2, ⟨c', e3, e4, e5⟩, e6⟩ => ?_)
  obtain ⟨i1, i2⟩ := hI.row hj e3 e4 e6
  have hp := Phi_up rs ((rs j).1 + 1, c') j hj
  obtain ⟨w1, w2, w3⟩ := e5
  exact ⟨e1, e2, ⟨_, i1, by rw [va_up_self], fun i hi => va_up_ne _ _ hi, ⟨by omega, by omega⟩⟩, i2⟩
theorem L_addAll (hI : LayI cI ob td rs sh dom loc val) (j : Nat) (hj : j ∈ RK) (jo : Nat) (ho : jo ∈ RK) (hne : j ≠ jo) (hm : (rs j).1 + (rs jo).1 ≤ mxOf j) : kM l y_R_addAll (Cond.code y_R_addAll b_R_addAll 3 none :: TT) rmR D CL (TY cI cB cZ cJ cN) A [.ref (ob j), .ref (ob jo)] dom loc val (PRow cI ob td rs sh dom loc val j ((rs j).1 + (rs jo).1)) := by
  obtain ⟨g1, g2, g3, g4, g5⟩ := hI.1.1 j hj
  obtain ⟨f1, f2, f3, f4, f5⟩ := hI.1.1 jo ho
  have hin := RK_in j hj
  have hio := RK_in jo ho
  have ap := RK_apart j hj jo ho hne
  have h := c_R_addAll (l := l) (D := D) (A := A) (cB := cB) (cZ := cZ) (cJ := cJ) (cN := cN) j _ _ jo _ _ (mxOf j) g1 g2 (by omega) f1 f2 ⟨hne, by omega, by omega, by omega⟩ hI.1.2 g4 f4 hm g5 (mx_le j hj)
  rw [g3, f3] at h
  refine kM.to h (fun rv d lo va kc ns ⟨e1, e2, ⟨c', e3, e4, e5⟩, e6⟩ => ?_)
  obtain ⟨i1, i2⟩ := hI.row hj e3 e4 e6
  have hp := Phi_up rs ((rs j).1 + (rs jo).1, c') j hj
  obtain ⟨w1, w2, w3⟩ := e5
  exact ⟨e1, e2, ⟨_, i1, by rw [va_up_self], fun i hi => va_up_ne _ _ hi, ⟨by omega, by omega⟩⟩, i2⟩
end KL
