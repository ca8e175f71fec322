section KN0
/-- the tree of nodes: kind, holder, depth, value, first, last, next -/
abbrev TR : Type := (Nat → Int32) × (Nat → Option Nat) × (Nat → Nat) × (Nat → Int32) × (Nat → Option Nat) × (Nat → Option Nat) × (Nat → Option Nat)
abbrev tK (T : TR) (i : Nat) : Int32 := T.1 i
abbrev tU (T : TR) (i : Nat) : Option Nat := T.2.1 i
abbrev tD (T : TR) (i : Nat) : Nat := T.2.2.1 i
abbrev tV (T : TR) (i : Nat) : Int32 := T.2.2.2.1 i
abbrev tF (T : TR) (i : Nat) : Option Nat := T.2.2.2.2.1 i
abbrev tL (T : TR) (i : Nat) : Option Nat := T.2.2.2.2.2.1 i
abbrev tN (T : TR) (i : Nat) : Option Nat := T.2.2.2.2.2.2 i
/-- a reference to a node, or null -/
def orf (ob : Nat → Nat) (o : Option Nat) : Value := va_rf (o.map (fun i => ob (1000 + i)))
def nodeC (ob : Nat → Nat) (T : TR) (i : Nat) (fr to at9 on : Int32) : va_E := .inr (0, [.int (nI i), .int (tK T i), orf ob (tU T i), .int (nI (tD T i)), .int fr, .int to, .int (tV T i), orf ob (tF T i), orf ob (tL T i), orf ob (tN T i), .int at9, .int on])
def NodesI (ob : Nat → Nat) (T : TR) (n : Nat) (dom : Nat → Prop) (loc : Nat → Nat) (val : Nat → va_E) : Prop := n ≤ 300 ∧ ∀ i, i < n → dom (1000 + i) ∧ loc (1000 + i) = ob (1000 + i) ∧ ∃ fr to at9 on, val (1000 + i) = nodeC ob T i fr to at9 on
/-- chains go up in number; what a node holds is one deeper -/
def TreeI (T : TR) (n : Nat) : Prop := (∀ i j, i < n → tN T i = some j → i < j ∧ j < n ∧ tD T j = tD T i) ∧ (∀ i j, i < n → tF T i = some j → i < j ∧ j < n ∧ tD T j = tD T i + 1) ∧ (∀ i, i < n → 1 ≤ tD T i ∧ tD T i ≤ 12)
variable {cI : ClassId} {ob : Nat → Nat} {T : TR} {n : Nat} {dom : Nat → Prop} {loc : Nat → Nat} {val : Nat → va_E} {lo : Nat → Nat} {va : Nat → va_E} {td w c a al nl pf tl ph : Nat}
theorem NodesI.fr (h : NodesI ob T n dom loc val) (hf : frL loc val lo va) : NodesI ob T n dom lo va := ⟨h.1, fun i hi => by
  have h1 := h.1
  obtain ⟨g1, g2, fr, to, at9, on, g3⟩ := h.2 i hi
  have hk := hf (1000 + i) (by omega) (by omega)
  exact ⟨g1, hk.1.trans g2, fr, to, at9, on, hk.2.trans g3⟩⟩
/-- all but the layout and the nodes is as it was -/
def frN (loc : Nat → Nat) (val : Nat → va_E) (lo : Nat → Nat) (va : Nat → va_E) : Prop := ∀ k, ¬ (3 ≤ k ∧ k ≤ 46) → k ≠ 2000 → ¬ (1000 ≤ k ∧ k < 1300) → lo k = loc k ∧ va k = val k
theorem frN.rf : frN loc val loc val := fun _ _ _ _ => ⟨rfl, rfl⟩
theorem frN.trans {l2 l3 : Nat → Nat} {v2 v3 : Nat → va_E} (h : frN loc val l2 v2) (h2 : frN l2 v2 l3 v3) : frN loc val l3 v3 := fun k x y z => ⟨(h2 k x y z).1.trans (h k x y z).1, (h2 k x y z).2.trans (h k x y z).2⟩
theorem frL.toN (h : frL loc val lo va) : frN loc val lo va := fun k x y _ => h k x y
/-- a node's number of a line is put -/
theorem node_put (hS : LayS cI ob td w c a al nl pf tl ph dom loc val) (hN : NodesI ob T n dom loc val) {i : Nat} (hi : i < n) (fr to at9 on : Int32) : LayS cI ob td w c a al nl pf tl ph dom loc (va_up val (1000 + i) (nodeC ob T i fr to at9 on)) ∧ NodesI ob T n dom loc (va_up val (1000 + i) (nodeC ob T i fr to at9 on)) ∧ frN loc val loc (va_up val (1000 + i) (nodeC ob T i fr to at9 on)) := by
  have h300 := hN.1
  refine ⟨?_, ⟨h300, fun k hk => ?_⟩, fun k _ _ z => ⟨rfl, va_up_ne _ _ (by omega)⟩⟩
  · obtain ⟨rs, sh, ⟨⟨h1, hn⟩, h2, h3, h4, h5⟩, hrest⟩ := hS
    have sheet : ∀ t, t ≤ 46 → SheetI ob sh dom loc val t → SheetI ob sh dom loc (va_up val (1000 + i) (nodeC ob T i fr to at9 on)) t := fun t ht z => ⟨z.1, z.2.1, kup_ne (by omega) z.2.2⟩
    refine ⟨rs, sh, ⟨⟨fun j hj => ?_, hn⟩, sheet 5 (by omega) h2, sheet 30 (by omega) h3, ⟨h4.1, h4.2.1, kup_ne (by omega) h4.2.2⟩, h5⟩, hrest⟩
    obtain ⟨g1, g2, g3, g4, g5⟩ := h1 j hj
    have hin := RK_in j hj
    exact ⟨g1, g2, g3, g4.kept (va_up_ne _ _ (by omega)) rfl (va_up_ne _ _ (by omega)), g5⟩
  · obtain ⟨g1, g2, f2, t2, a2, o2, g3⟩ := hN.2 k hk
    by_cases e : k = i
    · subst e
      exact ⟨g1, g2, fr, to, at9, on, va_up_self _ _ _⟩
    · exact ⟨g1, g2, f2, t2, a2, o2, kup_ne (by omega) g3⟩
/-- how far a chain can still go -/
def om (n : Nat) (o : Option Nat) : Nat := match o with
  | none => 0
  | some j => n - j
theorem om_next (hT : TreeI T n) {j k : Nat} (hj : j < n) (h : om n (some j) < k + 1) : om n (tN T j) < k := by
  have h1 : n - j < k + 1 := h
  cases hq : tN T j with
  | none => show 0 < k; omega
  | some e =>
    have := hT.1 j e hj hq
    show n - e < k
    omega
def oneOf (k s : Int32) : Int32 := if k < 0 then 0 else if 10 < k then 0 else if ¬ (s >>> (k &&& 31)) &&& 1 = 1 then 0 else 1
theorem oneOf_nar {x y : Int32} : narrow .boolean (.int (oneOf x y)) = .int (oneOf x y) := by
  unfold oneOf
  split
  · rfl
  · split
    · rfl
    · split <;> rfl
end KN0
