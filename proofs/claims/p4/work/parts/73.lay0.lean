section KLa0
theorem k_maxcode : Cond.code Lib.Math.max.name Lib.Math.max.code 2 (some .int) ∈ TT := cd_H_max
variable {X : KX} {cc : ByteArray} {nL : Nat} {own : String} {R : Room} {D : va_G} {A : Nat → Prop} {cells slots pc : Nat} {lv : List (Option Value)} {st : List Value} {cI cB cZ cJ cN : ClassId} {ob : Nat → Nat} {td w c a al nl pf tl ph : Nat} {T : TR} {n : Nat} {dom : Nat → Prop} {loc : Nat → Nat} {val : Nat → va_E}
theorem v_atLine (hX : OX X cc nL own TT D CL (TY cI cB cZ cJ cN) A R) (hS : LayS cI ob td w c a al nl pf tl ph dom loc val) (hN : NodesI ob T n dom loc val) {i : Nat} (hi : i < n) {x : Int32} {index : Nat} (hl : Cond.fieldLink own index "ProsePages$Node" "atLine" "I" ∈ TT) (hd : decode cc pc = .ok (.putfield index, 3)) (kk : ∀ va, LayS cI ob td w c a al nl pf tl ph dom loc va → NodesI ob T n dom loc va → frN loc val loc va → V X D CL A dom loc va cells slots (pc + 3) lv st) : V X D CL A dom loc val cells slots pc lv (.int x :: .ref (ob (1000 + i)) :: st) := by
  obtain ⟨g1, g2, fr, to, at9, on, g3⟩ := hN.2 i hi
  obtain ⟨p1, p2, p3⟩ := node_put hS hN hi fr to x on
  exact v_putE hX (1000 + i) inT0 tyX0 tyX0_ok nmX0 g1 g2 g3 rfl 10 (by decide) hl rfl rfl rfl rfl rfl (Nat.le_of_ble_eq_true rfl) hd rfl (kk _ p1 p2 p3)
theorem v_onPage (hX : OX X cc nL own TT D CL (TY cI cB cZ cJ cN) A R) (hS : LayS cI ob td w c a al nl pf tl ph dom loc val) (hN : NodesI ob T n dom loc val) {i : Nat} (hi : i < n) {x : Int32} {index : Nat} (hl : Cond.fieldLink own index "ProsePages$Node" "onPage" "I" ∈ TT) (hd : decode cc pc = .ok (.putfield index, 3)) (kk : ∀ va, LayS cI ob td w c a al nl pf tl ph dom loc va → NodesI ob T n dom loc va → frN loc val loc va → V X D CL A dom loc va cells slots (pc + 3) lv st) : V X D CL A dom loc val cells slots pc lv (.int x :: .ref (ob (1000 + i)) :: st) := by
  obtain ⟨g1, g2, fr, to, at9, on, g3⟩ := hN.2 i hi
  obtain ⟨p1, p2, p3⟩ := node_put hS hN hi fr to at9 x
  exact v_putE hX (1000 + i) inT0 tyX0 tyX0_ok nmX0 g1 g2 g3 rfl 11 (by decide) hl rfl rfl rfl rfl rfl (Nat.le_of_ble_eq_true rfl) hd rfl (kk _ p1 p2 p3)
/-- how a method that lays nodes ends -/
abbrev PSn (cI : ClassId) (ob : Nat → Nat) (T : TR) (n td a nl pf tl ph : Nat) (dom : Nat → Prop) (loc : Nat → Nat) (val : Nat → va_E) : kT := fun rv d lo va kc ns => rv = none ∧ dom = d ∧ (∃ nl2 ph2, LayS cI ob td 0 0 a a nl2 pf tl ph2 dom lo va ∧ nl ≤ nl2 ∧ (ns + ph ≤ ph2 ∧ 16 * kc + ph ≤ ph2)) ∧ NodesI ob T n dom lo va ∧ frN loc val lo va
/-- layParts, k levels from the deepest -/
def KLP (l : Launch) (D : va_G) (A : Nat → Prop) (cI cB cZ cJ cN : ClassId) (ob : Nat → Nat) (T : TR) (n td pf tl : Nat) (dom : Nat → Prop) (k : Nat) : Prop := ∀ (loc : Nat → Nat) (val : Nat → va_E) (a nl ph wd i : Nat), LayS cI ob td 0 0 a a nl pf tl ph dom loc val → NodesI ob T n dom loc val → i < n → 13 ≤ tD T i + k → a + 12 * (12 - tD T i) ≤ 144 → 4 ≤ wd ∧ wd ≤ 60 → kM l y_S_layParts (Cond.code y_S_layParts b_S_layParts 7 none :: TT) (rmP (10 + 4 * k) ph) D CL (TY cI cB cZ cJ cN) A [.ref (ob 2), .ref (ob (1000 + i)), .int (nI wd)] dom loc val (PSn cI ob T n td a nl pf tl ph dom loc val)
end KLa0
