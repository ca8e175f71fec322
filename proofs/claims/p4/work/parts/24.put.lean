section KPt
variable {X : KX} {cc : ByteArray} {nL : Nat} {own : String} {R : Room} {D : va_G} {A : Nat → Prop} {cells slots pc : Nat} {lv : List (Option Value)} {st : List Value} {cI cB cZ cJ cN : ClassId} {ob : Nat → Nat} {td : Nat} {rs : RS} {sh : Nat → Int32 × Int32 × Int32} {dom : Nat → Prop} {loc : Nat → Nat} {val : Nat → va_E}
theorem v_putRows (hX : OX X cc nL own TT D CL (TY cI cB cZ cJ cN) A R) (hI : LayI cI ob td rs sh dom loc val) {t : Nat} (ht : t = 5 ∨ t = 30) {x : Int32} {index : Nat} (hk : Cond.fieldLink own index "ProsePages$Sheet" "rows" "I" ∈ TT) (hd : decode cc pc = .ok (.putfield index, 3)) (kk : ∀ va, LayI cI ob td rs (va_up sh t (x, (sh t).2.1, (sh t).2.2)) dom loc va → frL loc val loc va → V X D CL A dom loc va cells slots (pc + 3) lv st) : V X D CL A dom loc val cells slots pc lv (.int x :: .ref (ob t) :: st) := by
  obtain ⟨h1, h2, h3⟩ := hI.sheet ht
  obtain ⟨g1, g2⟩ := hI.put ht (x, (sh t).2.1, (sh t).2.2)
  exact v_putE hX t inT3 tyX3 tyX3_ok nmX3 h1 h2 h3 rfl 8 (by decide) hk rfl rfl rfl rfl rfl (Nat.le_of_ble_eq_true rfl) hd rfl (kk _ g1 g2)
theorem v_putCols (hX : OX X cc nL own TT D CL (TY cI cB cZ cJ cN) A R) (hI : LayI cI ob td rs sh dom loc val) {t : Nat} (ht : t = 5 ∨ t = 30) {x : Int32} {index : Nat} (hk : Cond.fieldLink own index "ProsePages$Sheet" "columns" "I" ∈ TT) (hd : decode cc pc = .ok (.putfield index, 3)) (kk : ∀ va, LayI cI ob td rs (va_up sh t ((sh t).1, x, (sh t).2.2)) dom loc va → frL loc val loc va → V X D CL A dom loc va cells slots (pc + 3) lv st) : V X D CL A dom loc val cells slots pc lv (.int x :: .ref (ob t) :: st) := by
  obtain ⟨h1, h2, h3⟩ := hI.sheet ht
  obtain ⟨g1, g2⟩ := hI.put ht ((sh t).1, x, (sh t).2.2)
  exact v_putE hX t inT3 tyX3 tyX3_ok nmX3 h1 h2 h3 rfl 9 (by decide) hk rfl rfl rfl rfl rfl (Nat.le_of_ble_eq_true rfl) hd rfl (kk _ g1 g2)
theorem v_putOvf (hX : OX X cc nL own TT D CL (TY cI cB cZ cJ cN) A R) (hI : LayI cI ob td rs sh dom loc val) {t : Nat} (ht : t = 5 ∨ t = 30) {x : Int32} {index : Nat} (hn : narrow .boolean (.int x) = .int x) (hfit : fits .boolean (.int x) = true) (hk : Cond.fieldLink own index "ProsePages$Sheet" "isOverfull" "Z" ∈ TT) (hd : decode cc pc = .ok (.putfield index, 3)) (kk : ∀ va, LayI cI ob td rs (va_up sh t ((sh t).1, (sh t).2.1, x)) dom loc va → frL loc val loc va → V X D CL A dom loc va cells slots (pc + 3) lv st) : V X D CL A dom loc val cells slots pc lv (.int x :: .ref (ob t) :: st) := by
  obtain ⟨h1, h2, h3⟩ := hI.sheet ht
  obtain ⟨g1, g2⟩ := hI.put ht ((sh t).1, (sh t).2.1, x)
  exact v_putE hX t inT3 tyX3 tyX3_ok nmX3 h1 h2 h3 rfl 10 (by decide) hk rfl rfl rfl hn hfit (Nat.le_of_ble_eq_true rfl) hd rfl (kk _ g1 g2)
end KPt
