section KD0
/-- the desk: the array of its nodes, the hand, what is counted; ts: the shown sheet's key -/
def DeskI (cN : ClassId) (ob : Nat → Nat) (n ha ch ts : Nat) (hp : Int32) (dom : Nat → Prop) (loc : Nat → Nat) (val : Nat → va_E) : Prop :=
  (dom 0 ∧ loc 0 = ob 0 ∧ val 0 = .inr (4, [.ref (ob 1), .ref (ob 2), .ref (ob (1000 + 0)), .ref (ob (1000 + ha)), .int (nI n), .int (nI ch), .ref (ob ts), .int hp])) ∧ (dom 1 ∧ loc 1 = ob 1 ∧ ∃ f : Nat → Option Nat, val 1 = .inl (cN, 300, .inr (.inr (.inr (.inr f)))) ∧ ∀ i, i < n → f i = some (ob (1000 + i)))
/-- holders have lower numbers, the last that a node holds a higher one -/
def TreeU (T : TR) (n : Nat) : Prop := (∀ i j, i < n → tU T i = some j → j < i) ∧ (∀ i j, i < n → tL T i = some j → i < j ∧ j < n)
variable {cI cN : ClassId} {ob : Nat → Nat} {td : Nat} {rs : RS} {sh : Nat → Int32 × Int32 × Int32} {T : TR} {n ha ch ts : Nat} {hp : Int32} {dom : Nat → Prop} {loc lo : Nat → Nat} {val va : Nat → va_E}
theorem LayI.oth (h : LayI cI ob td rs sh dom loc val) {k : Nat} (hk : k < 2 ∨ 46 < k) (e : va_E) : LayI cI ob td rs sh dom loc (va_up val k e) := by
  obtain ⟨⟨h1, hn⟩, h2, h3, h4, h5⟩ := h
  refine ⟨⟨fun j hj => ?_, hn⟩, ⟨h2.1, h2.2.1, kup_ne (by omega) h2.2.2⟩, ⟨h3.1, h3.2.1, kup_ne (by omega) h3.2.2⟩, ⟨h4.1, h4.2.1, kup_ne (by omega) h4.2.2⟩, h5⟩
  obtain ⟨g1, g2, g3, g4, g5⟩ := h1 j hj
  have hin := RK_in j hj
  exact ⟨g1, g2, g3, g4.kept (va_up_ne _ _ (by omega)) rfl (va_up_ne _ _ (by omega)), g5⟩
theorem NodesI.oth (h : NodesI ob T n dom loc val) {k : Nat} (hk : k < 1000) (e : va_E) : NodesI ob T n dom loc (va_up val k e) := ⟨h.1, fun i hi => by
  obtain ⟨g1, g2, fr, to, at9, on, g3⟩ := h.2 i hi
  exact ⟨g1, g2, fr, to, at9, on, kup_ne (by omega) g3⟩⟩
theorem DeskI.frL (h : DeskI cN ob n ha ch ts hp dom loc val) (hf : frL loc val lo va) : DeskI cN ob n ha ch ts hp dom lo va := by
  obtain ⟨⟨a1, a2, a3⟩, b1, b2, f, b3, b4⟩ := h
  have k0 := hf 0 (by omega) (by omega)
  have k1 := hf 1 (by omega) (by omega)
  exact ⟨⟨a1, k0.1.trans a2, k0.2.trans a3⟩, b1, k1.1.trans b2, f, k1.2.trans b3, b4⟩
theorem DeskI.frN (h : DeskI cN ob n ha ch ts hp dom loc val) (hf : frN loc val lo va) : DeskI cN ob n ha ch ts hp dom lo va := by
  obtain ⟨⟨a1, a2, a3⟩, b1, b2, f, b3, b4⟩ := h
  have k0 := hf 0 (by omega) (by omega) (by omega)
  have k1 := hf 1 (by omega) (by omega) (by omega)
  exact ⟨⟨a1, k0.1.trans a2, k0.2.trans a3⟩, b1, k1.1.trans b2, f, k1.2.trans b3, b4⟩
/-- the desk's own fields change -/
theorem DeskI.put (h : DeskI cN ob n ha ch ts hp dom loc val) {n2 ha2 ch2 ts2 : Nat} {hp2 : Int32} (hn : n2 ≤ n) {e : va_E} (he : e = .inr (4, [.ref (ob 1), .ref (ob 2), .ref (ob (1000 + 0)), .ref (ob (1000 + ha2)), .int (nI n2), .int (nI ch2), .ref (ob ts2), .int hp2])) : DeskI cN ob n2 ha2 ch2 ts2 hp2 dom loc (va_up val 0 e) := by
  subst he
  obtain ⟨⟨a1, a2, a3⟩, b1, b2, f, b3, b4⟩ := h
  exact ⟨⟨a1, a2, va_up_self _ _ _⟩, b1, b2, f, kup_ne (by omega) b3, fun i hi => b4 i (by omega)⟩
/-- all but the class's own things is as it was -/
def frC (loc : Nat → Nat) (val : Nat → va_E) (lo : Nat → Nat) (va : Nat → va_E) : Prop := ∀ k, 46 < k → k ≠ 2000 → ¬ (1000 ≤ k ∧ k < 1300) → lo k = loc k ∧ va k = val k
theorem frC.rf : frC loc val loc val := fun _ _ _ _ => ⟨rfl, rfl⟩
theorem frC.trans {l2 l3 : Nat → Nat} {v2 v3 : Nat → va_E} (h : frC loc val l2 v2) (h2 : frC l2 v2 l3 v3) : frC loc val l3 v3 := fun k x y z => ⟨(h2 k x y z).1.trans (h k x y z).1, (h2 k x y z).2.trans (h k x y z).2⟩
theorem frN.toC (h : frN loc val lo va) : frC loc val lo va := fun k x y z => h k (by omega) y z
theorem frL.toC (h : frL loc val lo va) : frC loc val lo va := fun k x y _ => h k (by omega) y
theorem frC_up {k : Nat} (hk : k ≤ 46) (e : va_E) : frC loc val loc (va_up val k e) := fun j x _ _ => ⟨rfl, va_up_ne _ _ (by omega)⟩
variable {X : KX} {cc : ByteArray} {nL : Nat} {own : String} {R : Room} {D : va_G} {A : Nat → Prop} {cells slots pc : Nat} {lv : List (Option Value)} {st : List Value} {cB cZ cJ : ClassId}
theorem v_nodeAld (hX : OX X cc nL own TT D CL (TY cI cB cZ cJ cN) A R) (hD : DeskI cN ob n ha ch ts hp dom loc val) {i : Nat} (hi : i < n) (hn : n ≤ 300) (hd : decode cc pc = .ok (.aaload, 1)) (kk : V X D CL A dom loc val cells slots (pc + 1) lv (.ref (ob (1000 + i)) :: st)) : V X D CL A dom loc val cells slots pc lv (.int (nI i) :: .ref (ob 1) :: st) := by
  obtain ⟨-, b1, b2, f, b3, b4⟩ := hD
  exact v_aldr hX 1 4 b1 b2 b3 rfl (vp_in_nI (by omega) (by omega)) (by rw [nI_clamp (by omega)]; exact b4 i hi) hd kk
theorem v_nodeAlen (hX : OX X cc nL own TT D CL (TY cI cB cZ cJ cN) A R) (hD : DeskI cN ob n ha ch ts hp dom loc val) (hd : decode cc pc = .ok (.arraylength, 1)) (kk : V X D CL A dom loc val cells slots (pc + 1) lv (.int 300 :: st)) : V X D CL A dom loc val cells slots pc lv (.ref (ob 1) :: st) := by
  obtain ⟨-, b1, b2, f, b3, b4⟩ := hD
  exact v_alen hX 1 4 b1 b2 b3 rfl rfl hd kk
end KD0
