section KLs
variable {cI cB cZ cJ cN : ClassId} {ob ob2 : Nat → Nat} {td ts : Nat} {rs : RS} {sh : Nat → Int32 × Int32 × Int32} {T : TR} {n ha ch : Nat} {hp : Int32} {C : CT} {M : TS} {O : OS} {dom dom2 : Nat → Prop} {loc lo : Nat → Nat} {val va : Nat → va_E}
theorem LayI.frM (h : LayI cI ob td rs sh dom loc val) (hf : frM val va) : LayI cI ob td rs sh dom loc va := by
  obtain ⟨⟨h1, hn⟩, h2, h3, h4, h5⟩ := h
  refine ⟨⟨fun j hj => ?_, hn⟩, ⟨h2.1, h2.2.1, (hf _ (by omega)).trans h2.2.2⟩, ⟨h3.1, h3.2.1, (hf _ (by omega)).trans h3.2.2⟩, ⟨h4.1, h4.2.1, (hf _ (by omega)).trans h4.2.2⟩, h5⟩
  obtain ⟨g1, g2, g3, g4, g5⟩ := h1 j hj
  have hin := RK_in j hj
  exact ⟨g1, g2, g3, g4.kept (hf _ (by omega)) rfl (hf _ (by omega)), g5⟩
theorem NodesI.frM (h : NodesI ob T n dom loc val) (hf : frM val va) : NodesI ob T n dom loc va := ⟨h.1, fun i hi => by
  obtain ⟨g1, g2, fr, to, at9, on, g3⟩ := h.2 i hi
  exact ⟨g1, g2, fr, to, at9, on, (hf _ (by omega)).trans g3⟩⟩
theorem DeskI.frM (h : DeskI cN ob n ha ch ts hp dom loc val) (hf : frM val va) : DeskI cN ob n ha ch ts hp dom loc va := by
  obtain ⟨⟨a1, a2, a3⟩, b1, b2, f, b3, b4⟩ := h
  exact ⟨⟨a1, a2, (hf 0 (by omega)).trans a3⟩, b1, b2, f, (hf 1 (by omega)).trans b3, b4⟩
theorem ModI.frC (h : ModI cI cB cZ ob C M O dom loc val) (hf : frC loc val lo va) (hob : ∀ k, k < 1000 → ob2 k = ob k) (hd : ∀ k, dom k → dom2 k) : ModI cI cB cZ ob2 C M O dom2 lo va := by
  obtain ⟨⟨a1, a2, a3⟩, h2⟩ := h
  have k0 := hf 48 (by omega) (by omega) (by omega)
  have e : mfs ob2 C M O = mfs ob C M O := by
    unfold mfs
    simp only [hob 49 (by omega), hob 50 (by omega), hob 51 (by omega), hob 52 (by omega), hob 53 (by omega), hob 54 (by omega), hob 55 (by omega), hob 56 (by omega), hob 57 (by omega), hob 58 (by omega), hob 59 (by omega), hob 60 (by omega), hob 61 (by omega), hob 62 (by omega), hob 63 (by omega), hob 64 (by omega), hob 65 (by omega), hob 66 (by omega), hob 67 (by omega), hob 68 (by omega), hob 69 (by omega), hob 70 (by omega), hob 71 (by omega), hob 72 (by omega), hob 73 (by omega), hob 74 (by omega), hob 75 (by omega)]
  refine ⟨⟨hd _ a1, by rw [k0.1, hob 48 (by omega)]; exact a2, by rw [k0.2, e]; exact a3⟩, fun j e9 he => ?_⟩
  have hj : j < 27 := (List.getElem?_eq_some_iff.mp he).1
  obtain ⟨g1, g2, g3⟩ := h2 j e9 he
  have kj := hf (49 + j) (by omega) (by omega) (by omega)
  exact ⟨hd _ g1, by rw [kj.1, hob (49 + j) (by omega)]; exact g2, kj.2.trans g3⟩
/-- the law's third thing: what class and reference are between two calls -/
def LI9 (cI cB cZ cJ cN : ClassId) (ob : Nat → Nat) (td ts : Nat) (rs : RS) (sh : Nat → Int32 × Int32 × Int32) (T : TR) (n ha ch : Nat) (hp : Int32) (C : CT) (M : TS) (O : OS) (dom : Nat → Prop) (loc : Nat → Nat) (val : Nat → va_E) : Prop :=
  (LayI cI ob td rs sh dom loc val ∧ NodesI ob T n dom loc val ∧ DeskI cN ob n ha ch ts hp dom loc val) ∧ (TreeI T n ∧ TreeU T n ∧ TreeF T n) ∧ (ha < n ∧ (ts = 5 ∨ ts = 30) ∧ Z4 rs ∧ (rs 3).1 ≤ ch + n ∧ ch ≤ 4000) ∧ (ModI cI cB cZ ob C M O dom loc val ∧ OI O ∧ TrI M ∧ TrX M) ∧ (dom 76 ∧ loc 76 = ob 76 ∧ ∃ f, val 76 = .inl (cJ, 1, .inr (.inl f))) ∧ Rel T M n ha ch
def LW9 (cI cB cZ cJ cN : ClassId) (a0 a48 a76 ph : Nat) (dom : Nat → Prop) (loc : Nat → Nat) (val : Nat → va_E) : Prop := ∃ ob td ts rs sh T n ha ch hp C M O, LI9 cI cB cZ cJ cN ob td ts rs sh T n ha ch hp C M O dom loc val ∧ (ob 0 = a0 ∧ ob 48 = a48 ∧ ob 76 = a76) ∧ Phi rs = ph
theorem LW9.phi {a0 a48 a76 ph : Nat} (h : LW9 cI cB cZ cJ cN a0 a48 a76 ph dom loc val) : ph ≤ 2663816 := by
  obtain ⟨ob, td, ts, rs, sh, T, n, ha, ch, hp, C, M, O, h1, -, e⟩ := h
  rw [← e]
  exact h1.1.1.1.phi
end KLs
theorem v_sld {X : KX} {D : va_G} {A : Nat → Prop} {b L : Nat} {sc : Nat → Int32} {dom : Nat → Prop} {loc : Nat → Nat} {val : Nat → va_E} {cells slots pc nL : Nat} {own : String} {R : Room} {cc : ByteArray} {tys : List (ClassId × FieldType)} {lv : List (Option Value)} {st : List Value} (hX : OX X cc nL own TT D CL tys A R) (hs : va_X b L sc (xs X) (xs X).heap ∧ b < (xs X).heap.size ∧ ¬ A b) {i v : Int32} (hin : vp_in i L) (hv : sc i.toNatClampNeg = v) (hd : decode cc pc = .ok (.iaload, 1)) (kk : V X D CL A dom loc val cells slots (pc + 1) lv (.int v :: st)) : V X D CL A dom loc val cells slots pc lv (.int i :: .ref b :: st) := fun H locs ls hW hS hl => by
  subst hv
  exact va_sld hX.1 hX.2.1 hs.1 hs.2.1 hs.2.2 hS hin hd (kk H locs ls hW hS hl)
theorem v_slen {X : KX} {D : va_G} {A : Nat → Prop} {b L : Nat} {sc : Nat → Int32} {dom : Nat → Prop} {loc : Nat → Nat} {val : Nat → va_E} {cells slots pc nL : Nat} {own : String} {R : Room} {cc : ByteArray} {tys : List (ClassId × FieldType)} {lv : List (Option Value)} {st : List Value} (hX : OX X cc nL own TT D CL tys A R) (hs : va_X b L sc (xs X) (xs X).heap ∧ b < (xs X).heap.size ∧ ¬ A b) (hd : decode cc pc = .ok (.arraylength, 1)) (kk : V X D CL A dom loc val cells slots (pc + 1) lv (.int (Int32.ofNat L) :: st)) : V X D CL A dom loc val cells slots pc lv (.ref b :: st) := fun H locs ls hW hS hl => va_slen hX.1 hX.2.1 hs.1 hs.2.1 hs.2.2 hS hd (kk H locs ls hW hS hl)
theorem v_snI {X : KX} {D : va_G} {A : Nat → Prop} {b L : Nat} {sc : Nat → Int32} {dom : Nat → Prop} {loc : Nat → Nat} {val : Nat → va_E} {cells slots pc nL : Nat} {own : String} {R : Room} {cc : ByteArray} {tys : List (ClassId × FieldType)} {lv : List (Option Value)} {st : List Value} (hX : OX X cc nL own TT D CL tys A R) (hs : va_X b L sc (xs X) (xs X).heap ∧ b < (xs X).heap.size ∧ ¬ A b) {i : Nat} (hi : i < L) (hL : L ≤ 3072) (hd : decode cc pc = .ok (.iaload, 1)) (kk : V X D CL A dom loc val cells slots (pc + 1) lv (.int (sc i) :: st)) : V X D CL A dom loc val cells slots pc lv (.int (nI i) :: .ref b :: st) := v_sld hX hs (vp_in_nI hi (by omega)) (congrArg sc (nI_clamp (by omega))) hd kk
