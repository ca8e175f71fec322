section KT
variable {l : Launch} {D : va_G} {cl : List vw_C} {tys : List (ClassId × FieldType)} {A : Nat → Prop} {dom : Nat → Prop} {loc : Nat → Nat} {val : Nat → va_E} {cc : ByteArray}
theorem KW.keep {H H1 : Heap} (hW : KW D cl A dom loc val H) (h : ∀ q : Nat, q < H.size → H1[q]? = H[q]?) : KW D cl A dom loc val H1 := by
  obtain ⟨ks, h1, hP, hD⟩ := hW
  exact ⟨ks, h1, hP.kept (fun i x hx => h x.1 ((hP i x hx).lt)), hD⟩
theorem nf_args {w : Cond} (hw : w ∈ nfw) {U : State} (h : w.before #[] U = true) (a : Array Value) : w.before a U = true := by
  simp only [nfw, List.mem_cons, List.not_mem_nil, or_false] at hw
  rcases hw with rfl | rfl | rfl | rfl | rfl | rfl | rfl | rfl | rfl | rfl | rfl | rfl | rfl | rfl | rfl | rfl | rfl | rfl <;> exact h
variable {X : KX} {nL : Nat} {own : String} {R : Room} {cells slots pc : Nat} {lv : List (Option Value)} {st : List Value}
/-- throw new E("text"): new, dup, ldc, invokespecial, athrow, out of the method -/
theorem v_throw (hX : OX X cc nL own TT D cl tys A R) (hemp : (xc X).exceptionTable.isEmpty = true) {E text : String} {names : List String} {ik is ic mc ms : Nat} (hQ : XT X D cl A dom loc val E mc ms) (hl : X.2.1.stackTraces = false) (hcls : Bundle.fit E = true) (hnames : ∀ n ∈ names, Bundle.fit n = true)
    (hk : Cond.classLink own ik E ∈ TT) (hi : Cond.initialized E ∈ TT) (hown : own = "ProsePages") (hstr : (is, text) ∈ nfs) (hat : ∀ w ∈ Bundle.ownAtoms own ic E names, w ∈ TT ∨ w ∈ nfw)
    (d0 : decode cc pc = .ok (.new ik, 3)) (d3 : decode cc (pc + 3) = .ok (.dup, 1)) (d4 : decode cc (pc + 4) = .ok (.ldc is, 2)) (d6 : decode cc (pc + 6) = .ok (.invokespecial ic, 3)) (d9 : decode cc (pc + 9) = .ok (.athrow, 1))
    (hRf : names.length + 3 < R.frames) (hRl : 8 + (13 * (names.length + 1) + 43) ≤ R.locals) (hRc : cells + 1 ≤ R.cells) (hRs : slots + 6 ≤ R.slots) (hlv : lv.length = nL) (hst : (st.map fun v => v.category).sum ≤ 8) (hc : cells + 1 ≤ mc) (hs : slots + 6 ≤ ms) : V X D cl A dom loc val cells slots pc lv st := by
  obtain ⟨p, l, e, R2, s, m, args, below, meth, c, Q⟩ := X
  intro H locs ls hW hS hlh T hT Z
  obtain ⟨hx, hb, hml, ho, hts, hK, hA, hlocks, hR2, hN⟩ := hX
  dsimp only [xR, xs, xm, xa, xb, xM, xc, xQ] at hQ hl hemp hx hb hml ho hts hK hA hlocks hR2 hN hS Z ⊢
  subst hR2
  have htr : e.platform.stackTraces = false := (show e.platform.stackTraces = l.stackTraces by rw [Z.admits.platform]).trans hl
  have Y := k_here Z (R' := { frames := R2.frames, locals := R2.locals, cells := 1, slots := 6 }) (Nat.le_refl _) (Nat.le_refl _) hRc hRs
  obtain ⟨s', hs'⟩ : ∃ z, z = (T.setVm s.vm).setFrames (.invoking m args :: below) := ⟨_, rfl⟩
  rw [← hs'] at Y
  have hvm : s'.vm = s.vm := by rw [hs']; rfl
  have hhp : s'.heap = H := by rw [hs']; exact hT
  have hW0 : s.WarmedH s'.vm := by rw [hvm]; exact State.WarmedH.refl s
  have hNF : NF s' := hN s' hW0 (fun q h1 h2 => by rw [hhp]; exact hS.2.1 q h1 h2)
  have hgood : ∀ w ∈ TT, w.before args s' = true := fun w hw => word_at hW0 (good_of_word (List.mem_filter.mp hw).2) (hts w hw)
  have hatoms : ∀ w ∈ Bundle.ownAtoms own ic E names, w.before args s' = true := fun w hw => (hat w hw).elim (hgood w) (fun h => nf_args h (hNF.1 w h) args)
  have hown' : s'.vm.findClass own = some m.cls := by rw [hvm]; exact ho
  have hins : (Cond.instantiable E 6).before args s' = true := hatoms _ (by simp [Bundle.ownAtoms])
  obtain ⟨sa, hsa⟩ := hNF.2.2 _ hstr
  rw [← hown] at hsa
  obtain ⟨vm₁, cX, kX, hfX, hkX, -, -, X₁, st1⟩ := Y.newCold hx (own := own) (C := E) (index := ik) (n := 6) hown' (hgood _ hk) hins (hgood _ hi) (g := F0 m pc ls st) rfl (by rw [hb]; exact d0) (Nat.le_refl _) (Nat.le_refl _)
  generalize hT1 : (T.setVm vm₁).pushCell { cls := cX, slots := kX.instanceTypes.map defaultValue, vm := .none } = T1 at X₁ st1
  have hcellA : T1.heap[T.heap.size]? = some (freshCell cX kX) := by rw [← hT1]; exact State.heap_pushCell_size _ _
  have hemp2 : ∀ x ∈ c.exceptionTable.toList, covers x (pc + 9) = false := fun x hx9 => by
    have h0 : c.exceptionTable = #[] := by simpa using hemp
    rw [h0] at hx9
    simp at hx9
  have hcat : (Value.ref T.heap.size).category = 1 := rfl
  have hsz : ls.size = c.maxLocals := by rw [hml]; exact hlh.1.trans hlv
  obtain ⟨U, hsteps, hrun, hend, hWU, hsame, ce, hce, hO⟩ := X₁.ctorThrowS hx htr (own := own) (cls := E) (names := names) (ic := ic) hown' hcls hnames hatoms (fun x hx9 => nomatch hx9) hfX hkX hcellA (by rw [hhp, hT]; exact Nat.le_refl _) (msg := .ref sa) rfl
    (g := { method := m, pc := pc + 6, locals := ls, stack := .ref sa :: .ref T.heap.size :: .ref T.heap.size :: st, locked := none }) rfl hsz rfl rfl (rest := st) rfl (by rw [hb]; exact d6) (by rw [hb]; exact d9) hemp2 hRf (by
      simp only [List.map_cons, List.sum_cons, hcat]
      show 2 * 0 + _ + _ ≤ R2.locals
      omega) hlocks
  have hsame2 := hsame
  obtain ⟨e1, f1, f3, f4, f5, f6⟩ := hsame2
  have hU1 : H.size ≤ U.heap.size := by rw [hhp] at f1; exact f1
  have hU2 : ∀ q : Nat, q < H.size → U.heap[q]? = H[q]? := fun q hq => by
    have hq2 : q < s'.heap.size := by rw [hhp]; exact hq
    obtain ⟨c', g1, g2, g3, g4⟩ := f6 q _ (Array.getElem?_eq_getElem hq2)
    have hsl : c'.slots = (s'.heap[q]).slots := by
      apply Array.ext_getElem?
      intro i
      exact g4 i (fun h => nomatch h)
    have hcc : c' = s'.heap[q] := by rw [g2, hsl]
    have g5 : U.heap[q]? = some c' := g1
    have g6 : s'.heap[q]? = H[q]? := by rw [hhp]
    rw [g5, hcc, ← g6, Array.getElem?_eq_getElem hq2]
  have hall : s.sameButNew ({ U with vm := s.vm } : State) locs mc ms := by
    subst hs'
    rw [State.setFrames_setFrames] at e1
    have h2 : (T.setVm s.vm).sameButNew ({ U with vm := s.vm } : State) [] (0 + 1) (0 + 6) := ⟨e1, f1, f3, f4, f5, f6⟩
    have h3 := Z.same.trans h2
    rw [List.append_nil] at h3
    exact h3.mono hc hs
  refine ⟨U, ?_, hQ U ⟨.threw T.heap.size, hrun, hend, T.heap.size, ce, locs, rfl, hW.keep hU2, ⟨Nat.le_trans hS.1 hU1, fun q h1 h2 => (hU2 q (Nat.lt_of_lt_of_le h1 hS.1)).trans (hS.2.1 q h1 h2)⟩, hce, hO.vm, ?_, State.WarmedH.trans hW0 hWU, hall, hS.2.2⟩⟩
  · refine st1 _ ?_
    show Steps p.tables e below (T1.setTop { method := m, pc := pc + 3, locals := ls, stack := .ref T.heap.size :: st, locked := none }) _
    have d3' : decode c.code (pc + 3) = .ok (.dup, 1) := by rw [hb]; exact d3
    have d4' : decode c.code (pc + 4) = .ok (.ldc is, 2) := by rw [hb]; exact d4
    jvm_step X₁.here [X₁.here.top, hx, d3', Value.category]
    exact X₁.ldcString hx (own := own) (text := text) (index := is) (a := sa) hown' hsa.1 hsa.2 (g := { method := m, pc := pc + 4, locals := ls, stack := .ref T.heap.size :: .ref T.heap.size :: st, locked := none }) rfl d4' _ hsteps
  · have h9 := hO.cls
    rw [hvm] at h9
    exact h9
end KT
