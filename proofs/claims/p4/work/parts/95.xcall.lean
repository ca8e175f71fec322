section KX1
variable {l : Launch} {D : va_G} {cl : List vw_C} {tys : List (ClassId × FieldType)} {A : Nat → Prop} {dom : Nat → Prop} {loc : Nat → Nat} {val : Nat → va_E} {Post : kT} {cc : ByteArray}
/-- the callee throws: the walk stands over the caller's frame with the note of the throw -/
theorem x_threw {p : Program} {e : Env} {R rm : Room} {s U : State} {m mk : MethodId} {args : Array Value} {below : List Frame} {meth : Method} {c : Code} {locs : List Loc} {cells slots : Nat} {y : MethodName} {bytes : ByteArray} {maxL : Nat} {ret : Option FieldType} {av : List Value} {E : String} {g : JFrame} {ig : Instr}
    (hM : kMT l y (Cond.code y bytes maxL ret :: TT) rm D cl tys A av dom loc val E) (Z : Stand p l e R s m args below meth c U locs cells slots) (hg : g.method = m) (hsize : g.locals.size = c.maxLocals) (hdg : decode c.code g.pc = .ok (ig, 3)) (hroom : 2 * g.monitorRoom + (g.stack.map fun v => v.category).sum ≤ 8) (hn : U.methodNamed? y = some mk)
    (hts : ∀ w ∈ TT, w.before args s = true) (k5 : Cond.code y bytes maxL ret ∈ TT) (k4 : Cond.initialized y.cls ∈ TT) (hR : KRm rm maxL R) (hf : cells + rm.cells ≤ R.cells ∧ slots + rm.slots ≤ R.slots) (hP : kP D cl tys A av dom loc val av.toArray U) :
    ∃ (q : Addr) (ce : Cell) (T' : State) (L : List Loc), Stand p l e R s m args below meth c T' (locs ++ L) (cells + rm.cells) (slots + rm.slots) ∧ KW D cl A dom loc val T'.heap ∧ va_F A U T' ∧ T'.heap[q]? = some ce ∧ ce.vm = .none ∧ U.vm.findClass E = some ce.cls ∧ (∀ z ∈ L, A z.base) ∧
      Steps p.tables e below (doInvoke e (U.setTop g) [] mk av.toArray).1 ((T'.setTop g).pushFrame (.throwing q)) := by
  have hg1 : ∀ w ∈ TT, w.before av.toArray U = true := fun w hw => word_at Z.warmed (good_of_word (List.mem_filter.mp hw).2) (hts w hw)
  have h1 : (headSpec (Cond.code y bytes maxL ret :: TT) rm).pre.before av.toArray U = true := atoms_intro fun w hw => (List.mem_cons.mp hw).elim (fun z => z ▸ hg1 _ k5) (hg1 w)
  obtain ⟨methY, cY, hmY, hcY, -, hlY, -, -, -, -⟩ := Cond.code_spec hn (hg1 _ k5)
  obtain ⟨kY, hkY, -⟩ := className_of_methodNamed hn
  have hinitY : kY.init = .initialized := Cond.initialized_spec (findClass_of_methodNamed hn) hkY (hg1 _ k4)
  have h : At U g.method c below := by rw [hg]; exact Z.here
  have happ : (headSpec (Cond.code y bytes maxL ret :: TT) rm).appliesLoose y e.platform (U.calling g mk av.toArray) = true :=
    Spec.appliesLoose_calling (g := g) h hdg hn hkY hinitY (Z.room_calling (g := g) (R' := rm) hsize hmY hcY hR.1 (by have := hR.2; rw [hlY]; omega) hf.1 hf.2) h1
  obtain ⟨mid, hmid⟩ := h.above
  have hfr : (U.setTop g).frames = (.java g :: mid) ++ below := by rw [State.frames_setTop' g h.top, hmid]; rfl
  obtain ⟨oc, s₂, hsteps, -, hend, q, ce, L, rfl, hKW, hF, hce, hcv, hcl, hW₂, hsm, hL⟩ := Steps.callFree hM p Z.admits Z.cas Z.clock (acts := []) hfr happ (kP.blind _ _ g mk hP) trivial
  rw [State.frames_setTop' g h.top] at hend
  obtain ⟨g₀, hg0⟩ := Option.isSome_iff_exists.mp h.top
  obtain ⟨r, hr⟩ := State.topJava?_eq_some.mp hg0
  obtain ⟨e2, q2, q3, q4, q5, q6⟩ := id hsm
  have hr' : (({ U with heap := s₂.heap, slotsUsed := s₂.slotsUsed } : State).setVm s₂.vm).frames = .java g₀ :: r := hr
  have e3 : s₂ = ({ (U.calling g mk av.toArray).setFrames s₂.frames with heap := s₂.heap, slotsUsed := s₂.slotsUsed } : State).setVm s₂.vm := by
    have hz : s₂ = ({ s₂ with vm := (U.calling g mk av.toArray).vm } : State).setVm s₂.vm := rfl
    exact hz.trans (congrArg (fun z : State => z.setVm s₂.vm) e2)
  have hf₂ : s₂.frames = .throwing q :: .java g :: U.frames.tail := hend
  have hW' : U.WarmedH s₂.vm := hW₂
  have hs₂ : s₂ = ((({ U with heap := s₂.heap, slotsUsed := s₂.slotsUsed } : State).setVm s₂.vm).setTop g).pushFrame (.throwing q) := by
    refine e3.trans ?_
    rw [hf₂, State.calling_eq h.top, State.setFrames_setFrames, State.pushFrame, State.frames_setTop _ hr', State.setTop_of_frames _ hr', State.setFrames_setFrames, hr]
    rfl
  have hsame : U.sameButNew ({ U with heap := s₂.heap, slotsUsed := s₂.slotsUsed } : State) L rm.cells rm.slots := by
    refine ⟨?_, q2, q3, q4, q5, q6⟩
    obtain ⟨t, ht, -⟩ := State.frames_cons hr
    show ({ U with heap := s₂.heap, slotsUsed := s₂.slotsUsed } : State) = { U.setFrames U.frames with heap := s₂.heap, slotsUsed := s₂.slotsUsed }
    rw [State.setFrames_self ht]
  refine ⟨q, ce, (({ U with heap := s₂.heap, slotsUsed := s₂.slotsUsed } : State).setVm s₂.vm), L, ?_, hKW, hF, hce, hcv, hcl, hL, ?_⟩
  · subst hg
    exact { Z with
      here := (Z.here.setHeapUsed s₂.heap s₂.slotsUsed).setVm hW'.alike
      tail := Z.tail
      warmed := State.WarmedH.trans Z.warmed hW'
      limits := Z.limits
      bytes := Z.bytes
      same := Z.same.trans (hsame.setVm s.vm) }
  · show Steps p.tables e below _ (((({ U with heap := s₂.heap, slotsUsed := s₂.slotsUsed } : State).setVm s₂.vm).setTop g).pushFrame (.throwing q))
    rw [← hs₂]
    exact hsteps
variable {X : KX} {nL : Nat} {own : String} {R : Room} {cells slots pc : Nat} {lv : List (Option Value)}
/-- how the table of this method takes an E thrown at pc: at the handler hp -/
def xCatch (X : KX) (own E : String) (pc hp : Nat) : Prop := ∀ (S : State) (f : JFrame) (a : Addr) (cell : Cell), (xs X).WarmedH S.vm → f.method = xm X → f.pc = pc → S.vm.method? (xm X) = some (xM X) → (xM X).code = some (xc X) → S.heap[a]? = some cell → cell.vm = .none → (xs X).vm.findClass E = some cell.cls → X.2.2.1.platform.magicAccessors = ({} : Platform).magicAccessors →
  ∃ vm', (xs X).WarmedH vm' ∧ xF X.2.2.1 S f a hp vm'
/-- invokevirtual of a method that throws, caught here -/
theorem c_VT (hX : OX X cc nL own TT D cl tys A R) (j : Nat) {y : MethodName} {rm : Room} {bytes : ByteArray} {maxL n index ci hp : Nat} {ret : Option FieldType} {C E : String} {T : u_T} {N : Nat} {fs : List Value} {a : Nat} {As rest st0 : List Value} (hl9 : X.2.1 = l) (hM : kMT l y (Cond.code y bytes maxL ret :: TT) rm D cl tys A (.ref a :: As) dom loc val E) (hcat : xCatch X own E pc hp)
    (k1 : Cond.methodLink own index y ∈ TT) (k2 : Cond.instanceMethod y ∈ TT) (k3 : Cond.selects C y y ∈ TT) (k4 : Cond.initialized y.cls ∈ TT) (k5 : Cond.code y bytes maxL ret ∈ TT) (hq : KQd y n) (hR : KRm rm maxL R)
    (hj : dom j) (ha : loc j = a) (he : val j = .inr (ci, fs)) (hc : cl[ci]? = some (C, T, N)) (hn : As.length = n) (hlv : lv.length = nL) (hst : As.reverse ++ .ref a :: rest = st0) (hroom : (rest.map fun v => v.category).sum ≤ 8) (hd : decode cc pc = .ok (.invokevirtual index, 3)) (hf : cells + rm.cells ≤ R.cells ∧ slots + rm.slots ≤ R.slots)
    (kk : ∀ q : Nat, V X D cl A dom loc val (cells + rm.cells) (slots + rm.slots) hp lv [.ref q]) : V X D cl A dom loc val cells slots pc lv st0 := by
  subst hst
  subst ha
  subst hl9
  intro H locs ls hW hS hlh T0 hT Z
  have hX0 := hX
  obtain ⟨hx, hb, hml, ho, hts, hK, hA, hlocks, hR2, hN⟩ := hX
  obtain ⟨cellB, hcB, hoB, hclB⟩ := k_recv hX0 hW hj he hc
  have hlink := hts _ k1
  obtain ⟨mk, methM, hnamed, hmethM, hstM, habM⟩ := Cond.instanceMethod_spec (hts _ k2)
  obtain ⟨methM', cM, hmethM', -, -, -, -, -, -, hsigM⟩ := Cond.code_spec hnamed (hts _ k5)
  cases hmethM.symm.trans hmethM'
  obtain ⟨c2, r2, m2, q1, q2, q3, q4, kP9, hkP, hkPi⟩ := Cond.selects_spec (hts _ k3)
  cases hclB.symm.trans q1
  cases (State.methodFound?_of_named hnamed ⟨hq.1, hq.2.1⟩).symm.trans q2
  cases hnamed.symm.trans q3
  have hselP : selectMethod X.2.2.1.platform (xs X).vm cellB.cls mk = .method mk := by rw [Launch.admits_selectMethod Z.admits]; exact q4
  have hpar : As.length = methM.sig.parameters.length := by
    have h2 := hq.2.2
    rw [hsigM] at h2
    exact hn.trans (Option.some.inj h2).symm
  obtain ⟨vm₁, X₁, hstep₁⟩ := Z.invokevirtual hx ho hlink hnamed hmethM hstM hkP hkPi ⟨hq.1, hq.2.1⟩ (a := loc j) (cell := cellB) (by rw [hT]; exact hcB)
    (fun z h => by rw [h] at hoB; cases hoB) hselP hmethM habM hkP hkPi (g := F0 (xm X) pc ls (As.reverse ++ .ref (loc j) :: rest)) rfl (argsL := As) (rest := rest) hpar rfl (by rw [hb]; exact hd)
  have hsz : ls.size = (xc X).maxLocals := by rw [hml]; exact hlh.1.trans hlv
  have hU : (T0.setVm vm₁).heap = H := hT
  obtain ⟨q, ce, T', L, X', hKW, hF, hce, hcv, hcl, hL, hsteps⟩ := x_threw (g := F0 (xm X) pc ls rest) (ig := .invokevirtual index) hM X₁ rfl hsz (by rw [hb]; exact hd) (by show 2 * 0 + (rest.map fun v => v.category).sum ≤ 8; omega) (X₁.named hnamed) hts k5 k4 (by rw [hR2]; exact hR) (by rw [hR2]; exact hf) (k_pre hX0 hW hS _ hU X₁.warmed)
  have hpl : X.2.2.1.platform.magicAccessors = ({} : Platform).magicAccessors := by rw [Z.admits.platform]
  have hclE : (xs X).vm.findClass E = some ce.cls := by
    rw [← X₁.warmed.alike.findClass]
    exact hcl
  have hheap : ((T'.setTop (F0 (xm X) pc ls rest)).pushFrame (.throwing q)).heap = T'.heap := Stand.throwing_heap _ _ _
  have hvm9 : ((T'.setTop (F0 (xm X) pc ls rest)).pushFrame (.throwing q)).vm = T'.vm := Stand.throwing_vm _ _ _
  obtain ⟨vm', hW', hfind⟩ := hcat ((T'.setTop (F0 (xm X) pc ls rest)).pushFrame (.throwing q)) (F0 (xm X) pc ls rest) q ce (by rw [hvm9]; exact X'.warmed) rfl rfl (by rw [hvm9]; exact X'.method') X'.code (by rw [hheap]; exact hce) hcv hclE hpl
  have hF1 := hF.1
  have hF2 := hF.2
  rw [hU] at hF1 hF2
  obtain ⟨t, a1, b1⟩ := kk q T'.heap (locs ++ L) ls hKW ⟨Nat.le_trans hS.1 hF1, fun q9 h1 h2 => (hF2 q9 (Nat.lt_of_lt_of_le h1 hS.1) h2).trans (hS.2.1 q9 h1 h2), fun z hz => (List.mem_append.mp hz).elim (hS.2.2 z) (hL z)⟩ hlh (T'.setVm vm') rfl (X'.noted hW')
  refine ⟨t, hstep₁ _ fun acts => ?_, b1⟩
  rw [doInvoke_state]
  exact hsteps.trans (x_step (g := F0 (xm X) pc ls rest) X'.here hfind a1)
/-- two handlers, the first takes it -/
theorem xCatch1 (hX : OX X cc nL own TT D cl tys A R) {a1 b1 h1 t1 a2 b2 h2 t2 : Nat} {E N1 : String} (ht : xTab (xc X) [(a1, b1, h1, t1), (a2, b2, h2, t2)]) (hcov : (decide (a1 ≤ pc) && decide (pc < b1)) = true) (h0 : t1 ≠ 0) (hk : Cond.classLink own t1 N1 ∈ TT) (hcast : (Cond.castable E N1).before (xa X) (xs X) = true) : xCatch X own E pc h1 := by
  intro S f a cell hW hfm hfp hm hc hcell hv hcl hpl
  obtain ⟨c3, c4, g3, g4, hasg⟩ := Cond.castable_spec hcast
  cases Option.some.inj (g3.symm.trans hcl)
  obtain ⟨c5, g5, hcl5⟩ := Cond.classLink_spec hX.2.2.2.1 (hX.2.2.2.2.1 _ hk) X.2.2.1.platform hpl
  cases Option.some.inj (g4.symm.trans g5)
  unfold xTab at ht
  cases hL : (xc X).exceptionTable.toList with
  | nil => rw [hL] at ht; cases ht
  | cons x t =>
    rw [hL] at ht
    simp only [List.map_cons, List.cons.injEq, Prod.mk.injEq] at ht
    obtain ⟨⟨e1, e2, e3, e4⟩, -⟩ := ht
    obtain ⟨k0, hk0, -⟩ := Vm.findClass_spec hcl
    obtain ⟨k0', hk0', -⟩ := hW.alike.2.2 _ _ hk0
    rw [← e3]
    refine x_find1 (by rw [hfm]; exact hm) hc hL hW hcell (fun z h => by rw [hv] at h; cases h) ⟨k0', hk0'⟩ (by rw [hfp]; show (decide (x.startPc ≤ pc) && decide (pc < x.endPc)) = true; rw [e1, e2]; exact hcov) (by rw [e4]; exact h0) (by rw [hfm, e4]; exact hcl5) hasg
/-- two handlers, the second takes it -/
theorem xCatch2 (hX : OX X cc nL own TT D cl tys A R) {a1 b1 h1 t1 a2 b2 h2 t2 : Nat} {E N1 N2 : String} (ht : xTab (xc X) [(a1, b1, h1, t1), (a2, b2, h2, t2)]) (hcov : (decide (a1 ≤ pc) && decide (pc < b1)) = true) (h0 : t1 ≠ 0) (hk : Cond.classLink own t1 N1 ∈ TT) (hno : (Cond.not (.castable E N1)).before (xa X) (xs X) = true)
    (hcov2 : (decide (a2 ≤ pc) && decide (pc < b2)) = true) (h02 : t2 ≠ 0) (hk2 : Cond.classLink own t2 N2 ∈ TT) (hcast : (Cond.castable E N2).before (xa X) (xs X) = true) : xCatch X own E pc h2 := by
  intro S f a cell hW hfm hfp hm hc hcell hv hcl hpl
  obtain ⟨c3, c4, g3, g4, hasg⟩ := Cond.castable_spec hcast
  cases Option.some.inj (g3.symm.trans hcl)
  obtain ⟨c5, g5, hcl5⟩ := Cond.classLink_spec hX.2.2.2.1 (hX.2.2.2.2.1 _ hk2) X.2.2.1.platform hpl
  cases Option.some.inj (g4.symm.trans g5)
  obtain ⟨c6, g6, hcl6⟩ := Cond.classLink_spec hX.2.2.2.1 (hX.2.2.2.2.1 _ hk) X.2.2.1.platform hpl
  obtain ⟨c7, c8, g7, g8, hno2⟩ := va_Nc.of hno
  cases Option.some.inj (g7.symm.trans hcl)
  cases Option.some.inj (g8.symm.trans g6)
  unfold xTab at ht
  cases hL : (xc X).exceptionTable.toList with
  | nil => rw [hL] at ht; cases ht
  | cons x t =>
    cases hL2 : t with
    | nil => rw [hL, hL2] at ht; cases ht
    | cons x2 t2 =>
      rw [hL, hL2] at ht
      simp only [List.map_cons, List.cons.injEq, Prod.mk.injEq] at ht
      obtain ⟨⟨e1, e2, e3, e4⟩, ⟨f1, f2, f3, f4⟩, -⟩ := ht
      obtain ⟨k0, hk0, -⟩ := Vm.findClass_spec hcl
      obtain ⟨k0', hk0', -⟩ := hW.alike.2.2 _ _ hk0
      rw [← f3]
      refine x_find2 (by rw [hfm]; exact hm) hc (hL.trans (by rw [hL2])) hW hcell (fun z h => by rw [hv] at h; cases h) ⟨k0', hk0'⟩ (by rw [hfp]; show (decide (x.startPc ≤ pc) && decide (pc < x.endPc)) = true; rw [e1, e2]; exact hcov) (by rw [e4]; exact h0) (by rw [hfm, e4]; exact hcl6) hno2
        (by rw [hfp]; show (decide (x2.startPc ≤ pc) && decide (pc < x2.endPc)) = true; rw [f1, f2]; exact hcov2) (by rw [f4]; exact h02) (by rw [hfm, f4]; exact hcl5) hasg
/-- invokestatic of a method with handlers -/
theorem c_SW (hX : OX X cc nL own TT D cl tys A R) {y : MethodName} {rm : Room} {bytes : ByteArray} {maxL n index : Nat} {ret : Option FieldType} {hs : List (Nat × Nat × Nat × Nat)} {As rest st0 : List Value} (hl9 : X.2.1 = l) (hM : kM l y (Cond.codeWith y bytes maxL ret hs :: TT) rm D cl tys A As dom loc val Post)
    (k1 : Cond.methodLink own index y ∈ TT) (k2 : Cond.static y ∈ TT) (k4 : Cond.initialized y.cls ∈ TT) (k5 : Cond.codeWith y bytes maxL ret hs ∈ TT) (hq : KQd y n) (hR : KRm rm maxL R)
    (hn : As.length = n) (hlv : lv.length = nL) (hst : As.reverse ++ rest = st0) (hroom : (rest.map fun v => v.category).sum ≤ 8) (hd : decode cc pc = .ok (.invokestatic index, 3)) (hf : cells + rm.cells ≤ R.cells ∧ slots + rm.slots ≤ R.slots)
    (kk : KC X D cl A Post cells slots pc lv rest) : V X D cl A dom loc val cells slots pc lv st0 := by
  subst hst
  subst hl9
  have hX0 := hX
  obtain ⟨hx, hb, hml, ho, hts, hK, hA, hlocks, hR2, hN⟩ := hX
  refine v_back (a := As.toArray) (mc := rm.cells) (ms := rm.slots) (fun H locs ls hW hS hlh => ?_) kk
  intro T hT Z
  have hgw := TT_good k5
  have hK9 : Back X.2.1 (xR X) X.1 X.2.2.1 (xb X) (xs X) (xa X) y 3 8 (PreOf (xR X) rm.cells rm.slots (kP D cl tys A As dom loc val)) (PostOf (kQ D cl A Post) rm.cells rm.slots A) :=
    va_backW (hh := hs) (bytes := bytes) (maxL := maxL) (ret := ret) hM kP.blind rfl rfl (by rw [hR2]; exact hR.1) (by rw [hR2]; exact hR.2) (pay_in hts hgw) List.mem_cons_self (fun a' U hW9 => word_at hW9 (good_of_word (List.mem_filter.mp k4).2) (hts _ k4))
  obtain ⟨mk, methM, cM, hnamed, hmethM, -, -, -, -, -, -, hsigM⟩ := Cond.codeWith_spec (hts _ k5)
  have hstatic : methM.isStatic = true := Cond.static_spec hnamed hmethM (hts _ k2)
  obtain ⟨kP9, hkP, -⟩ := className_of_methodNamed hnamed
  have hinitP : kP9.init = .initialized := Cond.initialized_spec (findClass_of_methodNamed hnamed) hkP (hts _ k4)
  have hpar : As.length = methM.sig.parameters.length := by
    have h2 := hq.2.2
    rw [hsigM] at h2
    exact hn.trans (Option.some.inj h2).symm
  obtain ⟨vm₁, X₁, hstep₁⟩ := Z.invokestatic hx ho (hts _ k1) hnamed hmethM hstatic hkP hinitP ⟨hq.1, hq.2.1⟩ (g := F0 (xm X) pc ls (As.reverse ++ rest)) rfl (argsL := As) (rest := rest) hpar rfl (by rw [hb]; exact hd)
  have hsz : ls.size = (xc X).maxLocals := by rw [hml]; exact hlh.1.trans hlv
  obtain ⟨v, ⟨U', l2, c2, s2⟩, X', ⟨g', mk', t, L, e1, e2, hq9, h1, hL, h2, h3⟩, hsteps⟩ := hK9 (xm X) (xM X) (xc X) ⟨T.setVm vm₁, locs, cells, slots⟩ (F0 (xm X) pc ls rest) (.invokestatic index) mk As.toArray X₁ rfl hsz (by show decode (xc X).code pc = _; rw [hb]; exact hd) (by show 2 * 0 + (rest.map fun v => v.category).sum ≤ 8; omega) (X₁.named hnamed) ⟨by rw [hR2]; exact hf.1, by rw [hR2]; exact hf.2, k_pre hX0 hW hS _ hT X₁.warmed⟩
  dsimp only [Pt.U, Pt.locs, Pt.cells, Pt.slots] at X' e1 e2 h1 h2 h3 hsteps
  subst h1; subst h2; subst h3
  exact ⟨v, (T.setVm vm₁).calling g' mk' As.toArray, t, U', L, hT, X', hL, e1, e2, hq9, fun target h => hstep₁ _ fun acts => by rw [doInvoke_state]; exact hsteps.trans h⟩
end KX1
