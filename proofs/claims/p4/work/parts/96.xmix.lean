section KXM
/-- how a throw leaves the world: the class of what is thrown, keys, places, cells, what was made -/
abbrev kTT : Type := String → (Nat → Prop) → (Nat → Nat) → (Nat → va_E) → Nat → Nat → Prop
/-- the end of a method that returns or throws -/
def kXQ (D : va_G) (cl : List vw_C) (A : Nat → Prop) (Post : kT) (PT : kTT) : Array Value → State → Outcome → State → Prop := fun _ st oc t =>
  ∃ (L : List Loc) (k n : Nat) (dom : Nat → Prop) (loc : Nat → Nat) (val : Nat → va_E), KW D cl A dom loc val t.heap ∧ va_F A st t ∧ st.WarmedH t.vm ∧ st.sameButNew ({ t with vm := st.vm } : State) L k n ∧ (∀ z ∈ L, A z.base) ∧
    ((∃ rv, oc = .returned rv ∧ Post rv dom loc val k n) ∨ (∃ (q : Addr) (ce : Cell) (E : String), oc = .threw q ∧ t.heap[q]? = some ce ∧ ce.vm = .none ∧ st.vm.findClass E = some ce.cls ∧ PT E dom loc val k n))
abbrev kMX (l : Launch) (y : MethodName) (ws : List Cond) (rm : Room) (D : va_G) (cl : List vw_C) (tys : List (ClassId × FieldType)) (A : Nat → Prop) (av : List Value) (dom : Nat → Prop) (loc : Nat → Nat) (val : Nat → va_E) (Post : kT) (PT : kTT) : Prop :=
  MetFree l y (headSpec ws rm) (kP D cl tys A av dom loc val) (fun _ _ _ _ _ => True) (kXQ D cl A Post PT)
variable {l : Launch} {D : va_G} {cl : List vw_C} {tys : List (ClassId × FieldType)} {A : Nat → Prop} {dom : Nat → Prop} {loc : Nat → Nat} {val : Nat → va_E} {Post : kT} {PT : kTT} {cc : ByteArray} {ret : Option FieldType}
/-- where a walk may end by a throw -/
abbrev XX (X : KX) (D : va_G) (cl : List vw_C) (A : Nat → Prop) (PT : kTT) : Prop := ∀ (E : String) (dom : Nat → Prop) (loc : Nat → Nat) (val : Nat → va_E) (mc ms : Nat), PT E dom loc val mc ms → XT X D cl A dom loc val E mc ms
theorem kMX_of {y : MethodName} {rm : Room} {maxL : Nat} {av : List Value} {lv0 : List (Option Value)} {own : String} (hy : plainName y.cls = true) (ho : y.cls = own) (hcat : ∀ w ∈ av, w.category = 1) (hlen : (lg_sl av).length ≤ maxL) (hl0 : lv0 = av.map some ++ List.replicate (maxL - av.length) none) (hl1 : av.length ≤ maxL)
    (body : ∀ X : KX, X.2.1 = l → OX X cc maxL own TT D cl tys A rm → (xc X).exceptionTable.isEmpty = true → EX X ret D cl A Post rm.cells rm.slots → XX X D cl A PT → V X D cl A dom loc val 0 0 0 lv0 []) : kMX l y (Cond.code y cc maxL ret :: TT) rm D cl tys A av dom loc val Post PT := by
  refine MetFree.of_bodyS (code := cc) (maxLocals := maxL) (ret := ret) hy ?_ ?_
  · intro args s m h hn
    obtain ⟨meth, c, h1, h2, h3, h4, h5, h6, -, -⟩ := Cond.code_spec hn (atoms_spec (ws := Cond.code y cc maxL ret :: TT) h _ List.mem_cons_self)
    exact ⟨meth, c, h1, h2, h3, h4, h5, h6⟩
  · intro p e s m args below meth c s₁ B hml hP _
    obtain ⟨rfl, hKW, hK, hA, hN⟩ := hP
    have hpre := atoms_spec (ws := Cond.code y cc maxL ret :: TT) B.pre
    have Z := Stand.of_body B
    have hemp : c.exceptionTable.isEmpty = true := by
      obtain ⟨meth2, c2, g1, g2, -, -, -, -, g3, -⟩ := Cond.code_spec B.named (hpre _ List.mem_cons_self)
      have e1 : meth2 = meth := Option.some.inj (g1.symm.trans B.method)
      subst e1
      have e2 : c2 = c := Option.some.inj (g2.symm.trans Z.code)
      subst e2
      exact g3
    have hh0 : s₁.heap = s.heap := by rw [B.state]; rfl
    have hX : OX (p, l, e, rm, s, m, av.toArray, below, meth, c, fun t => ∃ oc, t.status = .running ∧ Ended t below oc ∧ kXQ D cl A Post PT av.toArray s oc t) cc maxL own TT D cl tys A rm :=
      ⟨B.exec, B.bytes, hml, ho ▸ findClass_of_methodNamed B.named, fun w hw => hpre w (List.mem_cons_of_mem _ hw), hK, hA, B.notSynchronized, rfl, hN⟩
    obtain ⟨ls, he, hlv⟩ := k_entry (m := m) hcat hlen hl0 hl1
    have hret : EX (p, l, e, rm, s, m, av.toArray, below, meth, c, fun t => ∃ oc, t.status = .running ∧ Ended t below oc ∧ kXQ D cl A Post PT av.toArray s oc t) ret D cl A Post rm.cells rm.slots := by
      refine ⟨B.returns, fun t h => ?_⟩
      obtain ⟨oc, b1, b2, ⟨rv, d2, l2, v2, k, n, rfl, hKW2, hpost, hszk, hz1, hz2, hF⟩, L, ⟨-, hW, hsame⟩, hL⟩ := h
      obtain ⟨q1, q2, q3, q4, q5, q6⟩ := hsame
      exact ⟨_, b1, b2, L, k, n, d2, l2, v2, hKW2, hF, hW, ⟨q1, q2, hz1, q4, hz2, q6⟩, hL, Or.inl ⟨rv, rfl, hpost⟩⟩
    have hthr : XX (p, l, e, rm, s, m, av.toArray, below, meth, c, fun t => ∃ oc, t.status = .running ∧ Ended t below oc ∧ kXQ D cl A Post PT av.toArray s oc t) D cl A PT := by
      intro E d2 l2 v2 mc ms hpt t h
      obtain ⟨oc, b1, b2, q, ce, L, rfl, hKW2, hF, hce, hcv, hcl, hW, hsame, hL⟩ := h
      exact ⟨_, b1, b2, L, mc, ms, d2, l2, v2, hKW2, hF, hW, hsame, hL, Or.inr ⟨q, ce, E, rfl, hce, hcv, hcl, hpt⟩⟩
    obtain ⟨t, a1, oc, b1, b2, b3⟩ := body _ rfl hX hemp hret hthr s.heap [] ls hKW va_S.rf hlv s₁ hh0 Z
    rw [he]
    exact ⟨t, oc, a1, b1, b2, b3⟩
/-- the callee ends, so or so: the walk stands over the caller's frame -/
theorem x_endX {p : Program} {e : Env} {R rm : Room} {s U : State} {m mk : MethodId} {args : Array Value} {below : List Frame} {meth : Method} {c : Code} {locs : List Loc} {cells slots : Nat} {y : MethodName} {bytes : ByteArray} {maxL : Nat} {ret : Option FieldType} {av : List Value} {g : JFrame} {ig : Instr}
    (hM : kMX l y (Cond.code y bytes maxL ret :: TT) rm D cl tys A av dom loc val Post PT) (Z : Stand p l e R s m args below meth c U locs cells slots) (hg : g.method = m) (hsize : g.locals.size = c.maxLocals) (hdg : decode c.code g.pc = .ok (ig, 3)) (hroom : 2 * g.monitorRoom + (g.stack.map fun v => v.category).sum ≤ 8) (hn : U.methodNamed? y = some mk)
    (hts : ∀ w ∈ TT, w.before args s = true) (k5 : Cond.code y bytes maxL ret ∈ TT) (k4 : Cond.initialized y.cls ∈ TT) (hR : KRm rm maxL R) (hf : cells + rm.cells ≤ R.cells ∧ slots + rm.slots ≤ R.slots) (hP : kP D cl tys A av dom loc val av.toArray U) :
    ∃ (T' : State) (L : List Loc) (k n : Nat) (dom2 : Nat → Prop) (loc2 : Nat → Nat) (val2 : Nat → va_E), Stand p l e R s m args below meth c T' (locs ++ L) (cells + k) (slots + n) ∧ KW D cl A dom2 loc2 val2 T'.heap ∧ va_F A U T' ∧ (∀ z ∈ L, A z.base) ∧
      ((∃ v, Post v dom2 loc2 val2 k n ∧ Steps p.tables e below (doInvoke e (U.setTop g) [] mk av.toArray).1 (T'.setTop { g with pc := g.pc + 3, stack := v.toList ++ g.stack })) ∨
       (∃ (q : Addr) (ce : Cell) (E : String), PT E dom2 loc2 val2 k n ∧ T'.heap[q]? = some ce ∧ ce.vm = .none ∧ U.vm.findClass E = some ce.cls ∧ Steps p.tables e below (doInvoke e (U.setTop g) [] mk av.toArray).1 ((T'.setTop g).pushFrame (.throwing q)))) := by
  have hg1 : ∀ w ∈ TT, w.before av.toArray U = true := fun w hw => word_at Z.warmed (good_of_word (List.mem_filter.mp hw).2) (hts w hw)
  have h1 : (headSpec (Cond.code y bytes maxL ret :: TT) rm).pre.before av.toArray U = true := atoms_intro fun w hw => (List.mem_cons.mp hw).elim (fun z => z ▸ hg1 _ k5) (hg1 w)
  obtain ⟨methY, cY, hmY, hcY, -, hlY, -, -, -, -⟩ := Cond.code_spec hn (hg1 _ k5)
  obtain ⟨kY, hkY, -⟩ := className_of_methodNamed hn
  have hinitY : kY.init = .initialized := Cond.initialized_spec (findClass_of_methodNamed hn) hkY (hg1 _ k4)
  have h : At U g.method c below := by rw [hg]; exact Z.here
  have happ : (headSpec (Cond.code y bytes maxL ret :: TT) rm).appliesLoose y e.platform (U.calling g mk av.toArray) = true :=
    Spec.appliesLoose_calling (g := g) h hdg hn hkY hinitY (Z.room_calling (g := g) (R' := rm) hsize hmY hcY hR.1 (by have := hR.2; rw [hlY]; omega) hf.1 hf.2) h1
  obtain ⟨mid, hmid⟩ := h.above
  have hfr : (U.setTop g).frames = (.java g :: mid) ++ below := by rw [State.frames_setTop' g h.top, hmid]; rfl
  obtain ⟨oc, s₂, hsteps, -, hend, L, k, n, d2, l2, v2, hKW, hF, hW₂, hsm, hL, hcase⟩ := Steps.callFree hM p Z.admits Z.cas Z.clock (acts := []) hfr happ (kP.blind _ _ g mk hP) trivial
  rw [State.frames_setTop' g h.top] at hend
  obtain ⟨g₀, hg0⟩ := Option.isSome_iff_exists.mp h.top
  obtain ⟨r, hr⟩ := State.topJava?_eq_some.mp hg0
  obtain ⟨e2, q2, q3, q4, q5, q6⟩ := id hsm
  have hr' : (({ U with heap := s₂.heap, slotsUsed := s₂.slotsUsed } : State).setVm s₂.vm).frames = .java g₀ :: r := hr
  have e3 : s₂ = ({ (U.calling g mk av.toArray).setFrames s₂.frames with heap := s₂.heap, slotsUsed := s₂.slotsUsed } : State).setVm s₂.vm := by
    have hz : s₂ = ({ s₂ with vm := (U.calling g mk av.toArray).vm } : State).setVm s₂.vm := rfl
    exact hz.trans (congrArg (fun z : State => z.setVm s₂.vm) e2)
  have hW' : U.WarmedH s₂.vm := hW₂
  have hsame : U.sameButNew ({ U with heap := s₂.heap, slotsUsed := s₂.slotsUsed } : State) L k n := by
    refine ⟨?_, q2, q3, q4, q5, q6⟩
    obtain ⟨t, ht, -⟩ := State.frames_cons hr
    show ({ U with heap := s₂.heap, slotsUsed := s₂.slotsUsed } : State) = { U.setFrames U.frames with heap := s₂.heap, slotsUsed := s₂.slotsUsed }
    rw [State.setFrames_self ht]
  have hStand : Stand p l e R s m args below meth c (({ U with heap := s₂.heap, slotsUsed := s₂.slotsUsed } : State).setVm s₂.vm) (locs ++ L) (cells + k) (slots + n) := by
    subst hg
    exact { Z with
      here := (Z.here.setHeapUsed s₂.heap s₂.slotsUsed).setVm hW'.alike
      tail := Z.tail
      warmed := State.WarmedH.trans Z.warmed hW'
      limits := Z.limits
      bytes := Z.bytes
      same := Z.same.trans (hsame.setVm s.vm) }
  refine ⟨(({ U with heap := s₂.heap, slotsUsed := s₂.slotsUsed } : State).setVm s₂.vm), L, k, n, d2, l2, v2, hStand, hKW, hF, hL, ?_⟩
  rcases hcase with ⟨v, rfl, hpost⟩ | ⟨q, ce, E, rfl, hce, hcv, hcl, hpt⟩
  · refine Or.inl ⟨v, hpost, ?_⟩
    obtain ⟨c₂, i₂, len₂, hc₂, hd₂, hf₂⟩ := hend
    have hcc : c₂ = c := by
      have h9 : s₂.code? g.method = U.code? g.method := by
        rw [State.code?_eq, State.code?_eq, hW'.alike.method?]
      exact Option.some.inj (hc₂.symm.trans (h9.trans h.code))
    subst hcc
    have hlen : len₂ = 3 := by rw [hdg] at hd₂; cases hd₂; rfl
    subst hlen
    have hs₂ : s₂ = (({ U with heap := s₂.heap, slotsUsed := s₂.slotsUsed } : State).setVm s₂.vm).setTop { g with pc := g.pc + 3, stack := v.toList ++ g.stack } := by
      refine e3.trans ?_
      rw [hf₂, State.calling_eq h.top, State.setFrames_setFrames, State.setTop_of_frames _ hr', hr]
      rfl
    show Steps p.tables e below _ ((({ U with heap := s₂.heap, slotsUsed := s₂.slotsUsed } : State).setVm s₂.vm).setTop { g with pc := g.pc + 3, stack := v.toList ++ g.stack })
    rw [← hs₂]
    exact hsteps
  · refine Or.inr ⟨q, ce, E, hpt, hce, hcv, hcl, ?_⟩
    have hf₂ : s₂.frames = .throwing q :: .java g :: U.frames.tail := hend
    have hs₂ : s₂ = ((({ U with heap := s₂.heap, slotsUsed := s₂.slotsUsed } : State).setVm s₂.vm).setTop g).pushFrame (.throwing q) := by
      refine e3.trans ?_
      rw [hf₂, State.calling_eq h.top, State.setFrames_setFrames, State.pushFrame, State.frames_setTop _ hr', State.setTop_of_frames _ hr', State.setFrames_setFrames, hr]
      rfl
    show Steps p.tables e below _ (((({ U with heap := s₂.heap, slotsUsed := s₂.slotsUsed } : State).setVm s₂.vm).setTop g).pushFrame (.throwing q))
    rw [← hs₂]
    exact hsteps
variable {X : KX} {nL : Nat} {own : String} {R : Room} {cells slots pc : Nat} {lv : List (Option Value)}
/-- invokevirtual of a method that returns, or throws what is caught here -/
theorem c_VX (hX : OX X cc nL own TT D cl tys A R) (j : Nat) {y : MethodName} {rm : Room} {bytes : ByteArray} {maxL n index ci : Nat} {ret : Option FieldType} {C : String} {T : u_T} {N : Nat} {fs : List Value} {a : Nat} {As rest st0 : List Value} (hl9 : X.2.1 = l) (hM : kMX l y (Cond.code y bytes maxL ret :: TT) rm D cl tys A (.ref a :: As) dom loc val Post PT)
    (k1 : Cond.methodLink own index y ∈ TT) (k2 : Cond.instanceMethod y ∈ TT) (k3 : Cond.selects C y y ∈ TT) (k4 : Cond.initialized y.cls ∈ TT) (k5 : Cond.code y bytes maxL ret ∈ TT) (hq : KQd y n) (hR : KRm rm maxL R)
    (hj : dom j) (ha : loc j = a) (he : val j = .inr (ci, fs)) (hc : cl[ci]? = some (C, T, N)) (hn : As.length = n) (hlv : lv.length = nL) (hst : As.reverse ++ .ref a :: rest = st0) (hroom : (rest.map fun v => v.category).sum ≤ 8) (hd : decode cc pc = .ok (.invokevirtual index, 3)) (hf : cells + rm.cells ≤ R.cells ∧ slots + rm.slots ≤ R.slots)
    (kk : KC X D cl A Post cells slots pc lv rest)
    (kt : ∀ (E : String) (dom2 : Nat → Prop) (loc2 : Nat → Nat) (val2 : Nat → va_E) (k n : Nat), PT E dom2 loc2 val2 k n → ∃ hp, xCatch X own E pc hp ∧ ∀ q : Nat, V X D cl A dom2 loc2 val2 (cells + k) (slots + n) hp lv [.ref q]) : V X D cl A dom loc val cells slots pc lv st0 := by
  subst hst
  subst ha
  subst hl9
  intro H locs ls hW hS hlh T0 hT Z
  have hX0 := hX
  obtain ⟨hx, hb, hml, ho, hts, hK, hA, hlocks, hR2, hN⟩ := hX
  obtain ⟨cellB, hcB, hoB, hclB⟩ := k_recv hX0 hW hj he hc
  have hlink := hts _ k1
  obtain ⟨mk, methM, hnamed, hmethM, hstM, habM⟩ := Cond.instanceMethod_spec (hts _ k2)
  obtain ⟨methM', cM, hmethM', -, -, -, -, -, -, hsigM⟩ := Cond.code_spec hnamed (hts _ k5)
  cases hmethM.symm.trans hmethM'
  obtain ⟨c2, r2, m2, q1, q2, q3, q4, kP9, hkP, hkPi⟩ := Cond.selects_spec (hts _ k3)
  cases hclB.symm.trans q1
  cases (State.methodFound?_of_named hnamed ⟨hq.1, hq.2.1⟩).symm.trans q2
  cases hnamed.symm.trans q3
  have hselP : selectMethod X.2.2.1.platform (xs X).vm cellB.cls mk = .method mk := by rw [Launch.admits_selectMethod Z.admits]; exact q4
  have hpar : As.length = methM.sig.parameters.length := by
    have h2 := hq.2.2
    rw [hsigM] at h2
    exact hn.trans (Option.some.inj h2).symm
  obtain ⟨vm₁, X₁, hstep₁⟩ := Z.invokevirtual hx ho hlink hnamed hmethM hstM hkP hkPi ⟨hq.1, hq.2.1⟩ (a := loc j) (cell := cellB) (by rw [hT]; exact hcB)
    (fun z h => by rw [h] at hoB; cases hoB) hselP hmethM habM hkP hkPi (g := F0 (xm X) pc ls (As.reverse ++ .ref (loc j) :: rest)) rfl (argsL := As) (rest := rest) hpar rfl (by rw [hb]; exact hd)
  have hsz : ls.size = (xc X).maxLocals := by rw [hml]; exact hlh.1.trans hlv
  have hU : (T0.setVm vm₁).heap = H := hT
  obtain ⟨T', L, k, n9, d2, l2, v2, X', hKW, hF, hL, hcase⟩ := x_endX (g := F0 (xm X) pc ls rest) (ig := .invokevirtual index) hM X₁ rfl hsz (by rw [hb]; exact hd) (by show 2 * 0 + (rest.map fun v => v.category).sum ≤ 8; omega) (X₁.named hnamed) hts k5 k4 (by rw [hR2]; exact hR) (by rw [hR2]; exact hf) (k_pre hX0 hW hS _ hU X₁.warmed)
  have hF1 := hF.1
  have hF2 := hF.2
  rw [hU] at hF1 hF2
  have hS2 : va_S A (xs X).heap T'.heap (locs ++ L) := ⟨Nat.le_trans hS.1 hF1, fun q9 h1 h2 => (hF2 q9 (Nat.lt_of_lt_of_le h1 hS.1) h2).trans (hS.2.1 q9 h1 h2), fun z hz => (List.mem_append.mp hz).elim (hS.2.2 z) (hL z)⟩
  rcases hcase with ⟨v, hpost, hsteps⟩ | ⟨q, ce, E, hpt, hce, hcv, hcl, hsteps⟩
  · obtain ⟨t, a1, b1⟩ := kk v d2 l2 v2 k n9 hpost T'.heap (locs ++ L) ls hKW hS2 hlh T' rfl X'
    refine ⟨t, hstep₁ _ fun acts => ?_, b1⟩
    rw [doInvoke_state]
    exact hsteps.trans a1
  · obtain ⟨hp, hcat, hkt⟩ := kt E d2 l2 v2 k n9 hpt
    have hpl : X.2.2.1.platform.magicAccessors = ({} : Platform).magicAccessors := by rw [Z.admits.platform]
    have hclE : (xs X).vm.findClass E = some ce.cls := by
      rw [← X₁.warmed.alike.findClass]
      exact hcl
    have hheap : ((T'.setTop (F0 (xm X) pc ls rest)).pushFrame (.throwing q)).heap = T'.heap := Stand.throwing_heap _ _ _
    have hvm9 : ((T'.setTop (F0 (xm X) pc ls rest)).pushFrame (.throwing q)).vm = T'.vm := Stand.throwing_vm _ _ _
    obtain ⟨vm', hW', hfind⟩ := hcat ((T'.setTop (F0 (xm X) pc ls rest)).pushFrame (.throwing q)) (F0 (xm X) pc ls rest) q ce (by rw [hvm9]; exact X'.warmed) rfl rfl (by rw [hvm9]; exact X'.method') X'.code (by rw [hheap]; exact hce) hcv hclE hpl
    obtain ⟨t, a1, b1⟩ := hkt q T'.heap (locs ++ L) ls hKW hS2 hlh (T'.setVm vm') rfl (X'.noted hW')
    refine ⟨t, hstep₁ _ fun acts => ?_, b1⟩
    rw [doInvoke_state]
    exact hsteps.trans (x_step (g := F0 (xm X) pc ls rest) X'.here hfind a1)
end KXM
