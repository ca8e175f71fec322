section KE
/-- the end of a method that throws an E: the world is as it was -/
def kTQ (D : va_G) (cl : List vw_C) (A : Nat → Prop) (dom : Nat → Prop) (loc : Nat → Nat) (val : Nat → va_E) (E : String) (mc ms : Nat) : Array Value → State → Outcome → State → Prop := fun _ st oc t =>
  ∃ (q : Addr) (ce : Cell) (L : List Loc), oc = .threw q ∧ KW D cl A dom loc val t.heap ∧ va_F A st t ∧ t.heap[q]? = some ce ∧ ce.vm = .none ∧ st.vm.findClass E = some ce.cls ∧ st.WarmedH t.vm ∧ st.sameButNew ({ t with vm := st.vm } : State) L mc ms ∧ ∀ z ∈ L, A z.base
/-- the contract of a method that, so called, throws an E -/
abbrev kMT (l : Launch) (y : MethodName) (ws : List Cond) (rm : Room) (D : va_G) (cl : List vw_C) (tys : List (ClassId × FieldType)) (A : Nat → Prop) (av : List Value) (dom : Nat → Prop) (loc : Nat → Nat) (val : Nat → va_E) (E : String) : Prop :=
  MetFree l y (headSpec ws rm) (kP D cl tys A av dom loc val) (fun _ _ _ _ _ => True) (kTQ D cl A dom loc val E rm.cells rm.slots)
theorem k_entry {m : MethodId} {av : List Value} {maxL : Nat} {lv0 : List (Option Value)} (hcat : ∀ w ∈ av, w.category = 1) (hlen : (lg_sl av).length ≤ maxL) (hl0 : lv0 = av.map some ++ List.replicate (maxL - av.length) none) (hl1 : av.length ≤ maxL) : ∃ ls : Array Slot, entryFrame m av.toArray maxL = F0 m 0 ls [] ∧ lvh ls lv0 := by
  have hl := lv_entry av (n := maxL) hlen
  rw [lg_entry_eq]
  refine ⟨_, rfl, ?_, hl.2.1, fun i v hi => ?_⟩
  · rw [hl.1, hl0]; simp; omega
  · rw [hl0] at hi
    have hi2 : av[i]? = some v := by
      by_cases hq : i < av.length
      · rw [List.getElem?_append_left (by simpa using hq)] at hi
        simpa using hi
      · rw [List.getElem?_append_right (by simpa using Nat.le_of_not_lt hq)] at hi
        have hr := List.mem_of_getElem? hi
        simp at hr
    have hm := lv_args_mem av 0 i v hcat hi2
    rw [Nat.zero_add] at hm
    exact ⟨hl.2.2 (i, v) hm, hcat v (List.mem_of_getElem? hi2)⟩
variable {l : Launch} {D : va_G} {cl : List vw_C} {tys : List (ClassId × FieldType)} {A : Nat → Prop} {dom : Nat → Prop} {loc : Nat → Nat} {val : Nat → va_E} {Post : kT} {cc : ByteArray} {ret : Option FieldType}
/-- where a walk ends by a throw -/
abbrev XT (X : KX) (D : va_G) (cl : List vw_C) (A : Nat → Prop) (dom : Nat → Prop) (loc : Nat → Nat) (val : Nat → va_E) (E : String) (mc ms : Nat) : Prop := ∀ t, (∃ oc, t.status = .running ∧ Ended t (xb X) oc ∧ kTQ D cl A dom loc val E mc ms (xa X) (xs X) oc t) → xQ X t
theorem kMT_of {y : MethodName} {rm : Room} {maxL : Nat} {av : List Value} {lv0 : List (Option Value)} {own E : String} (hy : plainName y.cls = true) (ho : y.cls = own) (hcat : ∀ w ∈ av, w.category = 1) (hlen : (lg_sl av).length ≤ maxL) (hl0 : lv0 = av.map some ++ List.replicate (maxL - av.length) none) (hl1 : av.length ≤ maxL)
    (body : ∀ X : KX, X.2.1 = l → OX X cc maxL own TT D cl tys A rm → (xc X).exceptionTable.isEmpty = true → XT X D cl A dom loc val E rm.cells rm.slots → V X D cl A dom loc val 0 0 0 lv0 []) : kMT l y (Cond.code y cc maxL ret :: TT) rm D cl tys A av dom loc val E := by
  refine MetFree.of_bodyS (code := cc) (maxLocals := maxL) (ret := ret) hy ?_ ?_
  · intro args s m h hn
    obtain ⟨meth, c, h1, h2, h3, h4, h5, h6, -, -⟩ := Cond.code_spec hn (atoms_spec (ws := Cond.code y cc maxL ret :: TT) h _ List.mem_cons_self)
    exact ⟨meth, c, h1, h2, h3, h4, h5, h6⟩
  · intro p e s m args below meth c s₁ B hml hP _
    obtain ⟨rfl, hKW, hK, hA, hN⟩ := hP
    have hpre := atoms_spec (ws := Cond.code y cc maxL ret :: TT) B.pre
    have Z := Stand.of_body B
    have hemp : c.exceptionTable.isEmpty = true := by
      obtain ⟨meth2, c2, g1, g2, -, -, -, -, g3, -⟩ := Cond.code_spec B.named (hpre _ List.mem_cons_self)
      have e1 : meth2 = meth := Option.some.inj (g1.symm.trans B.method)
      subst e1
      have e2 : c2 = c := Option.some.inj (g2.symm.trans Z.code)
      subst e2
      exact g3
    have hh0 : s₁.heap = s.heap := by rw [B.state]; rfl
    have hX : OX (p, l, e, rm, s, m, av.toArray, below, meth, c, fun t => ∃ oc, t.status = .running ∧ Ended t below oc ∧ kTQ D cl A dom loc val E rm.cells rm.slots av.toArray s oc t) cc maxL own TT D cl tys A rm :=
      ⟨B.exec, B.bytes, hml, ho ▸ findClass_of_methodNamed B.named, fun w hw => hpre w (List.mem_cons_of_mem _ hw), hK, hA, B.notSynchronized, rfl, hN⟩
    obtain ⟨ls, he, hlv⟩ := k_entry (m := m) hcat hlen hl0 hl1
    obtain ⟨t, a1, oc, b1, b2, b3⟩ := body _ rfl hX hemp (fun t h => h) s.heap [] ls hKW va_S.rf hlv s₁ hh0 Z
    rw [he]
    exact ⟨t, oc, a1, b1, b2, b3⟩
/-- a method with a table of handlers -/
def xTab (c : Code) (hs : List (Nat × Nat × Nat × Nat)) : Prop := c.exceptionTable.toList.map (fun h => (h.startPc, h.endPc, h.handlerPc, h.catchType)) = hs
theorem kMW_of {y : MethodName} {rm : Room} {maxL : Nat} {av : List Value} {lv0 : List (Option Value)} {own : String} {hs : List (Nat × Nat × Nat × Nat)} (hy : plainName y.cls = true) (ho : y.cls = own) (hcat : ∀ w ∈ av, w.category = 1) (hlen : (lg_sl av).length ≤ maxL) (hl0 : lv0 = av.map some ++ List.replicate (maxL - av.length) none) (hl1 : av.length ≤ maxL)
    (body : ∀ X : KX, X.2.1 = l → OX X cc maxL own TT D cl tys A rm → xTab (xc X) hs → EX X ret D cl A Post rm.cells rm.slots → V X D cl A dom loc val 0 0 0 lv0 []) : kM l y (Cond.codeWith y cc maxL ret hs :: TT) rm D cl tys A av dom loc val Post := by
  refine MetFree.of_bodyS (code := cc) (maxLocals := maxL) (ret := ret) hy ?_ ?_
  · intro args s m h hn
    obtain ⟨m2, meth, c, h0, h1, h2, h3, h4, h5, h6, h7, -⟩ := Cond.codeWith_spec (atoms_spec (ws := Cond.codeWith y cc maxL ret hs :: TT) h _ List.mem_cons_self)
    have e0 : m2 = m := Option.some.inj (h0.symm.trans hn)
    subst e0
    exact ⟨meth, c, h1, h2, h3, h4, h6, h7⟩
  · intro p e s m args below meth c s₁ B hml hP _
    obtain ⟨rfl, hKW, hK, hA, hN⟩ := hP
    have hpre := atoms_spec (ws := Cond.codeWith y cc maxL ret hs :: TT) B.pre
    have Z := Stand.of_body B
    have htab : xTab c hs := by
      obtain ⟨m2, meth2, c2, g0, g1, g2, -, -, g3, -, -, -⟩ := Cond.codeWith_spec (hpre _ List.mem_cons_self)
      have e0 : m2 = m := Option.some.inj (g0.symm.trans B.named)
      subst e0
      have e1 : meth2 = meth := Option.some.inj (g1.symm.trans B.method)
      subst e1
      have e2 : c2 = c := Option.some.inj (g2.symm.trans Z.code)
      subst e2
      exact g3
    have hh0 : s₁.heap = s.heap := by rw [B.state]; rfl
    have hX : OX (p, l, e, rm, s, m, av.toArray, below, meth, c, MQ below (kQ D cl A Post) av.toArray s rm.cells rm.slots A) cc maxL own TT D cl tys A rm :=
      ⟨B.exec, B.bytes, hml, ho ▸ findClass_of_methodNamed B.named, fun w hw => hpre w (List.mem_cons_of_mem _ hw), hK, hA, B.notSynchronized, rfl, hN⟩
    obtain ⟨ls, he, hlv⟩ := k_entry (m := m) hcat hlen hl0 hl1
    obtain ⟨t, a1, oc, b1, b2, b3⟩ := body _ rfl hX htab ⟨B.returns, fun _ h => h⟩ s.heap [] ls hKW va_S.rf hlv s₁ hh0 Z
    rw [he]
    exact ⟨t, oc, a1, b1, b2, b3⟩
/-- the frame as it stands, seen as one that begins here -/
theorem k_here {p : Program} {e : Env} {R R' : Room} {s T : State} {m : MethodId} {args : Array Value} {below : List Frame} {meth : Method} {c : Code} {locs : List Loc} {cells slots : Nat} (Z : Stand p l e R s m args below meth c T locs cells slots) (h1 : R'.frames ≤ R.frames) (h2 : R'.locals ≤ R.locals) (h3 : cells + R'.cells ≤ R.cells) (h4 : slots + R'.slots ≤ R.slots) :
    Stand p l e R' ((T.setVm s.vm).setFrames (.invoking m args :: below)) m args below meth c T [] 0 0 := by
  have htop : (T.setVm s.vm).topJava?.isSome := Z.here.top
  have hF : ((T.setVm s.vm).setFrames (.invoking m args :: below)).frames = .invoking m args :: below := State.frames_setFrames _ (State.cur_lt_of_top htop)
  have hlim : e.platform.stackLimits (T.setVm s.vm).me = e.platform.stackLimits s.me := Z.limits
  have hby : (T.setVm s.vm).me.stackBytes = s.me.stackBytes := Z.bytes
  have hdrop : T.heap.toList.drop T.heap.size = [] := List.drop_eq_nil_of_le (Nat.le_of_eq Array.length_toList)
  exact {
    admits := Z.admits
    cas := Z.cas
    clock := Z.clock
    frames := hF
    hears := Z.hears
    method := Z.method
    code := Z.code
    here := Z.here
    tail := Z.tail
    warmed := Z.warmed
    limits := by rw [State.stackLimits_setFrames]; rfl
    bytes := by rw [State.stackBytes_setFrames]; rfl
    room := by
      have h := Z.room
      have hU : ((T.setVm s.vm).setFrames (.invoking m args :: below)).localsInUse = s.localsInUse := by
        rw [State.localsInUse_invoking hF (meth := meth) (c := c) Z.method Z.code, State.localsInUse_invoking Z.frames Z.method Z.code]
      have q1 := Z.heapSize
      have q2 := Z.used
      have q3 : ((T.setVm s.vm).setFrames (.invoking m args :: below)).heap.size = T.heap.size := rfl
      have q4 : ((T.setVm s.vm).setFrames (.invoking m args :: below)).slotsUsed = T.slotsUsed := rfl
      simp only [State.hasRoom, Bool.and_eq_true, decide_eq_true_eq] at h ⊢
      obtain ⟨⟨⟨⟨r1, r2, r3, r4, r5, r6⟩, r7⟩, r8⟩, r9⟩ := h
      rw [Z.frames, List.length_cons] at r2 r3
      rw [q3, q4]
      simp only [hF, hU, List.length_cons, State.stackLimits_setFrames, State.stackBytes_setFrames, hlim, hby]
      exact ⟨⟨⟨⟨by omega, by omega, by omega, by omega, by omega, r6⟩, by omega⟩, by omega⟩, Z.book⟩
    same := by
      obtain ⟨g₀, hg0⟩ := Option.isSome_iff_exists.mp htop
      obtain ⟨r, hr⟩ := State.topJava?_eq_some.mp hg0
      obtain ⟨t, ht, -⟩ := State.frames_cons hr
      refine ⟨?_, Nat.le_refl _, Nat.le_refl _, ?_, ?_, fun a c9 h9 => ⟨c9, h9, rfl, rfl, fun _ _ => rfl⟩⟩
      · show T.setVm s.vm = { ((T.setVm s.vm).setFrames (.invoking m args :: below)).setFrames (T.setVm s.vm).frames with heap := T.heap, slotsUsed := T.slotsUsed }
        rw [State.setFrames_setFrames, State.setFrames_self ht]
        rfl
      · show T.slotsUsed = T.slotsUsed + ((T.heap.toList.drop T.heap.size).map (·.slots.size)).sum
        rw [hdrop]
        rfl
      · show ((T.heap.toList.drop T.heap.size).map (·.slots.size)).sum ≤ 0
        rw [hdrop]
        exact Nat.le_refl _ }
end KE
