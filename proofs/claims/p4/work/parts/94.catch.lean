section KC1
/-- one row of a handlers' table that names its class by a link: it takes the object, or the search goes on behind it -/
theorem x_row {Q : Handler → Pre} {E : CtlPost} {e : Env} {d : Bool} {acts : List Action} {S : State} {f : JFrame} {a : Addr} {x : ExceptionTableEntry} {t : List ExceptionTableEntry} {k : ClassId} {cell : Cell} (hx : covers x f.pc = true) (h0 : x.catchType ≠ 0)
    (hl : S.vm.ClassLinks e.platform f.method.cls x.catchType k) (hcell : S.heap[a]? = some cell) (hobj : ∀ z, cell.vm ≠ .statics z) (hk : ∃ z, S.vm.classes[cell.cls]? = some z) (hc : ∃ z, S.vm.classes[k]? = some z) :
    wp (findHandler.go f a (x :: t)) Q E e d acts S ↔ (if S.vm.assignable cell.cls k = true then Q (.found x.handlerPc) d acts (S.setVm (S.vm.noted f.method.cls x.catchType (.cls k))) else wp (findHandler.go f a t) Q E e d acts (S.setVm (S.vm.noted f.method.cls x.catchType (.cls k)))) := by
  simp only [covers] at hx
  obtain ⟨ha, ht⟩ := (resolveClass_links e.toSetting hl).op (op := VmOp.resolveClass f.method.cls x.catchType) rfl
  have hal : S.vm.Alike (S.vm.noted f.method.cls x.catchType (.cls k)) := (Vm.Alike.refl S.vm).noted _ _ _
  obtain ⟨z1, hz1⟩ := hk
  obtain ⟨z2, hz2⟩ := hc
  obtain ⟨y1, hy1, -⟩ := hal.2.2 _ _ hz1
  obtain ⟨y2, hy2, -⟩ := hal.2.2 _ _ hz2
  by_cases hf : S.vm.assignable cell.cls k = true
  · have hf' : (S.vm.noted f.method.cls x.catchType (.cls k)).assignable cell.cls k = true := by rw [hal.assignable]; exact hf
    rw [if_pos hf]
    simp [findHandler.go, hx, h0, ha, ht, hcell, hobj, hy1, hy2, hf', VmOp.dirties, VmOp.acts]
  · have hf' : (S.vm.noted f.method.cls x.catchType (.cls k)).assignable cell.cls k = false := by rw [hal.assignable]; simpa using hf
    rw [if_neg hf]
    simp [findHandler.go, hx, h0, ha, ht, hcell, hobj, hy1, hy2, hf', VmOp.dirties, VmOp.acts]
/-- the search comes to the handler at pc, and leaves these tables -/
def xF (e : Env) (S : State) (f : JFrame) (a : Addr) (pc : Nat) (vm' : Vm) : Prop := ∀ (Q : Handler → Pre) (E : CtlPost) (d : Bool) (acts : List Action), wp (findHandler f a) Q E e d acts S ↔ Q (.found pc) d acts (S.setVm vm')
/-- what a row's link gives -/
theorem x_link {s S : State} {pl : Platform} {d i k : Nat} (hW : s.WarmedH S.vm) (hl : s.vm.ClassLinks pl d i k) : s.WarmedH (S.vm.noted d i (.cls k)) ∧ S.vm.ClassLinks pl d i k ∧ ∃ z, S.vm.classes[k]? = some z := by
  obtain ⟨dk, _, _, kt, hd, _, _, _, _, hkt, _, hopen⟩ := hl.here
  obtain ⟨kt', hkt', -⟩ := hW.alike.2.2 _ _ hkt
  exact ⟨hW.noted hd hopen (State.rightAt_cls hl), hW.classLinks hl, kt', hkt'⟩
theorem x_find1 {e : Env} {s S : State} {f : JFrame} {a : Addr} {meth : Method} {c : Code} {cell : Cell} {x : ExceptionTableEntry} {t : List ExceptionTableEntry} {k : ClassId} (hm : S.vm.method? f.method = some meth) (hc : meth.code = some c) (ht : c.exceptionTable.toList = x :: t) (hW : s.WarmedH S.vm) (hcell : S.heap[a]? = some cell) (hobj : ∀ z, cell.vm ≠ .statics z) (hk : ∃ z, S.vm.classes[cell.cls]? = some z)
    (hx : covers x f.pc = true) (h0 : x.catchType ≠ 0) (hl : s.vm.ClassLinks e.platform f.method.cls x.catchType k) (hfit : s.vm.assignable cell.cls k = true) : ∃ vm', s.WarmedH vm' ∧ xF e S f a x.handlerPc vm' := by
  obtain ⟨w1, w2, w3⟩ := x_link hW hl
  refine ⟨_, w1, fun Q E d acts => ?_⟩
  rw [W.findHandler_eq hm hc, ht, x_row hx h0 w2 hcell hobj hk w3, if_pos (by rw [hW.alike.assignable]; exact hfit)]
theorem x_find2 {e : Env} {s S : State} {f : JFrame} {a : Addr} {meth : Method} {c : Code} {cell : Cell} {x x2 : ExceptionTableEntry} {t : List ExceptionTableEntry} {k k2 : ClassId} (hm : S.vm.method? f.method = some meth) (hc : meth.code = some c) (ht : c.exceptionTable.toList = x :: x2 :: t) (hW : s.WarmedH S.vm) (hcell : S.heap[a]? = some cell) (hobj : ∀ z, cell.vm ≠ .statics z) (hk : ∃ z, S.vm.classes[cell.cls]? = some z)
    (hx : covers x f.pc = true) (h0 : x.catchType ≠ 0) (hl : s.vm.ClassLinks e.platform f.method.cls x.catchType k) (hno : s.vm.assignable cell.cls k = false)
    (hx2 : covers x2 f.pc = true) (h02 : x2.catchType ≠ 0) (hl2 : s.vm.ClassLinks e.platform f.method.cls x2.catchType k2) (hfit : s.vm.assignable cell.cls k2 = true) : ∃ vm', s.WarmedH vm' ∧ xF e S f a x2.handlerPc vm' := by
  obtain ⟨w1, w2, w3⟩ := x_link hW hl
  have hW2 : s.WarmedH (S.setVm (S.vm.noted f.method.cls x.catchType (.cls k))).vm := w1
  obtain ⟨v1, v2, v3⟩ := x_link hW2 hl2
  have hk2 : ∃ z, (S.setVm (S.vm.noted f.method.cls x.catchType (.cls k))).vm.classes[cell.cls]? = some z := by
    obtain ⟨z, hz⟩ := hk
    obtain ⟨z', hz', -⟩ := ((Vm.Alike.refl S.vm).noted f.method.cls x.catchType (.cls k)).2.2 _ _ hz
    exact ⟨z', hz'⟩
  refine ⟨_, v1, fun Q E d acts => ?_⟩
  rw [W.findHandler_eq hm hc, ht, x_row hx h0 w2 hcell hobj hk w3, if_neg (by rw [hW.alike.assignable, hno]; decide), x_row (S := S.setVm (S.vm.noted f.method.cls x.catchType (.cls k))) hx2 h02 v2 hcell hobj hk2 v3, if_pos (by rw [hW2.alike.assignable]; exact hfit)]
  rfl
/-- caught: on at the handler, with the object alone on the stack -/
theorem x_step {tb : Tables} {e : Env} {T target : State} {g : JFrame} {c : Code} {below : List Frame} {a : Addr} (h : At T g.method c below) {pc : Nat} {vm' : Vm} (hfind : xF e ((T.setTop g).pushFrame (.throwing a)) g a pc vm')
    (hrest : Steps tb e below ((T.setVm vm').setTop { g with pc := pc, stack := [.ref a] }) target) : Steps tb e below ((T.setTop g).pushFrame (.throwing a)) target := by
  obtain ⟨hgo, hw⟩ := h.throwing a
  refine Steps.head hgo hw ?_
  have key : ∀ (S : State) (r : List Frame), xF e S g a pc vm' → (stepThrowing e S a (.java g :: r)).1 = (S.setVm vm').setFrames (.java { g with pc := pc, stack := [.ref a] } :: r) := by
    intro S r hS
    simp only [stepThrowing, searchFrame, vmDo]
    generalize hr : Sem.go _ e false [] S = res
    obtain ⟨as, rfl, ha⟩ := Sem.eq_ok_of hr (a := Handler.found pc) (s' := S.setVm vm') (acts' := []) (by simp [hS _ _ _ _])
    rfl
  rw [stepThread_throwing (frames_entered h.top _), key _ _ hfind]
  obtain ⟨g₀, hg⟩ := Option.isSome_iff_exists.mp h.top
  obtain ⟨r, hr⟩ := State.topJava?_eq_some.mp hg
  have hr' : (T.setVm vm').frames = .java g₀ :: r := hr
  have hsf : ∀ (u : State) (F G : List Frame), ((u.setFrames F).setVm vm').setFrames G = (u.setVm vm').setFrames G := fun u F G => by
    rw [show (u.setFrames F).setVm vm' = (u.setVm vm').setFrames F from rfl, State.setFrames_setFrames]
  rw [State.setTop_of_frames _ hr'] at hrest
  rw [hr, List.tail_cons, State.pushFrame, hsf, State.setTop_of_frames _ hr, hsf]
  exact hrest
end KC1
