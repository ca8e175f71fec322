/-! worlds by keys, and the judgement V -/
section KB1
def kl (ks : List Nat) (loc : Nat → Nat) (val : Nat → va_E) : va_W := ks.map (fun k => (loc k, val k))
theorem kl_get {ks : List Nat} {loc : Nat → Nat} {val : Nat → va_E} {k : Nat} (h : k ∈ ks) : ∃ i : Nat, ks[i]? = some k ∧ (kl ks loc val)[i]? = some (loc k, val k) := by
  obtain ⟨i, hi⟩ := List.getElem?_of_mem h
  exact ⟨i, hi, by simp [kl, hi]⟩
theorem kl_mem {ks : List Nat} {loc : Nat → Nat} {val : Nat → va_E} {i : Nat} {q : Nat × va_E} (h : (kl ks loc val)[i]? = some q) : ∃ k, ks[i]? = some k ∧ q = (loc k, val k) := by
  simp only [kl, List.getElem?_map] at h
  cases hk : ks[i]? with
  | none => rw [hk] at h; cases h
  | some k => rw [hk] at h; exact ⟨k, rfl, (Option.some.inj h).symm⟩
theorem kl_set {A : Nat → Prop} {ks : List Nat} {loc : Nat → Nat} {val : Nat → va_E} (hD : va_D A (kl ks loc val)) {i k : Nat} (hi : ks[i]? = some k) (e : va_E) : (kl ks loc val).set i (loc k, e) = kl ks loc (va_up val k e) := by
  apply List.ext_getElem?
  intro j
  by_cases hj : i = j
  · subst hj
    have hlt : i < ks.length := (List.getElem?_eq_some_iff.mp hi).1
    have hk9 : ks[i] = k := (List.getElem?_eq_some_iff.mp hi).2
    simp [kl, List.getElem?_set, hlt, hk9, va_up]
  · simp only [List.getElem?_set, if_neg hj, kl, List.getElem?_map]
    cases hk : ks[j]? with
    | none => rfl
    | some k2 =>
      have hne : k2 ≠ k := by
        intro hkk
        subst hkk
        exact hj (hD.1 i j (loc k2, val k2) (loc k2, val k2) (by simp [kl, hi]) (by simp [kl, hk]) rfl)
      simp [va_up, hne]
theorem kl_push {ks : List Nat} {loc : Nat → Nat} {val : Nat → va_E} {k q : Nat} {e : va_E} (h : k ∉ ks) : kl ks loc val ++ [(q, e)] = kl (ks ++ [k]) (va_up loc k q) (va_up val k e) := by
  simp only [kl, List.map_append, List.map_cons, List.map_nil, va_up_self]
  congr 1
  apply List.map_congr_left
  intro j hj
  have hne : j ≠ k := fun z => h (z ▸ hj)
  simp [va_up, hne]
/-- the heap holds, for every key of dom, the cell 'val k' at 'loc k'; they are apart, and lie in A -/
def KW (D : va_G) (cl : List vw_C) (A : Nat → Prop) (dom : Nat → Prop) (loc : Nat → Nat) (val : Nat → va_E) (H : Heap) : Prop :=
  ∃ ks : List Nat, (∀ k, dom k ↔ k ∈ ks) ∧ va_P D cl (kl ks loc val) H ∧ va_D A (kl ks loc val)
variable {D : va_G} {cl : List vw_C} {A : Nat → Prop} {dom : Nat → Prop} {loc : Nat → Nat} {val : Nat → va_E} {H : Heap}
theorem KW.at_ (h : KW D cl A dom loc val H) {k : Nat} (hk : dom k) : va_at D cl (loc k, val k) H := by
  obtain ⟨ks, h1, h2, h3⟩ := h
  obtain ⟨i, -, i2⟩ := kl_get (loc := loc) (val := val) ((h1 k).mp hk)
  exact h2 i _ i2
theorem KW.lt (h : KW D cl A dom loc val H) {k : Nat} (hk : dom k) : loc k < H.size := (h.at_ hk).lt
theorem KW.inA (h : KW D cl A dom loc val H) {k : Nat} (hk : dom k) : A (loc k) := by
  obtain ⟨ks, h1, h2, h3⟩ := h
  obtain ⟨i, -, i2⟩ := kl_get (loc := loc) (val := val) ((h1 k).mp hk)
  exact h3.2 i _ i2
theorem KW.inj (h : KW D cl A dom loc val H) {k k2 : Nat} (hk : dom k) (hk2 : dom k2) (e : loc k = loc k2) : k = k2 := by
  obtain ⟨ks, h1, h2, h3⟩ := h
  obtain ⟨i, i1, i2⟩ := kl_get (loc := loc) (val := val) ((h1 k).mp hk)
  obtain ⟨j, j1, j2⟩ := kl_get (loc := loc) (val := val) ((h1 k2).mp hk2)
  have hij := h3.1 i j _ _ i2 j2 e
  subst hij
  exact Option.some.inj (i1.symm.trans j1)
theorem KW.ext (h : KW D cl A dom loc val H) {loc2 : Nat → Nat} {val2 : Nat → va_E} {dom2 : Nat → Prop} (hd : ∀ k, dom2 k → dom k) (hl : ∀ k, dom2 k → loc2 k = loc k) (hv : ∀ k, dom2 k → val2 k = val k) : KW D cl A dom2 loc2 val2 H := by
  classical
  obtain ⟨ks, h1, h2, h3⟩ := h
  refine ⟨ks.filter (fun k => decide (dom2 k)), fun k => ⟨fun hk => List.mem_filter.mpr ⟨(h1 k).mp (hd k hk), by simpa using hk⟩, fun hk => by simpa using (List.mem_filter.mp hk).2⟩, ?_, ?_⟩
  · intro i q hq
    obtain ⟨k, k1, rfl⟩ := kl_mem hq
    have hm := List.mem_filter.mp (List.mem_of_getElem? k1)
    have hk : dom2 k := by simpa using hm.2
    obtain ⟨j, -, j2⟩ := kl_get (loc := loc) (val := val) hm.1
    rw [hl k hk, hv k hk]
    exact h2 j _ j2
  · have hnd : ks.Nodup := by
      refine List.pairwise_iff_getElem.mpr (fun i j hi hj hij he => ?_)
      have e1 : ks[i]? = some ks[i] := List.getElem?_eq_getElem hi
      have e2 : ks[j]? = some ks[i] := by rw [he]; exact List.getElem?_eq_getElem hj
      have hc := h3.1 i j (loc ks[i], val ks[i]) (loc ks[i], val ks[i]) (by simp [kl, e1]) (by simp [kl, e2]) rfl
      omega
    have hnf : (ks.filter (fun k => decide (dom2 k))).Nodup := hnd.filter _
    refine ⟨fun i j x y hx hy hxy => ?_, fun i q hq => ?_⟩
    · obtain ⟨k, k1, rfl⟩ := kl_mem hx
      obtain ⟨k2, k3, rfl⟩ := kl_mem hy
      have m1 := List.mem_filter.mp (List.mem_of_getElem? k1)
      have m2 := List.mem_filter.mp (List.mem_of_getElem? k3)
      have d1 : dom2 k := by simpa using m1.2
      have d2 : dom2 k2 := by simpa using m2.2
      have hkk : k = k2 := by
        obtain ⟨a, a1, a2⟩ := kl_get (loc := loc) (val := val) m1.1
        obtain ⟨b, b1, b2⟩ := kl_get (loc := loc) (val := val) m2.1
        have hab := h3.1 a b _ _ a2 b2 (by show loc k = loc k2; rw [← hl k d1, ← hl k2 d2]; exact hxy)
        subst hab
        exact Option.some.inj (a1.symm.trans b1)
      subst hkk
      have hi := (List.getElem?_eq_some_iff.mp k1).1
      have hj := (List.getElem?_eq_some_iff.mp k3).1
      exact (List.getElem_inj hnf).mp ((List.getElem?_eq_some_iff.mp k1).2.trans (List.getElem?_eq_some_iff.mp k3).2.symm)
    · obtain ⟨k, k1, rfl⟩ := kl_mem hq
      have m1 := List.mem_filter.mp (List.mem_of_getElem? k1)
      have d1 : dom2 k := by simpa using m1.2
      obtain ⟨a, a1, a2⟩ := kl_get (loc := loc) (val := val) m1.1
      rw [hl k d1]
      have h9 := h3.2 a _ a2
      exact h9
/-- a new cell under a key (which may have been another's) -/
theorem KW.new (h : KW D cl A dom loc val H) {k q : Nat} {e : va_E} {H1 : Heap} {dom2 : Nat → Prop} (hd : ∀ j, dom2 j → j = k ∨ dom j) (hk2 : dom2 k)
    (hn : ∀ (ks : List Nat), k ∉ ks → va_P D cl (kl ks loc val) H → va_D A (kl ks loc val) → va_P D cl (kl ks loc val ++ [(q, e)]) H1 ∧ va_D A (kl ks loc val ++ [(q, e)])) : KW D cl A dom2 (va_up loc k q) (va_up val k e) H1 := by
  have h0 : KW D cl A (fun j => dom2 j ∧ j ≠ k) loc val H := h.ext (fun j z => (hd j z.1).resolve_left z.2) (fun _ _ => rfl) (fun _ _ => rfl)
  obtain ⟨ks, h1, h2, h3⟩ := h0
  have hk : k ∉ ks := fun z => ((h1 k).mpr z).2 rfl
  obtain ⟨h4, h5⟩ := hn ks hk h2 h3
  rw [kl_push hk] at h4 h5
  refine ⟨ks ++ [k], fun j => ⟨fun z => ?_, fun z => ?_⟩, h4, h5⟩
  · by_cases hj : j = k
    · rw [hj]; exact List.mem_append_right _ (List.mem_singleton.mpr rfl)
    · exact List.mem_append_left _ ((h1 j).mp ⟨z, hj⟩)
  · rcases List.mem_append.mp z with z | z
    · exact ((h1 j).mpr z).1
    · rw [List.mem_singleton.mp z]; exact hk2
end KB1

section KB0
/-- what is no good word, but lasts as long as the cells outside A stay: NF is the claim's own list of such facts -/
def kN (A : Nat → Prop) (s : State) : Prop := ∀ U : State, s.WarmedH U.vm → (∀ q : Nat, q < s.heap.size → ¬ A q → U.heap[q]? = s.heap[q]?) → NF U
theorem kN.now {A : Nat → Prop} {s : State} (h : kN A s) : NF s := h s (State.WarmedH.refl s) (fun _ _ _ => rfl)
theorem kN.move {A : Nat → Prop} {s U : State} (h : kN A s) (hW : s.WarmedH U.vm) (hs : s.heap.size ≤ U.heap.size) (hq : ∀ q : Nat, q < s.heap.size → ¬ A q → U.heap[q]? = s.heap[q]?) : kN A U := fun V hV hr =>
  h V (State.WarmedH.trans hW hV) (fun q h1 h2 => (hr q (Nat.lt_of_lt_of_le h1 hs) h2).trans (hq q h1 h2))
end KB0
section KB2
/-- sizes of the new cells; sizes are kept -/
def nsl (sz : Nat) (H : Heap) : Nat := ((H.toList.drop sz).map (fun c => c.slots.size)).sum
def szk (H0 H : Heap) : Prop := H0.size ≤ H.size ∧ ∀ (a : Nat) (c : Cell), H0[a]? = some c → ∃ c', H[a]? = some c' ∧ c'.slots.size = c.slots.size
/-- the walk's own names, in one -/
abbrev KX : Type := Program × Launch × Env × Room × State × MethodId × Array Value × List Frame × Method × Code × (State → Prop)
abbrev xR (X : KX) : Room := X.2.2.2.1
abbrev xs (X : KX) : State := X.2.2.2.2.1
abbrev xm (X : KX) : MethodId := X.2.2.2.2.2.1
abbrev xa (X : KX) : Array Value := X.2.2.2.2.2.2.1
abbrev xb (X : KX) : List Frame := X.2.2.2.2.2.2.2.1
abbrev xM (X : KX) : Method := X.2.2.2.2.2.2.2.2.1
abbrev xc (X : KX) : Code := X.2.2.2.2.2.2.2.2.2.1
abbrev xQ (X : KX) : State → Prop := X.2.2.2.2.2.2.2.2.2.2
def XW (X : KX) (H : Heap) (locs : List Loc) (cells slots : Nat) (g : JFrame) : Prop := W X.1 X.2.1 X.2.2.1 (xR X) (xs X) (xm X) (xa X) (xb X) (xM X) (xc X) H locs cells slots (xQ X) g
/-- what holds all along a walk -/
def OX (X : KX) (cc : ByteArray) (nL : Nat) (own : String) (Ts : List Cond) (D : va_G) (cl : List vw_C) (tys : List (ClassId × FieldType)) (A : Nat → Prop) (R : Room) : Prop :=
  X.1.tables.exec = Jvm.exec ∧ (xc X).code = cc ∧ (xc X).maxLocals = nL ∧ (xs X).vm.findClass own = some (xm X).cls ∧ (∀ w ∈ Ts, w.before (xa X) (xs X) = true) ∧ va_K D cl tys (xs X) ∧ (∀ q, (xs X).heap.size ≤ q → A q) ∧ (xM X).locks = false ∧ xR X = R ∧ kN A (xs X)
def lvh (ls : Array Slot) (lv : List (Option Value)) : Prop := ls.size = lv.length ∧ lv_wf ls ∧ ∀ (i : Nat) (v : Value), lv[i]? = some (some v) → ls[i]? = some (.val v) ∧ v.category = 1
def lvp (lv : List (Option Value)) : List (Nat × Value) := (List.range lv.length).filterMap (fun i => ((lv[i]?).getD none).map (fun v => (i, v)))
theorem lvp_mem {lv : List (Option Value)} {i : Nat} {v : Value} : (i, v) ∈ lvp lv ↔ lv[i]? = some (some v) := by
  unfold lvp
  rw [List.mem_filterMap]
  constructor
  · rintro ⟨j, hj, h⟩
    have hj2 : j < lv.length := List.mem_range.mp hj
    rw [List.getElem?_eq_getElem hj2] at h
    cases hv : lv[j] with
    | none => simp [hv] at h
    | some w =>
      simp [hv] at h
      obtain ⟨rfl, rfl⟩ := h
      rw [List.getElem?_eq_getElem hj2, hv]
  · intro h
    exact ⟨i, List.mem_range.mpr (List.getElem?_eq_some_iff.mp h).1, by simp [h]⟩
theorem lvh.has {ls : Array Slot} {lv : List (Option Value)} (h : lvh ls lv) : lv_has ls lv.length (lvp lv) := ⟨h.1, h.2.1, fun q hq => (h.2.2 q.1 q.2 (lvp_mem.mp hq)).1⟩
theorem lvh.of {ls : Array Slot} {lv : List (Option Value)} {ls' : Array Slot} {i : Nat} {v : Value} (h : lvh ls lv) (hi : i < lv.length) (hc : v.category = 1) (h' : lv_has ls' lv.length ((i, v) :: (lvp lv).filter (fun q => !(q.1 == i) && !(q.1 + 1 == i && q.2.category == 2)))) : lvh ls' (lv.set i (some v)) := by
  refine ⟨by simp [h'.1], h'.2.1, fun j w hw => ?_⟩
  by_cases hj : i = j
  · subst hj
    rw [List.getElem?_set_self hi] at hw
    cases hw
    exact ⟨h'.2.2 (i, v) List.mem_cons_self, hc⟩
  · rw [List.getElem?_set_ne hj] at hw
    have hcat := (h.2.2 j w hw).2
    refine ⟨h'.2.2 (j, w) (List.mem_cons_of_mem _ (List.mem_filter.mpr ⟨lvp_mem.mpr hw, ?_⟩)), hcat⟩
    have hne : ¬ j = i := fun z => hj z.symm
    simp [hne, hcat]
/-- THE JUDGEMENT: from pc, with these variables, this stack, in any heap that holds the world: the walk comes to its end -/
def V (X : KX) (D : va_G) (cl : List vw_C) (A : Nat → Prop) (dom : Nat → Prop) (loc : Nat → Nat) (val : Nat → va_E) (cells slots pc : Nat) (lv : List (Option Value)) (st : List Value) : Prop :=
  ∀ (H : Heap) (locs : List Loc) (ls : Array Slot), KW D cl A dom loc val H → va_S A (xs X).heap H locs → lvh ls lv → XW X H locs cells slots (F0 (xm X) pc ls st)
variable {X : KX} {cc : ByteArray} {nL : Nat} {own : String} {Ts : List Cond} {D : va_G} {cl : List vw_C} {tys : List (ClassId × FieldType)} {A : Nat → Prop} {R : Room} {dom : Nat → Prop} {loc : Nat → Nat} {val : Nat → va_E} {cells slots pc : Nat} {lv : List (Option Value)} {st : List Value}

theorem v_iconst (hX : OX X cc nL own Ts D cl tys A R) {n : Int} {v : Int32} (hd : decode cc pc = .ok (.iconst n, 1)) (hv : Int32.ofInt n = v) (k : V X D cl A dom loc val cells slots (pc + 1) lv (.int v :: st)) : V X D cl A dom loc val cells slots pc lv st := fun H locs ls hW hS hl => lv_iconst hX.1 hX.2.1 hd hv (k H locs ls hW hS hl)
theorem v_bipush (hX : OX X cc nL own Ts D cl tys A R) {n : Int} {v : Int32} (hd : decode cc pc = .ok (.bipush n, 2)) (hv : (Int8.ofInt n).toInt32 = v) (k : V X D cl A dom loc val cells slots (pc + 2) lv (.int v :: st)) : V X D cl A dom loc val cells slots pc lv st := fun H locs ls hW hS hl => lv_bipush hX.1 hX.2.1 hd hv (k H locs ls hW hS hl)
theorem v_sipush (hX : OX X cc nL own Ts D cl tys A R) {n : Int} {v : Int32} (hd : decode cc pc = .ok (.sipush n, 3)) (hv : (Int16.ofInt n).toInt32 = v) (k : V X D cl A dom loc val cells slots (pc + 3) lv (.int v :: st)) : V X D cl A dom loc val cells slots pc lv st := fun H locs ls hW hS hl => lv_sipush hX.1 hX.2.1 hd hv (k H locs ls hW hS hl)
theorem v_lconst (hX : OX X cc nL own Ts D cl tys A R) {n : Fin 2} {v : Int64} (hd : decode cc pc = .ok (.lconst n, 1)) (hv : Int64.ofNat (n : Nat) = v) (k : V X D cl A dom loc val cells slots (pc + 1) lv (.long v :: st)) : V X D cl A dom loc val cells slots pc lv st := fun H locs ls hW hS hl => lv_lconst hX.1 hX.2.1 hd hv (k H locs ls hW hS hl)
theorem v_null (hX : OX X cc nL own Ts D cl tys A R)  (hd : decode cc pc = .ok (.aconst_null, 1)) (k : V X D cl A dom loc val cells slots (pc + 1) lv (.null :: st)) : V X D cl A dom loc val cells slots pc lv st := fun H locs ls hW hS hl => lv_null hX.1 hX.2.1 hd (k H locs ls hW hS hl)
theorem v_iload_n (hX : OX X cc nL own Ts D cl tys A R) {k9 : Fin 4} {i : Nat} {x : Int32} (hd : decode cc pc = .ok (.iload_n k9, 1)) (hi : (k9 : Nat) = i) (hv : lv[i]? = some (some (.int x))) (k : V X D cl A dom loc val cells slots (pc + 1) lv (.int x :: st)) : V X D cl A dom loc val cells slots pc lv st := fun H locs ls hW hS hl => lv_iload_n hX.1 hX.2.1 hd hi (hl.2.2 _ _ hv).1 (k H locs ls hW hS hl)
theorem v_iload (hX : OX X cc nL own Ts D cl tys A R) {i : Nat} {x : Int32} (hd : decode cc pc = .ok (.iload i, 2)) (hv : lv[i]? = some (some (.int x))) (k : V X D cl A dom loc val cells slots (pc + 2) lv (.int x :: st)) : V X D cl A dom loc val cells slots pc lv st := fun H locs ls hW hS hl => lv_iload hX.1 hX.2.1 hd (hl.2.2 _ _ hv).1 (k H locs ls hW hS hl)
theorem v_aload_n (hX : OX X cc nL own Ts D cl tys A R) {k9 : Fin 4} {i : Nat} {a : Nat} (hd : decode cc pc = .ok (.aload_n k9, 1)) (hi : (k9 : Nat) = i) (hv : lv[i]? = some (some (.ref a))) (k : V X D cl A dom loc val cells slots (pc + 1) lv (.ref a :: st)) : V X D cl A dom loc val cells slots pc lv st := fun H locs ls hW hS hl => lv_aload_n hX.1 hX.2.1 hd hi (hl.2.2 _ _ hv).1 (k H locs ls hW hS hl)
theorem v_aload (hX : OX X cc nL own Ts D cl tys A R) {i : Nat} {a : Nat} (hd : decode cc pc = .ok (.aload i, 2)) (hv : lv[i]? = some (some (.ref a))) (k : V X D cl A dom loc val cells slots (pc + 2) lv (.ref a :: st)) : V X D cl A dom loc val cells slots pc lv st := fun H locs ls hW hS hl => lv_aload hX.1 hX.2.1 hd (hl.2.2 _ _ hv).1 (k H locs ls hW hS hl)
theorem v_aload_nQ (hX : OX X cc nL own Ts D cl tys A R) {k9 : Fin 4} {i : Nat} (r : Option Nat) (hd : decode cc pc = .ok (.aload_n k9, 1)) (hi : (k9 : Nat) = i) (hv : lv[i]? = some (some (va_rf r))) (k : V X D cl A dom loc val cells slots (pc + 1) lv (va_rf r :: st)) : V X D cl A dom loc val cells slots pc lv st := fun H locs ls hW hS hl => by
  cases r with
  | none => exact lv_aload_nN hX.1 hX.2.1 hd hi (hl.2.2 _ _ hv).1 (k H locs ls hW hS hl)
  | some a => exact lv_aload_n hX.1 hX.2.1 hd hi (hl.2.2 _ _ hv).1 (k H locs ls hW hS hl)
theorem v_aloadQ (hX : OX X cc nL own Ts D cl tys A R) {i : Nat} (r : Option Nat) (hd : decode cc pc = .ok (.aload i, 2)) (hv : lv[i]? = some (some (va_rf r))) (k : V X D cl A dom loc val cells slots (pc + 2) lv (va_rf r :: st)) : V X D cl A dom loc val cells slots pc lv st := fun H locs ls hW hS hl => by
  cases r with
  | none => exact lv_aloadN hX.1 hX.2.1 hd (hl.2.2 _ _ hv).1 (k H locs ls hW hS hl)
  | some a => exact lv_aload hX.1 hX.2.1 hd (hl.2.2 _ _ hv).1 (k H locs ls hW hS hl)
theorem v_istore_n (hX : OX X cc nL own Ts D cl tys A R) {k9 : Fin 4} {i : Nat} {x : Int32} (hd : decode cc pc = .ok (.istore_n k9, 1)) (hi : (k9 : Nat) = i) (hn : i < lv.length) {lv' : List (Option Value)} (he : lv.set i (some (.int x)) = lv') (k : V X D cl A dom loc val cells slots (pc + 1) lv' st) : V X D cl A dom loc val cells slots pc lv (.int x :: st) := fun H locs ls hW hS hl => lv_istore_n hX.1 hX.2.1 hd hi hl.has hn rfl (fun ls' hl' => k H locs ls' hW hS (he ▸ hl.of hn rfl hl'))
theorem v_istore (hX : OX X cc nL own Ts D cl tys A R) {i : Nat} {x : Int32} (hd : decode cc pc = .ok (.istore i, 2)) (hn : i < lv.length) {lv' : List (Option Value)} (he : lv.set i (some (.int x)) = lv') (k : V X D cl A dom loc val cells slots (pc + 2) lv' st) : V X D cl A dom loc val cells slots pc lv (.int x :: st) := fun H locs ls hW hS hl => lv_istore hX.1 hX.2.1 hd hl.has hn rfl (fun ls' hl' => k H locs ls' hW hS (he ▸ hl.of hn rfl hl'))
theorem v_astore_nQ (hX : OX X cc nL own Ts D cl tys A R) {k9 : Fin 4} {i : Nat} (r : Option Nat) (hd : decode cc pc = .ok (.astore_n k9, 1)) (hi : (k9 : Nat) = i) (hn : i < lv.length) {lv' : List (Option Value)} (he : lv.set i (some (va_rf r)) = lv') (k : V X D cl A dom loc val cells slots (pc + 1) lv' st) : V X D cl A dom loc val cells slots pc lv (va_rf r :: st) := fun H locs ls hW hS hl => by
  cases r with
  | none => exact lv_astore_nN hX.1 hX.2.1 hd hi hl.has hn rfl (fun ls' hl' => k H locs ls' hW hS (he ▸ hl.of hn rfl hl'))
  | some a => exact lv_astore_n hX.1 hX.2.1 hd hi hl.has hn rfl (fun ls' hl' => k H locs ls' hW hS (he ▸ hl.of hn rfl hl'))
theorem v_astoreQ (hX : OX X cc nL own Ts D cl tys A R) {i : Nat} (r : Option Nat) (hd : decode cc pc = .ok (.astore i, 2)) (hn : i < lv.length) {lv' : List (Option Value)} (he : lv.set i (some (va_rf r)) = lv') (k : V X D cl A dom loc val cells slots (pc + 2) lv' st) : V X D cl A dom loc val cells slots pc lv (va_rf r :: st) := fun H locs ls hW hS hl => by
  cases r with
  | none => exact lv_astoreN hX.1 hX.2.1 hd hl.has hn rfl (fun ls' hl' => k H locs ls' hW hS (he ▸ hl.of hn rfl hl'))
  | some a => exact lv_astore hX.1 hX.2.1 hd hl.has hn rfl (fun ls' hl' => k H locs ls' hW hS (he ▸ hl.of hn rfl hl'))
theorem v_astore_n (hX : OX X cc nL own Ts D cl tys A R) {k9 : Fin 4} {i a : Nat} (hd : decode cc pc = .ok (.astore_n k9, 1)) (hi : (k9 : Nat) = i) (hn : i < lv.length) {lv' : List (Option Value)} (he : lv.set i (some (.ref a)) = lv') (k : V X D cl A dom loc val cells slots (pc + 1) lv' st) : V X D cl A dom loc val cells slots pc lv (.ref a :: st) := v_astore_nQ hX (some a) hd hi hn he k
theorem v_astore (hX : OX X cc nL own Ts D cl tys A R) {i a : Nat} (hd : decode cc pc = .ok (.astore i, 2)) (hn : i < lv.length) {lv' : List (Option Value)} (he : lv.set i (some (.ref a)) = lv') (k : V X D cl A dom loc val cells slots (pc + 2) lv' st) : V X D cl A dom loc val cells slots pc lv (.ref a :: st) := v_astoreQ hX (some a) hd hn he k
theorem v_iinc (hX : OX X cc nL own Ts D cl tys A R) {i : Nat} {n : Int} {x y : Int32} (hd : decode cc pc = .ok (.iinc i n, 3)) (hv : lv[i]? = some (some (.int x))) (hy : x + Int32.ofInt n = y) {lv' : List (Option Value)} (he : lv.set i (some (.int y)) = lv') (k : V X D cl A dom loc val cells slots (pc + 3) lv' st) : V X D cl A dom loc val cells slots pc lv st := fun H locs ls hW hS hl => by
  have hn : i < lv.length := (List.getElem?_eq_some_iff.mp hv).1
  obtain ⟨j, hj⟩ := List.getElem?_of_mem (lvp_mem.mpr hv)
  exact lv_iinc hX.1 hX.2.1 hd hl.has hj hy hn rfl (fun ls' hl' => k H locs ls' hW hS (he ▸ hl.of hn rfl hl'))
theorem v_iadd (hX : OX X cc nL own Ts D cl tys A R) {x y : Int32} (hd : decode cc pc = .ok (.iadd, 1)) (k : V X D cl A dom loc val cells slots (pc + 1) lv (.int (x + y) :: st)) : V X D cl A dom loc val cells slots pc lv (.int y :: .int x :: st) := fun H locs ls hW hS hl => lv_iadd hX.1 hX.2.1 hd (k H locs ls hW hS hl)
theorem v_isub (hX : OX X cc nL own Ts D cl tys A R) {x y : Int32} (hd : decode cc pc = .ok (.isub, 1)) (k : V X D cl A dom loc val cells slots (pc + 1) lv (.int (x - y) :: st)) : V X D cl A dom loc val cells slots pc lv (.int y :: .int x :: st) := fun H locs ls hW hS hl => lv_isub hX.1 hX.2.1 hd (k H locs ls hW hS hl)
theorem v_imul (hX : OX X cc nL own Ts D cl tys A R) {x y : Int32} (hd : decode cc pc = .ok (.imul, 1)) (k : V X D cl A dom loc val cells slots (pc + 1) lv (.int (x * y) :: st)) : V X D cl A dom loc val cells slots pc lv (.int y :: .int x :: st) := fun H locs ls hW hS hl => lv_imul hX.1 hX.2.1 hd (k H locs ls hW hS hl)
theorem v_iand (hX : OX X cc nL own Ts D cl tys A R) {x y : Int32} (hd : decode cc pc = .ok (.iand, 1)) (k : V X D cl A dom loc val cells slots (pc + 1) lv (.int (x &&& y) :: st)) : V X D cl A dom loc val cells slots pc lv (.int y :: .int x :: st) := fun H locs ls hW hS hl => lv_iand hX.1 hX.2.1 hd (k H locs ls hW hS hl)
theorem v_ior (hX : OX X cc nL own Ts D cl tys A R) {x y : Int32} (hd : decode cc pc = .ok (.ior, 1)) (k : V X D cl A dom loc val cells slots (pc + 1) lv (.int (x ||| y) :: st)) : V X D cl A dom loc val cells slots pc lv (.int y :: .int x :: st) := fun H locs ls hW hS hl => lv_ior hX.1 hX.2.1 hd (k H locs ls hW hS hl)
theorem v_ixor (hX : OX X cc nL own Ts D cl tys A R) {x y : Int32} (hd : decode cc pc = .ok (.ixor, 1)) (k : V X D cl A dom loc val cells slots (pc + 1) lv (.int (x ^^^ y) :: st)) : V X D cl A dom loc val cells slots pc lv (.int y :: .int x :: st) := fun H locs ls hW hS hl => lv_ixor hX.1 hX.2.1 hd (k H locs ls hW hS hl)
theorem v_idiv (hX : OX X cc nL own Ts D cl tys A R) {x y : Int32} (hd : decode cc pc = .ok (.idiv, 1)) (hne : ¬ y = 0) (k : V X D cl A dom loc val cells slots (pc + 1) lv (.int (x / y) :: st)) : V X D cl A dom loc val cells slots pc lv (.int y :: .int x :: st) := fun H locs ls hW hS hl => lv_idiv hX.1 hX.2.1 hd hne (k H locs ls hW hS hl)
theorem v_irem (hX : OX X cc nL own Ts D cl tys A R) {x y : Int32} (hd : decode cc pc = .ok (.irem, 1)) (hne : ¬ y = 0) (k : V X D cl A dom loc val cells slots (pc + 1) lv (.int (x - x / y * y) :: st)) : V X D cl A dom loc val cells slots pc lv (.int y :: .int x :: st) := fun H locs ls hW hS hl => lv_irem hX.1 hX.2.1 hd hne (k H locs ls hW hS hl)
theorem v_ishl (hX : OX X cc nL own Ts D cl tys A R) {x y : Int32} (hd : decode cc pc = .ok (.ishl, 1)) (k : V X D cl A dom loc val cells slots (pc + 1) lv (.int (x <<< (y &&& 31)) :: st)) : V X D cl A dom loc val cells slots pc lv (.int y :: .int x :: st) := fun H locs ls hW hS hl => lv_ishl hX.1 hX.2.1 hd (k H locs ls hW hS hl)
theorem v_ishr (hX : OX X cc nL own Ts D cl tys A R) {x y : Int32} (hd : decode cc pc = .ok (.ishr, 1)) (k : V X D cl A dom loc val cells slots (pc + 1) lv (.int (x >>> (y &&& 31)) :: st)) : V X D cl A dom loc val cells slots pc lv (.int y :: .int x :: st) := fun H locs ls hW hS hl => lv_ishr hX.1 hX.2.1 hd (k H locs ls hW hS hl)
theorem v_ineg (hX : OX X cc nL own Ts D cl tys A R) {x : Int32} (hd : decode cc pc = .ok (.ineg, 1)) (k : V X D cl A dom loc val cells slots (pc + 1) lv (.int (-x) :: st)) : V X D cl A dom loc val cells slots pc lv (.int x :: st) := fun H locs ls hW hS hl => lv_ineg hX.1 hX.2.1 hd (k H locs ls hW hS hl)
theorem v_i2l (hX : OX X cc nL own Ts D cl tys A R) {x : Int32} {v : Int64} (hd : decode cc pc = .ok (.i2l, 1)) (hv : x.toInt64 = v) (k : V X D cl A dom loc val cells slots (pc + 1) lv (.long v :: st)) : V X D cl A dom loc val cells slots pc lv (.int x :: st) := fun H locs ls hW hS hl => lv_i2l hX.1 hX.2.1 hd hv (k H locs ls hW hS hl)
theorem v_i2b (hX : OX X cc nL own Ts D cl tys A R) {x v : Int32} (hd : decode cc pc = .ok (.i2b, 1)) (hv : x.toInt8.toInt32 = v) (k : V X D cl A dom loc val cells slots (pc + 1) lv (.int v :: st)) : V X D cl A dom loc val cells slots pc lv (.int x :: st) := fun H locs ls hW hS hl => lv_i2b hX.1 hX.2.1 hd hv (k H locs ls hW hS hl)
theorem v_i2c (hX : OX X cc nL own Ts D cl tys A R) {x v : Int32} (hd : decode cc pc = .ok (.i2c, 1)) (hv : (x.toUInt32 % 65536).toInt32 = v) (k : V X D cl A dom loc val cells slots (pc + 1) lv (.int v :: st)) : V X D cl A dom loc val cells slots pc lv (.int x :: st) := fun H locs ls hW hS hl => lv_i2c hX.1 hX.2.1 hd hv (k H locs ls hW hS hl)
theorem v_dup (hX : OX X cc nL own Ts D cl tys A R) {a : Value} (hd : decode cc pc = .ok (.dup, 1)) (ha : a.category = 1) (k : V X D cl A dom loc val cells slots (pc + 1) lv (a :: a :: st)) : V X D cl A dom loc val cells slots pc lv (a :: st) := fun H locs ls hW hS hl => lv_dup hX.1 hX.2.1 hd ha (k H locs ls hW hS hl)
theorem v_pop (hX : OX X cc nL own Ts D cl tys A R) {a : Value} (hd : decode cc pc = .ok (.pop, 1)) (ha : a.category = 1) (k : V X D cl A dom loc val cells slots (pc + 1) lv st) : V X D cl A dom loc val cells slots pc lv (a :: st) := fun H locs ls hW hS hl => lv_pop hX.1 hX.2.1 hd ha (k H locs ls hW hS hl)
theorem v_dup_x1 (hX : OX X cc nL own Ts D cl tys A R) {a b : Value} (hd : decode cc pc = .ok (.dup_x1, 1)) (ha : a.category = 1) (hb : b.category = 1) (k : V X D cl A dom loc val cells slots (pc + 1) lv (a :: b :: a :: st)) : V X D cl A dom loc val cells slots pc lv (a :: b :: st) := fun H locs ls hW hS hl => lv_dup_x1 hX.1 hX.2.1 hd ha hb (k H locs ls hW hS hl)
theorem v_dup_x2 (hX : OX X cc nL own Ts D cl tys A R) {a b c : Value} (hd : decode cc pc = .ok (.dup_x2, 1)) (ha : a.category = 1) (hb : b.category = 1) (hc : c.category = 1) (k : V X D cl A dom loc val cells slots (pc + 1) lv (a :: b :: c :: a :: st)) : V X D cl A dom loc val cells slots pc lv (a :: b :: c :: st) := fun H locs ls hW hS hl => lv_dup_x2 hX.1 hX.2.1 hd ha hb hc (k H locs ls hW hS hl)
theorem v_dup2 (hX : OX X cc nL own Ts D cl tys A R) {a b : Value} (hd : decode cc pc = .ok (.dup2, 1)) (ha : a.category = 1) (hb : b.category = 1) (k : V X D cl A dom loc val cells slots (pc + 1) lv (a :: b :: a :: b :: st)) : V X D cl A dom loc val cells slots pc lv (a :: b :: st) := fun H locs ls hW hS hl => lv_dup2_11 hX.1 hX.2.1 hd ha hb (k H locs ls hW hS hl)
theorem v_goto (hX : OX X cc nL own Ts D cl tys A R) {off : Int} {tgt : Nat} (hd : decode cc pc = .ok (.goto off, 3)) (ht : (pc : Int) + off = (tgt : Int)) (k : V X D cl A dom loc val cells slots tgt lv st) : V X D cl A dom loc val cells slots pc lv st := fun H locs ls hW hS hl => lv_goto hX.1 hX.2.1 hd ht (k H locs ls hW hS hl)
theorem v_if_eq (hX : OX X cc nL own Ts D cl tys A R) {x : Int32} {off : Int} {tgt : Nat} (hd : decode cc pc = .ok (.ifCond .eq off, 3)) (ht : (pc : Int) + off = (tgt : Int)) (kt : x = 0 → V X D cl A dom loc val cells slots tgt lv st) (kf : ¬ x = 0 → V X D cl A dom loc val cells slots (pc + 3) lv st) : V X D cl A dom loc val cells slots pc lv (.int x :: st) := fun H locs ls hW hS hl => lv_if_eq hX.1 hX.2.1 hd ht (fun z => kt z H locs ls hW hS hl) (fun z => kf z H locs ls hW hS hl)
theorem v_icmp_eq (hX : OX X cc nL own Ts D cl tys A R) {x y : Int32} {off : Int} {tgt : Nat} (hd : decode cc pc = .ok (.if_icmp .eq off, 3)) (ht : (pc : Int) + off = (tgt : Int)) (kt : x = y → V X D cl A dom loc val cells slots tgt lv st) (kf : ¬ x = y → V X D cl A dom loc val cells slots (pc + 3) lv st) : V X D cl A dom loc val cells slots pc lv (.int y :: .int x :: st) := fun H locs ls hW hS hl => lv_icmp_eq hX.1 hX.2.1 hd ht (fun z => kt z H locs ls hW hS hl) (fun z => kf z H locs ls hW hS hl)
theorem v_if_ne (hX : OX X cc nL own Ts D cl tys A R) {x : Int32} {off : Int} {tgt : Nat} (hd : decode cc pc = .ok (.ifCond .ne off, 3)) (ht : (pc : Int) + off = (tgt : Int)) (kt : ¬ x = 0 → V X D cl A dom loc val cells slots tgt lv st) (kf : x = 0 → V X D cl A dom loc val cells slots (pc + 3) lv st) : V X D cl A dom loc val cells slots pc lv (.int x :: st) := fun H locs ls hW hS hl => lv_if_ne hX.1 hX.2.1 hd ht (fun z => kt z H locs ls hW hS hl) (fun z => kf z H locs ls hW hS hl)
theorem v_icmp_ne (hX : OX X cc nL own Ts D cl tys A R) {x y : Int32} {off : Int} {tgt : Nat} (hd : decode cc pc = .ok (.if_icmp .ne off, 3)) (ht : (pc : Int) + off = (tgt : Int)) (kt : ¬ x = y → V X D cl A dom loc val cells slots tgt lv st) (kf : x = y → V X D cl A dom loc val cells slots (pc + 3) lv st) : V X D cl A dom loc val cells slots pc lv (.int y :: .int x :: st) := fun H locs ls hW hS hl => lv_icmp_ne hX.1 hX.2.1 hd ht (fun z => kt z H locs ls hW hS hl) (fun z => kf z H locs ls hW hS hl)
theorem v_if_lt (hX : OX X cc nL own Ts D cl tys A R) {x : Int32} {off : Int} {tgt : Nat} (hd : decode cc pc = .ok (.ifCond .lt off, 3)) (ht : (pc : Int) + off = (tgt : Int)) (kt : x < 0 → V X D cl A dom loc val cells slots tgt lv st) (kf : ¬ x < 0 → V X D cl A dom loc val cells slots (pc + 3) lv st) : V X D cl A dom loc val cells slots pc lv (.int x :: st) := fun H locs ls hW hS hl => lv_if_lt hX.1 hX.2.1 hd ht (fun z => kt z H locs ls hW hS hl) (fun z => kf z H locs ls hW hS hl)
theorem v_icmp_lt (hX : OX X cc nL own Ts D cl tys A R) {x y : Int32} {off : Int} {tgt : Nat} (hd : decode cc pc = .ok (.if_icmp .lt off, 3)) (ht : (pc : Int) + off = (tgt : Int)) (kt : x < y → V X D cl A dom loc val cells slots tgt lv st) (kf : ¬ x < y → V X D cl A dom loc val cells slots (pc + 3) lv st) : V X D cl A dom loc val cells slots pc lv (.int y :: .int x :: st) := fun H locs ls hW hS hl => lv_icmp_lt hX.1 hX.2.1 hd ht (fun z => kt z H locs ls hW hS hl) (fun z => kf z H locs ls hW hS hl)
theorem v_if_ge (hX : OX X cc nL own Ts D cl tys A R) {x : Int32} {off : Int} {tgt : Nat} (hd : decode cc pc = .ok (.ifCond .ge off, 3)) (ht : (pc : Int) + off = (tgt : Int)) (kt : 0 ≤ x → V X D cl A dom loc val cells slots tgt lv st) (kf : ¬ 0 ≤ x → V X D cl A dom loc val cells slots (pc + 3) lv st) : V X D cl A dom loc val cells slots pc lv (.int x :: st) := fun H locs ls hW hS hl => lv_if_ge hX.1 hX.2.1 hd ht (fun z => kt z H locs ls hW hS hl) (fun z => kf z H locs ls hW hS hl)
theorem v_icmp_ge (hX : OX X cc nL own Ts D cl tys A R) {x y : Int32} {off : Int} {tgt : Nat} (hd : decode cc pc = .ok (.if_icmp .ge off, 3)) (ht : (pc : Int) + off = (tgt : Int)) (kt : y ≤ x → V X D cl A dom loc val cells slots tgt lv st) (kf : ¬ y ≤ x → V X D cl A dom loc val cells slots (pc + 3) lv st) : V X D cl A dom loc val cells slots pc lv (.int y :: .int x :: st) := fun H locs ls hW hS hl => lv_icmp_ge hX.1 hX.2.1 hd ht (fun z => kt z H locs ls hW hS hl) (fun z => kf z H locs ls hW hS hl)
theorem v_if_gt (hX : OX X cc nL own Ts D cl tys A R) {x : Int32} {off : Int} {tgt : Nat} (hd : decode cc pc = .ok (.ifCond .gt off, 3)) (ht : (pc : Int) + off = (tgt : Int)) (kt : 0 < x → V X D cl A dom loc val cells slots tgt lv st) (kf : ¬ 0 < x → V X D cl A dom loc val cells slots (pc + 3) lv st) : V X D cl A dom loc val cells slots pc lv (.int x :: st) := fun H locs ls hW hS hl => lv_if_gt hX.1 hX.2.1 hd ht (fun z => kt z H locs ls hW hS hl) (fun z => kf z H locs ls hW hS hl)
theorem v_icmp_gt (hX : OX X cc nL own Ts D cl tys A R) {x y : Int32} {off : Int} {tgt : Nat} (hd : decode cc pc = .ok (.if_icmp .gt off, 3)) (ht : (pc : Int) + off = (tgt : Int)) (kt : y < x → V X D cl A dom loc val cells slots tgt lv st) (kf : ¬ y < x → V X D cl A dom loc val cells slots (pc + 3) lv st) : V X D cl A dom loc val cells slots pc lv (.int y :: .int x :: st) := fun H locs ls hW hS hl => lv_icmp_gt hX.1 hX.2.1 hd ht (fun z => kt z H locs ls hW hS hl) (fun z => kf z H locs ls hW hS hl)
theorem v_if_le (hX : OX X cc nL own Ts D cl tys A R) {x : Int32} {off : Int} {tgt : Nat} (hd : decode cc pc = .ok (.ifCond .le off, 3)) (ht : (pc : Int) + off = (tgt : Int)) (kt : x ≤ 0 → V X D cl A dom loc val cells slots tgt lv st) (kf : ¬ x ≤ 0 → V X D cl A dom loc val cells slots (pc + 3) lv st) : V X D cl A dom loc val cells slots pc lv (.int x :: st) := fun H locs ls hW hS hl => lv_if_le hX.1 hX.2.1 hd ht (fun z => kt z H locs ls hW hS hl) (fun z => kf z H locs ls hW hS hl)
theorem v_icmp_le (hX : OX X cc nL own Ts D cl tys A R) {x y : Int32} {off : Int} {tgt : Nat} (hd : decode cc pc = .ok (.if_icmp .le off, 3)) (ht : (pc : Int) + off = (tgt : Int)) (kt : x ≤ y → V X D cl A dom loc val cells slots tgt lv st) (kf : ¬ x ≤ y → V X D cl A dom loc val cells slots (pc + 3) lv st) : V X D cl A dom loc val cells slots pc lv (.int y :: .int x :: st) := fun H locs ls hW hS hl => lv_icmp_le hX.1 hX.2.1 hd ht (fun z => kt z H locs ls hW hS hl) (fun z => kf z H locs ls hW hS hl)
theorem v_ifnull (hX : OX X cc nL own Ts D cl tys A R) (r : Option Nat) {off : Int} {tgt : Nat} (hd : decode cc pc = .ok (.ifnull off, 3)) (ht : (pc : Int) + off = (tgt : Int)) (kt : r = none → V X D cl A dom loc val cells slots tgt lv st) (kf : ∀ a, r = some a → V X D cl A dom loc val cells slots (pc + 3) lv st) : V X D cl A dom loc val cells slots pc lv (va_rf r :: st) := fun H locs ls hW hS hl => by
  cases r with
  | none => exact lv_ifnullN hX.1 hX.2.1 hd ht (kt rfl H locs ls hW hS hl)
  | some a => exact lv_ifnull hX.1 hX.2.1 hd (kf a rfl H locs ls hW hS hl)
theorem v_ifnonnull (hX : OX X cc nL own Ts D cl tys A R) (r : Option Nat) {off : Int} {tgt : Nat} (hd : decode cc pc = .ok (.ifnonnull off, 3)) (ht : (pc : Int) + off = (tgt : Int)) (kt : ∀ a, r = some a → V X D cl A dom loc val cells slots tgt lv st) (kf : r = none → V X D cl A dom loc val cells slots (pc + 3) lv st) : V X D cl A dom loc val cells slots pc lv (va_rf r :: st) := fun H locs ls hW hS hl => by
  cases r with
  | none => exact lv_ifnonnullN hX.1 hX.2.1 hd (kf rfl H locs ls hW hS hl)
  | some a => exact lv_ifnonnull hX.1 hX.2.1 hd ht (kt a rfl H locs ls hW hS hl)
theorem v_acmp_eq (hX : OX X cc nL own Ts D cl tys A R) (rx ry : Option Nat) {off : Int} {tgt : Nat} (hd : decode cc pc = .ok (.if_acmp .eq off, 3)) (ht : (pc : Int) + off = (tgt : Int)) (kt : rx = ry → V X D cl A dom loc val cells slots tgt lv st) (kf : ¬ rx = ry → V X D cl A dom loc val cells slots (pc + 3) lv st) : V X D cl A dom loc val cells slots pc lv (va_rf ry :: va_rf rx :: st) := fun H locs ls hW hS hl => lv_acmp_eq hX.1 hX.2.1 hd ht (fun z => kt z H locs ls hW hS hl) (fun z => kf z H locs ls hW hS hl)
theorem v_acmp_ne (hX : OX X cc nL own Ts D cl tys A R) (rx ry : Option Nat) {off : Int} {tgt : Nat} (hd : decode cc pc = .ok (.if_acmp .ne off, 3)) (ht : (pc : Int) + off = (tgt : Int)) (kt : ¬ rx = ry → V X D cl A dom loc val cells slots tgt lv st) (kf : rx = ry → V X D cl A dom loc val cells slots (pc + 3) lv st) : V X D cl A dom loc val cells slots pc lv (va_rf ry :: va_rf rx :: st) := fun H locs ls hW hS hl => lv_acmp_ne hX.1 hX.2.1 hd ht (fun z => kt z H locs ls hW hS hl) (fun z => kf z H locs ls hW hS hl)
theorem v_ldc (hX : OX X cc nL own Ts D cl tys A R) {index : Nat} {v : Int32} (hc : Jvm.Cond.constant own index v ∈ Ts) (hd : decode cc pc = .ok (.ldc index, 2)) (k : V X D cl A dom loc val cells slots (pc + 2) lv (.int v :: st)) : V X D cl A dom loc val cells slots pc lv st := fun H locs ls hW hS hl => lv_ldc hX.1 hX.2.1 hX.2.2.2.1 (hX.2.2.2.2.1 _ hc) hd (k H locs ls hW hS hl)
theorem v_topi {x : Int32} (k : ∀ y : Int32, y = x → V X D cl A dom loc val cells slots pc lv (.int y :: st)) : V X D cl A dom loc val cells slots pc lv (.int x :: st) := k x rfl
theorem v_tableOut (hX : OX X cc nL own Ts D cl tys A R) {dflt lo hi : Int} {offs : Array Int} {len : Nat} {x : Int32} {tgt : Nat} (hd : decode cc pc = .ok (.tableswitch dflt lo hi offs, len)) (h : x.toInt < lo ∨ hi < x.toInt) (ht : (pc : Int) + dflt = (tgt : Int)) (k : V X D cl A dom loc val cells slots tgt lv st) : V X D cl A dom loc val cells slots pc lv (.int x :: st) := fun H locs ls hW hS hl => lv_tableOut hX.1 hX.2.1 hd h ht (k H locs ls hW hS hl)
theorem v_tableIn (hX : OX X cc nL own Ts D cl tys A R) {dflt lo hi : Int} {offs : Array Int} {len : Nat} {x : Int32} {off : Int} {tgt : Nat} (hd : decode cc pc = .ok (.tableswitch dflt lo hi offs, len)) (h1 : ¬ x.toInt < lo) (h2 : ¬ hi < x.toInt) (ho : offs[(x.toInt - lo).toNat]? = some off) (ht : (pc : Int) + off = (tgt : Int)) (k : V X D cl A dom loc val cells slots tgt lv st) : V X D cl A dom loc val cells slots pc lv (.int x :: st) := fun H locs ls hW hS hl => lv_tableIn hX.1 hX.2.1 hd h1 h2 ho ht (k H locs ls hW hS hl)
theorem v_lookup (hX : OX X cc nL own Ts D cl tys A R) {dflt : Int} {ps : Array (Int × Int)} {len : Nat} {x : Int32} {off : Int} {tgt : Nat} (hd : decode cc pc = .ok (.lookupswitch dflt ps, len)) (hp : (ps.toList.zip (ps.toList.drop 1)).all (fun (a, next) => a.1 < next.1) = true) (ho : Op.lookupswitch.offset ps.toList dflt x.toInt = off) (ht : (pc : Int) + off = (tgt : Int)) (k : V X D cl A dom loc val cells slots tgt lv st) : V X D cl A dom loc val cells slots pc lv (.int x :: st) := fun H locs ls hW hS hl => lv_lookup hX.1 hX.2.1 hd hp ho ht (k H locs ls hW hS hl)
theorem v_lcmp (hX : OX X cc nL own Ts D cl tys A R) {x y : Int64} (hd : decode cc pc = .ok (.lcmp, 1)) (k : V X D cl A dom loc val cells slots (pc + 1) lv (.int (lg_cmp x y) :: st)) : V X D cl A dom loc val cells slots pc lv (.long y :: .long x :: st) := fun H locs ls hW hS hl => W.lcmp hX.1 hX.2.1 hd (k H locs ls hW hS hl)
/-- a field is read: of the object under the key j (any reference a that is loc j) -/
theorem v_get (hX : OX X cc nL own Ts D cl tys A R) (j : Nat) {C ref : String} {T : u_T} {N ci index : Nat} {fs : List Value} {a : Nat} {v : Value} (hin : ∀ w ∈ u_ws C T N, w ∈ Ts) (hj : dom j) (ha : loc j = a) (he : val j = .inr (ci, fs)) (hc : cl[ci]? = some (C, T, N)) (k : Nat) (hk : k < N) (hlink : Cond.fieldLink own index ref (T k).2.1 (T k).2.2.1 ∈ Ts) (href : (T k).1 = ref) (hv : fs[k]? = some v) (hd : decode cc pc = .ok (.getfield index, 3))
    (kk : V X D cl A dom loc val cells slots (pc + 3) lv (v :: st)) : V X D cl A dom loc val cells slots pc lv (.ref a :: st) := fun H locs ls hW hS hl => by
  subst ha
  subst href
  have hP : va_P D cl [(loc j, .inr (ci, fs))] H := fun i q hq => by
    have hz : i < 1 := (List.getElem?_eq_some_iff.mp hq).1
    rw [show i = 0 by omega] at hq
    cases hq
    rw [← he]; exact hW.at_ hj
  exact va_get (q0 := 0) hX.1 hX.2.1 hX.2.2.2.2.1 hin hX.2.2.2.1 hX.2.2.2.2.2.1 hP (ci := ci) (fs := fs) rfl hc k hk (hX.2.2.2.2.1 _ hlink) (fun _ h9 => h9) hv hd (kk H locs ls hW hS hl)
theorem v_put (hX : OX X cc nL own Ts D cl tys A R) (j : Nat) {C ref : String} {T : u_T} {N ci index : Nat} {fs : List Value} {a : Nat} {v : Value} {ty : FieldType} (hin : ∀ w ∈ u_ws C T N, w ∈ Ts) (ty0 : Nat → FieldType) (hty : ∀ k, k < N → parseFieldDescriptor (T k).2.2.1 = some (ty0 k)) (hnm : ∀ a, a < N → ∀ b, b < N → a ≠ b → (T a).2.1 ≠ (T b).2.1) (hj : dom j) (ha : loc j = a) (he : val j = .inr (ci, fs)) (hc : cl[ci]? = some (C, T, N)) (k : Nat) (hk : k < N) (hlink : Cond.fieldLink own index ref (T k).2.1 (T k).2.2.1 ∈ Ts) (href : (T k).1 = ref) (hfin : (T k).2.2.2 = false) (ht : ty0 k = ty) (hn : narrow ty v = v) (hfit : fits ty v = true) (hlen : k < fs.length) (hd : decode cc pc = .ok (.putfield index, 3))
    (kk : V X D cl A dom loc (va_up val j (.inr (ci, fs.set k v))) cells slots (pc + 3) lv st) : V X D cl A dom loc val cells slots pc lv (v :: .ref a :: st) := fun H locs ls hW hS hl => by
  subst ha
  subst href
  obtain ⟨ks, h1, hP, hD⟩ := hW
  obtain ⟨i, i1, i2⟩ := kl_get (loc := loc) (val := val) ((h1 j).mp hj)
  refine va_put hX.1 hX.2.1 hX.2.2.2.2.1 hin ty0 hty hnm hX.2.2.2.1 hX.2.2.2.2.2.1 hP hD hS i (by rw [i2, he]) hc k hk (hX.2.2.2.2.1 _ hlink) (fun _ h9 => h9) hfin (by rw [← ht]; exact hty k hk) hn hfit hlen hd (fun H1 locs1 hP1 hD1 hS1 => ?_)
  rw [kl_set hD i1] at hP1 hD1
  exact kk H1 locs1 ls ⟨ks, h1, hP1, hD1⟩ hS1 hl
theorem v_putF (hX : OX X cc nL own Ts D cl tys A R) (j : Nat) {C : String} {T : u_T} {N ci index : Nat} {fs : List Value} {a : Nat} {v : Value} {ty : FieldType} (hin : ∀ w ∈ u_ws C T N, w ∈ Ts) (ty0 : Nat → FieldType) (hty : ∀ k, k < N → parseFieldDescriptor (T k).2.2.1 = some (ty0 k)) (hnm : ∀ a, a < N → ∀ b, b < N → a ≠ b → (T a).2.1 ≠ (T b).2.1) (hinit : (xM X).name = "<init>") (hj : dom j) (ha : loc j = a) (he : val j = .inr (ci, fs)) (hc : cl[ci]? = some (C, T, N)) (k : Nat) (hk : k < N) (hlink : Cond.fieldLink own index own (T k).2.1 (T k).2.2.1 ∈ Ts) (href : (T k).1 = own) (hfin : (T k).2.2.2 = true) (ht : ty0 k = ty) (hn : narrow ty v = v) (hfit : fits ty v = true) (hlen : k < fs.length) (hd : decode cc pc = .ok (.putfield index, 3))
    (kk : V X D cl A dom loc (va_up val j (.inr (ci, fs.set k v))) cells slots (pc + 3) lv st) : V X D cl A dom loc val cells slots pc lv (v :: .ref a :: st) := fun H locs ls hW hS hl => by
  subst ha
  obtain ⟨ks, h1, hP, hD⟩ := hW
  obtain ⟨i, i1, i2⟩ := kl_get (loc := loc) (val := val) ((h1 j).mp hj)
  refine va_putF (ref := own) hX.1 hX.2.1 hX.2.2.2.2.1 hin ty0 hty hnm hX.2.2.2.1 hX.2.2.2.2.2.1 hP hD hS i (by rw [i2, he]) hc k hk (hX.2.2.2.2.1 _ hlink) (fun _ h9 => by rw [href] at h9; exact h9) hfin hinit href (by rw [← ht]; exact hty k hk) hn hfit hlen hd (fun H1 locs1 hP1 hD1 hS1 => ?_)
  rw [kl_set hD i1] at hP1 hD1
  exact kk H1 locs1 ls ⟨ks, h1, hP1, hD1⟩ hS1 hl
theorem v_iald (hX : OX X cc nL own Ts D cl tys A R) (j t0 : Nat) {a : Nat} {cA : ClassId} {n : Nat} {f : Nat → Int32} {i : Int32} {v : Int32} (hj : dom j) (ha : loc j = a) (he : val j = .inl (cA, n, .inl f)) (ht : tys[t0]? = some (cA, .int)) (hin : vp_in i n) (hv : f i.toNatClampNeg = v) (hd : decode cc pc = .ok (.iaload, 1)) (kk : V X D cl A dom loc val cells slots (pc + 1) lv (.int v :: st)) : V X D cl A dom loc val cells slots pc lv (.int i :: .ref a :: st) := fun H locs ls hW hS hl => by
  subst ha
  subst hv
  have hP : va_P D cl [(loc j, .inl (cA, n, .inl f))] H := fun i q hq => by
    have hz : i < 1 := (List.getElem?_eq_some_iff.mp hq).1
    rw [show i = 0 by omega] at hq
    cases hq
    rw [← he]; exact hW.at_ hj
  exact va_iald hX.1 hX.2.1 hX.2.2.2.2.2.1 hP 0 t0 rfl ht hin hd (kk H locs ls hW hS hl)
theorem v_alen (hX : OX X cc nL own Ts D cl tys A R) (j t0 : Nat) {a : Nat} {cA : ClassId} {x : vp_A} {ty : FieldType} {v : Int32} (hj : dom j) (ha : loc j = a) (he : val j = .inl (cA, x)) (ht : tys[t0]? = some (cA, ty)) (hv : Int32.ofNat x.1 = v) (hd : decode cc pc = .ok (.arraylength, 1)) (kk : V X D cl A dom loc val cells slots (pc + 1) lv (.int v :: st)) : V X D cl A dom loc val cells slots pc lv (.ref a :: st) := fun H locs ls hW hS hl => by
  subst ha
  have hP : va_P D cl [(loc j, .inl (cA, x))] H := fun i q hq => by
    have hz : i < 1 := (List.getElem?_eq_some_iff.mp hq).1
    rw [show i = 0 by omega] at hq
    cases hq
    rw [← he]; exact hW.at_ hj
  exact va_alen hX.1 hX.2.1 hX.2.2.2.2.2.1 hP 0 t0 rfl ht hv hd (kk H locs ls hW hS hl)
theorem v_iast (hX : OX X cc nL own Ts D cl tys A R) (j t0 : Nat) {a : Nat} {cA : ClassId} {n : Nat} {f : Nat → Int32} {i x : Int32} (hj : dom j) (ha : loc j = a) (he : val j = .inl (cA, n, .inl f)) (ht : tys[t0]? = some (cA, .int)) (hin : vp_in i n) (hd : decode cc pc = .ok (.iastore, 1))
    (kk : V X D cl A dom loc (va_up val j (.inl (cA, n, .inl (upd f i.toNatClampNeg x)))) cells slots (pc + 1) lv st) : V X D cl A dom loc val cells slots pc lv (.int x :: .int i :: .ref a :: st) := fun H locs ls hW hS hl => by
  subst ha
  obtain ⟨ks, h1, hP, hD⟩ := hW
  obtain ⟨q, i1, i2⟩ := kl_get (loc := loc) (val := val) ((h1 j).mp hj)
  refine va_iast hX.1 hX.2.1 hX.2.2.2.2.2.1 hP hD hS q t0 (by rw [i2, he]) ht hin hd (fun H1 locs1 hP1 hD1 hS1 => ?_)
  rw [kl_set hD i1] at hP1 hD1
  exact kk H1 locs1 ls ⟨ks, h1, hP1, hD1⟩ hS1 hl
theorem v_aldq (hX : OX X cc nL own Ts D cl tys A R) (j t0 : Nat) {a : Nat} {cA : ClassId} {C : String} {n : Nat} {f : Nat → Option Nat} {i : Int32} (r : Option Nat) (hj : dom j) (ha : loc j = a) (he : val j = .inl (cA, n, .inr (.inr (.inr (.inr f))))) (ht : tys[t0]? = some (cA, .object C)) (hin : vp_in i n) (hr : f i.toNatClampNeg = r) (hd : decode cc pc = .ok (.aaload, 1)) (kk : V X D cl A dom loc val cells slots (pc + 1) lv (va_rf r :: st)) : V X D cl A dom loc val cells slots pc lv (.int i :: .ref a :: st) := fun H locs ls hW hS hl => by
  subst ha
  subst hr
  have hP : va_P D cl [(loc j, .inl (cA, n, .inr (.inr (.inr (.inr f)))))] H := fun i q hq => by
    have hz : i < 1 := (List.getElem?_eq_some_iff.mp hq).1
    rw [show i = 0 by omega] at hq
    cases hq
    rw [← he]; exact hW.at_ hj
  exact va_aldq hX.1 hX.2.1 hX.2.2.2.2.2.1 hP 0 t0 rfl ht hin hd (kk H locs ls hW hS hl)
theorem v_astq (hX : OX X cc nL own Ts D cl tys A R) (j t0 jv : Nat) {a b : Nat} {cA : ClassId} {rc : vw_C} {n ci : Nat} {vs : List Value} {f : Nat → Option Nat} {i : Int32} (hj : dom j) (ha : loc j = a) (he : val j = .inl (cA, n, .inr (.inr (.inr (.inr f))))) (ht : tys[t0]? = some (cA, .object rc.1)) (hjv : dom jv) (hb : loc jv = b) (hev : val jv = .inr (ci, vs)) (hc : cl[ci]? = some rc) (hin : vp_in i n) (hd : decode cc pc = .ok (.aastore, 1))
    (kk : V X D cl A dom loc (va_up val j (.inl (cA, n, .inr (.inr (.inr (.inr (va_up f i.toNatClampNeg (some b)))))))) cells slots (pc + 1) lv st) : V X D cl A dom loc val cells slots pc lv (.ref b :: .int i :: .ref a :: st) := fun H locs ls hW hS hl => by
  subst ha
  subst hb
  obtain ⟨ks, h1, hP, hD⟩ := hW
  obtain ⟨q, i1, i2⟩ := kl_get (loc := loc) (val := val) ((h1 j).mp hj)
  obtain ⟨q2, j1, j2⟩ := kl_get (loc := loc) (val := val) ((h1 jv).mp hjv)
  refine va_astq (r := rc) hX.1 hX.2.1 hX.2.2.2.2.2.1 hP hD hS q t0 q2 ci (by rw [i2, he]) ht (by rw [j2, hev]) hc hin hd (fun H1 locs1 hP1 hD1 hS1 => ?_)
  rw [kl_set hD i1] at hP1 hD1
  exact kk H1 locs1 ls ⟨ks, h1, hP1, hD1⟩ hS1 hl
/-- a new object, under the key j -/
theorem v_new (hX : OX X cc nL own Ts D cl tys A R) (j : Nat) (dom2 : Nat → Prop) {C : String} {T : u_T} {N ci index : Nat} {fs : List Value} (hin : ∀ w ∈ u_ws C T N, w ∈ Ts) (ty : Nat → FieldType) (hty : ∀ k, k < N → parseFieldDescriptor (T k).2.2.1 = some (ty k)) (hcl : Cond.classLink own index C ∈ Ts) (hinst : Cond.instantiable C N ∈ Ts) (hini : Cond.initialized C ∈ Ts) (hc : cl[ci]? = some (C, T, N)) (hfs : ∀ i, i < N → defaultValue (ty i) = vp_V fs i) (hcells : cells + 1 ≤ R.cells) (hslots : slots + N ≤ R.slots) (hd : decode cc pc = .ok (.new index, 3)) (hdm : ∀ i, dom2 i → i = j ∨ dom i) (hdj : dom2 j)
    (kk : ∀ q : Nat, (∀ i, dom i → loc i ≠ q) → V X D cl A dom2 (va_up loc j q) (va_up val j (.inr (ci, fs))) (cells + 1) (slots + N) (pc + 3) lv (.ref q :: st)) : V X D cl A dom loc val cells slots pc lv st := fun H locs ls hW hS hl => by
  have hx9 := hX.2.2.2.2.2.2.2.2.1
  have hP0 : va_P D cl [] H := fun i q h => by simp at h
  have hD0 : va_D A [] := ⟨fun i j p q h => by simp at h, fun i q h => by simp at h⟩
  have hKn := hX.2.2.2.2.2.1.1 ci _ hc
  refine W.newcK hX.1 hX.2.1 hX.2.2.2.1 (hX.2.2.2.2.1 _ hcl) (hX.2.2.2.2.1 _ hinst) (hX.2.2.2.2.1 _ hini) rfl hd (by rw [hx9]; exact hcells) (by rw [hx9]; exact hslots) hKn.2.1 rfl fun H1 kC hkC e1 z1 o1 => ?_
  have hAq : A H.size := hX.2.2.2.2.2.2.1 _ hS.1
  refine kk H.size (fun i hi hz => ?_) H1 locs ls (hW.new hdm hdj (fun ks hk hP hD => ⟨(hP.kept (fun i x hx => o1 x.1 ((hP i x hx).lt))).app (fun i x hx => ?_), hD.push hP rfl hAq⟩)) ⟨Nat.le_trans hS.1 (by omega), fun x h1 h2 => (o1 x (Nat.lt_of_lt_of_le h1 hS.1)).trans (hS.2.1 x h1 h2), hS.2.2⟩ hl
  · have := hW.lt hi
    omega
  · have hz : i < 1 := (List.getElem?_eq_some_iff.mp hx).1
    rw [show i = 0 by omega] at hx
    cases hx
    exact ⟨_, hc, (u_born ty hX.2.2.2.2.1 hin hKn hkC e1 hty).to hfs⟩
/-- a new array of ints, under the key j -/
theorem v_newi (hX : OX X cc nL own Ts D cl tys A R) (j t0 : Nat) (dom2 : Nat → Prop) {cA : ClassId} {n : Int32} {N : Nat} (harr : Cond.arrayClass .int ∈ Ts) (ht : tys[t0]? = some (cA, .int)) (hn : ¬ n < 0) (hN : n.toNatClampNeg = N) (hbytes : N * 4 ≤ 536870912) (hcells : cells + 1 ≤ R.cells) (hslots : slots + N ≤ R.slots) (hd : decode cc pc = .ok (.newarray .int, 2)) (hdm : ∀ i, dom2 i → i = j ∨ dom i) (hdj : dom2 j)
    (kk : ∀ q : Nat, (∀ i, dom i → loc i ≠ q) → V X D cl A dom2 (va_up loc j q) (va_up val j (.inl (cA, N, .inl (fun _ => 0)))) (cells + 1) (slots + N) (pc + 2) lv (.ref q :: st)) : V X D cl A dom loc val cells slots pc lv (.int n :: st) := fun H locs ls hW hS hl => by
  have hx9 := hX.2.2.2.2.2.2.2.2.1
  refine va_newaK (atype := .int) hX.1 hX.2.1 (hX.2.2.2.2.1 _ harr) rfl hd rfl hn hN hbytes (by rw [hx9]; exact hcells) (by rw [hx9]; exact hslots) rfl fun H1 cA' e1 z1 o1 hAr hNm => ?_
  have hcc : cA' = cA := by
    have h2 := (hX.2.2.2.2.2.1.2 t0 _ ht).2
    exact Option.some.inj (hNm.symm.trans h2)
  subst hcc
  have hAq : A H.size := hX.2.2.2.2.2.2.1 _ hS.1
  refine kk H.size (fun i hi hz => ?_) H1 locs ls (hW.new hdm hdj (fun ks hk hP hD => ⟨(hP.kept (fun i x hx => o1 x.1 ((hP i x hx).lt))).app (fun i x hx => ?_), hD.push hP rfl hAq⟩)) ⟨Nat.le_trans hS.1 (by omega), fun x h1 h2 => (o1 x (Nat.lt_of_lt_of_le h1 hS.1)).trans (hS.2.1 x h1 h2), hS.2.2⟩ hl
  · have := hW.lt hi
    omega
  · have hz : i < 1 := (List.getElem?_eq_some_iff.mp hx).1
    rw [show i = 0 by omega] at hx
    cases hx
    exact e1
theorem v_widen {k n : Nat} (h1 : cells ≤ k) (h2 : slots ≤ n) (kk : V X D cl A dom loc val k n pc lv st) : V X D cl A dom loc val cells slots pc lv st := fun H locs ls hW hS hl => W.widen h1 h2 (kk H locs ls hW hS hl)
/-- fewer keys, other names for what is under them -/
theorem v_ext {dom2 : Nat → Prop} {loc2 : Nat → Nat} {val2 : Nat → va_E} (hd : ∀ k, dom2 k → dom k) (hlo : ∀ k, dom2 k → loc2 k = loc k) (hva : ∀ k, dom2 k → val2 k = val k) (kk : V X D cl A dom2 loc2 val2 cells slots pc lv st) : V X D cl A dom loc val cells slots pc lv st := fun H locs ls hW hS hl => kk H locs ls (hW.ext hd hlo hva) hS hl

end KB2
section KB3
theorem nsl_add {H0 H1 : Heap} {sz : Nat} (hk : szk H0 H1) (hs : sz ≤ H0.size) : nsl sz H1 = nsl sz H0 + nsl H0.size H1 := by
  obtain ⟨h1, h2⟩ := hk
  unfold nsl
  have e0 : H1.toList.drop sz = (H1.toList.drop sz).take (H0.size - sz) ++ H1.toList.drop H0.size := by
    have h := (List.take_append_drop (H0.size - sz) (H1.toList.drop sz)).symm
    rw [List.drop_drop] at h
    rw [show sz + (H0.size - sz) = H0.size by omega] at h
    exact h
  rw [e0, List.map_append, List.sum_append]
  congr 1
  congr 1
  apply List.ext_getElem?
  intro i
  rw [List.getElem?_map, List.getElem?_map]
  by_cases hi : i < H0.size - sz
  · rw [List.getElem?_take_of_lt hi, List.getElem?_drop, List.getElem?_drop, Array.getElem?_toList, Array.getElem?_toList]
    have hlt : sz + i < H0.size := by omega
    obtain ⟨c', q1, q2⟩ := h2 (sz + i) _ (Array.getElem?_eq_getElem hlt)
    rw [q1, Array.getElem?_eq_getElem hlt]
    simp [q2]
  · rw [List.getElem?_eq_none (by simp; omega), List.getElem?_eq_none (by simp; omega)]
theorem szk.rf {H : Heap} : szk H H := ⟨Nat.le_refl _, fun _ c hc => ⟨c, hc, rfl⟩⟩
theorem szk.trans {H0 H1 H2 : Heap} (h : szk H0 H1) (h2 : szk H1 H2) : szk H0 H2 := ⟨Nat.le_trans h.1 h2.1, fun a c hc => by
  obtain ⟨c1, q1, q2⟩ := h.2 a c hc
  obtain ⟨c2, q3, q4⟩ := h2.2 a c1 q1
  exact ⟨c2, q3, q4.trans q2⟩⟩
theorem stand_szk {p : Program} {l : Launch} {e : Env} {R : Room} {s : State} {m : MethodId} {args : Array Value} {below : List Frame} {meth : Method} {c : Code} {T : State} {locs : List Loc} {cells slots : Nat} (Z : Stand p l e R s m args below meth c T locs cells slots) : szk s.heap T.heap ∧ T.heap.size ≤ s.heap.size + cells ∧ nsl s.heap.size T.heap ≤ slots := by
  obtain ⟨h1, h2, h3, h4, h5, h6⟩ := Z.same
  exact ⟨⟨h2, fun a c hc => by obtain ⟨c', q1, q2, q3, q4⟩ := h6 a c hc; exact ⟨c', q1, q3⟩⟩, h3, h5⟩
theorem stand_to {p : Program} {l : Launch} {e : Env} {R : Room} {s : State} {m : MethodId} {args : Array Value} {below : List Frame} {meth : Method} {c : Code} {T : State} {locs : List Loc} {cells slots k n : Nat} (Z : Stand p l e R s m args below meth c T locs cells slots) (h1 : T.heap.size ≤ s.heap.size + k) (h2 : nsl s.heap.size T.heap ≤ n) : Stand p l e R s m args below meth c T locs k n := by
  obtain ⟨a1, a2, a3, a4, a5, a6⟩ := Z.same
  exact { Z with same := ⟨a1, a2, h1, a4, h2, a6⟩ }
/-- a contract's start and end, by worlds -/
def kP (D : va_G) (cl : List vw_C) (tys : List (ClassId × FieldType)) (A : Nat → Prop) (av : List Value) (dom : Nat → Prop) (loc : Nat → Nat) (val : Nat → va_E) : Array Value → State → Prop := va_Pc av (fun U => KW D cl A dom loc val U.heap ∧ va_K D cl tys U ∧ (∀ q, U.heap.size ≤ q → A q) ∧ kN A U)
abbrev kT : Type := Option Value → (Nat → Prop) → (Nat → Nat) → (Nat → va_E) → Nat → Nat → Prop
def kQ (D : va_G) (cl : List vw_C) (A : Nat → Prop) (Post : kT) : Array Value → State → Outcome → State → Prop := fun _ st oc t => ∃ (rv : Option Value) (dom : Nat → Prop) (loc : Nat → Nat) (val : Nat → va_E) (k n : Nat), oc = .returned rv ∧ KW D cl A dom loc val t.heap ∧ Post rv dom loc val k n ∧ szk st.heap t.heap ∧ t.heap.size ≤ st.heap.size + k ∧ nsl st.heap.size t.heap ≤ n ∧ va_F A st t
abbrev kM (l : Launch) (y : MethodName) (ws : List Cond) (rm : Room) (D : va_G) (cl : List vw_C) (tys : List (ClassId × FieldType)) (A : Nat → Prop) (av : List Value) (dom : Nat → Prop) (loc : Nat → Nat) (val : Nat → va_E) (Post : kT) : Prop := Met l y ws rm (kP D cl tys A av dom loc val) (kQ D cl A Post) rm.cells rm.slots A
theorem kP.blind {D : va_G} {cl : List vw_C} {tys : List (ClassId × FieldType)} {A : Nat → Prop} {av : List Value} {dom : Nat → Prop} {loc : Nat → Nat} {val : Nat → va_E} : FrameBlind (kP D cl tys A av dom loc val) := fun a U g mk q => by
  obtain ⟨q0, qP, qK, qA, qN⟩ := q
  exact ⟨q0, qP, va_K.moved (u := U) (U := U.calling g mk a) (Vm.Alike.refl U.vm) qK, qA, qN.move (U := U.calling g mk a) (State.WarmedH.refl U) (Nat.le_refl _) (fun _ _ _ => rfl)⟩
theorem kM.to {l : Launch} {y : MethodName} {ws : List Cond} {rm : Room} {D : va_G} {cl : List vw_C} {tys : List (ClassId × FieldType)} {A : Nat → Prop} {av : List Value} {dom : Nat → Prop} {loc : Nat → Nat} {val : Nat → va_E} {Post Post2 : kT} (h : kM l y ws rm D cl tys A av dom loc val Post) (hq : ∀ rv d lo va k n, Post rv d lo va k n → Post2 rv d lo va k n) : kM l y ws rm D cl tys A av dom loc val Post2 := by
  intro p e ha hc hk s m args below hf1 happ hp hK
  obtain ⟨n, o, h1, h2, h3, ⟨rv, d, lo, va, k, n2, g1, g2, g3, g4⟩, h5⟩ := h p e ha hc hk s m args below hf1 happ hp hK
  exact ⟨n, o, h1, h2, h3, ⟨rv, d, lo, va, k, n2, g1, g2, hq _ _ _ _ _ _ g3, g4⟩, h5⟩
def EX (X : KX) (ret : Option FieldType) (D : va_G) (cl : List vw_C) (A : Nat → Prop) (Post : kT) (mc ms : Nat) : Prop := (xM X).sig.returnType = ret ∧ ∀ t, MQ (xb X) (kQ D cl A Post) (xa X) (xs X) mc ms A t → xQ X t
variable {X : KX} {cc : ByteArray} {nL : Nat} {own : String} {Ts : List Cond} {D : va_G} {cl : List vw_C} {tys : List (ClassId × FieldType)} {A : Nat → Prop} {R : Room} {dom : Nat → Prop} {loc : Nat → Nat} {val : Nat → va_E} {cells slots pc : Nat} {lv : List (Option Value)} {st : List Value} {Post : kT} {mc ms : Nat} {ret : Option FieldType}
theorem k_q {H : Heap} {locs : List Loc} {rv : Option Value} {T : State} (hW : KW D cl A dom loc val H) (hS : va_S A (xs X).heap H locs) (hT : T.heap = H) (Z : Stand X.1 X.2.1 X.2.2.1 (xR X) (xs X) (xm X) (xa X) (xb X) (xM X) (xc X) T locs cells slots) (hp : Post rv dom loc val cells slots) : ∀ t : State, t.heap = H → (xs X).WarmedH t.vm → kQ D cl A Post (xa X) (xs X) (.returned rv) t := fun t ht _ => by
  obtain ⟨z1, z2, z3⟩ := stand_szk Z
  rw [hT] at z1 z2 z3
  exact ⟨rv, dom, loc, val, cells, slots, rfl, by rw [ht]; exact hW, hp, by rw [ht]; exact z1, by rw [ht]; exact z2, by rw [ht]; exact z3, hS.F ht⟩

theorem v_iret (hX : OX X cc nL own Ts D cl tys A R) (hE : EX X (some .int) D cl A Post mc ms) {v : Int32} (hd : decode cc pc = .ok (.ireturn, 1)) (hc : cells ≤ mc) (hs : slots ≤ ms) (hp : Post (some (.int v)) dom loc val cells slots) : V X D cl A dom loc val cells slots pc lv [.int v] := fun H locs ls hW hS hl => by
  intro T hT Z
  obtain ⟨t9, a9, b9⟩ := W.widen hc hs (W.iret hX.1 hX.2.1 hE.1 (k_q hW hS hT Z hp) hS.2.2 hd hX.2.2.2.2.2.2.2.1) T hT Z
  exact ⟨t9, a9, hE.2 t9 b9⟩
theorem v_zret (hX : OX X cc nL own Ts D cl tys A R) (hE : EX X (some .boolean) D cl A Post mc ms) {v : Int32} (hn : narrow .boolean (.int v) = .int v) (hd : decode cc pc = .ok (.ireturn, 1)) (hc : cells ≤ mc) (hs : slots ≤ ms) (hp : Post (some (.int v)) dom loc val cells slots) : V X D cl A dom loc val cells slots pc lv [.int v] := fun H locs ls hW hS hl => by
  intro T hT Z
  obtain ⟨t9, a9, b9⟩ := W.widen hc hs (W.zret hX.1 hX.2.1 hE.1 hn (k_q hW hS hT Z hp) hS.2.2 hd hX.2.2.2.2.2.2.2.1) T hT Z
  exact ⟨t9, a9, hE.2 t9 b9⟩
theorem v_aret (hX : OX X cc nL own Ts D cl tys A R) {C : String} (hE : EX X (some (.object C)) D cl A Post mc ms) (r : Option Nat) (hd : decode cc pc = .ok (.areturn, 1)) (hc : cells ≤ mc) (hs : slots ≤ ms) (hp : Post (some (va_rf r)) dom loc val cells slots) : V X D cl A dom loc val cells slots pc lv [va_rf r] := fun H locs ls hW hS hl => by
  intro T hT Z
  obtain ⟨t9, a9, b9⟩ := W.widen hc hs (W.aret hX.1 hX.2.1 hE.1 (Or.inl ⟨C, rfl⟩) (va_rf_or r) (k_q hW hS hT Z hp) hS.2.2 hd hX.2.2.2.2.2.2.2.1) T hT Z
  exact ⟨t9, a9, hE.2 t9 b9⟩
theorem v_vret (hX : OX X cc nL own Ts D cl tys A R) (hE : EX X none D cl A Post mc ms) (hd : decode cc pc = .ok (.return_, 1)) (hc : cells ≤ mc) (hs : slots ≤ ms) (hp : Post none dom loc val cells slots) : V X D cl A dom loc val cells slots pc lv [] := fun H locs ls hW hS hl => by
  intro T hT Z
  obtain ⟨t9, a9, b9⟩ := W.widen hc hs (W.vret hX.1 hX.2.1 hE.1 (k_q hW hS hT Z hp) hS.2.2 hd hX.2.2.2.2.2.2.2.1) T hT Z
  exact ⟨t9, a9, hE.2 t9 b9⟩
theorem v_back {mc ms : Nat} {a : Array Value} {st0 rest : List Value}
    (hr : ∀ (H : Heap) (locs : List Loc) (ls : Array Slot), KW D cl A dom loc val H → va_S A (xs X).heap H locs → lvh ls lv → va_Run X.1 X.2.1 X.2.2.1 (xR X) (xs X) (xm X) (xa X) (xb X) (xM X) (xc X) H locs cells slots mc ms (F0 (xm X) pc ls st0) rest (kQ D cl A Post a) A)
    (kk : ∀ (rv : Option Value) (dom2 : Nat → Prop) (loc2 : Nat → Nat) (val2 : Nat → va_E) (k n : Nat), Post rv dom2 loc2 val2 k n → V X D cl A dom2 loc2 val2 (cells + k) (slots + n) (pc + 3) lv (rv.toList ++ rest)) : V X D cl A dom loc val cells slots pc lv st0 := by
  intro H locs ls hW hS hl T hT Z
  obtain ⟨v, st₀, t, T', L, h0, Z', hL, e1, e2, ⟨rv, d2, l2, v2, k, n, hv, hKW, hpost, hszk, hz1, hz2, hF⟩, stp⟩ := hr H locs ls hW hS hl T hT Z
  cases hv
  obtain ⟨z1, z2, z3⟩ := stand_szk Z
  rw [hT] at z1 z2 z3
  rw [h0] at hszk hz1 hz2
  have hF1 := hF.1
  have hF2 := hF.2
  rw [h0] at hF1 hF2
  have g1 : T'.heap.size ≤ (xs X).heap.size + (cells + k) := by rw [e1]; omega
  have g2 : nsl (xs X).heap.size T'.heap ≤ slots + n := by
    rw [e1, nsl_add hszk z1.1]; omega
  obtain ⟨t2, a1, b1⟩ := kk v d2 l2 v2 k n hpost T'.heap (locs ++ L) ls (by rw [e1]; exact hKW)
    ⟨Nat.le_trans hS.1 (by rw [e1]; exact hF1), fun q h1 h2 => by rw [e1, hF2 q (Nat.lt_of_lt_of_le h1 hS.1) h2]; exact hS.2.1 q h1 h2, fun q hq => by
      rcases List.mem_append.mp hq with h | h
      · exact hS.2.2 q h
      · exact hL q h⟩ hl T' rfl (stand_to Z' g1 g2)
  exact ⟨t2, stp t2 a1, b1⟩
theorem k_pre (hX : OX X cc nL own Ts D cl tys A R) {H : Heap} {locs : List Loc} {av : List Value} (hW : KW D cl A dom loc val H) (hS : va_S A (xs X).heap H locs) : ∀ U : State, U.heap = H → (xs X).WarmedH U.vm → kP D cl tys A av dom loc val av.toArray U := fun U hU hWm =>
  ⟨rfl, by rw [hU]; exact hW, va_K.moved hWm.alike hX.2.2.2.2.2.1, fun q hq => hX.2.2.2.2.2.2.1 q (Nat.le_trans hS.1 (by rw [hU] at hq; exact hq)), hX.2.2.2.2.2.2.2.2.2.move hWm (by rw [hU]; exact hS.1) (fun q h1 h2 => by rw [hU]; exact hS.2.1 q h1 h2)⟩
theorem k_recv (hX : OX X cc nL own Ts D cl tys A R) {H : Heap} (hW : KW D cl A dom loc val H) {j ci : Nat} {rc : vw_C} {fs : List Value} (hj : dom j) (he : val j = .inr (ci, fs)) (hc : cl[ci]? = some rc) : ∃ cell : Cell, H[loc j]? = some cell ∧ cell.vm.isStatics = false ∧ (xs X).vm.findClass rc.1 = some cell.cls := by
  have h := hW.at_ hj
  rw [he] at h
  obtain ⟨q2, h1, cell, g1, g2, g3, -⟩ := h
  exact ⟨cell, g1, by rw [g3]; rfl, by rw [g2]; exact (hX.2.2.2.2.2.1.1 ci rc hc).2.1⟩
/-- the words of a call: what the callee's own words are among ours, its room fits ours -/
theorem v_callV (hX : OX X cc nL own Ts D cl tys A R) (j : Nat) {l : Launch} {y : MethodName} {ws : List Cond} {rm : Room} {bytes : ByteArray} {maxL n index ci : Nat} {ret : Option FieldType} {rc : vw_C} {fs : List Value} {a : Nat} {As rest : List Value} (hl9 : X.2.1 = l) (hM : kM l y ws rm D cl tys A (.ref a :: As) dom loc val Post) (cw : CallW (xR X) (xs X) (xa X) own rc.1 index y bytes maxL ret ws rm rm.cells rm.slots n) (hj : dom j) (ha : loc j = a) (he : val j = .inr (ci, fs)) (hc : cl[ci]? = some rc) (hn : As.length = n) (hlv : lv.length = nL) (hroom : (rest.map fun v => v.category).sum ≤ 8) (hd : decode cc pc = .ok (.invokevirtual index, 3)) (hf : cells + rm.cells ≤ R.cells ∧ slots + rm.slots ≤ R.slots)
    (kk : ∀ (rv : Option Value) (dom2 : Nat → Prop) (loc2 : Nat → Nat) (val2 : Nat → va_E) (k n : Nat), Post rv dom2 loc2 val2 k n → V X D cl A dom2 loc2 val2 (cells + k) (slots + n) (pc + 3) lv (rv.toList ++ rest)) : V X D cl A dom loc val cells slots pc lv (As.reverse ++ .ref a :: rest) := by
  subst ha
  subst hl9
  have hx9 := hX.2.2.2.2.2.2.2.2.1
  exact v_back (fun H locs ls hW hS hl => va_runV ⟨hX.1, hX.2.1, hX.2.2.1, hX.2.2.2.1, hX.2.2.2.2.1⟩ hM cw ⟨kP.blind, k_recv hX hW hj he hc, k_pre hX hW hS⟩ rfl hn (hl.1.trans hlv) rfl (by show 2 * 0 + _ ≤ 8; omega) hd (by rw [hx9]; exact hf)) kk
theorem v_callS (hX : OX X cc nL own Ts D cl tys A R) {l : Launch} {y : MethodName} {ws : List Cond} {rm : Room} {bytes : ByteArray} {maxL n index : Nat} {ret : Option FieldType} {As rest : List Value} (hl9 : X.2.1 = l) (hM : kM l y ws rm D cl tys A As dom loc val Post) (cw : CallB (xR X) (xs X) (xa X) own index y bytes maxL ret ws rm rm.cells rm.slots n ∧ (Cond.static y).before (xa X) (xs X) = true) (hn : As.length = n) (hlv : lv.length = nL) (hroom : (rest.map fun v => v.category).sum ≤ 8) (hd : decode cc pc = .ok (.invokestatic index, 3)) (hf : cells + rm.cells ≤ R.cells ∧ slots + rm.slots ≤ R.slots)
    (kk : ∀ (rv : Option Value) (dom2 : Nat → Prop) (loc2 : Nat → Nat) (val2 : Nat → va_E) (k n : Nat), Post rv dom2 loc2 val2 k n → V X D cl A dom2 loc2 val2 (cells + k) (slots + n) (pc + 3) lv (rv.toList ++ rest)) : V X D cl A dom loc val cells slots pc lv (As.reverse ++ rest) := by
  subst hl9
  have hx9 := hX.2.2.2.2.2.2.2.2.1
  exact v_back (fun H locs ls hW hS hl => va_runS ⟨hX.1, hX.2.1, hX.2.2.1, hX.2.2.2.1, hX.2.2.2.2.1⟩ hM cw ⟨kP.blind, k_pre hX hW hS⟩ rfl hn (hl.1.trans hlv) rfl (by show 2 * 0 + _ ≤ 8; omega) hd (by rw [hx9]; exact hf)) kk
theorem v_callI (hX : OX X cc nL own Ts D cl tys A R) {l : Launch} {y : MethodName} {ws : List Cond} {rm : Room} {bytes : ByteArray} {maxL n index : Nat} {a : Nat} {As rest : List Value} (hl9 : X.2.1 = l) (hM : kM l y ws rm D cl tys A (.ref a :: As) dom loc val Post) (cw : CallB (xR X) (xs X) (xa X) own index y bytes maxL none ws rm rm.cells rm.slots n ∧ y.name = "<init>" ∧ (Cond.instanceMethod y).before (xa X) (xs X) = true) (hn : As.length = n) (hlv : lv.length = nL) (hroom : (rest.map fun v => v.category).sum ≤ 8) (hd : decode cc pc = .ok (.invokespecial index, 3)) (hf : cells + rm.cells ≤ R.cells ∧ slots + rm.slots ≤ R.slots)
    (kk : ∀ (rv : Option Value) (dom2 : Nat → Prop) (loc2 : Nat → Nat) (val2 : Nat → va_E) (k n : Nat), Post rv dom2 loc2 val2 k n → V X D cl A dom2 loc2 val2 (cells + k) (slots + n) (pc + 3) lv (rv.toList ++ rest)) : V X D cl A dom loc val cells slots pc lv (As.reverse ++ .ref a :: rest) := by
  subst hl9
  have hx9 := hX.2.2.2.2.2.2.2.2.1
  exact v_back (fun H locs ls hW hS hl => va_runI ⟨hX.1, hX.2.1, hX.2.2.1, hX.2.2.2.1, hX.2.2.2.2.1⟩ hM cw ⟨kP.blind, k_pre hX hW hS⟩ rfl hn (hl.1.trans hlv) rfl (by show 2 * 0 + _ ≤ 8; omega) hd (by rw [hx9]; exact hf)) kk
theorem v_callIN (hX : OX X cc nL own Ts D cl tys A R) {l : Launch} {y : MethodName} {ws : List Cond} {rm : Room} {bytes : ByteArray} {maxL n index : Nat} {host : String} {a : Nat} {As rest : List Value} (hl9 : X.2.1 = l) (hM : kM l y ws rm D cl tys A (.ref a :: As) dom loc val Post) (cw : va_CN (xR X) (xs X) (xa X) own index y host bytes maxL none ws rm rm.cells rm.slots n ∧ y.name = "<init>" ∧ (Cond.instanceMethod y).before (xa X) (xs X) = true) (hn : As.length = n) (hlv : lv.length = nL) (hroom : (rest.map fun v => v.category).sum ≤ 8) (hd : decode cc pc = .ok (.invokespecial index, 3)) (hf : cells + rm.cells ≤ R.cells ∧ slots + rm.slots ≤ R.slots)
    (kk : ∀ (rv : Option Value) (dom2 : Nat → Prop) (loc2 : Nat → Nat) (val2 : Nat → va_E) (k n : Nat), Post rv dom2 loc2 val2 k n → V X D cl A dom2 loc2 val2 (cells + k) (slots + n) (pc + 3) lv (rv.toList ++ rest)) : V X D cl A dom loc val cells slots pc lv (As.reverse ++ .ref a :: rest) := by
  subst hl9
  have hx9 := hX.2.2.2.2.2.2.2.2.1
  exact v_back (fun H locs ls hW hS hl => va_runIN ⟨hX.1, hX.2.1, hX.2.2.1, hX.2.2.2.1, hX.2.2.2.2.1⟩ hM cw ⟨kP.blind, k_pre hX hW hS⟩ rfl hn (hl.1.trans hlv) rfl (by show 2 * 0 + _ ≤ 8; omega) hd (by rw [hx9]; exact hf)) kk
theorem v_callSN (hX : OX X cc nL own Ts D cl tys A R) {l : Launch} {y : MethodName} {ws : List Cond} {rm : Room} {bytes : ByteArray} {maxL n index : Nat} {host : String} {ret : Option FieldType} {As rest : List Value} (hl9 : X.2.1 = l) (hM : kM l y ws rm D cl tys A As dom loc val Post) (cw : va_CN (xR X) (xs X) (xa X) own index y host bytes maxL ret ws rm rm.cells rm.slots n ∧ (Cond.static y).before (xa X) (xs X) = true ∧ True) (hn : As.length = n) (hlv : lv.length = nL) (hroom : (rest.map fun v => v.category).sum ≤ 8) (hd : decode cc pc = .ok (.invokestatic index, 3)) (hf : cells + rm.cells ≤ R.cells ∧ slots + rm.slots ≤ R.slots)
    (kk : ∀ (rv : Option Value) (dom2 : Nat → Prop) (loc2 : Nat → Nat) (val2 : Nat → va_E) (k n : Nat), Post rv dom2 loc2 val2 k n → V X D cl A dom2 loc2 val2 (cells + k) (slots + n) (pc + 3) lv (rv.toList ++ rest)) : V X D cl A dom loc val cells slots pc lv (As.reverse ++ rest) := by
  subst hl9
  have hx9 := hX.2.2.2.2.2.2.2.2.1
  exact v_back (fun H locs ls hW hS hl => va_runSN ⟨hX.1, hX.2.1, hX.2.2.1, hX.2.2.2.1, hX.2.2.2.2.1⟩ hM cw ⟨kP.blind, k_pre hX hW hS⟩ rfl hn (hl.1.trans hlv) rfl (by show 2 * 0 + _ ≤ 8; omega) hd (by rw [hx9]; exact hf)) kk
/-- Object's constructor -/
theorem v_objInit (hX : OX X cc nL own Ts D cl tys A R) {a index : Nat} (hl1 : Cond.methodLink own index objectInit ∈ Ts) (hl2 : Cond.instanceMethod objectInit ∈ Ts) (hl3 : Cond.code objectInit ⟨#[0xb1]⟩ 1 none ∈ Ts) (hfr : 1 ≤ R.frames ∧ 32 ≤ R.locals) (hlv : lv.length = nL) (hroom : (st.map fun v => v.category).sum ≤ 8) (hd : decode cc pc = .ok (.invokespecial index, 3)) (kk : V X D cl A dom loc val cells slots (pc + 3) lv st) : V X D cl A dom loc val cells slots pc lv (.ref a :: st) := fun H locs ls hW hS hl => by
  have hx9 := hX.2.2.2.2.2.2.2.2.1
  exact W.objInit hX.1 hX.2.1 hX.2.2.2.1 (hX.2.2.2.2.1 _ hl1) (hX.2.2.2.2.1 _ hl2) (hX.2.2.2.2.1 _ hl3) rfl (by rw [hX.2.2.1]; exact hl.1.trans hlv) rfl hd (by rw [hx9]; exact hfr.1) (by rw [hx9]; show 2 * 0 + _ + 12 ≤ _; omega) (kk H locs ls hW hS hl)
theorem lv_args_mem : ∀ (vs : List Value) (b i : Nat) (v : Value), (∀ w ∈ vs, w.category = 1) → vs[i]? = some v → (b + i, v) ∈ lv_args b vs
  | [], _, _, _, _, h => by simp at h
  | w :: vs, b, 0, v, _, h => by
    simp at h
    subst h
    exact List.mem_cons_self
  | w :: vs, b, i + 1, v, hc, h => by
    have hcw : w.category = 1 := hc w List.mem_cons_self
    have h1 := lv_args_mem vs (b + 1) i v (fun z hz => hc z (List.mem_cons_of_mem _ hz)) (by simpa using h)
    rw [show b + (i + 1) = b + 1 + i by omega]
    show _ ∈ (b, w) :: lv_args (if w.category = 2 then b + 2 else b + 1) vs
    rw [if_neg (by omega)]
    exact List.mem_cons_of_mem _ h1
/-- A CONTRACT out of the walk of its body -/
theorem kM.ofV {l : Launch} {y : MethodName} {ws ws' : List Cond} {rm : Room} {maxL : Nat} {av : List Value} {lv0 : List (Option Value)} (hy : plainName y.cls = true) (hw : ws = Cond.code y cc maxL ret :: ws') (hcat : ∀ w ∈ av, w.category = 1) (hlen : (lg_sl av).length ≤ maxL) (hl0 : lv0 = av.map some ++ List.replicate (maxL - av.length) none) (hl1 : av.length ≤ maxL)
    (body : ∀ X : KX, X.2.1 = l → OX X cc maxL y.cls ws D cl tys A rm → EX X ret D cl A Post rm.cells rm.slots → (xM X).name = y.name → V X D cl A dom loc val 0 0 0 lv0 []) : kM l y ws rm D cl tys A av dom loc val Post := by
  refine Met.ofW (cc := cc) (maxL := maxL) (ret := ret) hy hw ?_
  intro p e s m args below meth c s₁ B hml hv
  obtain ⟨rfl, hKW, hK, hA, hN⟩ := hv
  have hX : OX (p, l, e, rm, s, m, av.toArray, below, meth, c, MQ below (kQ D cl A Post) av.toArray s rm.cells rm.slots A) cc maxL y.cls ws D cl tys A rm :=
    ⟨B.exec, B.bytes, hml, findClass_of_methodNamed B.named, atoms_spec (ws := ws) B.pre, hK, hA, B.notSynchronized, rfl, hN⟩
  have h := body (p, l, e, rm, s, m, av.toArray, below, meth, c, MQ below (kQ D cl A Post) av.toArray s rm.cells rm.slots A) rfl hX ⟨B.returns, fun _ h => h⟩ (name_of_methodNamed B.named B.method).1
  have hl := lv_entry av (n := maxL) hlen
  rw [lg_entry_eq]
  generalize (lg_sl av ++ List.replicate (maxL - (lg_sl av).length) Slot.unset).toArray = ls at hl ⊢
  refine h s.heap [] ls hKW va_S.rf ⟨?_, hl.2.1, fun i v hi => ?_⟩
  · rw [hl.1, hl0]; simp; omega
  · rw [hl0] at hi
    have hi2 : av[i]? = some v := by
      by_cases hq : i < av.length
      · rw [List.getElem?_append_left (by simpa using hq)] at hi
        simpa using hi
      · rw [List.getElem?_append_right (by simpa using Nat.le_of_not_lt hq)] at hi
        have hr := List.mem_of_getElem? hi
        simp at hr
    have hm := lv_args_mem av 0 i v hcat hi2
    rw [Nat.zero_add] at hm
    exact ⟨hl.2.2 (i, v) hm, hcat v (List.mem_of_getElem? hi2)⟩
end KB3