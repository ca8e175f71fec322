section KF
/-- the good words of the tables: every method's words are its own code's word and these -/
def TT : List Cond := lw_tbl.filter goodWord
theorem TT_in {w : Cond} (i : Nat) (h : lw_tbl[i]? = some w) (g : goodWord w = true) : w ∈ TT := List.mem_filter.mpr ⟨List.mem_of_getElem? h, g⟩
theorem TT_all {ws : List Cond} (h : ∀ w ∈ ws, w ∈ lw_tbl) (g : ws.all goodWord = true) : ∀ w ∈ ws, w ∈ TT := fun w hw => List.mem_filter.mpr ⟨h w hw, List.all_eq_true.mp g w hw⟩
theorem TT_good {c : Cond} (hc : c ∈ TT) : GoodIn TT (c :: TT) := fun w hw => by
  have h : w ∈ TT := (List.mem_cons.mp hw).elim (fun e => e ▸ hc) id
  exact ⟨h, good_of_word (List.mem_filter.mp h).2⟩
theorem TT_lw {args : Array Value} {s : State} (h : ∀ w ∈ lw_tbl, w.before args s = true) : ∀ w ∈ TT, w.before args s = true := fun w hw => h w (List.mem_filter.mp hw).1
theorem kup_ne {α : Type} {f : Nat → α} {k j : Nat} {e x : α} (h : j ≠ k) (h2 : f j = x) : va_up f k e j = x := (va_up_ne f e h).trans h2
theorem kup_self {α : Type} {f : Nat → α} {k : Nat} {e : α} : va_up f k e k = e := va_up_self f k e
theorem kup_up {α : Type} {f : Nat → α} {k : Nat} {a b : α} : va_up (va_up f k a) k b = va_up f k b := by
  funext i
  by_cases h : i = k <;> simp [va_up, h]
variable {l : Launch} {D : va_G} {cl : List vw_C} {tys : List (ClassId × FieldType)} {A : Nat → Prop} {dom : Nat → Prop} {loc : Nat → Nat} {val : Nat → va_E} {Post : kT} {cc : ByteArray} {ret : Option FieldType}
/-- a contract whose words are its code's and the tables' -/
theorem kM_of {y : MethodName} {rm : Room} {maxL : Nat} {av : List Value} {lv0 : List (Option Value)} {own : String} (hy : plainName y.cls = true) (ho : y.cls = own) (hcat : ∀ w ∈ av, w.category = 1) (hlen : (lg_sl av).length ≤ maxL) (hl0 : lv0 = av.map some ++ List.replicate (maxL - av.length) none) (hl1 : av.length ≤ maxL)
    (body : ∀ X : KX, X.2.1 = l → OX X cc maxL own TT D cl tys A rm → EX X ret D cl A Post rm.cells rm.slots → (xM X).name = y.name → V X D cl A dom loc val 0 0 0 lv0 []) : kM l y (Cond.code y cc maxL ret :: TT) rm D cl tys A av dom loc val Post :=
  kM.ofV hy rfl hcat hlen hl0 hl1 (fun X h1 h2 h3 h4 => body X h1 ⟨h2.1, h2.2.1, h2.2.2.1, ho ▸ h2.2.2.2.1, fun w hw => h2.2.2.2.2.1 w (List.mem_cons_of_mem _ hw), h2.2.2.2.2.2⟩ h3 h4)
variable {X : KX} {nL : Nat} {own : String} {R : Room} {cells slots pc : Nat} {lv : List (Option Value)}
abbrev KC (X : KX) (D : va_G) (cl : List vw_C) (A : Nat → Prop) (Post : kT) (cells slots pc : Nat) (lv : List (Option Value)) (rest : List Value) : Prop := ∀ (rv : Option Value) (dom2 : Nat → Prop) (loc2 : Nat → Nat) (val2 : Nat → va_E) (k n : Nat), Post rv dom2 loc2 val2 k n → V X D cl A dom2 loc2 val2 (cells + k) (slots + n) (pc + 3) lv (rv.toList ++ rest)
abbrev KQd (y : MethodName) (n : Nat) : Prop := y.cls ≠ "java/lang/invoke/MethodHandle" ∧ y.cls ≠ "java/lang/invoke/VarHandle" ∧ (parseMethodDescriptor y.desc).map (fun d => d.parameters.length) = some n
abbrev KRm (rm : Room) (maxL : Nat) (R : Room) : Prop := rm.frames + 1 ≤ R.frames ∧ 8 + (maxL + 11) + rm.locals ≤ R.locals
/-- invokevirtual of a method of the class C itself -/
theorem c_V (hX : OX X cc nL own TT D cl tys A R) (j : Nat) {y : MethodName} {rm : Room} {bytes : ByteArray} {maxL n index ci : Nat} {ret : Option FieldType} {C : String} {T : u_T} {N : Nat} {fs : List Value} {a : Nat} {As rest st0 : List Value} (hl9 : X.2.1 = l) (hM : kM l y (Cond.code y bytes maxL ret :: TT) rm D cl tys A (.ref a :: As) dom loc val Post)
    (k1 : Cond.methodLink own index y ∈ TT) (k2 : Cond.instanceMethod y ∈ TT) (k3 : Cond.selects C y y ∈ TT) (k4 : Cond.initialized C ∈ TT) (k5 : Cond.code y bytes maxL ret ∈ TT) (hC : y.cls = C) (hq : KQd y n) (hR : KRm rm maxL R)
    (hj : dom j) (ha : loc j = a) (he : val j = .inr (ci, fs)) (hc : cl[ci]? = some (C, T, N)) (hn : As.length = n) (hlv : lv.length = nL) (hst : As.reverse ++ .ref a :: rest = st0) (hroom : (rest.map fun v => v.category).sum ≤ 8) (hd : decode cc pc = .ok (.invokevirtual index, 3)) (hf : cells + rm.cells ≤ R.cells ∧ slots + rm.slots ≤ R.slots)
    (kk : KC X D cl A Post cells slots pc lv rest) : V X D cl A dom loc val cells slots pc lv st0 := by
  subst hst
  have hx9 := hX.2.2.2.2.2.2.2.2.1
  have hg : GoodIn TT (wsV own index C y (Cond.code y bytes maxL ret :: TT)) := fun w hw => by
    have h : w ∈ TT := by
      unfold wsV at hw
      simp only [List.mem_append, List.mem_cons, List.not_mem_nil, or_false] at hw
      rcases hw with (rfl | rfl | rfl | rfl) | (rfl | hw)
      · exact k1
      · exact k2
      · exact k3
      · exact k4
      · exact k5
      · exact hw
    exact ⟨h, good_of_word (List.mem_filter.mp h).2⟩
  exact v_callV hX j (rc := (C, T, N)) hl9 hM (cwV n hX.2.2.2.2.1 hg rfl rfl rfl ⟨hC, hq⟩ (by rw [hx9]; exact hR)) hj ha he hc hn hlv hroom hd hf kk
/-- invokestatic within the class -/
theorem c_S (hX : OX X cc nL own TT D cl tys A R) {y : MethodName} {rm : Room} {bytes : ByteArray} {maxL n index : Nat} {ret : Option FieldType} {As rest st0 : List Value} (hl9 : X.2.1 = l) (hM : kM l y (Cond.code y bytes maxL ret :: TT) rm D cl tys A As dom loc val Post)
    (k1 : Cond.methodLink own index y ∈ TT) (k2 : Cond.static y ∈ TT) (k4 : Cond.initialized own ∈ TT) (k5 : Cond.code y bytes maxL ret ∈ TT) (hC : y.cls = own) (hq : KQd y n) (hR : KRm rm maxL R)
    (hn : As.length = n) (hlv : lv.length = nL) (hst : As.reverse ++ rest = st0) (hroom : (rest.map fun v => v.category).sum ≤ 8) (hd : decode cc pc = .ok (.invokestatic index, 3)) (hf : cells + rm.cells ≤ R.cells ∧ slots + rm.slots ≤ R.slots)
    (kk : KC X D cl A Post cells slots pc lv rest) : V X D cl A dom loc val cells slots pc lv st0 := by
  subst hst
  have hx9 := hX.2.2.2.2.2.2.2.2.1
  have hg : GoodIn TT (wsS own index y (Cond.code y bytes maxL ret :: TT)) := fun w hw => by
    have h : w ∈ TT := by
      unfold wsS at hw
      simp only [List.mem_append, List.mem_cons, List.not_mem_nil, or_false] at hw
      rcases hw with (rfl | rfl | rfl) | (rfl | hw)
      · exact k1
      · exact k2
      · exact k4
      · exact k5
      · exact hw
    exact ⟨h, good_of_word (List.mem_filter.mp h).2⟩
  exact v_callS hX hl9 hM (cwS n hX.2.2.2.2.1 hg rfl rfl rfl ⟨hC, hq⟩ (by rw [hx9]; exact hR)) hn hlv hroom hd hf kk
/-- invokestatic of a nest mate's -/
theorem c_SN (hX : OX X cc nL own TT D cl tys A R) {y : MethodName} {rm : Room} {bytes : ByteArray} {maxL n index : Nat} {host : String} {ret : Option FieldType} {As rest st0 : List Value} (hl9 : X.2.1 = l) (hM : kM l y (Cond.code y bytes maxL ret :: TT) rm D cl tys A As dom loc val Post)
    (k1 : Cond.methodLinkNest own index y host ∈ nfw) (k2 : Cond.static y ∈ TT) (k4 : Cond.initialized y.cls ∈ TT) (k5 : Cond.code y bytes maxL ret ∈ TT) (hq : KQd y n) (hR : KRm rm maxL R)
    (hn : As.length = n) (hlv : lv.length = nL) (hst : As.reverse ++ rest = st0) (hroom : (rest.map fun v => v.category).sum ≤ 8) (hd : decode cc pc = .ok (.invokestatic index, 3)) (hf : cells + rm.cells ≤ R.cells ∧ slots + rm.slots ≤ R.slots)
    (kk : KC X D cl A Post cells slots pc lv rest) : V X D cl A dom loc val cells slots pc lv st0 := by
  subst hst
  have hx9 := hX.2.2.2.2.2.2.2.2.1
  have hN := hX.2.2.2.2.2.2.2.2.2.now
  exact v_callSN hX hl9 hM ⟨va_cnB n hX.2.2.2.2.1 (TT_good k5) rfl rfl rfl (hN.1 _ k1) (hX.2.2.2.2.1 _ k4) hq (by rw [hx9]; exact hR), hX.2.2.2.2.1 _ k2, trivial⟩ hn hlv hroom hd hf kk
/-- invokespecial of a constructor -/
theorem c_I (hX : OX X cc nL own TT D cl tys A R) {y : MethodName} {rm : Room} {bytes : ByteArray} {maxL n index : Nat} {a : Nat} {As rest st0 : List Value} (hl9 : X.2.1 = l) (hM : kM l y (Cond.code y bytes maxL none :: TT) rm D cl tys A (.ref a :: As) dom loc val Post)
    (k1 : Cond.methodLink own index y ∈ TT) (k2 : Cond.instanceMethod y ∈ TT) (k4 : Cond.initialized y.cls ∈ TT) (k5 : Cond.code y bytes maxL none ∈ TT) (hi : y.name = "<init>") (hq : KQd y n) (hR : KRm rm maxL R)
    (hn : As.length = n) (hlv : lv.length = nL) (hst : As.reverse ++ .ref a :: rest = st0) (hroom : (rest.map fun v => v.category).sum ≤ 8) (hd : decode cc pc = .ok (.invokespecial index, 3)) (hf : cells + rm.cells ≤ R.cells ∧ slots + rm.slots ≤ R.slots)
    (kk : KC X D cl A Post cells slots pc lv rest) : V X D cl A dom loc val cells slots pc lv st0 := by
  subst hst
  have hx9 := hX.2.2.2.2.2.2.2.2.1
  exact v_callI hX hl9 hM (cwI n hX.2.2.2.2.1 (TT_good k5) rfl rfl rfl (hX.2.2.2.2.1 _ k4) (hX.2.2.2.2.1 _ k1) (hX.2.2.2.2.1 _ k2) hi hq (by rw [hx9]; exact hR)) hn hlv hroom hd hf kk
/-- invokespecial of a nest mate's constructor -/
theorem c_IN (hX : OX X cc nL own TT D cl tys A R) {y : MethodName} {rm : Room} {bytes : ByteArray} {maxL n index : Nat} {host : String} {a : Nat} {As rest st0 : List Value} (hl9 : X.2.1 = l) (hM : kM l y (Cond.code y bytes maxL none :: TT) rm D cl tys A (.ref a :: As) dom loc val Post)
    (k1 : Cond.methodLinkNest own index y host ∈ nfw) (k2 : Cond.instanceMethod y ∈ TT) (k4 : Cond.initialized y.cls ∈ TT) (k5 : Cond.code y bytes maxL none ∈ TT) (hi : y.name = "<init>") (hq : KQd y n) (hR : KRm rm maxL R)
    (hn : As.length = n) (hlv : lv.length = nL) (hst : As.reverse ++ .ref a :: rest = st0) (hroom : (rest.map fun v => v.category).sum ≤ 8) (hd : decode cc pc = .ok (.invokespecial index, 3)) (hf : cells + rm.cells ≤ R.cells ∧ slots + rm.slots ≤ R.slots)
    (kk : KC X D cl A Post cells slots pc lv rest) : V X D cl A dom loc val cells slots pc lv st0 := by
  subst hst
  have hx9 := hX.2.2.2.2.2.2.2.2.1
  have hN := hX.2.2.2.2.2.2.2.2.2.now
  exact v_callIN hX hl9 hM ⟨va_cnB n hX.2.2.2.2.1 (TT_good k5) rfl rfl rfl (hN.1 _ k1) (hX.2.2.2.2.1 _ k4) hq (by rw [hx9]; exact hR), hi, hX.2.2.2.2.1 _ k2⟩ hn hlv hroom hd hf kk
variable {st : List Value}
/-- a load of a reference out of an array of them -/
theorem v_aldr (hX : OX X cc nL own TT D cl tys A R) (j t0 : Nat) {a b : Nat} {cA : ClassId} {C : String} {n : Nat} {f : Nat → Option Nat} {i : Int32} (hj : dom j) (ha : loc j = a) (he : val j = .inl (cA, n, .inr (.inr (.inr (.inr f))))) (ht : tys[t0]? = some (cA, .object C)) (hin : vp_in i n) (hr : f i.toNatClampNeg = some b) (hd : decode cc pc = .ok (.aaload, 1)) (kk : V X D cl A dom loc val cells slots (pc + 1) lv (.ref b :: st)) : V X D cl A dom loc val cells slots pc lv (.int i :: .ref a :: st) := v_aldq hX j t0 (some b) hj ha he ht hin hr hd kk
/-- a field put, the new row of fields written out -/
theorem v_putE (hX : OX X cc nL own TT D cl tys A R) (j : Nat) {C ref : String} {T : u_T} {N ci index : Nat} {fs fs2 : List Value} {a : Nat} {v : Value} {ty : FieldType} (hin : ∀ w ∈ u_ws C T N, w ∈ TT) (ty0 : Nat → FieldType) (hty : ∀ k, k < N → parseFieldDescriptor (T k).2.2.1 = some (ty0 k)) (hnm : ∀ a, a < N → ∀ b, b < N → a ≠ b → (T a).2.1 ≠ (T b).2.1) (hj : dom j) (ha : loc j = a) (he : val j = .inr (ci, fs)) (hc : cl[ci]? = some (C, T, N)) (k : Nat) (hk : k < N) (hlink : Cond.fieldLink own index ref (T k).2.1 (T k).2.2.1 ∈ TT) (href : (T k).1 = ref) (hfin : (T k).2.2.2 = false) (ht : ty0 k = ty) (hn : narrow ty v = v) (hfit : fits ty v = true) (hlen : k < fs.length) (hd : decode cc pc = .ok (.putfield index, 3)) (hfs : fs.set k v = fs2)
    (kk : V X D cl A dom loc (va_up val j (.inr (ci, fs2))) cells slots (pc + 3) lv st) : V X D cl A dom loc val cells slots pc lv (v :: .ref a :: st) := by
  subst hfs
  exact v_put hX j hin ty0 hty hnm hj ha he hc k hk hlink href hfin ht hn hfit hlen hd kk
theorem v_putFE (hX : OX X cc nL own TT D cl tys A R) (j : Nat) {C : String} {T : u_T} {N ci index : Nat} {fs fs2 : List Value} {a : Nat} {v : Value} {ty : FieldType} (hin : ∀ w ∈ u_ws C T N, w ∈ TT) (ty0 : Nat → FieldType) (hty : ∀ k, k < N → parseFieldDescriptor (T k).2.2.1 = some (ty0 k)) (hnm : ∀ a, a < N → ∀ b, b < N → a ≠ b → (T a).2.1 ≠ (T b).2.1) (hinit : (xM X).name = "<init>") (hj : dom j) (ha : loc j = a) (he : val j = .inr (ci, fs)) (hc : cl[ci]? = some (C, T, N)) (k : Nat) (hk : k < N) (hlink : Cond.fieldLink own index own (T k).2.1 (T k).2.2.1 ∈ TT) (href : (T k).1 = own) (hfin : (T k).2.2.2 = true) (ht : ty0 k = ty) (hn : narrow ty v = v) (hfit : fits ty v = true) (hlen : k < fs.length) (hd : decode cc pc = .ok (.putfield index, 3)) (hfs : fs.set k v = fs2)
    (kk : V X D cl A dom loc (va_up val j (.inr (ci, fs2))) cells slots (pc + 3) lv st) : V X D cl A dom loc val cells slots pc lv (v :: .ref a :: st) := by
  subst hfs
  exact v_putF hX j hin ty0 hty hnm hinit hj ha he hc k hk hlink href hfin ht hn hfit hlen hd kk
theorem v_iaddE (hX : OX X cc nL own TT D cl tys A R) {x y v : Int32} (hd : decode cc pc = .ok (.iadd, 1)) (hv : x + y = v) (k : V X D cl A dom loc val cells slots (pc + 1) lv (.int v :: st)) : V X D cl A dom loc val cells slots pc lv (.int y :: .int x :: st) := v_iadd hX hd (hv ▸ k)
theorem v_isubE (hX : OX X cc nL own TT D cl tys A R) {x y v : Int32} (hd : decode cc pc = .ok (.isub, 1)) (hv : x - y = v) (k : V X D cl A dom loc val cells slots (pc + 1) lv (.int v :: st)) : V X D cl A dom loc val cells slots pc lv (.int y :: .int x :: st) := v_isub hX hd (hv ▸ k)
theorem v_imulE (hX : OX X cc nL own TT D cl tys A R) {x y v : Int32} (hd : decode cc pc = .ok (.imul, 1)) (hv : x * y = v) (k : V X D cl A dom loc val cells slots (pc + 1) lv (.int v :: st)) : V X D cl A dom loc val cells slots pc lv (.int y :: .int x :: st) := v_imul hX hd (hv ▸ k)
theorem v_iandE (hX : OX X cc nL own TT D cl tys A R) {x y v : Int32} (hd : decode cc pc = .ok (.iand, 1)) (hv : x &&& y = v) (k : V X D cl A dom loc val cells slots (pc + 1) lv (.int v :: st)) : V X D cl A dom loc val cells slots pc lv (.int y :: .int x :: st) := v_iand hX hd (hv ▸ k)
theorem v_iorE (hX : OX X cc nL own TT D cl tys A R) {x y v : Int32} (hd : decode cc pc = .ok (.ior, 1)) (hv : x ||| y = v) (k : V X D cl A dom loc val cells slots (pc + 1) lv (.int v :: st)) : V X D cl A dom loc val cells slots pc lv (.int y :: .int x :: st) := v_ior hX hd (hv ▸ k)
theorem v_ishlE (hX : OX X cc nL own TT D cl tys A R) {x y v : Int32} (hd : decode cc pc = .ok (.ishl, 1)) (hv : x <<< (y &&& 31) = v) (k : V X D cl A dom loc val cells slots (pc + 1) lv (.int v :: st)) : V X D cl A dom loc val cells slots pc lv (.int y :: .int x :: st) := v_ishl hX hd (hv ▸ k)
theorem v_ishrE (hX : OX X cc nL own TT D cl tys A R) {x y v : Int32} (hd : decode cc pc = .ok (.ishr, 1)) (hv : x >>> (y &&& 31) = v) (k : V X D cl A dom loc val cells slots (pc + 1) lv (.int v :: st)) : V X D cl A dom loc val cells slots pc lv (.int y :: .int x :: st) := v_ishr hX hd (hv ▸ k)
theorem vpb {i : Int32} {n : Nat} (h : (decide (i < 0) || decide (n ≤ i.toNatClampNeg)) = false) : vp_in i n := fun z => by
  rcases z with z | z
  · simp [z] at h
  · simp [z] at h
end KF
