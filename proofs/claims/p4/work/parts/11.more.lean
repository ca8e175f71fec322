section KM1
variable {X : KX} {cc : ByteArray} {nL : Nat} {own : String} {Ts : List Cond} {D : va_G} {cl : List vw_C} {tys : List (ClassId × FieldType)} {A : Nat → Prop} {R : Room} {dom : Nat → Prop} {loc : Nat → Nat} {val : Nat → va_E} {cells slots pc : Nat} {lv : List (Option Value)} {st : List Value}
theorem KW.one {H : Heap} (hW : KW D cl A dom loc val H) {j : Nat} (hj : dom j) {e : va_E} (he : val j = e) : va_P D cl [(loc j, e)] H := fun i q hq => by
  have hz : i < 1 := (List.getElem?_eq_some_iff.mp hq).1
  rw [show i = 0 by omega] at hq
  cases hq
  rw [← he]; exact hW.at_ hj
/-- keys below n -/
def kd (n k : Nat) : Prop := k < n
theorem kd_step (n : Nat) : ∀ i, kd (n + 1) i → i = n ∨ kd n i := fun i h => by unfold kd at *; omega
theorem kd_self (n : Nat) : kd (n + 1) n := Nat.lt_succ_self n
theorem kd_b {n j : Nat} (h : Nat.ble (j + 1) n = true) : kd n j := Nat.le_of_ble_eq_true h
/-- a new array of a plain type, under the key j -/
theorem v_newp (hX : OX X cc nL own Ts D cl tys A R) (j t0 : Nat) (dom2 : Nat → Prop) {atype : ArrayType} {ty : FieldType} {cA : ClassId} {n : Int32} {N : Nat} (a0 : vp_A) (hty : newarray.typeOf atype = ty) (ha : ∀ cA : ClassId, vp_cell cA a0 = arrV cA N (fun _ => defaultValue ty)) (hra : ∀ U : State, va_RA U cA ty → U.vm.findClass ("[" ++ ty.toString) = some cA) (harr : Cond.arrayClass ty ∈ Ts) (ht : tys[t0]? = some (cA, ty)) (hn : ¬ n < 0) (hN : n.toNatClampNeg = N) (hbytes : N * componentBytes ty ≤ 536870912) (hcells : cells + 1 ≤ R.cells) (hslots : slots + N ≤ R.slots) (hd : decode cc pc = .ok (.newarray atype, 2)) (hdm : ∀ i, dom2 i → i = j ∨ dom i) (hdj : dom2 j)
    (kk : ∀ q : Nat, V X D cl A dom2 (va_up loc j q) (va_up val j (.inl (cA, a0))) (cells + 1) (slots + N) (pc + 2) lv (.ref q :: st)) : V X D cl A dom loc val cells slots pc lv (.int n :: st) := fun H locs ls hW hS hl => by
  subst hty
  have hx9 := hX.2.2.2.2.2.2.2.2.1
  refine va_newaK (atype := atype) hX.1 hX.2.1 (hX.2.2.2.2.1 _ harr) rfl hd rfl hn hN hbytes (by rw [hx9]; exact hcells) (by rw [hx9]; exact hslots) rfl fun H1 cA' e1 z1 o1 hAr hNm => ?_
  have hcc : cA' = cA := by
    have h2 := hra _ (hX.2.2.2.2.2.1.2 t0 _ ht).2
    exact Option.some.inj (hNm.symm.trans h2)
  subst hcc
  have hAq : A H.size := hX.2.2.2.2.2.2.1 _ hS.1
  refine kk H.size H1 locs ls (hW.new hdm hdj (fun ks hk hP hD => ⟨(hP.kept (fun i x hx => o1 x.1 ((hP i x hx).lt))).app (fun i x hx => ?_), hD.push hP rfl hAq⟩)) ⟨Nat.le_trans hS.1 (by omega), fun x h1 h2 => (o1 x (Nat.lt_of_lt_of_le h1 hS.1)).trans (hS.2.1 x h1 h2), hS.2.2⟩ hl
  have hz : i < 1 := (List.getElem?_eq_some_iff.mp hx).1
  rw [show i = 0 by omega] at hx
  cases hx
  show H1[H.size]? = some (vp_cell cA' a0)
  rw [ha]
  exact e1
/-- a new array of references -/
theorem v_newq (hX : OX X cc nL own Ts D cl tys A R) (j t0 : Nat) (dom2 : Nat → Prop) {C : String} {index : Nat} {cA : ClassId} {n : Int32} {N : Nat} (hcl : Cond.classLink own index C ∈ Ts) (hover : va_AO C (xs X)) (ht : tys[t0]? = some (cA, .object C)) (hn : ¬ n < 0) (hN : n.toNatClampNeg = N) (hbytes : N * 4 ≤ 536870912) (hcells : cells + 1 ≤ R.cells) (hslots : slots + N ≤ R.slots) (hd : decode cc pc = .ok (.anewarray index, 3)) (hdm : ∀ i, dom2 i → i = j ∨ dom i) (hdj : dom2 j)
    (kk : ∀ q : Nat, V X D cl A dom2 (va_up loc j q) (va_up val j (.inl (cA, N, .inr (.inr (.inr (.inr (fun _ => none))))))) (cells + 1) (slots + N) (pc + 3) lv (.ref q :: st)) : V X D cl A dom loc val cells slots pc lv (.int n :: st) := fun H locs ls hW hS hl => by
  subst hN
  have hx9 := hX.2.2.2.2.2.2.2.2.1
  refine W.anew hX.1 hX.2.1 hX.2.2.2.1 (hX.2.2.2.2.1 _ hcl) (va_AO.use hover) rfl hd rfl hn hbytes (by rw [hx9]; exact hcells) (by rw [hx9]; exact hslots) fun cA' kA comp f1 f2 f3 f4 => ?_
  have hcc : cA' = cA := by
    obtain ⟨kA2, comp2, g1, g2, g3, g4⟩ := (hX.2.2.2.2.2.1.2 t0 _ ht).2
    exact Option.some.inj (f1.symm.trans g4)
  subst hcc
  generalize hH1 : H.push ({ cls := cA', slots := Array.replicate n.toNatClampNeg .null, vm := .none } : Cell) = H1
  have z1 : H1.size = H.size + 1 := by rw [← hH1, Array.size_push]
  have e1 : H1[H.size]? = some (arrV cA' n.toNatClampNeg (fun _ => .null)) := by rw [← hH1, Array.getElem?_push_size, ← arrV_new]
  have o1 : ∀ q : Nat, q < H.size → H1[q]? = H[q]? := fun q hq => by rw [← hH1, Array.getElem?_push, if_neg (Nat.ne_of_lt hq)]
  have hAq : A H.size := hX.2.2.2.2.2.2.1 _ hS.1
  refine kk H.size H1 locs ls (hW.new hdm hdj (fun ks hk hP hD => ⟨(hP.kept (fun i x hx => o1 x.1 ((hP i x hx).lt))).app (fun i x hx => ?_), hD.push hP rfl hAq⟩)) ⟨Nat.le_trans hS.1 (by omega), fun x h1 h2 => (o1 x (Nat.lt_of_lt_of_le h1 hS.1)).trans (hS.2.1 x h1 h2), hS.2.2⟩ hl
  have hz : i < 1 := (List.getElem?_eq_some_iff.mp hx).1
  rw [show i = 0 by omega] at hx
  cases hx
  show H1[H.size]? = some (vp_cell cA' _)
  exact e1
theorem v_lald (hX : OX X cc nL own Ts D cl tys A R) (j t0 : Nat) {a : Nat} {cA : ClassId} {n : Nat} {f : Nat → Int64} {i : Int32} {v : Int64} (hj : dom j) (ha : loc j = a) (he : val j = .inl (cA, n, .inr (.inl f))) (ht : tys[t0]? = some (cA, .long)) (hin : vp_in i n) (hv : f i.toNatClampNeg = v) (hd : decode cc pc = .ok (.laload, 1)) (kk : V X D cl A dom loc val cells slots (pc + 1) lv (.long v :: st)) : V X D cl A dom loc val cells slots pc lv (.int i :: .ref a :: st) := fun H locs ls hW hS hl => by
  subst ha
  subst hv
  exact va_lald hX.1 hX.2.1 hX.2.2.2.2.2.1 (hW.one hj he) 0 t0 rfl ht hin hd (kk H locs ls hW hS hl)
theorem v_zast (hX : OX X cc nL own Ts D cl tys A R) (j t0 : Nat) {a : Nat} {cA : ClassId} {n : Nat} {f : Nat → Int32} {i x : Int32} (hj : dom j) (ha : loc j = a) (he : val j = .inl (cA, n, .inl f)) (ht : tys[t0]? = some (cA, .boolean)) (hin : vp_in i n) (hd : decode cc pc = .ok (.bastore, 1))
    (kk : V X D cl A dom loc (va_up val j (.inl (cA, n, .inl (upd f i.toNatClampNeg (vp_nar .boolean x))))) cells slots (pc + 1) lv st) : V X D cl A dom loc val cells slots pc lv (.int x :: .int i :: .ref a :: st) := fun H locs ls hW hS hl => by
  subst ha
  obtain ⟨ks, h1, hP, hD⟩ := hW
  obtain ⟨q, i1, i2⟩ := kl_get (loc := loc) (val := val) ((h1 j).mp hj)
  refine va_zast hX.1 hX.2.1 hX.2.2.2.2.2.1 hP hD hS q t0 (by rw [i2, he]) ht hin hd (fun H1 locs1 hP1 hD1 hS1 => ?_)
  rw [kl_set hD i1] at hP1 hD1
  exact kk H1 locs1 ls ⟨ks, h1, hP1, hD1⟩ hS1 hl
theorem v_last (hX : OX X cc nL own Ts D cl tys A R) (j t0 : Nat) {a : Nat} {cA : ClassId} {n : Nat} {f : Nat → Int64} {i : Int32} {x : Int64} (hj : dom j) (ha : loc j = a) (he : val j = .inl (cA, n, .inr (.inl f))) (ht : tys[t0]? = some (cA, .long)) (hin : vp_in i n) (hd : decode cc pc = .ok (.lastore, 1))
    (kk : V X D cl A dom loc (va_up val j (.inl (cA, n, .inr (.inl (vp_updL f i.toNatClampNeg x))))) cells slots (pc + 1) lv st) : V X D cl A dom loc val cells slots pc lv (.long x :: .int i :: .ref a :: st) := fun H locs ls hW hS hl => by
  subst ha
  obtain ⟨ks, h1, hP, hD⟩ := hW
  obtain ⟨q, i1, i2⟩ := kl_get (loc := loc) (val := val) ((h1 j).mp hj)
  refine va_last hX.1 hX.2.1 hX.2.2.2.2.2.1 hP hD hS q t0 (by rw [i2, he]) ht hin hd (fun H1 locs1 hP1 hD1 hS1 => ?_)
  rw [kl_set hD i1] at hP1 hD1
  exact kk H1 locs1 ls ⟨ks, h1, hP1, hD1⟩ hS1 hl
end KM1
