section KJ
variable {D : va_G} {cl : List vw_C} {A : Nat → Prop} {dom : Nat → Prop} {loc : Nat → Nat} {val : Nat → va_E} {H : Heap}
/-- a world out of its cells, one by one -/
theorem KW.intro (ks : List Nat) (hnd : ks.Nodup) (hd : ∀ k, dom k ↔ k ∈ ks) (hat : ∀ k, dom k → va_at D cl (loc k, val k) H) (hinj : ∀ k k2, dom k → dom k2 → loc k = loc k2 → k = k2) (hA : ∀ k, dom k → A (loc k)) : KW D cl A dom loc val H := by
  refine ⟨ks, hd, fun i q hq => ?_, fun i j x y hx hy hxy => ?_, fun i q hq => ?_⟩
  · obtain ⟨k, k1, rfl⟩ := kl_mem hq
    exact hat k ((hd k).mpr (List.mem_of_getElem? k1))
  · obtain ⟨k, k1, rfl⟩ := kl_mem hx
    obtain ⟨k2, k3, rfl⟩ := kl_mem hy
    have hkk : k = k2 := hinj k k2 ((hd k).mpr (List.mem_of_getElem? k1)) ((hd k2).mpr (List.mem_of_getElem? k3)) hxy
    subst hkk
    exact (List.getElem_inj hnd).mp ((List.getElem?_eq_some_iff.mp k1).2.trans (List.getElem?_eq_some_iff.mp k3).2.symm)
  · obtain ⟨k, k1, rfl⟩ := kl_mem hq
    exact hA k ((hd k).mpr (List.mem_of_getElem? k1))
theorem KW.nodup (h : KW D cl A dom loc val H) : ∃ ks : List Nat, ks.Nodup ∧ ∀ k, dom k ↔ k ∈ ks := by
  obtain ⟨ks, h1, h2, h3⟩ := h
  refine ⟨ks, List.pairwise_iff_getElem.mpr (fun i j hi hj hij he => ?_), h1⟩
  have e1 : ks[i]? = some ks[i] := List.getElem?_eq_getElem hi
  have e2 : ks[j]? = some ks[i] := by rw [he]; exact List.getElem?_eq_getElem hj
  have hc := h3.1 i j (loc ks[i], val ks[i]) (loc ks[i], val ks[i]) (by simp [kl, e1]) (by simp [kl, e2]) rfl
  omega
/-- what lies under t comes under j; what lay under j is forgotten -/
theorem KW.mv (h : KW D cl A dom loc val H) {t j : Nat} (ht : dom t) {dom2 : Nat → Prop} (hd : ∀ k, dom2 k ↔ (k = j ∨ (dom k ∧ k ≠ t))) (hjt : j ≠ t) : KW D cl A dom2 (va_up loc j (loc t)) (va_up val j (val t)) H := by
  classical
  obtain ⟨ks, hnd, hk⟩ := h.nodup
  have h2 : ∀ k, dom2 k → k ≠ j → dom k ∧ k ≠ t := fun k a b => ((hd k).mp a).resolve_left b
  refine KW.intro (j :: (ks.filter (fun k => decide (k ≠ j ∧ k ≠ t)))) (List.nodup_cons.mpr ⟨fun z => ?_, hnd.filter _⟩) (fun k => ?_) (fun k a => ?_) (fun k k2 a b e => ?_) (fun k a => ?_)
  · have := (List.mem_filter.mp z).2
    simp at this
  · rw [hd k, List.mem_cons]
    by_cases e : k = j
    · simp [e]
    · simp only [e, false_or]
      rw [List.mem_filter, ← hk k]
      simp [e]
  · by_cases e : k = j
    · rw [e, va_up_self, va_up_self]; exact h.at_ ht
    · rw [va_up_ne _ _ e, va_up_ne _ _ e]; exact h.at_ (h2 k a e).1
  · by_cases e1 : k = j
    · by_cases e2 : k2 = j
      · rw [e1, e2]
      · rw [e1, va_up_self, va_up_ne _ _ e2] at e
        exact absurd (h.inj ht (h2 k2 b e2).1 e).symm (h2 k2 b e2).2
    · by_cases e2 : k2 = j
      · rw [e2, va_up_self, va_up_ne _ _ e1] at e
        exact absurd (h.inj (h2 k a e1).1 ht e) (h2 k a e1).2
      · rw [va_up_ne _ _ e1, va_up_ne _ _ e2] at e
        exact h.inj (h2 k a e1).1 (h2 k2 b e2).1 e
  · by_cases e : k = j
    · rw [e, va_up_self]; exact h.inA ht
    · rw [va_up_ne _ _ e]; exact h.inA (h2 k a e).1
variable {X : KX} {cc : ByteArray} {nL : Nat} {own : String} {tys : List (ClassId × FieldType)} {R : Room} {cells slots pc : Nat} {lv : List (Option Value)} {st : List Value}
theorem v_mv {t j : Nat} (ht : dom t) (hjt : j ≠ t) {dom2 : Nat → Prop} (hd : ∀ k, dom2 k ↔ (k = j ∨ (dom k ∧ k ≠ t))) {loc2 : Nat → Nat} {val2 : Nat → va_E} (hl : va_up loc j (loc t) = loc2) (hv : va_up val j (val t) = val2) (kk : V X D cl A dom2 loc2 val2 cells slots pc lv st) : V X D cl A dom loc val cells slots pc lv st := fun H locs ls hW hS hlh => by
  subst hl
  subst hv
  exact kk H locs ls (hW.mv ht hd hjt) hS hlh
theorem v_mmin (hX : OX X cc nL own TT D cl tys A R) {index : Nat} {x y v : Int32} (k1 : Cond.methodLink own index Lib.Math.min.name ∈ TT) (k2 : Cond.static Lib.Math.min.name ∈ TT) (k3 : Cond.initialized "java/lang/Math" ∈ TT) (k4 : Cond.code Lib.Math.min.name Lib.Math.min.code 2 (some .int) ∈ TT) (hR : 1 ≤ R.frames ∧ 21 ≤ R.locals) (hv : (if y < x then y else x) = v) (hlv : lv.length = nL) (hst : (st.map fun v => v.category).sum ≤ 8) (hc : cells ≤ R.cells) (hs : slots ≤ R.slots) (hd : decode cc pc = .ok (.invokestatic index, 3)) (kk : V X D cl A dom loc val cells slots (pc + 3) lv (.int v :: st)) : V X D cl A dom loc val cells slots pc lv (.int y :: .int x :: st) := fun H locs ls hW hS hlh => by
  subst hv
  have hx9 := hX.2.2.2.2.2.2.2.2.1
  have hts := hX.2.2.2.2.1
  exact va_mmin hX.1 hX.2.1 (by rw [hX.2.2.1]; exact (hlh.1.trans hlv).symm) hX.2.2.2.1 (hts _ k1) (hts _ k2) (hts _ k3) (hts _ k4) (by rw [hx9]; exact hR.1) (by rw [hx9]; omega) (by rw [hx9]; exact hc) (by rw [hx9]; exact hs) hd (kk H locs ls hW hS hlh)
theorem v_mmax (hX : OX X cc nL own TT D cl tys A R) {index : Nat} {x y v : Int32} (k1 : Cond.methodLink own index Lib.Math.max.name ∈ TT) (k2 : Cond.static Lib.Math.max.name ∈ TT) (k3 : Cond.initialized "java/lang/Math" ∈ TT) (k4 : Cond.code Lib.Math.max.name Lib.Math.max.code 2 (some .int) ∈ TT) (hR : 1 ≤ R.frames ∧ 21 ≤ R.locals) (hv : (if x < y then y else x) = v) (hlv : lv.length = nL) (hst : (st.map fun v => v.category).sum ≤ 8) (hc : cells ≤ R.cells) (hs : slots ≤ R.slots) (hd : decode cc pc = .ok (.invokestatic index, 3)) (kk : V X D cl A dom loc val cells slots (pc + 3) lv (.int v :: st)) : V X D cl A dom loc val cells slots pc lv (.int y :: .int x :: st) := fun H locs ls hW hS hlh => by
  subst hv
  have hx9 := hX.2.2.2.2.2.2.2.2.1
  have hts := hX.2.2.2.2.1
  exact va_mmax hX.1 hX.2.1 (by rw [hX.2.2.1]; exact (hlh.1.trans hlv).symm) hX.2.2.2.1 (hts _ k1) (hts _ k2) (hts _ k3) (hts _ k4) (by rw [hx9]; exact hR.1) (by rw [hx9]; omega) (by rw [hx9]; exact hc) (by rw [hx9]; exact hs) hd (kk H locs ls hW hS hlh)
/-- System.arraycopy of ints, from the array under j0 to that under j1 -/
theorem v_copyi (hX : OX X cc nL own TT D cl tys A R) (j0 j1 t0 : Nat) {index : Nat} {a0 a1 : Nat} {cA : ClassId} {n0 n1 : Nat} {f g : Nat → Int32} {sp dp n : Int32} (k1 : Cond.methodLink own index arraycopyName ∈ TT) (k2 : Cond.native arraycopyName ∈ TT) (k3 : Cond.static arraycopyName ∈ TT) (k4 : Cond.initialized "java/lang/System" ∈ TT)
    (hj0 : dom j0) (ha0 : loc j0 = a0) (he0 : val j0 = .inl (cA, n0, .inl f)) (hj1 : dom j1) (ha1 : loc j1 = a1) (he1 : val j1 = .inl (cA, n1, .inl g)) (ht : tys[t0]? = some (cA, .int)) (h1 : ¬ sp < 0) (h2 : ¬ dp < 0) (h3 : ¬ n < 0) (h4 : sp.toNatClampNeg + n.toNatClampNeg ≤ n0) (h5 : dp.toNatClampNeg + n.toNatClampNeg ≤ n1)
    (hR : 1 ≤ R.frames ∧ 8 + (nativeFrameWords "java/lang/System" "arraycopy" 5 + 11) ≤ R.locals) (hlv : lv.length = nL) (hst : (st.map fun v => v.category).sum ≤ 8) (hd : decode cc pc = .ok (.invokestatic index, 3))
    (kk : V X D cl A dom loc (va_up val j1 (.inl (cA, n1, .inl (va_cpy f g sp.toNatClampNeg dp.toNatClampNeg n.toNatClampNeg)))) cells slots (pc + 3) lv st) : V X D cl A dom loc val cells slots pc lv (.int n :: .int dp :: .ref a1 :: .int sp :: .ref a0 :: st) := fun H locs ls hW hS hlh => by
  subst ha0
  subst ha1
  have hx9 := hX.2.2.2.2.2.2.2.2.1
  have hts := hX.2.2.2.2.1
  obtain ⟨ks, g1, hP, hD⟩ := hW
  obtain ⟨q0, i1, i2⟩ := kl_get (loc := loc) (val := val) ((g1 j0).mp hj0)
  obtain ⟨q1, m1, m2⟩ := kl_get (loc := loc) (val := val) ((g1 j1).mp hj1)
  refine va_copyi hX.1 hX.2.1 (by rw [hX.2.2.1]; exact (hlh.1.trans hlv).symm) hX.2.2.2.1 (hts _ k1) (hts _ k2) (hts _ k3) (hts _ k4) hX.2.2.2.2.2.1 hP hD hS q0 q1 t0 t0 (by rw [i2, he0]) (by rw [m2, he1]) ht ht rfl h1 h2 h3 h4 h5 (fun i _ => rfl) (by rw [hx9]; exact hR.1) (by rw [hx9]; omega) hd (fun H1 locs1 hP1 hD1 hS1 => ?_)
  rw [kl_set hD m1] at hP1 hD1
  exact kk H1 locs1 ls ⟨ks, g1, hP1, hD1⟩ hS1 hlh
end KJ
