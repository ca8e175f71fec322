section KTr0
/-- changes of the tree -/
abbrev sTV (T : TR) (i : Nat) (v : Int32) : TR := (T.1, T.2.1, T.2.2.1, upd T.2.2.2.1 i v, T.2.2.2.2.1, T.2.2.2.2.2.1, T.2.2.2.2.2.2)
abbrev sTF (T : TR) (i : Nat) (v : Option Nat) : TR := (T.1, T.2.1, T.2.2.1, T.2.2.2.1, va_up T.2.2.2.2.1 i v, T.2.2.2.2.2.1, T.2.2.2.2.2.2)
abbrev sTL (T : TR) (i : Nat) (v : Option Nat) : TR := (T.1, T.2.1, T.2.2.1, T.2.2.2.1, T.2.2.2.2.1, va_up T.2.2.2.2.2.1 i v, T.2.2.2.2.2.2)
abbrev sTN (T : TR) (i : Nat) (v : Option Nat) : TR := (T.1, T.2.1, T.2.2.1, T.2.2.2.1, T.2.2.2.2.1, T.2.2.2.2.2.1, va_up T.2.2.2.2.2.2 i v)
variable {cI cB cZ cJ cN : ClassId} {ob : Nat → Nat} {td : Nat} {rs : RS} {sh : Nat → Int32 × Int32 × Int32} {T T2 : TR} {n ha ch ts : Nat} {hp : Int32} {dom : Nat → Prop} {loc lo : Nat → Nat} {val va : Nat → va_E}
theorem LayI.frN' (h : LayI cI ob td rs sh dom loc val) {i : Nat} (e : va_E) : LayI cI ob td rs sh dom loc (va_up val (1000 + i) e) := h.oth (Or.inr (by omega)) e
theorem node_chg (hN : NodesI ob T n dom loc val) {i : Nat} (hi : i < n) (hT : ∀ k, k ≠ i → ∀ fr to at9 on, nodeC ob T2 k fr to at9 on = nodeC ob T k fr to at9 on) (fr to at9 on : Int32) : NodesI ob T2 n dom loc (va_up val (1000 + i) (nodeC ob T2 i fr to at9 on)) ∧ frN loc val loc (va_up val (1000 + i) (nodeC ob T2 i fr to at9 on)) := by
  have h300 := hN.1
  refine ⟨⟨h300, fun k hk => ?_⟩, fun k _ _ z => ⟨rfl, va_up_ne _ _ (by omega)⟩⟩
  obtain ⟨g1, g2, f2, t2, a2, o2, g3⟩ := hN.2 k hk
  by_cases e : k = i
  · subst e
    exact ⟨g1, g2, fr, to, at9, on, va_up_self _ _ _⟩
  · exact ⟨g1, g2, f2, t2, a2, o2, kup_ne (by omega) (by rw [hT k e]; exact g3)⟩
variable {X : KX} {cc : ByteArray} {nL : Nat} {own : String} {R : Room} {D : va_G} {A : Nat → Prop} {cells slots pc : Nat} {lv : List (Option Value)} {st : List Value}
theorem v_nTo (hX : OX X cc nL own TT D CL (TY cI cB cZ cJ cN) A R) (hN : NodesI ob T n dom loc val) {i : Nat} (hi : i < n) {x : Int32} {index : Nat} (hl : Cond.fieldLink own index "ProsePages$Node" "to" "I" ∈ TT) (hd : decode cc pc = .ok (.putfield index, 3)) (kk : ∀ va, (∃ e, va = va_up val (1000 + i) e) → NodesI ob T n dom loc va → frN loc val loc va → V X D CL A dom loc va cells slots (pc + 3) lv st) : V X D CL A dom loc val cells slots pc lv (.int x :: .ref (ob (1000 + i)) :: st) := by
  obtain ⟨g1, g2, fr, to, at9, on, g3⟩ := hN.2 i hi
  obtain ⟨p2, p3⟩ := node_chg (T2 := T) hN hi (fun _ _ _ _ _ _ => rfl) fr x at9 on
  exact v_putE hX (1000 + i) inT0 tyX0 tyX0_ok nmX0 g1 g2 g3 rfl 5 (by decide) hl rfl rfl rfl rfl rfl (Nat.le_of_ble_eq_true rfl) hd rfl (kk _ ⟨_, rfl⟩ p2 p3)
theorem v_nPage (hX : OX X cc nL own TT D CL (TY cI cB cZ cJ cN) A R) (hN : NodesI ob T n dom loc val) {i : Nat} (hi : i < n) {x : Int32} {index : Nat} (hl : Cond.fieldLink own index "ProsePages$Node" "onPage" "I" ∈ TT) (hd : decode cc pc = .ok (.putfield index, 3)) (kk : ∀ va, (∃ e, va = va_up val (1000 + i) e) → NodesI ob T n dom loc va → frN loc val loc va → V X D CL A dom loc va cells slots (pc + 3) lv st) : V X D CL A dom loc val cells slots pc lv (.int x :: .ref (ob (1000 + i)) :: st) := by
  obtain ⟨g1, g2, fr, to, at9, on, g3⟩ := hN.2 i hi
  obtain ⟨p2, p3⟩ := node_chg (T2 := T) hN hi (fun _ _ _ _ _ _ => rfl) fr to at9 x
  exact v_putE hX (1000 + i) inT0 tyX0 tyX0_ok nmX0 g1 g2 g3 rfl 11 (by decide) hl rfl rfl rfl rfl rfl (Nat.le_of_ble_eq_true rfl) hd rfl (kk _ ⟨_, rfl⟩ p2 p3)
theorem nodeC_V {k i : Nat} (h : k ≠ i) (v : Int32) (fr to at9 on : Int32) : nodeC ob (sTV T i v) k fr to at9 on = nodeC ob T k fr to at9 on := by
  have e : upd T.2.2.2.1 i v k = T.2.2.2.1 k := if_neg h
  exact congrArg (fun z => (.inr (0, [.int (nI k), .int (tK T k), orf ob (tU T k), .int (nI (tD T k)), .int fr, .int to, .int z, orf ob (tF T k), orf ob (tL T k), orf ob (tN T k), .int at9, .int on]) : va_E)) e
theorem nodeC_F {k i : Nat} (h : k ≠ i) (v : Option Nat) (fr to at9 on : Int32) : nodeC ob (sTF T i v) k fr to at9 on = nodeC ob T k fr to at9 on := by
  have e : va_up T.2.2.2.2.1 i v k = T.2.2.2.2.1 k := va_up_ne _ _ h
  exact congrArg (fun z => (.inr (0, [.int (nI k), .int (tK T k), orf ob (tU T k), .int (nI (tD T k)), .int fr, .int to, .int (tV T k), orf ob z, orf ob (tL T k), orf ob (tN T k), .int at9, .int on]) : va_E)) e
theorem nodeC_L {k i : Nat} (h : k ≠ i) (v : Option Nat) (fr to at9 on : Int32) : nodeC ob (sTL T i v) k fr to at9 on = nodeC ob T k fr to at9 on := by
  have e : va_up T.2.2.2.2.2.1 i v k = T.2.2.2.2.2.1 k := va_up_ne _ _ h
  exact congrArg (fun z => (.inr (0, [.int (nI k), .int (tK T k), orf ob (tU T k), .int (nI (tD T k)), .int fr, .int to, .int (tV T k), orf ob (tF T k), orf ob z, orf ob (tN T k), .int at9, .int on]) : va_E)) e
theorem nodeC_N {k i : Nat} (h : k ≠ i) (v : Option Nat) (fr to at9 on : Int32) : nodeC ob (sTN T i v) k fr to at9 on = nodeC ob T k fr to at9 on := by
  have e : va_up T.2.2.2.2.2.2 i v k = T.2.2.2.2.2.2 k := va_up_ne _ _ h
  exact congrArg (fun z => (.inr (0, [.int (nI k), .int (tK T k), orf ob (tU T k), .int (nI (tD T k)), .int fr, .int to, .int (tV T k), orf ob (tF T k), orf ob (tL T k), orf ob z, .int at9, .int on]) : va_E)) e
theorem v_nVal (hX : OX X cc nL own TT D CL (TY cI cB cZ cJ cN) A R) (hN : NodesI ob T n dom loc val) {i : Nat} (hi : i < n) {x : Int32} {index : Nat} (hl : Cond.fieldLink own index "ProsePages$Node" "value" "I" ∈ TT) (hd : decode cc pc = .ok (.putfield index, 3)) (kk : ∀ va, (∃ e, va = va_up val (1000 + i) e) → NodesI ob (sTV T i x) n dom loc va → frN loc val loc va → V X D CL A dom loc va cells slots (pc + 3) lv st) : V X D CL A dom loc val cells slots pc lv (.int x :: .ref (ob (1000 + i)) :: st) := by
  obtain ⟨g1, g2, fr, to, at9, on, g3⟩ := hN.2 i hi
  obtain ⟨p2, p3⟩ := node_chg (T2 := sTV T i x) hN hi (fun _ h _ _ _ _ => nodeC_V h _ _ _ _ _) fr to at9 on
  refine v_putE hX (1000 + i) inT0 tyX0 tyX0_ok nmX0 g1 g2 g3 rfl 6 (by decide) hl rfl rfl rfl rfl rfl (Nat.le_of_ble_eq_true rfl) hd (fs2 := [.int (nI i), .int (tK T i), orf ob (tU T i), .int (nI (tD T i)), .int fr, .int to, .int (upd T.2.2.2.1 i x i), orf ob (tF T i), orf ob (tL T i), orf ob (tN T i), .int at9, .int on]) ?_ (kk _ ⟨_, rfl⟩ p2 p3)
  rw [show upd T.2.2.2.1 i x i = x from if_pos rfl]
  rfl
theorem v_nFst (hX : OX X cc nL own TT D CL (TY cI cB cZ cJ cN) A R) (hN : NodesI ob T n dom loc val) {i m : Nat} (hi : i < n) {index : Nat} (hl : Cond.fieldLink own index "ProsePages$Node" "first" "LProsePages$Node;" ∈ TT) (hd : decode cc pc = .ok (.putfield index, 3)) (kk : ∀ va, (∃ e, va = va_up val (1000 + i) e) → NodesI ob (sTF T i (some m)) n dom loc va → frN loc val loc va → V X D CL A dom loc va cells slots (pc + 3) lv st) : V X D CL A dom loc val cells slots pc lv (.ref (ob (1000 + m)) :: .ref (ob (1000 + i)) :: st) := by
  obtain ⟨g1, g2, fr, to, at9, on, g3⟩ := hN.2 i hi
  obtain ⟨p2, p3⟩ := node_chg (T2 := sTF T i (some m)) hN hi (fun _ h _ _ _ _ => nodeC_F h _ _ _ _ _) fr to at9 on
  refine v_putE hX (1000 + i) inT0 tyX0 tyX0_ok nmX0 g1 g2 g3 rfl 7 (by decide) hl rfl rfl rfl rfl rfl (Nat.le_of_ble_eq_true rfl) hd (fs2 := [.int (nI i), .int (tK T i), orf ob (tU T i), .int (nI (tD T i)), .int fr, .int to, .int (tV T i), orf ob (va_up T.2.2.2.2.1 i (some m) i), orf ob (tL T i), orf ob (tN T i), .int at9, .int on]) ?_ (kk _ ⟨_, rfl⟩ p2 p3)
  rw [va_up_self]
  rfl
theorem v_nLst (hX : OX X cc nL own TT D CL (TY cI cB cZ cJ cN) A R) (hN : NodesI ob T n dom loc val) {i m : Nat} (hi : i < n) {index : Nat} (hl : Cond.fieldLink own index "ProsePages$Node" "last" "LProsePages$Node;" ∈ TT) (hd : decode cc pc = .ok (.putfield index, 3)) (kk : ∀ va, (∃ e, va = va_up val (1000 + i) e) → NodesI ob (sTL T i (some m)) n dom loc va → frN loc val loc va → V X D CL A dom loc va cells slots (pc + 3) lv st) : V X D CL A dom loc val cells slots pc lv (.ref (ob (1000 + m)) :: .ref (ob (1000 + i)) :: st) := by
  obtain ⟨g1, g2, fr, to, at9, on, g3⟩ := hN.2 i hi
  obtain ⟨p2, p3⟩ := node_chg (T2 := sTL T i (some m)) hN hi (fun _ h _ _ _ _ => nodeC_L h _ _ _ _ _) fr to at9 on
  refine v_putE hX (1000 + i) inT0 tyX0 tyX0_ok nmX0 g1 g2 g3 rfl 8 (by decide) hl rfl rfl rfl rfl rfl (Nat.le_of_ble_eq_true rfl) hd (fs2 := [.int (nI i), .int (tK T i), orf ob (tU T i), .int (nI (tD T i)), .int fr, .int to, .int (tV T i), orf ob (tF T i), orf ob (va_up T.2.2.2.2.2.1 i (some m) i), orf ob (tN T i), .int at9, .int on]) ?_ (kk _ ⟨_, rfl⟩ p2 p3)
  rw [va_up_self]
  rfl
theorem v_nNxt (hX : OX X cc nL own TT D CL (TY cI cB cZ cJ cN) A R) (hN : NodesI ob T n dom loc val) {i m : Nat} (hi : i < n) {index : Nat} (hl : Cond.fieldLink own index "ProsePages$Node" "next" "LProsePages$Node;" ∈ TT) (hd : decode cc pc = .ok (.putfield index, 3)) (kk : ∀ va, (∃ e, va = va_up val (1000 + i) e) → NodesI ob (sTN T i (some m)) n dom loc va → frN loc val loc va → V X D CL A dom loc va cells slots (pc + 3) lv st) : V X D CL A dom loc val cells slots pc lv (.ref (ob (1000 + m)) :: .ref (ob (1000 + i)) :: st) := by
  obtain ⟨g1, g2, fr, to, at9, on, g3⟩ := hN.2 i hi
  obtain ⟨p2, p3⟩ := node_chg (T2 := sTN T i (some m)) hN hi (fun _ h _ _ _ _ => nodeC_N h _ _ _ _ _) fr to at9 on
  refine v_putE hX (1000 + i) inT0 tyX0 tyX0_ok nmX0 g1 g2 g3 rfl 9 (by decide) hl rfl rfl rfl rfl rfl (Nat.le_of_ble_eq_true rfl) hd (fs2 := [.int (nI i), .int (tK T i), orf ob (tU T i), .int (nI (tD T i)), .int fr, .int to, .int (tV T i), orf ob (tF T i), orf ob (tL T i), orf ob (va_up T.2.2.2.2.2.2 i (some m) i), .int at9, .int on]) ?_ (kk _ ⟨_, rfl⟩ p2 p3)
  rw [va_up_self]
  rfl
/-- whether a kind holds another, as the class reckons it -/
def mhC (k x : Int32) : Int32 := if k = -1 ∨ k = 4 then oneOf x 127 else if k = 5 ∨ k = 6 then (if x = 7 then 1 else 0) else if k = 7 then oneOf x 1919 else if k = 0 ∨ k = 1 ∨ k = 8 then oneOf x 1792 else if k = 3 then (if x = 10 then 1 else 0) else 0
theorem oneOf_out {x s : Int32} (h : x.toInt < 0 ∨ 10 < x.toInt) : oneOf x s = 0 := by
  unfold oneOf
  rcases h with h | h
  · rw [if_pos (Int32.lt_iff_toInt_lt.mpr h)]
  · by_cases c : x < 0
    · rw [if_pos c]
    · rw [if_neg c, if_pos (show (10 : Int32) < x from Int32.lt_iff_toInt_lt.mpr h)]
theorem isB_out {x : Int32} (h : x.toInt < 0 ∨ 10 < x.toInt) : isB x = 0 ∧ isL x = 0 := by
  unfold isB isL
  rcases h with h | h
  · rw [if_pos (Int32.lt_iff_toInt_lt.mpr h), if_pos (Int32.lt_iff_toInt_lt.mpr (show x.toInt < 8 by omega))]
    exact ⟨rfl, rfl⟩
  · have c : ¬ x < 0 := fun z => by have z2 : x.toInt < 0 := Int32.lt_iff_toInt_lt.mp z; omega
    have c8 : ¬ x < 8 := fun z => by have z2 : x.toInt < 8 := Int32.lt_iff_toInt_lt.mp z; omega
    rw [if_neg c, if_pos (show (6 : Int32) < x from Int32.lt_iff_toInt_lt.mpr (show (6 : Int) < x.toInt by omega)), if_neg c8, if_pos (show (10 : Int32) < x from Int32.lt_iff_toInt_lt.mpr h)]
    exact ⟨rfl, rfl⟩
theorem oneOf_all (x : Int32) : oneOf x 127 = isB x ∧ oneOf x 1792 = isL x ∧ oneOf x 1919 = (if isB x = 0 then isL x else 1) := by
  by_cases h : x.toInt < 0 ∨ 10 < x.toInt
  · obtain ⟨b1, b2⟩ := isB_out h
    rw [oneOf_out h, oneOf_out h, oneOf_out h, b1, b2]
    exact ⟨rfl, rfl, rfl⟩
  · have hk : x ∈ KS := ks_of ⟨Int32.le_iff_toInt_le.mpr (by show (0 : Int) ≤ x.toInt; omega), Int32.le_iff_toInt_le.mpr (by show x.toInt ≤ (10 : Int); omega)⟩
    exact (by decide +kernel : ∀ x ∈ KS, oneOf x 127 = isB x ∧ oneOf x 1792 = isL x ∧ oneOf x 1919 = (if isB x = 0 then isL x else 1)) x hk
/-- the class's kinds hold what the reference's do -/
theorem mhC_eq {k : Int32} (hk : k ∈ KS) (x : Int32) : mhC k x = mh k x := by
  obtain ⟨a, b, c⟩ := oneOf_all x
  unfold mhC mh
  rw [a, b, c]
  simp only [KS, List.mem_cons, List.not_mem_nil, or_false] at hk
  rcases hk with rfl | rfl | rfl | rfl | rfl | rfl | rfl | rfl | rfl | rfl | rfl <;> rfl
theorem mhC_body (x : Int32) : mhC (-1) x = mh 11 x := by
  obtain ⟨a, b, c⟩ := oneOf_all x
  unfold mhC mh
  rw [a, b, c]
  rfl
end KTr0
