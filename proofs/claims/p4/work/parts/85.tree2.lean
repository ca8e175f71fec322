section KTr2
/-- the desk, while its array holds more than is counted -/
def DeskA (cN : ClassId) (ob : Nat → Nat) (m n ha ch ts : Nat) (hp : Int32) (dom : Nat → Prop) (loc : Nat → Nat) (val : Nat → va_E) : Prop :=
  (dom 0 ∧ loc 0 = ob 0 ∧ val 0 = .inr (4, [.ref (ob 1), .ref (ob 2), .ref (ob (1000 + 0)), .ref (ob (1000 + ha)), .int (nI n), .int (nI ch), .ref (ob ts), .int hp])) ∧ (dom 1 ∧ loc 1 = ob 1 ∧ ∃ f : Nat → Option Nat, val 1 = .inl (cN, 300, .inr (.inr (.inr (.inr f)))) ∧ ∀ i, i < m → f i = some (ob (1000 + i)))
variable {cI cB cZ cJ cN : ClassId} {ob ob2 : Nat → Nat} {td : Nat} {rs : RS} {sh : Nat → Int32 × Int32 × Int32} {T : TR} {n ha ch ts : Nat} {hp : Int32} {dom dom2 : Nat → Prop} {loc lo : Nat → Nat} {val va : Nat → va_E}
variable {X : KX} {cc : ByteArray} {nL : Nat} {own : String} {R : Room} {D : va_G} {A : Nat → Prop} {cells slots pc : Nat} {lv : List (Option Value)} {st : List Value}
/-- a field of the desk is put -/
theorem v_desk (hX : OX X cc nL own TT D CL (TY cI cB cZ cJ cN) A R) (hI : LayI cI ob td rs sh dom loc val) (hN : NodesI ob T n dom loc val) (hD : DeskI cN ob n ha ch ts hp dom loc val) (k : Nat) {v : Value} {index ha2 ch2 ts2 : Nat} {hp2 : Int32} (hk : k < 8) (hl : Cond.fieldLink own index "ProsePages" (TX4 k).2.1 (TX4 k).2.2.1 ∈ TT) (href : (TX4 k).1 = "ProsePages") (hfin : (TX4 k).2.2.2 = false) (hn : narrow (tyX4 k) v = v) (hfit : fits (tyX4 k) v = true) (hd : decode cc pc = .ok (.putfield index, 3))
    (hfs : ([.ref (ob 1), .ref (ob 2), .ref (ob (1000 + 0)), .ref (ob (1000 + ha)), .int (nI n), .int (nI ch), .ref (ob ts), .int hp] : List Value).set k v = [.ref (ob 1), .ref (ob 2), .ref (ob (1000 + 0)), .ref (ob (1000 + ha2)), .int (nI n), .int (nI ch2), .ref (ob ts2), .int hp2])
    (kk : ∀ va, LayI cI ob td rs sh dom loc va → NodesI ob T n dom loc va → DeskI cN ob n ha2 ch2 ts2 hp2 dom loc va → frC loc val loc va → V X D CL A dom loc va cells slots (pc + 3) lv st) : V X D CL A dom loc val cells slots pc lv (v :: .ref (ob 0) :: st) :=
  v_putE hX 0 inT4 tyX4 tyX4_ok nmX4 hD.1.1 hD.1.2.1 hD.1.2.2 rfl k hk hl href hfin rfl hn hfit (show k < 8 from hk) hd hfs (kk _ (hI.oth (Or.inl (by omega)) _) (hN.oth (by omega) _) (hD.put (Nat.le_refl _) rfl) (frC_up (by omega) _))
/-- the new node goes into the array -/
theorem v_nodeAst (hX : OX X cc nL own TT D CL (TY cI cB cZ cJ cN) A R) (hI : LayI cI ob td rs sh dom loc val) (hN : NodesI ob T (n + 1) dom loc val) (hD : DeskI cN ob n ha ch ts hp dom loc val) (hd : decode cc pc = .ok (.aastore, 1))
    (kk : ∀ va, LayI cI ob td rs sh dom loc va → NodesI ob T (n + 1) dom loc va → DeskA cN ob (n + 1) n ha ch ts hp dom loc va → frC loc val loc va → V X D CL A dom loc va cells slots (pc + 1) lv st) : V X D CL A dom loc val cells slots pc lv (.ref (ob (1000 + n)) :: .int (nI n) :: .ref (ob 1) :: st) := by
  have h300 := hN.1
  obtain ⟨g1, g2, fr, to, at9, on, g3⟩ := hN.2 n (by omega)
  obtain ⟨⟨a1, a2, a3⟩, b1, b2, f, b3, b4⟩ := hD
  refine v_astq hX 1 4 (1000 + n) (rc := (RX0, TX0, 12)) b1 b2 b3 rfl g1 g2 g3 rfl (vp_in_nI (by omega) (by omega)) hd ?_
  refine kk _ (hI.oth (Or.inl (by omega)) _) (hN.oth (by omega) _) ⟨⟨a1, a2, kup_ne (by omega) a3⟩, b1, b2, _, va_up_self _ _ _, fun i hi => ?_⟩ (frC_up (by omega) _)
  rw [nI_clamp (by omega)]
  by_cases e : i = n
  · subst e
    exact va_up_self _ _ _
  · rw [va_up_ne _ _ e]
    exact b4 i (by omega)
theorem v_deskN (hX : OX X cc nL own TT D CL (TY cI cB cZ cJ cN) A R) (hI : LayI cI ob td rs sh dom loc val) (hN : NodesI ob T (n + 1) dom loc val) (hD : DeskA cN ob (n + 1) n ha ch ts hp dom loc val) {index : Nat} (hl : Cond.fieldLink own index "ProsePages" "nodeCount" "I" ∈ TT) (hd : decode cc pc = .ok (.putfield index, 3))
    (kk : ∀ va, LayI cI ob td rs sh dom loc va → NodesI ob T (n + 1) dom loc va → DeskI cN ob (n + 1) ha ch ts hp dom loc va → frC loc val loc va → V X D CL A dom loc va cells slots (pc + 3) lv st) : V X D CL A dom loc val cells slots pc lv (.int (nI (n + 1)) :: .ref (ob 0) :: st) := by
  obtain ⟨⟨a1, a2, a3⟩, b1, b2, f, b3, b4⟩ := hD
  exact v_putE hX 0 inT4 tyX4 tyX4_ok nmX4 a1 a2 a3 rfl 4 (by decide) hl rfl rfl rfl rfl rfl (Nat.le_of_ble_eq_true rfl) hd rfl (kk _ (hI.oth (Or.inl (by omega)) _) (hN.oth (by omega) _) ⟨⟨a1, a2, va_up_self _ _ _⟩, b1, b2, f, kup_ne (by omega) b3, b4⟩ (frC_up (by omega) _))
/-- one more key, above the layout -/
theorem LayI.new (h : LayI cI ob td rs sh dom loc val) {j q : Nat} (hj : 46 < j) (hj2 : j ≠ 2000) (hob : ∀ k, k ≠ j → ob2 k = ob k) (hd : ∀ k, dom2 k ↔ (k = j ∨ dom k)) (e : va_E) : LayI cI ob2 td rs sh dom2 (va_up loc j q) (va_up val j e) := by
  obtain ⟨⟨h1, hn⟩, h2, h3, h4, h5⟩ := h
  have sheet : ∀ t, t = 5 ∨ t = 30 → SheetI ob sh dom loc val t → SheetI ob2 sh dom2 (va_up loc j q) (va_up val j e) t := fun t ht z => by
    refine ⟨(hd t).mpr (Or.inr z.1), ?_, kup_ne (by omega) ?_⟩
    · rw [va_up_ne _ _ (by omega), hob t (by omega)]; exact z.2.1
    · rw [hob (t + 1) (by omega), hob (t + 3) (by omega), hob (t + 5) (by omega), hob (t + 7) (by omega), hob (t + 9) (by omega), hob (t + 11) (by omega), hob (t + 13) (by omega), hob (t + 15) (by omega)]; exact z.2.2
  refine ⟨⟨fun i hi => ?_, fun z => ?_⟩, sheet 5 (Or.inl rfl) h2, sheet 30 (Or.inr rfl) h3, ⟨(hd 2).mpr (Or.inr h4.1), ?_, kup_ne (by omega) ?_⟩, h5⟩
  · obtain ⟨g1, g2, g3, g4, g5⟩ := h1 i hi
    have hin := RK_in i hi
    refine ⟨(hd i).mpr (Or.inr g1), (hd (i + 1)).mpr (Or.inr g2), ?_, g4.kept (va_up_ne _ _ (by omega)) (va_up_ne _ _ (by omega)) (va_up_ne _ _ (by omega)), g5⟩
    rw [va_up_ne _ _ (by omega), hob i (by omega)]; exact g3
  · rcases (hd 2000).mp z with z | z
    · omega
    · exact hn z
  · rw [va_up_ne _ _ (by omega), hob 2 (by omega)]; exact h4.2.1
  · rw [hob 3 (by omega), hob td (by rcases h5 with h5 | h5 <;> omega), hob 22 (by omega), hob 24 (by omega), hob 26 (by omega), hob 28 (by omega)]; exact h4.2.2
theorem DeskI.new (h : DeskI cN ob n ha ch ts hp dom loc val) (hh : ha < n) (hts : ts = 5 ∨ ts = 30) {q : Nat} (hob : ∀ k, k ≠ 1000 + n → ob2 k = ob k) (hd : ∀ k, dom2 k ↔ (k = 1000 + n ∨ dom k)) (e : va_E) : DeskI cN ob2 n ha ch ts hp dom2 (va_up loc (1000 + n) q) (va_up val (1000 + n) e) := by
  obtain ⟨⟨a1, a2, a3⟩, b1, b2, f, b3, b4⟩ := h
  refine ⟨⟨(hd 0).mpr (Or.inr a1), ?_, kup_ne (by omega) ?_⟩, (hd 1).mpr (Or.inr b1), ?_, f, kup_ne (by omega) b3, fun i hi => ?_⟩
  · rw [va_up_ne _ _ (by omega), hob 0 (by omega)]; exact a2
  · rw [hob 1 (by omega), hob 2 (by omega), hob (1000 + 0) (by omega), hob (1000 + ha) (by omega), hob ts (by rcases hts with z | z <;> omega)]; exact a3
  · rw [va_up_ne _ _ (by omega), hob 1 (by omega)]; exact b2
  · rw [hob (1000 + i) (by omega)]; exact b4 i hi
/-- the tree with one more node -/
def exT (T : TR) (n ha : Nat) (k v : Int32) : TR := (upd T.1 n k, va_up T.2.1 n (some ha), updN T.2.2.1 n (tD T ha + 1), upd T.2.2.2.1 n v, va_up T.2.2.2.2.1 n none, va_up T.2.2.2.2.2.1 n none, va_up T.2.2.2.2.2.2 n none)
theorem exT_old {ha : Nat} {k v : Int32} {i : Nat} (h : i ≠ n) : tK (exT T n ha k v) i = tK T i ∧ tU (exT T n ha k v) i = tU T i ∧ tD (exT T n ha k v) i = tD T i ∧ tV (exT T n ha k v) i = tV T i ∧ tF (exT T n ha k v) i = tF T i ∧ tL (exT T n ha k v) i = tL T i ∧ tN (exT T n ha k v) i = tN T i := ⟨if_neg h, va_up_ne _ _ h, if_neg h, if_neg h, va_up_ne _ _ h, va_up_ne _ _ h, va_up_ne _ _ h⟩
theorem exT_new {ha : Nat} {k v : Int32} : tK (exT T n ha k v) n = k ∧ tU (exT T n ha k v) n = some ha ∧ tD (exT T n ha k v) n = tD T ha + 1 ∧ tV (exT T n ha k v) n = v ∧ tF (exT T n ha k v) n = none ∧ tL (exT T n ha k v) n = none ∧ tN (exT T n ha k v) n = none := ⟨if_pos rfl, va_up_self _ _ _, if_pos rfl, if_pos rfl, va_up_self _ _ _, va_up_self _ _ _, va_up_self _ _ _⟩
theorem orf_ob (hob : ∀ k, k ≠ 1000 + n → ob2 k = ob k) {o : Option Nat} (h : ∀ j, o = some j → j < n) : orf ob2 o = orf ob o := by
  cases o with
  | none => rfl
  | some j =>
    have hj := h j rfl
    show Value.ref (ob2 (1000 + j)) = Value.ref (ob (1000 + j))
    rw [hob _ (by omega)]
/-- what all references of a tree point to is counted -/
def TreeB (T : TR) (n : Nat) : Prop := ∀ i, i < n → (∀ j, tU T i = some j → j < n) ∧ (∀ j, tF T i = some j → j < n) ∧ (∀ j, tL T i = some j → j < n) ∧ (∀ j, tN T i = some j → j < n)
theorem nodeC_ob (hob : ∀ k, k ≠ 1000 + n → ob2 k = ob k) (hB : TreeB T n) {T2 : TR} {i : Nat} (hi : i < n) (hT : tK T2 i = tK T i ∧ tU T2 i = tU T i ∧ tD T2 i = tD T i ∧ tV T2 i = tV T i ∧ tF T2 i = tF T i ∧ tL T2 i = tL T i ∧ tN T2 i = tN T i) (fr to at9 on : Int32) : nodeC ob2 T2 i fr to at9 on = nodeC ob T i fr to at9 on := by
  obtain ⟨e1, e2, e3, e4, e5, e6, e7⟩ := hT
  obtain ⟨b1, b2, b3, b4⟩ := hB i hi
  unfold nodeC
  rw [e1, e2, e3, e4, e5, e6, e7, orf_ob hob b1, orf_ob hob b2, orf_ob hob b3, orf_ob hob b4]
/-- the new node among the others -/
theorem NodesI.new (h : NodesI ob T n dom loc val) (hB : TreeB T n) (hn : n < 300) (hh : ha < n) {q : Nat} (hob : ∀ k, k ≠ 1000 + n → ob2 k = ob k) (hq : ob2 (1000 + n) = q) (hd : ∀ k, dom2 k ↔ (k = 1000 + n ∨ dom k)) (k v fr : Int32) : NodesI ob2 (exT T n ha k v) (n + 1) dom2 (va_up loc (1000 + n) q) (va_up val (1000 + n) (.inr (0, [.int (nI n), .int k, .ref (ob (1000 + ha)), .int (nI (tD T ha + 1)), .int fr, .int fr, .int v, .null, .null, .null, .int 0, .int (-1)]))) := by
  refine ⟨by omega, fun i hi => ?_⟩
  by_cases e : i = n
  · subst e
    obtain ⟨e1, e2, e3, e4, e5, e6, e7⟩ := exT_new (T := T) (n := i) (ha := ha) (k := k) (v := v)
    refine ⟨(hd _).mpr (Or.inl rfl), by rw [va_up_self]; exact hq.symm, fr, fr, 0, -1, ?_⟩
    rw [va_up_self]
    unfold nodeC
    rw [e1, e2, e3, e4, e5, e6, e7]
    show (.inr (0, [_, _, .ref (ob (1000 + ha)), _, _, _, _, _, _, _, _, _]) : va_E) = .inr (0, [_, _, .ref (ob2 (1000 + ha)), _, _, _, _, _, _, _, _, _])
    rw [hob (1000 + ha) (by omega)]
    rfl
  · obtain ⟨g1, g2, f2, t2, a2, o2, g3⟩ := h.2 i (by omega)
    refine ⟨(hd _).mpr (Or.inr g1), by rw [va_up_ne _ _ (by omega), hob _ (by omega)]; exact g2, f2, t2, a2, o2, kup_ne (by omega) ?_⟩
    rw [nodeC_ob hob hB (by omega) (exT_old e)]
    exact g3
theorem NodesI.newO (h : NodesI ob T n dom loc val) {j q : Nat} (hj : j < 1000 ∨ 1000 + n ≤ j) (hd : ∀ k, dom2 k ↔ (k = j ∨ dom k)) (e : va_E) : NodesI ob T n dom2 (va_up loc j q) (va_up val j e) := ⟨h.1, fun i hi => by
  obtain ⟨g1, g2, f2, t2, a2, o2, g3⟩ := h.2 i hi
  exact ⟨(hd _).mpr (Or.inr g1), by rw [va_up_ne _ _ (by omega)]; exact g2, f2, t2, a2, o2, kup_ne (by omega) g3⟩⟩
end KTr2
