section KRw
abbrev b_A_copyOf : ByteArray := prog_17_method_123_code
abbrev y_A_copyOf : MethodName := ⟨"java/util/Arrays", "copyOf", "([II)[I"⟩
theorem q_A_copyOf : KQd y_A_copyOf 2 := by decide +kernel
theorem d_A_copyOf_0 : decode b_A_copyOf 0 = .ok (.iload_n 1, 1) := by decide +kernel
theorem d_A_copyOf_1 : decode b_A_copyOf 1 = .ok (.aload_n 0, 1) := by decide +kernel
theorem d_A_copyOf_2 : decode b_A_copyOf 2 = .ok (.arraylength, 1) := by decide +kernel
theorem d_A_copyOf_3 : decode b_A_copyOf 3 = .ok (.if_icmp .ne 11, 3) := by decide +kernel
theorem d_A_copyOf_14 : decode b_A_copyOf 14 = .ok (.iload_n 1, 1) := by decide +kernel
theorem d_A_copyOf_15 : decode b_A_copyOf 15 = .ok (.newarray .int, 2) := by decide +kernel
theorem d_A_copyOf_17 : decode b_A_copyOf 17 = .ok (.astore_n 2, 1) := by decide +kernel
theorem d_A_copyOf_18 : decode b_A_copyOf 18 = .ok (.aload_n 0, 1) := by decide +kernel
theorem d_A_copyOf_19 : decode b_A_copyOf 19 = .ok (.iconst 0, 1) := by decide +kernel
theorem d_A_copyOf_20 : decode b_A_copyOf 20 = .ok (.aload_n 2, 1) := by decide +kernel
theorem d_A_copyOf_21 : decode b_A_copyOf 21 = .ok (.iconst 0, 1) := by decide +kernel
theorem d_A_copyOf_22 : decode b_A_copyOf 22 = .ok (.aload_n 0, 1) := by decide +kernel
theorem d_A_copyOf_23 : decode b_A_copyOf 23 = .ok (.arraylength, 1) := by decide +kernel
theorem d_A_copyOf_24 : decode b_A_copyOf 24 = .ok (.iload_n 1, 1) := by decide +kernel
theorem d_A_copyOf_25 : decode b_A_copyOf 25 = .ok (.invokestatic 304, 3) := by decide +kernel
theorem d_A_copyOf_28 : decode b_A_copyOf 28 = .ok (.invokestatic 150, 3) := by decide +kernel
theorem d_A_copyOf_31 : decode b_A_copyOf 31 = .ok (.aload_n 2, 1) := by decide +kernel
theorem d_A_copyOf_32 : decode b_A_copyOf 32 = .ok (.areturn, 1) := by decide +kernel
theorem k_mincode : Cond.code Lib.Math.min.name Lib.Math.min.code 2 (some .int) ∈ TT := cd_H_min
theorem k_cpynat : Cond.native arraycopyName ∈ TT := List.mem_filter.mpr ⟨by decide +kernel, by decide +kernel⟩
variable {l : Launch} {D : va_G} {cl : List vw_C} {tys : List (ClassId × FieldType)} {A : Nat → Prop} {dom : Nat → Prop} {loc : Nat → Nat} {val : Nat → va_E} {Post : kT} {cc : ByteArray} {X : KX} {nL : Nat} {own : String} {R : Room} {cells slots pc : Nat} {lv : List (Option Value)} {st : List Value} {mc ms : Nat}
/-- invokestatic of another class's method -/
theorem c_SO (hX : OX X cc nL own TT D cl tys A R) {y : MethodName} {rm : Room} {bytes : ByteArray} {maxL n index : Nat} {ret : Option FieldType} {As rest st0 : List Value} (hl9 : X.2.1 = l) (hM : kM l y (Cond.code y bytes maxL ret :: TT) rm D cl tys A As dom loc val Post)
    (k1 : Cond.methodLink own index y ∈ TT) (k2 : Cond.static y ∈ TT) (k4 : Cond.initialized y.cls ∈ TT) (k5 : Cond.code y bytes maxL ret ∈ TT) (hq : KQd y n) (hR : KRm rm maxL R)
    (hn : As.length = n) (hlv : lv.length = nL) (hst : As.reverse ++ rest = st0) (hroom : (rest.map fun v => v.category).sum ≤ 8) (hd : decode cc pc = .ok (.invokestatic index, 3)) (hf : cells + rm.cells ≤ R.cells ∧ slots + rm.slots ≤ R.slots)
    (kk : KC X D cl A Post cells slots pc lv rest) : V X D cl A dom loc val cells slots pc lv st0 := by
  subst hst
  have hx9 := hX.2.2.2.2.2.2.2.2.1
  have hts := hX.2.2.2.2.1
  exact v_callS hX hl9 hM ⟨callB_of n hts (TT_good k5) rfl rfl rfl (hts _ k4) (hts _ k1) hq (by rw [hx9]; exact hR), hts _ k2⟩ hn hlv hroom hd hf kk
theorem v_aretA (hX : OX X cc nL own TT D cl tys A R) {ty : FieldType} (hE : EX X (some (.array ty)) D cl A Post mc ms) {a : Nat} (hd : decode cc pc = .ok (.areturn, 1)) (hc : cells ≤ mc) (hs : slots ≤ ms) (hp : Post (some (.ref a)) dom loc val cells slots) : V X D cl A dom loc val cells slots pc lv [.ref a] := fun H locs ls hW hS hl => by
  intro T hT Z
  obtain ⟨t9, a9, b9⟩ := W.widen hc hs (W.aret hX.1 hX.2.1 hE.1 (Or.inr ⟨ty, rfl⟩) (Or.inr ⟨a, rfl⟩) (k_q hW hS hT Z hp) hS.2.2 hd hX.2.2.2.2.2.2.2.1) T hT Z
  exact ⟨t9, a9, hE.2 t9 b9⟩
/-- Arrays.copyOf to a length that is no smaller: the copy under the key 2000 -/
abbrev rmC : Room := { frames := 8, cells := 10, slots := 700000, locals := 200 }
set_option maxHeartbeats 4000000 in
set_option maxRecDepth 100000 in
theorem c_A_copyOf {cI cB cZ cJ cN : ClassId} (ja cap m : Nat) {f : Nat → Int32} (hj : dom ja) (hne : ja ≠ 2000) (hv : val ja = .inl (cI, cap, .inl f)) (h1 : cap < m) (h2 : m ≤ 640000) :
    kM l y_A_copyOf (Cond.code y_A_copyOf b_A_copyOf 3 (some (.array .int)) :: TT) rmC D CL (TY cI cB cZ cJ cN) A [.ref (loc ja), .int (nI m)] dom loc val (fun rv d lo va kc ns => ∃ q g, rv = some (.ref q) ∧ (fun k => k = 2000 ∨ dom k) = d ∧ va_up loc 2000 q = lo ∧ va_up val 2000 (.inl (cI, m, .inl g)) = va ∧ kc = 1 ∧ ns = m) := by
  refine kM_of (lv0 := [some (.ref (loc ja)), some (.int (nI m)), none]) (own := "java/util/Arrays") (by decide) rfl (List.forall_mem_cons.mpr ⟨rfl, List.forall_mem_cons.mpr ⟨rfl, fun _ h => nomatch h⟩⟩) (Nat.le_of_ble_eq_true rfl) rfl (Nat.le_of_ble_eq_true rfl) (fun X hl hX hE hin0 => ?_)
  refine v_iload_n hX d_A_copyOf_0 rfl rfl ?_
  refine v_aload_n hX d_A_copyOf_1 rfl rfl ?_
  refine v_alen hX ja 0 (v := nI cap) hj rfl hv rfl rfl d_A_copyOf_2 ?_
  refine v_icmp_ne hX d_A_copyOf_3 (tgt := 14) (by decide) (fun _ => ?_) (fun c => absurd ((nI_eq (by omega) (by omega)).mp c) (by omega))
  refine v_iload_n hX d_A_copyOf_14 rfl rfl ?_
  refine v_newp hX 2000 0 (fun k => k = 2000 ∨ dom k) (N := m) (ty := .int) (m, .inl (fun _ => 0)) rfl (fun _ => rfl) (fun _ h => h) ac_int rfl (nI_pos (by omega)) (nI_clamp (by omega)) (by show m * 4 ≤ _; omega) (Nat.le_of_ble_eq_true rfl) (by show 0 + m ≤ 700000; omega) d_A_copyOf_15 (fun _ h => h) (Or.inl rfl) (fun q => ?_)
  refine v_astore_n (lv' := [some (.ref (loc ja)), some (.int (nI m)), some (.ref q)]) hX d_A_copyOf_17 rfl (Nat.le_of_ble_eq_true rfl) rfl ?_
  refine v_aload_n hX d_A_copyOf_18 rfl rfl ?_
  refine v_iconst (v := 0) hX d_A_copyOf_19 (by decide) ?_
  refine v_aload_n hX d_A_copyOf_20 rfl rfl ?_
  refine v_iconst (v := 0) hX d_A_copyOf_21 (by decide) ?_
  refine v_aload_n hX d_A_copyOf_22 rfl rfl ?_
  refine v_alen hX ja 0 (v := nI cap) (Or.inr hj) (kup_ne hne rfl) (kup_ne hne hv) rfl rfl d_A_copyOf_23 ?_
  refine v_iload_n hX d_A_copyOf_24 rfl rfl ?_
  refine v_mmin hX (v := nI cap) ml_A_304 sm_H_min in_H k_mincode ⟨by decide, by decide⟩ (if_neg (nI_nlt (Nat.le_of_lt h1) (by omega))) rfl (Nat.le_of_ble_eq_true rfl) (Nat.le_of_ble_eq_true rfl) (by show 0 + m ≤ 700000; omega) d_A_copyOf_25 ?_
  refine v_copyi hX ja 2000 0 ml_A_150 k_cpynat sm_Y_arraycopy in_Y (Or.inr hj) (kup_ne hne rfl) (kup_ne hne hv) (Or.inl rfl) kup_self kup_self rfl (by decide) (by decide) (nI_pos (by omega)) (by rw [nI_clamp (by omega)]; show (0 : Nat) + cap ≤ cap; omega) (by rw [nI_clamp (by omega)]; show (0 : Nat) + cap ≤ m; omega) ⟨by decide, by decide⟩ rfl (Nat.le_of_ble_eq_true rfl) d_A_copyOf_28 ?_
  refine v_aload_n hX d_A_copyOf_31 rfl rfl ?_
  exact v_aretA hX hE d_A_copyOf_32 (Nat.le_of_ble_eq_true rfl) (by show 0 + m ≤ 700000; omega) ⟨q, _, rfl, rfl, rfl, kup_up.symm, rfl, Nat.zero_add m⟩
/-- a Row under j, its array under j + 1 -/
def rowOK (cI : ClassId) (loc : Nat → Nat) (val : Nat → va_E) (j sz cap : Nat) : Prop := ∃ f, val j = .inr (1, [.ref (loc (j + 1)), .int (nI sz)]) ∧ val (j + 1) = .inl (cI, cap, .inl f) ∧ sz ≤ cap ∧ 16 ≤ cap ∧ cap ≤ 640000
/-- all but the Row under j is as it was -/
def frR (j : Nat) (loc : Nat → Nat) (val : Nat → va_E) (lo : Nat → Nat) (va : Nat → va_E) : Prop := lo j = loc j ∧ ∀ k, k ≠ j → k ≠ j + 1 → k ≠ 2000 → lo k = loc k ∧ va k = val k
theorem frR.rf {j : Nat} {loc : Nat → Nat} {val : Nat → va_E} : frR j loc val loc val := ⟨rfl, fun _ _ _ _ => ⟨rfl, rfl⟩⟩
theorem c_R_size {cI cB cZ cJ cN : ClassId} (j sz cap : Nat) (hj : dom j) (h : rowOK cI loc val j sz cap) : kM l y_R_size (Cond.code y_R_size b_R_size 1 (some FieldType.int) :: TT) (rmL 1) D CL (TY cI cB cZ cJ cN) A [.ref (loc j)] dom loc val (fun rv d lo va kc ns => rv = some (.int (nI sz)) ∧ dom = d ∧ loc = lo ∧ val = va ∧ kc = 0 ∧ ns = 0) := by
  obtain ⟨f, h1, -⟩ := h
  refine kM_of (lv0 := [some (.ref (loc j))]) (own := "ProsePages$Row") (by decide) rfl (List.forall_mem_cons.mpr ⟨rfl, fun _ h => nomatch h⟩) (Nat.le_of_ble_eq_true rfl) rfl (Nat.le_of_ble_eq_true rfl) (fun X hl hX hE hin0 => ?_)
  refine v_aload_n hX d_R_size_0 rfl rfl ?_
  refine v_get hX j (v := .int (nI sz)) inT1 hj rfl h1 rfl 1 (by decide) fl_R_15 rfl rfl d_R_size_1 ?_
  exact v_iret hX hE d_R_size_4 (Nat.le_of_ble_eq_true rfl) (Nat.le_of_ble_eq_true rfl) ⟨rfl, rfl, rfl, rfl, rfl, rfl⟩
set_option maxHeartbeats 4000000 in
set_option maxRecDepth 100000 in
/-- Row.get: some number, nothing written -/
theorem c_R_get {cI cB cZ cJ cN : ClassId} (j sz cap : Nat) (x : Int32) (hj : dom j) (hj2 : dom (j + 1)) (h : rowOK cI loc val j sz cap) : kM l y_R_get (Cond.code y_R_get b_R_get 2 (some FieldType.int) :: TT) (rmL 1) D CL (TY cI cB cZ cJ cN) A [.ref (loc j), .int x] dom loc val (fun rv d lo va kc ns => (∃ v, rv = some (.int v)) ∧ dom = d ∧ loc = lo ∧ val = va ∧ kc = 0 ∧ ns = 0) := by
  obtain ⟨f, h1, h2, h3, h4, h5⟩ := h
  refine kM_of (lv0 := [some (.ref (loc j)), some (.int x)]) (own := "ProsePages$Row") (by decide) rfl (List.forall_mem_cons.mpr ⟨rfl, List.forall_mem_cons.mpr ⟨rfl, fun _ h => nomatch h⟩⟩) (Nat.le_of_ble_eq_true rfl) rfl (Nat.le_of_ble_eq_true rfl) (fun X hl hX hE hin0 => ?_)
  have out : V X D CL A dom loc val 0 0 30 [some (.ref (loc j)), some (.int x)] [] := by
    refine v_iconst (v := -1) hX d_R_get_30 (by decide) ?_
    exact v_iret hX hE d_R_get_31 (Nat.le_of_ble_eq_true rfl) (Nat.le_of_ble_eq_true rfl) ⟨⟨_, rfl⟩, rfl, rfl, rfl, rfl, rfl⟩
  refine v_iload_n hX d_R_get_0 rfl rfl ?_
  refine v_if_lt hX d_R_get_1 (tgt := 30) (by decide) (fun _ => out) (fun c1 => ?_)
  refine v_iload_n hX d_R_get_4 rfl rfl ?_
  refine v_aload_n hX d_R_get_5 rfl rfl ?_
  refine v_get hX j (v := .int (nI sz)) inT1 hj rfl h1 rfl 1 (by decide) fl_R_15 rfl rfl d_R_get_6 ?_
  refine v_icmp_ge hX d_R_get_9 (tgt := 30) (by decide) (fun _ => out) (fun c2 => ?_)
  refine v_iload_n hX d_R_get_12 rfl rfl ?_
  refine v_aload_n hX d_R_get_13 rfl rfl ?_
  refine v_get hX j (v := .ref (loc (j + 1))) inT1 hj rfl h1 rfl 0 (by decide) fl_R_9 rfl rfl d_R_get_14 ?_
  refine v_alen hX (j + 1) 0 (v := nI cap) hj2 rfl h2 rfl rfl d_R_get_17 ?_
  refine v_icmp_ge hX d_R_get_18 (tgt := 30) (by decide) (fun _ => out) (fun c3 => ?_)
  refine v_aload_n hX d_R_get_21 rfl rfl ?_
  refine v_get hX j (v := .ref (loc (j + 1))) inT1 hj rfl h1 rfl 0 (by decide) fl_R_9 rfl rfl d_R_get_22 ?_
  refine v_iload_n hX d_R_get_25 rfl rfl ?_
  obtain ⟨i, hi, rfl⟩ := nI_of c1
  have hic : i < cap := (nI_ltI hi (by omega)).mp (Int32.not_le.mp c3)
  refine v_iald hX (j + 1) 0 hj2 rfl h2 rfl (vp_in_nI hic (by omega)) rfl d_R_get_26 ?_
  refine v_goto hX d_R_get_27 (tgt := 31) (by decide) ?_
  exact v_iret hX hE d_R_get_31 (Nat.le_of_ble_eq_true rfl) (Nat.le_of_ble_eq_true rfl) ⟨⟨_, rfl⟩, rfl, rfl, rfl, rfl, rfl⟩
set_option maxHeartbeats 4000000 in
set_option maxRecDepth 100000 in
/-- Row.set -/
theorem c_R_set {cI cB cZ cJ cN : ClassId} (j sz cap : Nat) (x y : Int32) (hj : dom j) (hj2 : dom (j + 1)) (h : rowOK cI loc val j sz cap) : kM l y_R_set (Cond.code y_R_set b_R_set 3 none :: TT) (rmL 1) D CL (TY cI cB cZ cJ cN) A [.ref (loc j), .int x, .int y] dom loc val (fun rv d lo va kc ns => rv = none ∧ dom = d ∧ rowOK cI lo va j sz cap ∧ frR j loc val lo va ∧ kc = 0 ∧ ns = 0) := by
  have h0 := h
  obtain ⟨f, h1, h2, h3, h4, h5⟩ := h
  refine kM_of (lv0 := [some (.ref (loc j)), some (.int x), some (.int y)]) (own := "ProsePages$Row") (by decide) rfl (List.forall_mem_cons.mpr ⟨rfl, List.forall_mem_cons.mpr ⟨rfl, List.forall_mem_cons.mpr ⟨rfl, fun _ h => nomatch h⟩⟩⟩) (Nat.le_of_ble_eq_true rfl) rfl (Nat.le_of_ble_eq_true rfl) (fun X hl hX hE hin0 => ?_)
  have out : V X D CL A dom loc val 0 0 28 [some (.ref (loc j)), some (.int x), some (.int y)] [] := v_vret hX hE d_R_set_28 (Nat.le_of_ble_eq_true rfl) (Nat.le_of_ble_eq_true rfl) ⟨rfl, rfl, h0, frR.rf, rfl, rfl⟩
  refine v_iload_n hX d_R_set_0 rfl rfl ?_
  refine v_if_lt hX d_R_set_1 (tgt := 28) (by decide) (fun _ => out) (fun c1 => ?_)
  refine v_iload_n hX d_R_set_4 rfl rfl ?_
  refine v_aload_n hX d_R_set_5 rfl rfl ?_
  refine v_get hX j (v := .int (nI sz)) inT1 hj rfl h1 rfl 1 (by decide) fl_R_15 rfl rfl d_R_set_6 ?_
  refine v_icmp_ge hX d_R_set_9 (tgt := 28) (by decide) (fun _ => out) (fun c2 => ?_)
  refine v_iload_n hX d_R_set_12 rfl rfl ?_
  refine v_aload_n hX d_R_set_13 rfl rfl ?_
  refine v_get hX j (v := .ref (loc (j + 1))) inT1 hj rfl h1 rfl 0 (by decide) fl_R_9 rfl rfl d_R_set_14 ?_
  refine v_alen hX (j + 1) 0 (v := nI cap) hj2 rfl h2 rfl rfl d_R_set_17 ?_
  refine v_icmp_ge hX d_R_set_18 (tgt := 28) (by decide) (fun _ => out) (fun c3 => ?_)
  refine v_aload_n hX d_R_set_21 rfl rfl ?_
  refine v_get hX j (v := .ref (loc (j + 1))) inT1 hj rfl h1 rfl 0 (by decide) fl_R_9 rfl rfl d_R_set_22 ?_
  refine v_iload_n hX d_R_set_25 rfl rfl ?_
  refine v_iload_n hX d_R_set_26 rfl rfl ?_
  obtain ⟨i, hi, rfl⟩ := nI_of c1
  have hic : i < cap := (nI_ltI hi (by omega)).mp (Int32.not_le.mp c3)
  refine v_iast hX (j + 1) 0 hj2 rfl h2 rfl (vp_in_nI hic (by omega)) d_R_set_27 ?_
  exact v_vret hX hE d_R_set_28 (Nat.le_of_ble_eq_true rfl) (Nat.le_of_ble_eq_true rfl) ⟨rfl, rfl, ⟨_, kup_ne (by omega) h1, kup_self, h3, h4, h5⟩, ⟨rfl, fun k _ a _ => ⟨rfl, va_up_ne _ _ a⟩⟩, rfl, rfl⟩
set_option maxHeartbeats 4000000 in
set_option maxRecDepth 100000 in
/-- Row.cut to a length -/
theorem c_R_cut {cI cB cZ cJ cN : ClassId} (j sz cap m : Nat) (hm : m < 2 ^ 31) (hj : dom j) (h : rowOK cI loc val j sz cap) : kM l y_R_cut (Cond.code y_R_cut b_R_cut 2 none :: TT) (rmL 1) D CL (TY cI cB cZ cJ cN) A [.ref (loc j), .int (nI m)] dom loc val (fun rv d lo va kc ns => rv = none ∧ dom = d ∧ rowOK cI lo va j (min m sz) cap ∧ frR j loc val lo va ∧ kc = 0 ∧ ns = 0) := by
  have h0 := h
  obtain ⟨f, h1, h2, h3, h4, h5⟩ := h
  refine kM_of (lv0 := [some (.ref (loc j)), some (.int (nI m))]) (own := "ProsePages$Row") (by decide) rfl (List.forall_mem_cons.mpr ⟨rfl, List.forall_mem_cons.mpr ⟨rfl, fun _ h => nomatch h⟩⟩) (Nat.le_of_ble_eq_true rfl) rfl (Nat.le_of_ble_eq_true rfl) (fun X hl hX hE hin0 => ?_)
  refine v_iload_n hX d_R_cut_0 rfl rfl ?_
  refine v_if_lt hX d_R_cut_1 (tgt := 17) (by decide) (fun c => absurd c (nI_pos hm)) (fun _ => ?_)
  refine v_iload_n hX d_R_cut_4 rfl rfl ?_
  refine v_aload_n hX d_R_cut_5 rfl rfl ?_
  refine v_get hX j (v := .int (nI sz)) inT1 hj rfl h1 rfl 1 (by decide) fl_R_15 rfl rfl d_R_cut_6 ?_
  refine v_icmp_ge hX d_R_cut_9 (tgt := 17) (by decide) (fun c2 => ?_) (fun c2 => ?_)
  · have hle : sz ≤ m := (nI_leI (by omega) hm).mp c2
    exact v_vret hX hE d_R_cut_17 (Nat.le_of_ble_eq_true rfl) (Nat.le_of_ble_eq_true rfl) ⟨rfl, rfl, by rw [Nat.min_eq_right hle]; exact h0, frR.rf, rfl, rfl⟩
  · have hlt : m < sz := (nI_ltI hm (by omega)).mp (Int32.not_le.mp c2)
    refine v_aload_n hX d_R_cut_12 rfl rfl ?_
    refine v_iload_n hX d_R_cut_13 rfl rfl ?_
    refine v_putE hX j (fs2 := [.ref (loc (j + 1)), .int (nI m)]) inT1 tyX1 tyX1_ok nmX1 hj rfl h1 rfl 1 (by decide) fl_R_15 rfl rfl rfl rfl rfl (Nat.le_of_ble_eq_true rfl) d_R_cut_14 rfl ?_
    exact v_vret hX hE d_R_cut_17 (Nat.le_of_ble_eq_true rfl) (Nat.le_of_ble_eq_true rfl) ⟨rfl, rfl, by rw [Nat.min_eq_left (Nat.le_of_lt hlt)]; exact ⟨f, kup_self, kup_ne (by omega) h2, by omega, h4, h5⟩, ⟨rfl, fun k a _ _ => ⟨rfl, va_up_ne _ _ a⟩⟩, rfl, rfl⟩
end KRw
