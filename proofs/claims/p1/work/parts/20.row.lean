set_option maxHeartbeats 4000000 in
set_option maxRecDepth 100000 in
/-- Row(): an array of 16 zeros under the next key -/
theorem c_R_init {l : Launch} {D : va_G} {A : Nat → Prop} {cI cB cZ cJ cN : ClassId} {loc : Nat → Nat} {val : Nat → va_E} (j n : Nat) (hj : j < n) (hv : val j = .inr (1, [.null, .int 0])) : kM l y_R_init (Cond.code y_R_init b_R_init 1 none :: TT) (rmL 1) D CL (TY cI cB cZ cJ cN) A [.ref (loc j)] (kd n) loc val (fun rv d lo va kc ns => ∃ q, rv = none ∧ kd (n + 1) = d ∧ va_up loc n q = lo ∧ va_up (va_up val n (.inl (cI, 16, .inl (fun _ => 0)))) j (.inr (1, [.ref q, .int 0])) = va ∧ kc = 1 ∧ ns = 16) := by
  refine kM_of (lv0 := [some (.ref (loc j))]) (own := "ProsePages$Row") (by decide) rfl (List.forall_mem_cons.mpr ⟨rfl, fun _ h => nomatch h⟩) (Nat.le_of_ble_eq_true rfl) rfl (Nat.le_of_ble_eq_true rfl) (fun X hl hX hE hin0 => ?_)
  refine v_aload_n hX d_R_init_0 rfl rfl ?_
  refine v_objInit hX k_36 k_21 k_objc ⟨by decide, by decide⟩ rfl (Nat.le_of_ble_eq_true rfl) d_R_init_1 ?_
  refine v_aload_n hX d_R_init_4 rfl rfl ?_
  refine v_bipush (v := 16) hX d_R_init_5 (by decide) ?_
  refine v_newp hX n 0 (kd (n + 1)) (N := 16) (ty := .int) (16, .inl (fun _ => 0)) rfl (fun _ => rfl) (fun _ h => h) k_44 rfl (by decide) (by decide) (Nat.le_of_ble_eq_true rfl) (Nat.le_of_ble_eq_true rfl) (Nat.le_of_ble_eq_true rfl) d_R_init_7 (kd_step n) (kd_self n) (fun q => ?_)
  refine v_putE hX j (fs2 := [.ref q, .int 0]) inT1 tyX1 tyX1_ok nmX1 (Nat.lt_succ_of_lt hj) (kup_ne (Nat.ne_of_lt hj) rfl) (kup_ne (Nat.ne_of_lt hj) hv) rfl 0 (by decide) k_37 rfl rfl rfl rfl rfl (Nat.le_of_ble_eq_true rfl) d_R_init_9 rfl ?_
  exact v_vret hX hE d_R_init_12 (Nat.le_of_ble_eq_true rfl) (Nat.le_of_ble_eq_true rfl) ⟨q, rfl, rfl, rfl, rfl, rfl, rfl⟩
set_option maxHeartbeats 4000000 in
set_option maxRecDepth 100000 in
theorem c_R_size {l : Launch} {D : va_G} {A : Nat → Prop} {cI cB cZ cJ cN : ClassId} {dom : Nat → Prop} {loc : Nat → Nat} {val : Nat → va_E} (j : Nat) (hj : dom j) {r : Value} {sz : Int32} (hv : val j = .inr (1, [r, .int sz])) : kM l y_R_size (Cond.code y_R_size b_R_size 1 (some FieldType.int) :: TT) (rmL 1) D CL (TY cI cB cZ cJ cN) A [.ref (loc j)] (dom) loc val (fun rv d lo va kc ns => rv = some (.int sz) ∧ dom = d ∧ loc = lo ∧ val = va ∧ kc = 0 ∧ ns = 0) := by
  refine kM_of (lv0 := [some (.ref (loc j))]) (own := "ProsePages$Row") (by decide) rfl (List.forall_mem_cons.mpr ⟨rfl, fun _ h => nomatch h⟩) (Nat.le_of_ble_eq_true rfl) rfl (Nat.le_of_ble_eq_true rfl) (fun X hl hX hE hin0 => ?_)
  refine v_aload_n hX d_R_size_0 rfl rfl ?_
  refine v_get hX j (v := .int sz) inT1 hj rfl hv rfl 1 (by decide) k_38 rfl rfl d_R_size_1 ?_
  exact v_iret hX hE d_R_size_4 (Nat.le_of_ble_eq_true rfl) (Nat.le_of_ble_eq_true rfl) ⟨rfl, rfl, rfl, rfl, rfl, rfl⟩
set_option maxHeartbeats 4000000 in
set_option maxRecDepth 100000 in
/-- Row.cut where nothing is to be cut -/
theorem c_R_cut {l : Launch} {D : va_G} {A : Nat → Prop} {cI cB cZ cJ cN : ClassId} {dom : Nat → Prop} {loc : Nat → Nat} {val : Nat → va_E} (j : Nat) (x : Int32) (hj : dom j) {r : Value} {sz : Int32} (hv : val j = .inr (1, [r, .int sz])) (hc : ¬ x < sz) : kM l y_R_cut (Cond.code y_R_cut b_R_cut 2 none :: TT) (rmL 1) D CL (TY cI cB cZ cJ cN) A [.ref (loc j), .int x] (dom) loc val (fun rv d lo va kc ns => rv = none ∧ dom = d ∧ loc = lo ∧ val = va ∧ kc = 0 ∧ ns = 0) := by
  refine kM_of (lv0 := [some (.ref (loc j)), some (.int x)]) (own := "ProsePages$Row") (by decide) rfl (List.forall_mem_cons.mpr ⟨rfl, List.forall_mem_cons.mpr ⟨rfl, fun _ h => nomatch h⟩⟩) (Nat.le_of_ble_eq_true rfl) rfl (Nat.le_of_ble_eq_true rfl) (fun X hl hX hE hin0 => ?_)
  refine v_iload_n hX d_R_cut_0 rfl rfl ?_
  refine v_if_lt hX d_R_cut_1 (tgt := 17) (by decide) (fun c1 => ?_) (fun c1 => ?_)
  · exact v_vret hX hE d_R_cut_17 (Nat.le_of_ble_eq_true rfl) (Nat.le_of_ble_eq_true rfl) ⟨rfl, rfl, rfl, rfl, rfl, rfl⟩
  · refine v_iload_n hX d_R_cut_4 rfl rfl ?_
    refine v_aload_n hX d_R_cut_5 rfl rfl ?_
    refine v_get hX j (v := .int sz) inT1 hj rfl hv rfl 1 (by decide) k_38 rfl rfl d_R_cut_6 ?_
    refine v_icmp_ge hX d_R_cut_9 (tgt := 17) (by decide) (fun _ => ?_) (fun c => absurd (Int32.not_lt.mp hc) c)
    exact v_vret hX hE d_R_cut_17 (Nat.le_of_ble_eq_true rfl) (Nat.le_of_ble_eq_true rfl) ⟨rfl, rfl, rfl, rfl, rfl, rfl⟩
set_option maxHeartbeats 4000000 in
set_option maxRecDepth 100000 in
/-- Row.add to an empty Row of 16 -/
theorem c_R_add {l : Launch} {D : va_G} {A : Nat → Prop} {cI cB cZ cJ cN : ClassId} {dom : Nat → Prop} {loc : Nat → Nat} {val : Nat → va_E} (j ja : Nat) (x : Int32) (hne : j ≠ ja) (hj : dom j) (hja : dom ja) {f : Nat → Int32} (hv : val j = .inr (1, [.ref (loc ja), .int 0])) (hva : val ja = .inl (cI, 16, .inl f)) : kM l y_R_add (Cond.code y_R_add b_R_add 2 none :: TT) (rmL 1) D CL (TY cI cB cZ cJ cN) A [.ref (loc j), .int x] (dom) loc val (fun rv d lo va kc ns => rv = none ∧ dom = d ∧ loc = lo ∧ va_up (va_up val ja (.inl (cI, 16, .inl (upd (f) (Int32.toNatClampNeg 0) x)))) j (.inr (1, [.ref (loc ja), .int 1])) = va ∧ kc = 0 ∧ ns = 0) := by
  refine kM_of (lv0 := [some (.ref (loc j)), some (.int x)]) (own := "ProsePages$Row") (by decide) rfl (List.forall_mem_cons.mpr ⟨rfl, List.forall_mem_cons.mpr ⟨rfl, fun _ h => nomatch h⟩⟩) (Nat.le_of_ble_eq_true rfl) rfl (Nat.le_of_ble_eq_true rfl) (fun X hl hX hE hin0 => ?_)
  refine v_aload_n hX d_R_add_0 rfl rfl ?_
  refine v_get hX j (v := .int 0) inT1 hj rfl hv rfl 1 (by decide) k_38 rfl rfl d_R_add_1 ?_
  refine v_aload_n hX d_R_add_4 rfl rfl ?_
  refine v_get hX j (v := .ref (loc ja)) inT1 hj rfl hv rfl 0 (by decide) k_37 rfl rfl d_R_add_5 ?_
  refine v_alen hX ja 0 (v := 16) hja rfl hva rfl rfl d_R_add_8 ?_
  refine v_icmp_lt hX d_R_add_9 (tgt := 29) (by decide) (fun _ => ?_) (fun c => absurd (by decide) c)
  refine v_aload_n hX d_R_add_29 rfl rfl ?_
  refine v_get hX j (v := .ref (loc ja)) inT1 hj rfl hv rfl 0 (by decide) k_37 rfl rfl d_R_add_30 ?_
  refine v_aload_n hX d_R_add_33 rfl rfl ?_
  refine v_get hX j (v := .int 0) inT1 hj rfl hv rfl 1 (by decide) k_38 rfl rfl d_R_add_34 ?_
  refine v_iload_n hX d_R_add_37 rfl rfl ?_
  refine v_iast hX ja 0 hja rfl hva rfl (vpb (by decide)) d_R_add_38 ?_
  refine v_aload_n hX d_R_add_39 rfl rfl ?_
  refine v_dup hX d_R_add_40 rfl ?_
  refine v_get hX j (v := .int 0) inT1 hj rfl (kup_ne hne hv) rfl 1 (by decide) k_38 rfl rfl d_R_add_41 ?_
  refine v_iconst (v := 1) hX d_R_add_44 (by decide) ?_
  refine v_iaddE (v := 1) hX d_R_add_45 (by decide) ?_
  refine v_putE hX j (fs2 := [.ref (loc ja), .int 1]) inT1 tyX1 tyX1_ok nmX1 hj rfl (kup_ne hne hv) rfl 1 (by decide) k_38 rfl rfl rfl rfl rfl (Nat.le_of_ble_eq_true rfl) d_R_add_46 rfl ?_
  exact v_vret hX hE d_R_add_49 (Nat.le_of_ble_eq_true rfl) (Nat.le_of_ble_eq_true rfl) ⟨rfl, rfl, rfl, rfl, rfl, rfl⟩
