def oneOf (k s : Int32) : Int32 := if k < 0 then 0 else if 10 < k then 0 else if ¬ (s >>> (k &&& 31)) &&& 1 = 1 then 0 else 1
theorem oneOf_nar {x y : Int32} : narrow .boolean (.int (oneOf x y)) = .int (oneOf x y) := by
  unfold oneOf
  split
  · rfl
  · split
    · rfl
    · split <;> rfl
theorem sw_out {y : Int32} {n : Int} {ps : List (Int × Int)} {d o : Int} (h : Op.lookupswitch.offset ps d y.toInt = o) : Op.lookupswitch.offset ps d y.toInt = o := h
def isNum (k n : Int32) : Int32 := if k = 1 then (if n < 1 then 0 else if 6 < n then 0 else 1) else if k = 6 then (if n < 0 then 0 else if 999999999 < n then 0 else 1) else 1
/-- what lies under the keys 48 to 76 is as it was -/
def keepM (loc : Nat → Nat) (val : Nat → va_E) (d : Nat → Prop) (lo : Nat → Nat) (va : Nat → va_E) : Prop := ∀ k, (Nat.ble 48 k && Nat.ble (k + 1) 77) = true → d k ∧ lo k = loc k ∧ va k = val k
theorem keepM.rf {loc : Nat → Nat} {val : Nat → va_E} : keepM loc val (kd 77) loc val := fun k hk => by
  rw [Bool.and_eq_true] at hk
  exact ⟨Nat.le_of_ble_eq_true hk.2, rfl, rfl⟩
theorem keepM.up {loc : Nat → Nat} {val : Nat → va_E} {d : Nat → Prop} {lo : Nat → Nat} {va : Nat → va_E} (h : keepM loc val d lo va) (j : Nat) (e : va_E) (hj : (Nat.ble 48 j && Nat.ble (j + 1) 77) = false) : keepM loc val d lo (va_up va j e) := fun k hk => by
  obtain ⟨h1, h2, h3⟩ := h k hk
  refine ⟨h1, h2, (va_up_ne va e (fun z => ?_)).trans h3⟩
  rw [z] at hk
  rw [hk] at hj
  cases hj
theorem keepM.new {loc : Nat → Nat} {val : Nat → va_E} {lo : Nat → Nat} {va : Nat → va_E} (h : keepM loc val (kd 77) lo va) (q : Nat) (e : va_E) : keepM loc val (kd 78) (va_up lo 77 q) (va_up va 77 e) := fun k hk => by
  obtain ⟨h1, h2, h3⟩ := h k hk
  have hne : k ≠ 77 := fun z => by rw [z] at hk; cases hk
  exact ⟨Nat.lt_succ_of_lt h1, (va_up_ne lo q hne).trans h2, (va_up_ne va e hne).trans h3⟩
set_option maxHeartbeats 4000000 in
set_option maxRecDepth 100000 in
theorem c_P_isOneOf {l : Launch} {D : va_G} {A : Nat → Prop} {cI cB cZ cJ cN : ClassId} {dom : Nat → Prop} {loc : Nat → Nat} {val : Nat → va_E} (x y : Int32) : kM l y_P_isOneOf (Cond.code y_P_isOneOf b_P_isOneOf 2 (some FieldType.boolean) :: TT) (rmL 1) D CL (TY cI cB cZ cJ cN) A [.int x, .int y] (dom) loc val (fun rv d lo va kc ns => rv = some (.int (oneOf x y)) ∧ dom = d ∧ loc = lo ∧ val = va ∧ kc = 0 ∧ ns = 0) := by
  refine kM_of (lv0 := [some (.int x), some (.int y)]) (own := "ProsePages") (by decide) rfl (List.forall_mem_cons.mpr ⟨rfl, List.forall_mem_cons.mpr ⟨rfl, fun _ h => nomatch h⟩⟩) (Nat.le_of_ble_eq_true rfl) rfl (Nat.le_of_ble_eq_true rfl) (fun X hl hX hE hin0 => ?_)
  refine v_iload_n hX d_P_isOneOf_0 rfl rfl ?_
  refine v_if_lt hX d_P_isOneOf_1 (tgt := 23) (by decide) (fun c1 => ?_) (fun c1 => ?_)
  · refine v_iconst (v := 0) hX d_P_isOneOf_23 (by decide) ?_
    exact v_zret hX hE (by first | decide | rfl | exact oneOf_nar | exact blk_nar | exact inl_nar) d_P_isOneOf_24 (Nat.le_of_ble_eq_true rfl) (Nat.le_of_ble_eq_true rfl) ⟨by simp [oneOf, c1], rfl, rfl, rfl, rfl, rfl⟩
  · refine v_iload_n hX d_P_isOneOf_4 rfl rfl ?_
    refine v_bipush (v := 10) hX d_P_isOneOf_5 (by decide) ?_
    refine v_icmp_gt hX d_P_isOneOf_7 (tgt := 23) (by decide) (fun c7 => ?_) (fun c7 => ?_)
    · refine v_iconst (v := 0) hX d_P_isOneOf_23 (by decide) ?_
      exact v_zret hX hE (by first | decide | rfl | exact oneOf_nar | exact blk_nar | exact inl_nar) d_P_isOneOf_24 (Nat.le_of_ble_eq_true rfl) (Nat.le_of_ble_eq_true rfl) ⟨by simp [oneOf, c1, c7], rfl, rfl, rfl, rfl, rfl⟩
    · refine v_iload_n hX d_P_isOneOf_10 rfl rfl ?_
      refine v_iload_n hX d_P_isOneOf_11 rfl rfl ?_
      refine v_ishr hX d_P_isOneOf_12 ?_
      refine v_iconst (v := 1) hX d_P_isOneOf_13 (by decide) ?_
      refine v_iand hX d_P_isOneOf_14 ?_
      refine v_iconst (v := 1) hX d_P_isOneOf_15 (by decide) ?_
      refine v_icmp_ne hX d_P_isOneOf_16 (tgt := 23) (by decide) (fun c16 => ?_) (fun c16 => ?_)
      · refine v_iconst (v := 0) hX d_P_isOneOf_23 (by decide) ?_
        exact v_zret hX hE (by first | decide | rfl | exact oneOf_nar | exact blk_nar | exact inl_nar) d_P_isOneOf_24 (Nat.le_of_ble_eq_true rfl) (Nat.le_of_ble_eq_true rfl) ⟨by simp [oneOf, c1, c7, c16], rfl, rfl, rfl, rfl, rfl⟩
      · refine v_iconst (v := 1) hX d_P_isOneOf_19 (by decide) ?_
        refine v_goto hX d_P_isOneOf_20 (tgt := 24) (by decide) ?_
        exact v_zret hX hE (by first | decide | rfl | exact oneOf_nar | exact blk_nar | exact inl_nar) d_P_isOneOf_24 (Nat.le_of_ble_eq_true rfl) (Nat.le_of_ble_eq_true rfl) ⟨by simp [oneOf, c1, c7, c16], rfl, rfl, rfl, rfl, rfl⟩
set_option maxHeartbeats 4000000 in
set_option maxRecDepth 100000 in
theorem c_P_isNumberOf {l : Launch} {D : va_G} {A : Nat → Prop} {cI cB cZ cJ cN : ClassId} {dom : Nat → Prop} {loc : Nat → Nat} {val : Nat → va_E} (x y : Int32) : kM l y_P_isNumberOf (Cond.code y_P_isNumberOf b_P_isNumberOf 2 (some FieldType.boolean) :: TT) (rmL 1) D CL (TY cI cB cZ cJ cN) A [.int x, .int y] (dom) loc val (fun rv d lo va kc ns => rv = some (.int (isNum x y)) ∧ dom = d ∧ loc = lo ∧ val = va ∧ kc = 0 ∧ ns = 0) := by
  refine kM_of (lv0 := [some (.int x), some (.int y)]) (own := "ProsePages") (by decide) rfl (List.forall_mem_cons.mpr ⟨rfl, List.forall_mem_cons.mpr ⟨rfl, fun _ h => nomatch h⟩⟩) (Nat.le_of_ble_eq_true rfl) rfl (Nat.le_of_ble_eq_true rfl) (fun X hl hX hE hin0 => ?_)
  refine v_iload_n hX d_P_isNumberOf_0 rfl rfl ?_
  refine v_iconst (v := 1) hX d_P_isNumberOf_1 (by decide) ?_
  refine v_icmp_ne hX d_P_isNumberOf_2 (tgt := 22) (by decide) (fun c2 => ?_) (fun c2 => ?_)
  · refine v_iload_n hX d_P_isNumberOf_22 rfl rfl ?_
    refine v_bipush (v := 6) hX d_P_isNumberOf_23 (by decide) ?_
    refine v_icmp_ne hX d_P_isNumberOf_25 (tgt := 38) (by decide) (fun c25 => ?_) (fun c25 => ?_)
    · refine v_iconst (v := 1) hX d_P_isNumberOf_38 (by decide) ?_
      refine v_goto hX d_P_isNumberOf_39 (tgt := 43) (by decide) ?_
      exact v_zret hX hE (by first | decide | rfl | exact oneOf_nar | exact blk_nar | exact inl_nar) d_P_isNumberOf_43 (Nat.le_of_ble_eq_true rfl) (Nat.le_of_ble_eq_true rfl) ⟨by simp [isNum, c2, c25], rfl, rfl, rfl, rfl, rfl⟩
    · refine v_iload_n hX d_P_isNumberOf_28 rfl rfl ?_
      refine v_if_lt hX d_P_isNumberOf_29 (tgt := 42) (by decide) (fun c29 => ?_) (fun c29 => ?_)
      · refine v_iconst (v := 0) hX d_P_isNumberOf_42 (by decide) ?_
        exact v_zret hX hE (by first | decide | rfl | exact oneOf_nar | exact blk_nar | exact inl_nar) d_P_isNumberOf_43 (Nat.le_of_ble_eq_true rfl) (Nat.le_of_ble_eq_true rfl) ⟨by simp [isNum, c2, c25, c29], rfl, rfl, rfl, rfl, rfl⟩
      · refine v_iload_n hX d_P_isNumberOf_32 rfl rfl ?_
        refine v_ldc (v := 999999999) hX k_368 d_P_isNumberOf_33 ?_
        refine v_icmp_gt hX d_P_isNumberOf_35 (tgt := 42) (by decide) (fun c35 => ?_) (fun c35 => ?_)
        · refine v_iconst (v := 0) hX d_P_isNumberOf_42 (by decide) ?_
          exact v_zret hX hE (by first | decide | rfl | exact oneOf_nar | exact blk_nar | exact inl_nar) d_P_isNumberOf_43 (Nat.le_of_ble_eq_true rfl) (Nat.le_of_ble_eq_true rfl) ⟨by simp [isNum, c2, c25, c29, c35], rfl, rfl, rfl, rfl, rfl⟩
        · refine v_iconst (v := 1) hX d_P_isNumberOf_38 (by decide) ?_
          refine v_goto hX d_P_isNumberOf_39 (tgt := 43) (by decide) ?_
          exact v_zret hX hE (by first | decide | rfl | exact oneOf_nar | exact blk_nar | exact inl_nar) d_P_isNumberOf_43 (Nat.le_of_ble_eq_true rfl) (Nat.le_of_ble_eq_true rfl) ⟨by simp [isNum, c2, c25, c29, c35], rfl, rfl, rfl, rfl, rfl⟩
  · refine v_iload_n hX d_P_isNumberOf_5 rfl rfl ?_
    refine v_iconst (v := 1) hX d_P_isNumberOf_6 (by decide) ?_
    refine v_icmp_lt hX d_P_isNumberOf_7 (tgt := 20) (by decide) (fun c7 => ?_) (fun c7 => ?_)
    · refine v_iconst (v := 0) hX d_P_isNumberOf_20 (by decide) ?_
      exact v_zret hX hE (by first | decide | rfl | exact oneOf_nar | exact blk_nar | exact inl_nar) d_P_isNumberOf_21 (Nat.le_of_ble_eq_true rfl) (Nat.le_of_ble_eq_true rfl) ⟨by simp [isNum, c2, c7], rfl, rfl, rfl, rfl, rfl⟩
    · refine v_iload_n hX d_P_isNumberOf_10 rfl rfl ?_
      refine v_bipush (v := 6) hX d_P_isNumberOf_11 (by decide) ?_
      refine v_icmp_gt hX d_P_isNumberOf_13 (tgt := 20) (by decide) (fun c13 => ?_) (fun c13 => ?_)
      · refine v_iconst (v := 0) hX d_P_isNumberOf_20 (by decide) ?_
        exact v_zret hX hE (by first | decide | rfl | exact oneOf_nar | exact blk_nar | exact inl_nar) d_P_isNumberOf_21 (Nat.le_of_ble_eq_true rfl) (Nat.le_of_ble_eq_true rfl) ⟨by simp [isNum, c2, c7, c13], rfl, rfl, rfl, rfl, rfl⟩
      · refine v_iconst (v := 1) hX d_P_isNumberOf_16 (by decide) ?_
        refine v_goto hX d_P_isNumberOf_17 (tgt := 21) (by decide) ?_
        exact v_zret hX hE (by first | decide | rfl | exact oneOf_nar | exact blk_nar | exact inl_nar) d_P_isNumberOf_21 (Nat.le_of_ble_eq_true rfl) (Nat.le_of_ble_eq_true rfl) ⟨by simp [isNum, c2, c7, c13], rfl, rfl, rfl, rfl, rfl⟩
set_option maxHeartbeats 4000000 in
set_option maxRecDepth 100000 in
theorem c_P_refused {l : Launch} {D : va_G} {A : Nat → Prop} {cI cB cZ cJ cN : ClassId} {loc : Nat → Nat} {val : Nat → va_E} (hv : ∀ k, Nat.ble (k + 1) 48 = true → val k = pcell cI cN loc k)  : kM l y_P_isNodeRefused (Cond.code y_P_isNodeRefused b_P_isNodeRefused 1 (some FieldType.boolean) :: TT) (rmL 1) D CL (TY cI cB cZ cJ cN) A [.ref (loc 0)] (kd 77) loc val (fun rv d lo va kc ns => rv = some (.int 0) ∧ kd 77 = d ∧ loc = lo ∧ val = va ∧ kc = 0 ∧ ns = 0) := by
  refine kM_of (lv0 := [some (.ref (loc 0))]) (own := "ProsePages") (by decide) rfl (List.forall_mem_cons.mpr ⟨rfl, fun _ h => nomatch h⟩) (Nat.le_of_ble_eq_true rfl) rfl (Nat.le_of_ble_eq_true rfl) (fun X hl hX hE hin0 => ?_)
  refine v_aload_n hX d_P_isNodeRefused_0 rfl rfl ?_
  refine v_get hX 0 (v := .int 1) inT4 (kd_b rfl) rfl (hv 0 rfl) rfl 4 (by decide) k_179 rfl rfl d_P_isNodeRefused_1 ?_
  refine v_sipush (v := 300) hX d_P_isNodeRefused_4 (by decide) ?_
  refine v_icmp_ge hX d_P_isNodeRefused_7 (tgt := 22) (by decide) (fun c => absurd c (by decide)) (fun _ => ?_)
  refine v_aload_n hX d_P_isNodeRefused_10 rfl rfl ?_
  refine v_get hX 0 (v := .ref (loc 47)) inT4 (kd_b rfl) rfl (hv 0 rfl) rfl 3 (by decide) k_178 rfl rfl d_P_isNodeRefused_11 ?_
  refine v_get hX 47 (v := .int 1) inT0 (kd_b rfl) rfl (hv 47 rfl) rfl 3 (by decide) k_132 rfl rfl d_P_isNodeRefused_14 ?_
  refine v_bipush (v := 12) hX d_P_isNodeRefused_17 (by decide) ?_
  refine v_icmp_lt hX d_P_isNodeRefused_19 (tgt := 26) (by decide) (fun _ => ?_) (fun c => absurd (by decide) c)
  refine v_iconst (v := 0) hX d_P_isNodeRefused_26 (by decide) ?_
  exact v_zret hX hE (by first | decide | rfl | exact oneOf_nar | exact blk_nar | exact inl_nar) d_P_isNodeRefused_27 (Nat.le_of_ble_eq_true rfl) (Nat.le_of_ble_eq_true rfl) ⟨rfl, rfl, rfl, rfl, rfl, rfl⟩
set_option maxHeartbeats 4000000 in
set_option maxRecDepth 100000 in
theorem c_N_mayHold {l : Launch} {D : va_G} {A : Nat → Prop} {cI cB cZ cJ cN : ClassId} {loc : Nat → Nat} {val : Nat → va_E} (hv : ∀ k, Nat.ble (k + 1) 48 = true → val k = pcell cI cN loc k) (x : Int32) : kM l y_N_mayHold (Cond.code y_N_mayHold b_N_mayHold 2 (some FieldType.boolean) :: TT) (rmL 2) D CL (TY cI cB cZ cJ cN) A [.ref (loc 47), .int x] (kd 77) loc val (fun rv d lo va kc ns => rv = some (.int (oneOf x 127)) ∧ kd 77 = d ∧ loc = lo ∧ val = va ∧ kc = 0 ∧ ns = 0) := by
  refine kM_of (lv0 := [some (.ref (loc 47)), some (.int x)]) (own := "ProsePages$Node") (by decide) rfl (List.forall_mem_cons.mpr ⟨rfl, List.forall_mem_cons.mpr ⟨rfl, fun _ h => nomatch h⟩⟩) (Nat.le_of_ble_eq_true rfl) rfl (Nat.le_of_ble_eq_true rfl) (fun X hl hX hE hin0 => ?_)
  refine v_aload_n hX d_N_mayHold_0 rfl rfl ?_
  refine v_get hX 47 (v := .int (-1)) inT0 (kd_b rfl) rfl (hv 47 rfl) rfl 1 (by decide) k_126 rfl rfl d_N_mayHold_1 ?_
  refine v_tableIn hX d_N_mayHold_4 (tgt := 60) (by decide) (by decide) (off := 56) (by decide) (by decide) ?_
  refine v_iload_n hX d_N_mayHold_60 rfl rfl ?_
  refine v_bipush (v := 127) hX d_N_mayHold_61 (by decide) ?_
  refine c_SN hX (rest := []) hl (c_P_isOneOf x 127) (host := "ProsePages") (by decide) k_347 k_1 k_348 q_P_isOneOf ⟨(Nat.le_of_ble_eq_true rfl), (Nat.le_of_ble_eq_true rfl)⟩ rfl rfl rfl (Nat.le_of_ble_eq_true rfl) d_N_mayHold_63 ⟨(Nat.le_of_ble_eq_true rfl), (Nat.le_of_ble_eq_true rfl)⟩ (fun rv d2 lo2 va2 kc ns hp => ?_)
  obtain ⟨rfl, rfl, rfl, rfl, rfl, rfl⟩ := hp
  show V X D CL A _ _ _ _ _ _ _ (.int (oneOf x 127) :: [])
  exact v_zret hX hE (by first | decide | rfl | exact oneOf_nar | exact blk_nar | exact inl_nar) d_N_mayHold_66 (Nat.le_of_ble_eq_true rfl) (Nat.le_of_ble_eq_true rfl) ⟨rfl, rfl, rfl, rfl, rfl, rfl⟩
set_option maxHeartbeats 4000000 in
set_option maxRecDepth 100000 in
theorem c_P_end {l : Launch} {D : va_G} {A : Nat → Prop} {cI cB cZ cJ cN : ClassId} {loc : Nat → Nat} {val : Nat → va_E} (hv : ∀ k, Nat.ble (k + 1) 48 = true → val k = pcell cI cN loc k)  : kM l y_P_end (Cond.code y_P_end b_P_end 1 (some FieldType.int) :: TT) (rmL 1) D CL (TY cI cB cZ cJ cN) A [.ref (loc 0)] (kd 77) loc val (fun rv d lo va kc ns => rv = some (.int (-1)) ∧ keepM loc val d lo va ∧ kc = 0 ∧ ns = 0) := by
  refine kM_of (lv0 := [some (.ref (loc 0))]) (own := "ProsePages") (by decide) rfl (List.forall_mem_cons.mpr ⟨rfl, fun _ h => nomatch h⟩) (Nat.le_of_ble_eq_true rfl) rfl (Nat.le_of_ble_eq_true rfl) (fun X hl hX hE hin0 => ?_)
  refine v_aload_n hX d_P_end_0 rfl rfl ?_
  refine v_get hX 0 (v := .ref (loc 47)) inT4 (kd_b rfl) rfl (hv 0 rfl) rfl 3 (by decide) k_178 rfl rfl d_P_end_1 ?_
  refine v_get hX 47 (v := .null) inT0 (kd_b rfl) rfl (hv 47 rfl) rfl 2 (by decide) k_130 rfl rfl d_P_end_4 ?_
  refine v_ifnonnull hX none d_P_end_7 (tgt := 12) (by decide) (fun _ h => nomatch h) (fun _ => ?_)
  refine v_iconst (v := (-1)) hX d_P_end_10 (by decide) ?_
  exact v_iret hX hE d_P_end_11 (Nat.le_of_ble_eq_true rfl) (Nat.le_of_ble_eq_true rfl) ⟨rfl, keepM.rf, rfl, rfl⟩
set_option maxHeartbeats 4000000 in
set_option maxRecDepth 100000 in
theorem c_P_cell {l : Launch} {D : va_G} {A : Nat → Prop} {cI cB cZ cJ cN : ClassId} {loc : Nat → Nat} {val : Nat → va_E} (hv : ∀ k, Nat.ble (k + 1) 48 = true → val k = pcell cI cN loc k) (x0 x1 x2 : Int32) : kM l y_P_cell (Cond.code y_P_cell b_P_cell 4 (some FieldType.int) :: TT) (rmL 1) D CL (TY cI cB cZ cJ cN) A [.ref (loc 0), .int x0, .int x1, .int x2] (kd 77) loc val (fun rv d lo va kc ns => rv = some (.int (-1)) ∧ keepM loc val d lo va ∧ kc = 0 ∧ ns = 0) := by
  refine kM_of (lv0 := [some (.ref (loc 0)), some (.int x0), some (.int x1), some (.int x2)]) (own := "ProsePages") (by decide) rfl (List.forall_mem_cons.mpr ⟨rfl, List.forall_mem_cons.mpr ⟨rfl, List.forall_mem_cons.mpr ⟨rfl, List.forall_mem_cons.mpr ⟨rfl, fun _ h => nomatch h⟩⟩⟩⟩) (Nat.le_of_ble_eq_true rfl) rfl (Nat.le_of_ble_eq_true rfl) (fun X hl hX hE hin0 => ?_)
  refine v_aload_n hX d_P_cell_0 rfl rfl ?_
  refine v_get hX 0 (v := .int 0) inT4 (kd_b rfl) rfl (hv 0 rfl) rfl 7 (by decide) k_182 rfl rfl d_P_cell_1 ?_
  refine v_if_eq hX d_P_cell_4 (tgt := 20) (by decide) (fun _ => ?_) (fun c => absurd (by decide) c)
  refine v_iconst (v := (-1)) hX d_P_cell_20 (by decide) ?_
  exact v_iret hX hE d_P_cell_21 (Nat.le_of_ble_eq_true rfl) (Nat.le_of_ble_eq_true rfl) ⟨rfl, keepM.rf, rfl, rfl⟩
set_option maxHeartbeats 4000000 in
set_option maxRecDepth 100000 in
theorem c_P_page {l : Launch} {D : va_G} {A : Nat → Prop} {cI cB cZ cJ cN : ClassId} {loc : Nat → Nat} {val : Nat → va_E} (hv : ∀ k, Nat.ble (k + 1) 48 = true → val k = pcell cI cN loc k) (x0 x1 : Int32) : kM l y_P_page (Cond.code y_P_page b_P_page 3 (some FieldType.int) :: TT) (rmL 1) D CL (TY cI cB cZ cJ cN) A [.ref (loc 0), .int x0, .int x1] (kd 77) loc val (fun rv d lo va kc ns => rv = some (.int (-1)) ∧ keepM loc val d lo va ∧ kc = 0 ∧ ns = 0) := by
  refine kM_of (lv0 := [some (.ref (loc 0)), some (.int x0), some (.int x1)]) (own := "ProsePages") (by decide) rfl (List.forall_mem_cons.mpr ⟨rfl, List.forall_mem_cons.mpr ⟨rfl, List.forall_mem_cons.mpr ⟨rfl, fun _ h => nomatch h⟩⟩⟩) (Nat.le_of_ble_eq_true rfl) rfl (Nat.le_of_ble_eq_true rfl) (fun X hl hX hE hin0 => ?_)
  refine v_aload_n hX d_P_page_0 rfl rfl ?_
  refine v_get hX 0 (v := .int 0) inT4 (kd_b rfl) rfl (hv 0 rfl) rfl 7 (by decide) k_182 rfl rfl d_P_page_1 ?_
  refine v_if_eq hX d_P_page_4 (tgt := 22) (by decide) (fun _ => ?_) (fun c => absurd (by decide) c)
  refine v_iconst (v := (-1)) hX d_P_page_22 (by decide) ?_
  exact v_iret hX hE d_P_page_23 (Nat.le_of_ble_eq_true rfl) (Nat.le_of_ble_eq_true rfl) ⟨rfl, keepM.rf, rfl, rfl⟩
set_option maxHeartbeats 4000000 in
set_option maxRecDepth 100000 in
theorem c_P_line {l : Launch} {D : va_G} {A : Nat → Prop} {cI cB cZ cJ cN : ClassId} {loc : Nat → Nat} {val : Nat → va_E} (hv : ∀ k, Nat.ble (k + 1) 48 = true → val k = pcell cI cN loc k) (x0 x1 : Int32) : kM l y_P_line (Cond.code y_P_line b_P_line 3 (some FieldType.int) :: TT) (rmL 1) D CL (TY cI cB cZ cJ cN) A [.ref (loc 0), .int x0, .int x1] (kd 77) loc val (fun rv d lo va kc ns => rv = some (.int (-1)) ∧ keepM loc val d lo va ∧ kc = 0 ∧ ns = 0) := by
  refine kM_of (lv0 := [some (.ref (loc 0)), some (.int x0), some (.int x1)]) (own := "ProsePages") (by decide) rfl (List.forall_mem_cons.mpr ⟨rfl, List.forall_mem_cons.mpr ⟨rfl, List.forall_mem_cons.mpr ⟨rfl, fun _ h => nomatch h⟩⟩⟩) (Nat.le_of_ble_eq_true rfl) rfl (Nat.le_of_ble_eq_true rfl) (fun X hl hX hE hin0 => ?_)
  refine v_aload_n hX d_P_line_0 rfl rfl ?_
  refine v_get hX 0 (v := .int 0) inT4 (kd_b rfl) rfl (hv 0 rfl) rfl 7 (by decide) k_182 rfl rfl d_P_line_1 ?_
  refine v_if_eq hX d_P_line_4 (tgt := 22) (by decide) (fun _ => ?_) (fun c => absurd (by decide) c)
  refine v_iconst (v := (-1)) hX d_P_line_22 (by decide) ?_
  exact v_iret hX hE d_P_line_23 (Nat.le_of_ble_eq_true rfl) (Nat.le_of_ble_eq_true rfl) ⟨rfl, keepM.rf, rfl, rfl⟩
set_option maxHeartbeats 4000000 in
set_option maxRecDepth 100000 in
theorem c_P_nodeAt_neg {l : Launch} {D : va_G} {A : Nat → Prop} {cI cB cZ cJ cN : ClassId} {loc : Nat → Nat} {val : Nat → va_E} (hv : ∀ k, Nat.ble (k + 1) 48 = true → val k = pcell cI cN loc k) (x : Int32) (h : x < 0) : kM l y_P_nodeAt (Cond.code y_P_nodeAt b_P_nodeAt 2 (some (FieldType.object "ProsePages$Node")) :: TT) (rmL 1) D CL (TY cI cB cZ cJ cN) A [.ref (loc 0), .int x] (kd 77) loc val (fun rv d lo va kc ns => rv = some .null ∧ kd 77 = d ∧ loc = lo ∧ val = va ∧ kc = 0 ∧ ns = 0) := by
  refine kM_of (lv0 := [some (.ref (loc 0)), some (.int x)]) (own := "ProsePages") (by decide) rfl (List.forall_mem_cons.mpr ⟨rfl, List.forall_mem_cons.mpr ⟨rfl, fun _ h => nomatch h⟩⟩) (Nat.le_of_ble_eq_true rfl) rfl (Nat.le_of_ble_eq_true rfl) (fun X hl hX hE hin0 => ?_)
  refine v_iload_n hX d_P_nodeAt_0 rfl rfl ?_
  refine v_if_lt hX d_P_nodeAt_1 (tgt := 30) (by decide) (fun _ => ?_) (fun c => absurd (h) c)
  refine v_null hX d_P_nodeAt_30 ?_
  exact v_aret hX hE none d_P_nodeAt_31 (Nat.le_of_ble_eq_true rfl) (Nat.le_of_ble_eq_true rfl) ⟨rfl, rfl, rfl, rfl, rfl, rfl⟩
set_option maxHeartbeats 4000000 in
set_option maxRecDepth 100000 in
theorem c_P_nodeAt_ge {l : Launch} {D : va_G} {A : Nat → Prop} {cI cB cZ cJ cN : ClassId} {loc : Nat → Nat} {val : Nat → va_E} (hv : ∀ k, Nat.ble (k + 1) 48 = true → val k = pcell cI cN loc k) (x : Int32) (h0 : ¬ x < 0) (h : 1 ≤ x) : kM l y_P_nodeAt (Cond.code y_P_nodeAt b_P_nodeAt 2 (some (FieldType.object "ProsePages$Node")) :: TT) (rmL 1) D CL (TY cI cB cZ cJ cN) A [.ref (loc 0), .int x] (kd 77) loc val (fun rv d lo va kc ns => rv = some .null ∧ kd 77 = d ∧ loc = lo ∧ val = va ∧ kc = 0 ∧ ns = 0) := by
  refine kM_of (lv0 := [some (.ref (loc 0)), some (.int x)]) (own := "ProsePages") (by decide) rfl (List.forall_mem_cons.mpr ⟨rfl, List.forall_mem_cons.mpr ⟨rfl, fun _ h => nomatch h⟩⟩) (Nat.le_of_ble_eq_true rfl) rfl (Nat.le_of_ble_eq_true rfl) (fun X hl hX hE hin0 => ?_)
  refine v_iload_n hX d_P_nodeAt_0 rfl rfl ?_
  refine v_if_lt hX d_P_nodeAt_1 (tgt := 30) (by decide) (fun c => absurd c (h0)) (fun _ => ?_)
  refine v_iload_n hX d_P_nodeAt_4 rfl rfl ?_
  refine v_aload_n hX d_P_nodeAt_5 rfl rfl ?_
  refine v_get hX 0 (v := .int 1) inT4 (kd_b rfl) rfl (hv 0 rfl) rfl 4 (by decide) k_179 rfl rfl d_P_nodeAt_6 ?_
  refine v_icmp_ge hX d_P_nodeAt_9 (tgt := 30) (by decide) (fun _ => ?_) (fun c => absurd (h) c)
  refine v_null hX d_P_nodeAt_30 ?_
  exact v_aret hX hE none d_P_nodeAt_31 (Nat.le_of_ble_eq_true rfl) (Nat.le_of_ble_eq_true rfl) ⟨rfl, rfl, rfl, rfl, rfl, rfl⟩
set_option maxHeartbeats 4000000 in
set_option maxRecDepth 100000 in
theorem c_P_nodeAt_0 {l : Launch} {D : va_G} {A : Nat → Prop} {cI cB cZ cJ cN : ClassId} {loc : Nat → Nat} {val : Nat → va_E} (hv : ∀ k, Nat.ble (k + 1) 48 = true → val k = pcell cI cN loc k)  : kM l y_P_nodeAt (Cond.code y_P_nodeAt b_P_nodeAt 2 (some (FieldType.object "ProsePages$Node")) :: TT) (rmL 1) D CL (TY cI cB cZ cJ cN) A [.ref (loc 0), .int 0] (kd 77) loc val (fun rv d lo va kc ns => rv = some (.ref (loc 47)) ∧ kd 77 = d ∧ loc = lo ∧ val = va ∧ kc = 0 ∧ ns = 0) := by
  refine kM_of (lv0 := [some (.ref (loc 0)), some (.int 0)]) (own := "ProsePages") (by decide) rfl (List.forall_mem_cons.mpr ⟨rfl, List.forall_mem_cons.mpr ⟨rfl, fun _ h => nomatch h⟩⟩) (Nat.le_of_ble_eq_true rfl) rfl (Nat.le_of_ble_eq_true rfl) (fun X hl hX hE hin0 => ?_)
  refine v_iload_n hX d_P_nodeAt_0 rfl rfl ?_
  refine v_if_lt hX d_P_nodeAt_1 (tgt := 30) (by decide) (fun c => absurd c (by decide)) (fun _ => ?_)
  refine v_iload_n hX d_P_nodeAt_4 rfl rfl ?_
  refine v_aload_n hX d_P_nodeAt_5 rfl rfl ?_
  refine v_get hX 0 (v := .int 1) inT4 (kd_b rfl) rfl (hv 0 rfl) rfl 4 (by decide) k_179 rfl rfl d_P_nodeAt_6 ?_
  refine v_icmp_ge hX d_P_nodeAt_9 (tgt := 30) (by decide) (fun c => absurd c (by decide)) (fun _ => ?_)
  refine v_iload_n hX d_P_nodeAt_12 rfl rfl ?_
  refine v_aload_n hX d_P_nodeAt_13 rfl rfl ?_
  refine v_get hX 0 (v := .ref (loc 1)) inT4 (kd_b rfl) rfl (hv 0 rfl) rfl 0 (by decide) k_175 rfl rfl d_P_nodeAt_14 ?_
  refine v_alen hX 1 4 (v := 300) (kd_b rfl) rfl (hv 1 rfl) rfl rfl d_P_nodeAt_17 ?_
  refine v_icmp_ge hX d_P_nodeAt_18 (tgt := 30) (by decide) (fun c => absurd c (by decide)) (fun _ => ?_)
  refine v_aload_n hX d_P_nodeAt_21 rfl rfl ?_
  refine v_get hX 0 (v := .ref (loc 1)) inT4 (kd_b rfl) rfl (hv 0 rfl) rfl 0 (by decide) k_175 rfl rfl d_P_nodeAt_22 ?_
  refine v_iload_n hX d_P_nodeAt_25 rfl rfl ?_
  refine v_aldr hX 1 4 (b := (loc 47)) (kd_b rfl) rfl (hv 1 rfl) rfl (vpb (by decide)) rfl d_P_nodeAt_26 ?_
  refine v_goto hX d_P_nodeAt_27 (tgt := 31) (by decide) ?_
  exact v_aret hX hE (some (loc 47)) d_P_nodeAt_31 (Nat.le_of_ble_eq_true rfl) (Nat.le_of_ble_eq_true rfl) ⟨rfl, rfl, rfl, rfl, rfl, rfl⟩
