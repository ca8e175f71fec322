def blk (k : Int32) : Int32 := if k < 0 then 0 else if 6 < k then 0 else 1
def inl (k : Int32) : Int32 := if k < 8 then 0 else if 10 < k then 0 else 1
theorem blk_nar {x : Int32} : narrow .boolean (.int (blk x)) = .int (blk x) := by
  unfold blk
  split
  · rfl
  · split <;> rfl
theorem inl_nar {x : Int32} : narrow .boolean (.int (inl x)) = .int (inl x) := by
  unfold inl
  split
  · rfl
  · split <;> rfl
/-- the law goes on with the reference and with out -/
def keepO (loc : Nat → Nat) (val : Nat → va_E) (d : Nat → Prop) (lo : Nat → Nat) (va : Nat → va_E) : Prop := d 48 ∧ lo 48 = loc 48 ∧ d 76 ∧ lo 76 = loc 76 ∧ va 76 = val 76
set_option maxHeartbeats 4000000 in
set_option maxRecDepth 100000 in
theorem c_M_isBlock {l : Launch} {D : va_G} {A : Nat → Prop} {cI cB cZ cJ cN : ClassId} {dom : Nat → Prop} {loc : Nat → Nat} {val : Nat → va_E} (x : Int32) : kM l y_M_isBlock (Cond.code y_M_isBlock b_M_isBlock 1 (some FieldType.boolean) :: TT) (rmL 1) D CL (TY cI cB cZ cJ cN) A [.int x] (dom) loc val (fun rv d lo va kc ns => rv = some (.int (blk x)) ∧ dom = d ∧ loc = lo ∧ val = va ∧ kc = 0 ∧ ns = 0) := by
  refine kM_of (lv0 := [some (.int x)]) (own := "ProsePagesModel") (by decide) rfl (List.forall_mem_cons.mpr ⟨rfl, fun _ h => nomatch h⟩) (Nat.le_of_ble_eq_true rfl) rfl (Nat.le_of_ble_eq_true rfl) (fun X hl hX hE hin0 => ?_)
  refine v_iload_n hX d_M_isBlock_0 rfl rfl ?_
  refine v_if_lt hX d_M_isBlock_1 (tgt := 14) (by decide) (fun c1 => ?_) (fun c1 => ?_)
  · refine v_iconst (v := 0) hX d_M_isBlock_14 (by decide) ?_
    exact v_zret hX hE (by first | decide | rfl | exact oneOf_nar | exact blk_nar | exact inl_nar) d_M_isBlock_15 (Nat.le_of_ble_eq_true rfl) (Nat.le_of_ble_eq_true rfl) ⟨by simp [blk, c1], rfl, rfl, rfl, rfl, rfl⟩
  · refine v_iload_n hX d_M_isBlock_4 rfl rfl ?_
    refine v_bipush (v := 6) hX d_M_isBlock_5 (by decide) ?_
    refine v_icmp_gt hX d_M_isBlock_7 (tgt := 14) (by decide) (fun c7 => ?_) (fun c7 => ?_)
    · refine v_iconst (v := 0) hX d_M_isBlock_14 (by decide) ?_
      exact v_zret hX hE (by first | decide | rfl | exact oneOf_nar | exact blk_nar | exact inl_nar) d_M_isBlock_15 (Nat.le_of_ble_eq_true rfl) (Nat.le_of_ble_eq_true rfl) ⟨by simp [blk, c1, c7], rfl, rfl, rfl, rfl, rfl⟩
    · refine v_iconst (v := 1) hX d_M_isBlock_10 (by decide) ?_
      refine v_goto hX d_M_isBlock_11 (tgt := 15) (by decide) ?_
      exact v_zret hX hE (by first | decide | rfl | exact oneOf_nar | exact blk_nar | exact inl_nar) d_M_isBlock_15 (Nat.le_of_ble_eq_true rfl) (Nat.le_of_ble_eq_true rfl) ⟨by simp [blk, c1, c7], rfl, rfl, rfl, rfl, rfl⟩
set_option maxHeartbeats 4000000 in
set_option maxRecDepth 100000 in
theorem c_M_isInline {l : Launch} {D : va_G} {A : Nat → Prop} {cI cB cZ cJ cN : ClassId} {dom : Nat → Prop} {loc : Nat → Nat} {val : Nat → va_E} (x : Int32) : kM l y_M_isInline (Cond.code y_M_isInline b_M_isInline 1 (some FieldType.boolean) :: TT) (rmL 1) D CL (TY cI cB cZ cJ cN) A [.int x] (dom) loc val (fun rv d lo va kc ns => rv = some (.int (inl x)) ∧ dom = d ∧ loc = lo ∧ val = va ∧ kc = 0 ∧ ns = 0) := by
  refine kM_of (lv0 := [some (.int x)]) (own := "ProsePagesModel") (by decide) rfl (List.forall_mem_cons.mpr ⟨rfl, fun _ h => nomatch h⟩) (Nat.le_of_ble_eq_true rfl) rfl (Nat.le_of_ble_eq_true rfl) (fun X hl hX hE hin0 => ?_)
  refine v_iload_n hX d_M_isInline_0 rfl rfl ?_
  refine v_bipush (v := 8) hX d_M_isInline_1 (by decide) ?_
  refine v_icmp_lt hX d_M_isInline_3 (tgt := 16) (by decide) (fun c3 => ?_) (fun c3 => ?_)
  · refine v_iconst (v := 0) hX d_M_isInline_16 (by decide) ?_
    exact v_zret hX hE (by first | decide | rfl | exact oneOf_nar | exact blk_nar | exact inl_nar) d_M_isInline_17 (Nat.le_of_ble_eq_true rfl) (Nat.le_of_ble_eq_true rfl) ⟨by simp [inl, c3], rfl, rfl, rfl, rfl, rfl⟩
  · refine v_iload_n hX d_M_isInline_6 rfl rfl ?_
    refine v_bipush (v := 10) hX d_M_isInline_7 (by decide) ?_
    refine v_icmp_gt hX d_M_isInline_9 (tgt := 16) (by decide) (fun c9 => ?_) (fun c9 => ?_)
    · refine v_iconst (v := 0) hX d_M_isInline_16 (by decide) ?_
      exact v_zret hX hE (by first | decide | rfl | exact oneOf_nar | exact blk_nar | exact inl_nar) d_M_isInline_17 (Nat.le_of_ble_eq_true rfl) (Nat.le_of_ble_eq_true rfl) ⟨by simp [inl, c3, c9], rfl, rfl, rfl, rfl, rfl⟩
    · refine v_iconst (v := 1) hX d_M_isInline_12 (by decide) ?_
      refine v_goto hX d_M_isInline_13 (tgt := 17) (by decide) ?_
      exact v_zret hX hE (by first | decide | rfl | exact oneOf_nar | exact blk_nar | exact inl_nar) d_M_isInline_17 (Nat.le_of_ble_eq_true rfl) (Nat.le_of_ble_eq_true rfl) ⟨by simp [inl, c3, c9], rfl, rfl, rfl, rfl, rfl⟩
set_option maxHeartbeats 4000000 in
set_option maxRecDepth 100000 in
theorem c_M_mayHold {l : Launch} {D : va_G} {A : Nat → Prop} {cI cB cZ cJ cN : ClassId} {dom : Nat → Prop} {loc : Nat → Nat} {val : Nat → va_E} (x : Int32) : kM l y_M_mayHold (Cond.code y_M_mayHold b_M_mayHold 2 (some FieldType.boolean) :: TT) (rmL 2) D CL (TY cI cB cZ cJ cN) A [.int 11, .int x] (dom) loc val (fun rv d lo va kc ns => rv = some (.int (blk x)) ∧ dom = d ∧ loc = lo ∧ val = va ∧ kc = 0 ∧ ns = 0) := by
  refine kM_of (lv0 := [some (.int 11), some (.int x)]) (own := "ProsePagesModel") (by decide) rfl (List.forall_mem_cons.mpr ⟨rfl, List.forall_mem_cons.mpr ⟨rfl, fun _ h => nomatch h⟩⟩) (Nat.le_of_ble_eq_true rfl) rfl (Nat.le_of_ble_eq_true rfl) (fun X hl hX hE hin0 => ?_)
  refine v_iload_n hX d_M_mayHold_0 rfl rfl ?_
  refine v_tableIn hX d_M_mayHold_1 (tgt := 64) (by decide) (by decide) (off := 63) (by decide) (by decide) ?_
  refine v_iload_n hX d_M_mayHold_64 rfl rfl ?_
  refine c_S hX (rest := []) hl (c_M_isBlock x) k_733 k_734 k_6 k_735 rfl q_M_isBlock ⟨(Nat.le_of_ble_eq_true rfl), (Nat.le_of_ble_eq_true rfl)⟩ rfl rfl rfl (Nat.le_of_ble_eq_true rfl) d_M_mayHold_65 ⟨(Nat.le_of_ble_eq_true rfl), (Nat.le_of_ble_eq_true rfl)⟩ (fun rv d2 lo2 va2 kc ns hp => ?_)
  obtain ⟨rfl, rfl, rfl, rfl, rfl, rfl⟩ := hp
  show V X D CL A _ _ _ _ _ _ _ (.int (blk x) :: [])
  exact v_zret hX hE (by first | decide | rfl | exact oneOf_nar | exact blk_nar | exact inl_nar) d_M_mayHold_68 (Nat.le_of_ble_eq_true rfl) (Nat.le_of_ble_eq_true rfl) ⟨rfl, rfl, rfl, rfl, rfl, rfl⟩
set_option maxHeartbeats 4000000 in
set_option maxRecDepth 100000 in
theorem c_M_thrown {l : Launch} {D : va_G} {A : Nat → Prop} {cI cB cZ cJ cN : ClassId} {dom : Nat → Prop} {loc : Nat → Nat} {val : Nat → va_E} {t : Int32} {xs9 : List Value} (hj : dom 48) (h48 : val 48 = .inr (5, .int t :: xs9)) : kM l y_M_thrown (Cond.code y_M_thrown b_M_thrown 1 (some FieldType.int) :: TT) (rmL 1) D CL (TY cI cB cZ cJ cN) A [.ref (loc 48)] (dom) loc val (fun rv d lo va kc ns => rv = some (.int t) ∧ dom = d ∧ loc = lo ∧ val = va ∧ kc = 0 ∧ ns = 0) := by
  refine kM_of (lv0 := [some (.ref (loc 48))]) (own := "ProsePagesModel") (by decide) rfl (List.forall_mem_cons.mpr ⟨rfl, fun _ h => nomatch h⟩) (Nat.le_of_ble_eq_true rfl) rfl (Nat.le_of_ble_eq_true rfl) (fun X hl hX hE hin0 => ?_)
  refine v_aload_n hX d_M_thrown_0 rfl rfl ?_
  refine v_get hX 48 (v := .int t) inT5 hj rfl h48 rfl 0 (by decide) k_585 rfl rfl d_M_thrown_1 ?_
  exact v_iret hX hE d_M_thrown_4 (Nat.le_of_ble_eq_true rfl) (Nat.le_of_ble_eq_true rfl) ⟨rfl, rfl, rfl, rfl, rfl, rfl⟩
set_option maxHeartbeats 4000000 in
set_option maxRecDepth 100000 in
theorem c_M_isFull {l : Launch} {D : va_G} {A : Nat → Prop} {cI cB cZ cJ cN : ClassId} {loc : Nat → Nat} {val : Nat → va_E} {dom : Nat → Prop} (hd : ∀ k, (Nat.ble 48 k && Nat.ble (k + 1) 77) = true → dom k)  (h48 : val 48 = .inr (5, [.int 0, .ref (loc 49), .ref (loc 50), .ref (loc 51), .ref (loc 52), .ref (loc 53), .ref (loc 54), .ref (loc 55), .ref (loc 56), .int 1, .int 0, .int 0, .ref (loc 57), .ref (loc 58), .ref (loc 59), .ref (loc 60), .ref (loc 61), .ref (loc 62), .int 0, .int 0, .int 0, .int 0, .int 0, .int 0, .ref (loc 63), .ref (loc 64), .ref (loc 65), .ref (loc 66), .ref (loc 67), .ref (loc 68), .ref (loc 69), .ref (loc 70), .ref (loc 71), .ref (loc 72), .int 0, .ref (loc 73), .ref (loc 74), .ref (loc 75), .int 0, .int 0, .int 0, .int 0, .int 0, .int 0, .int 0])) (h52 : val 52 = .inl (cI, 300, .inl (upd (fun _ => 0) (Int32.toNatClampNeg 0) 1)))  : kM l y_M_isFull (Cond.code y_M_isFull b_M_isFull 1 (some FieldType.boolean) :: TT) (rmL 1) D CL (TY cI cB cZ cJ cN) A [.ref (loc 48)] (dom) loc val (fun rv d lo va kc ns => rv = some (.int 0) ∧ dom = d ∧ loc = lo ∧ val = va ∧ kc = 0 ∧ ns = 0) := by
  refine kM_of (lv0 := [some (.ref (loc 48))]) (own := "ProsePagesModel") (by decide) rfl (List.forall_mem_cons.mpr ⟨rfl, fun _ h => nomatch h⟩) (Nat.le_of_ble_eq_true rfl) rfl (Nat.le_of_ble_eq_true rfl) (fun X hl hX hE hin0 => ?_)
  refine v_aload_n hX d_M_isFull_0 rfl rfl ?_
  refine v_get hX 48 (v := .int 1) inT5 (hd 48 rfl) rfl h48 rfl 9 (by decide) k_594 rfl rfl d_M_isFull_1 ?_
  refine v_sipush (v := 300) hX d_M_isFull_4 (by decide) ?_
  refine v_icmp_eq hX d_M_isFull_7 (tgt := 24) (by decide) (fun c => absurd c (by decide)) (fun _ => ?_)
  refine v_aload_n hX d_M_isFull_10 rfl rfl ?_
  refine v_get hX 48 (v := .ref (loc 52)) inT5 (hd 48 rfl) rfl h48 rfl 4 (by decide) k_589 rfl rfl d_M_isFull_11 ?_
  refine v_aload_n hX d_M_isFull_14 rfl rfl ?_
  refine v_get hX 48 (v := .int 0) inT5 (hd 48 rfl) rfl h48 rfl 11 (by decide) k_596 rfl rfl d_M_isFull_15 ?_
  refine v_iald hX 52 0 (v := 1) (hd 52 rfl) rfl h52 rfl (vpb (by decide)) (by first | rfl | decide) d_M_isFull_18 ?_
  refine v_bipush (v := 12) hX d_M_isFull_19 (by decide) ?_
  refine v_icmp_ne hX d_M_isFull_21 (tgt := 28) (by decide) (fun _ => ?_) (fun c => absurd c (by decide))
  refine v_iconst (v := 0) hX d_M_isFull_28 (by decide) ?_
  exact v_zret hX hE (by first | decide | rfl | exact oneOf_nar | exact blk_nar | exact inl_nar) d_M_isFull_29 (Nat.le_of_ble_eq_true rfl) (Nat.le_of_ble_eq_true rfl) ⟨rfl, rfl, rfl, rfl, rfl, rfl⟩
set_option maxHeartbeats 4000000 in
set_option maxRecDepth 100000 in
theorem c_M_add {l : Launch} {D : va_G} {A : Nat → Prop} {cI cB cZ cJ cN : ClassId} {loc : Nat → Nat} {val : Nat → va_E} {dom : Nat → Prop} (hd : ∀ k, (Nat.ble 48 k && Nat.ble (k + 1) 77) = true → dom k) (ki v0 : Int32) (h48 : val 48 = .inr (5, [.int 0, .ref (loc 49), .ref (loc 50), .ref (loc 51), .ref (loc 52), .ref (loc 53), .ref (loc 54), .ref (loc 55), .ref (loc 56), .int 1, .int 0, .int 0, .ref (loc 57), .ref (loc 58), .ref (loc 59), .ref (loc 60), .ref (loc 61), .ref (loc 62), .int 0, .int 0, .int 0, .int 0, .int 0, .int 0, .ref (loc 63), .ref (loc 64), .ref (loc 65), .ref (loc 66), .ref (loc 67), .ref (loc 68), .ref (loc 69), .ref (loc 70), .ref (loc 71), .ref (loc 72), .int 0, .ref (loc 73), .ref (loc 74), .ref (loc 75), .int 0, .int 0, .int 0, .int 0, .int 0, .int 0, .int 0])) (h49 : val 49 = .inl (cI, 300, .inl (upd (fun _ => 0) (Int32.toNatClampNeg 0) 11))) (h50 : val 50 = .inl (cI, 300, .inl (upd (fun _ => 0) (Int32.toNatClampNeg 0) (-1)))) (h51 : val 51 = .inl (cI, 300, .inl (upd (fun _ => 0) (Int32.toNatClampNeg 0) 0))) (h52 : val 52 = .inl (cI, 300, .inl (upd (fun _ => 0) (Int32.toNatClampNeg 0) 1))) (h53 : val 53 = .inl (cI, 300, .inl (fun _ => 0))) (h54 : val 54 = .inl (cI, 300, .inl (upd (fun _ => 0) (Int32.toNatClampNeg 0) 0))) (h55 : val 55 = .inl (cI, 300, .inl (upd (fun _ => 0) (Int32.toNatClampNeg 0) (-1))))  : kM l y_M_add (Cond.code y_M_add b_M_add 4 (some FieldType.int) :: TT) (rmL 1) D CL (TY cI cB cZ cJ cN) A [.ref (loc 48), .int ki, .int v0] (dom) loc val (fun rv d lo va kc ns => rv = some (.int 1) ∧ dom = d ∧ loc = lo ∧ va_up (va_up (va_up (va_up (va_up (va_up (va_up (va_up (va_up (val) 49 (.inl (cI, 300, .inl (upd (upd (fun _ => 0) (Int32.toNatClampNeg 0) 11) (Int32.toNatClampNeg 1) ki)))) 50 (.inl (cI, 300, .inl (upd (upd (fun _ => 0) (Int32.toNatClampNeg 0) (-1)) (Int32.toNatClampNeg 1) 0)))) 51 (.inl (cI, 300, .inl (upd (upd (fun _ => 0) (Int32.toNatClampNeg 0) 0) (Int32.toNatClampNeg 1) v0)))) 52 (.inl (cI, 300, .inl (upd (upd (fun _ => 0) (Int32.toNatClampNeg 0) 1) (Int32.toNatClampNeg 1) 2)))) 53 (.inl (cI, 300, .inl (upd (fun _ => 0) (Int32.toNatClampNeg 1) 0)))) 54 (.inl (cI, 300, .inl (upd (upd (fun _ => 0) (Int32.toNatClampNeg 0) 0) (Int32.toNatClampNeg 1) 0)))) 55 (.inl (cI, 300, .inl (upd (upd (fun _ => 0) (Int32.toNatClampNeg 0) (-1)) (Int32.toNatClampNeg 1) (-1))))) 55 (.inl (cI, 300, .inl (upd (upd (upd (fun _ => 0) (Int32.toNatClampNeg 0) (-1)) (Int32.toNatClampNeg 1) (-1)) (Int32.toNatClampNeg 0) 1)))) 48 (.inr (5, [.int 0, .ref (loc 49), .ref (loc 50), .ref (loc 51), .ref (loc 52), .ref (loc 53), .ref (loc 54), .ref (loc 55), .ref (loc 56), .int 2, .int 0, .int 0, .ref (loc 57), .ref (loc 58), .ref (loc 59), .ref (loc 60), .ref (loc 61), .ref (loc 62), .int 0, .int 0, .int 0, .int 0, .int 0, .int 0, .ref (loc 63), .ref (loc 64), .ref (loc 65), .ref (loc 66), .ref (loc 67), .ref (loc 68), .ref (loc 69), .ref (loc 70), .ref (loc 71), .ref (loc 72), .int 0, .ref (loc 73), .ref (loc 74), .ref (loc 75), .int 0, .int 0, .int 0, .int 0, .int 0, .int 0, .int 0])) = va ∧ kc = 0 ∧ ns = 0) := by
  refine kM_of (lv0 := [some (.ref (loc 48)), some (.int ki), some (.int v0), none]) (own := "ProsePagesModel") (by decide) rfl (List.forall_mem_cons.mpr ⟨rfl, List.forall_mem_cons.mpr ⟨rfl, List.forall_mem_cons.mpr ⟨rfl, fun _ h => nomatch h⟩⟩⟩) (Nat.le_of_ble_eq_true rfl) rfl (Nat.le_of_ble_eq_true rfl) (fun X hl hX hE hin0 => ?_)
  refine v_aload_n hX d_M_add_0 rfl rfl ?_
  refine v_get hX 48 (v := .int 1) inT5 (hd 48 rfl) rfl h48 rfl 9 (by decide) k_594 rfl rfl d_M_add_1 ?_
  refine v_istore_n (lv' := [some (.ref (loc 48)), some (.int ki), some (.int v0), some (.int 1)]) hX d_M_add_4 rfl (Nat.le_of_ble_eq_true rfl) rfl ?_
  refine v_aload_n hX d_M_add_5 rfl rfl ?_
  refine v_get hX 48 (v := .ref (loc 49)) inT5 (hd 48 rfl) rfl h48 rfl 1 (by decide) k_586 rfl rfl d_M_add_6 ?_
  refine v_iload_n hX d_M_add_9 rfl rfl ?_
  refine v_iload_n hX d_M_add_10 rfl rfl ?_
  refine v_iast hX 49 0 (hd 49 rfl) rfl h49 rfl (vpb (by decide)) d_M_add_11 ?_
  refine v_aload_n hX d_M_add_12 rfl rfl ?_
  refine v_get hX 48 (v := .ref (loc 50)) inT5 (hd 48 rfl) rfl h48 rfl 2 (by decide) k_587 rfl rfl d_M_add_13 ?_
  refine v_iload_n hX d_M_add_16 rfl rfl ?_
  refine v_aload_n hX d_M_add_17 rfl rfl ?_
  refine v_get hX 48 (v := .int 0) inT5 (hd 48 rfl) rfl h48 rfl 11 (by decide) k_596 rfl rfl d_M_add_18 ?_
  refine v_iast hX 50 0 (hd 50 rfl) rfl h50 rfl (vpb (by decide)) d_M_add_21 ?_
  refine v_aload_n hX d_M_add_22 rfl rfl ?_
  refine v_get hX 48 (v := .ref (loc 51)) inT5 (hd 48 rfl) rfl h48 rfl 3 (by decide) k_588 rfl rfl d_M_add_23 ?_
  refine v_iload_n hX d_M_add_26 rfl rfl ?_
  refine v_iload_n hX d_M_add_27 rfl rfl ?_
  refine v_iast hX 51 0 (hd 51 rfl) rfl h51 rfl (vpb (by decide)) d_M_add_28 ?_
  refine v_aload_n hX d_M_add_29 rfl rfl ?_
  refine v_get hX 48 (v := .ref (loc 52)) inT5 (hd 48 rfl) rfl h48 rfl 4 (by decide) k_589 rfl rfl d_M_add_30 ?_
  refine v_iload_n hX d_M_add_33 rfl rfl ?_
  refine v_aload_n hX d_M_add_34 rfl rfl ?_
  refine v_get hX 48 (v := .ref (loc 52)) inT5 (hd 48 rfl) rfl h48 rfl 4 (by decide) k_589 rfl rfl d_M_add_35 ?_
  refine v_aload_n hX d_M_add_38 rfl rfl ?_
  refine v_get hX 48 (v := .int 0) inT5 (hd 48 rfl) rfl h48 rfl 11 (by decide) k_596 rfl rfl d_M_add_39 ?_
  refine v_iald hX 52 0 (v := 1) (hd 52 rfl) rfl h52 rfl (vpb (by decide)) (by first | rfl | decide) d_M_add_42 ?_
  refine v_iconst (v := 1) hX d_M_add_43 (by decide) ?_
  refine v_iaddE (v := 2) hX d_M_add_44 (by decide) ?_
  refine v_iast hX 52 0 (hd 52 rfl) rfl h52 rfl (vpb (by decide)) d_M_add_45 ?_
  refine v_aload_n hX d_M_add_46 rfl rfl ?_
  refine v_get hX 48 (v := .ref (loc 53)) inT5 (hd 48 rfl) rfl h48 rfl 5 (by decide) k_590 rfl rfl d_M_add_47 ?_
  refine v_iload_n hX d_M_add_50 rfl rfl ?_
  refine v_aload_n hX d_M_add_51 rfl rfl ?_
  refine v_get hX 48 (v := .int 0) inT5 (hd 48 rfl) rfl h48 rfl 10 (by decide) k_595 rfl rfl d_M_add_52 ?_
  refine v_iast hX 53 0 (hd 53 rfl) rfl h53 rfl (vpb (by decide)) d_M_add_55 ?_
  refine v_aload_n hX d_M_add_56 rfl rfl ?_
  refine v_get hX 48 (v := .ref (loc 54)) inT5 (hd 48 rfl) rfl h48 rfl 6 (by decide) k_591 rfl rfl d_M_add_57 ?_
  refine v_iload_n hX d_M_add_60 rfl rfl ?_
  refine v_iconst (v := 0) hX d_M_add_61 (by decide) ?_
  refine v_iast hX 54 0 (hd 54 rfl) rfl h54 rfl (vpb (by decide)) d_M_add_62 ?_
  refine v_aload_n hX d_M_add_63 rfl rfl ?_
  refine v_get hX 48 (v := .ref (loc 55)) inT5 (hd 48 rfl) rfl h48 rfl 7 (by decide) k_592 rfl rfl d_M_add_64 ?_
  refine v_iload_n hX d_M_add_67 rfl rfl ?_
  refine v_iconst (v := (-1)) hX d_M_add_68 (by decide) ?_
  refine v_iast hX 55 0 (hd 55 rfl) rfl h55 rfl (vpb (by decide)) d_M_add_69 ?_
  refine v_aload_n hX d_M_add_70 rfl rfl ?_
  refine v_get hX 48 (v := .ref (loc 55)) inT5 (hd 48 rfl) rfl h48 rfl 7 (by decide) k_592 rfl rfl d_M_add_71 ?_
  refine v_aload_n hX d_M_add_74 rfl rfl ?_
  refine v_get hX 48 (v := .int 0) inT5 (hd 48 rfl) rfl h48 rfl 11 (by decide) k_596 rfl rfl d_M_add_75 ?_
  refine v_iload_n hX d_M_add_78 rfl rfl ?_
  refine v_iast hX 55 0 (hd 55 rfl) rfl rfl rfl (vpb (by decide)) d_M_add_79 ?_
  refine v_aload_n hX d_M_add_80 rfl rfl ?_
  refine v_dup hX d_M_add_81 rfl ?_
  refine v_get hX 48 (v := .int 1) inT5 (hd 48 rfl) rfl h48 rfl 9 (by decide) k_594 rfl rfl d_M_add_82 ?_
  refine v_iconst (v := 1) hX d_M_add_85 (by decide) ?_
  refine v_iaddE (v := 2) hX d_M_add_86 (by decide) ?_
  refine v_putE hX 48 (fs2 := [.int 0, .ref (loc 49), .ref (loc 50), .ref (loc 51), .ref (loc 52), .ref (loc 53), .ref (loc 54), .ref (loc 55), .ref (loc 56), .int 2, .int 0, .int 0, .ref (loc 57), .ref (loc 58), .ref (loc 59), .ref (loc 60), .ref (loc 61), .ref (loc 62), .int 0, .int 0, .int 0, .int 0, .int 0, .int 0, .ref (loc 63), .ref (loc 64), .ref (loc 65), .ref (loc 66), .ref (loc 67), .ref (loc 68), .ref (loc 69), .ref (loc 70), .ref (loc 71), .ref (loc 72), .int 0, .ref (loc 73), .ref (loc 74), .ref (loc 75), .int 0, .int 0, .int 0, .int 0, .int 0, .int 0, .int 0]) inT5 tyX5 tyX5_ok nmX5 (hd 48 rfl) rfl h48 rfl 9 (by decide) k_594 rfl rfl rfl rfl rfl (Nat.le_of_ble_eq_true rfl) d_M_add_87 rfl ?_
  refine v_iload_n hX d_M_add_90 rfl rfl ?_
  exact v_iret hX hE d_M_add_91 (Nat.le_of_ble_eq_true rfl) (Nat.le_of_ble_eq_true rfl) ⟨rfl, rfl, rfl, rfl, rfl, rfl⟩
set_option maxHeartbeats 4000000 in
set_option maxRecDepth 100000 in
theorem c_M_end {l : Launch} {D : va_G} {A : Nat → Prop} {cI cB cZ cJ cN : ClassId} {dom : Nat → Prop} (hd : ∀ k, (Nat.ble 48 k && Nat.ble (k + 1) 77) = true → dom k) {loc : Nat → Nat} {val : Nat → va_E} (hm : ∀ k, (Nat.ble 48 k && Nat.ble (k + 1) 76) = true → val k = mcell cI cB cZ loc k)  : kM l y_M_end (Cond.code y_M_end b_M_end 1 (some FieldType.int) :: TT) (rmL 1) D CL (TY cI cB cZ cJ cN) A [.ref (loc 48)] (dom) loc val (fun rv d lo va kc ns => rv = some (.int (-1)) ∧ (∃ xs9, va 48 = .inr (5, .int 0 :: xs9)) ∧ keepO loc val d lo va ∧ kc = 0 ∧ ns = 0) := by
  refine kM_of (lv0 := [some (.ref (loc 48))]) (own := "ProsePagesModel") (by decide) rfl (List.forall_mem_cons.mpr ⟨rfl, fun _ h => nomatch h⟩) (Nat.le_of_ble_eq_true rfl) rfl (Nat.le_of_ble_eq_true rfl) (fun X hl hX hE hin0 => ?_)
  refine v_aload_n hX d_M_end_0 rfl rfl ?_
  refine v_iconst (v := 0) hX d_M_end_1 (by decide) ?_
  refine v_putE hX 48 (fs2 := [.int 0, .ref (loc 49), .ref (loc 50), .ref (loc 51), .ref (loc 52), .ref (loc 53), .ref (loc 54), .ref (loc 55), .ref (loc 56), .int 1, .int 0, .int 0, .ref (loc 57), .ref (loc 58), .ref (loc 59), .ref (loc 60), .ref (loc 61), .ref (loc 62), .int 0, .int 0, .int 0, .int 0, .int 0, .int 0, .ref (loc 63), .ref (loc 64), .ref (loc 65), .ref (loc 66), .ref (loc 67), .ref (loc 68), .ref (loc 69), .ref (loc 70), .ref (loc 71), .ref (loc 72), .int 0, .ref (loc 73), .ref (loc 74), .ref (loc 75), .int 0, .int 0, .int 0, .int 0, .int 0, .int 0, .int 0]) inT5 tyX5 tyX5_ok nmX5 (hd 48 rfl) rfl (hm 48 rfl) rfl 0 (by decide) k_585 rfl rfl rfl rfl rfl (Nat.le_of_ble_eq_true rfl) d_M_end_2 rfl ?_
  refine v_aload_n hX d_M_end_5 rfl rfl ?_
  refine v_get hX 48 (v := .int 0) inT5 (hd 48 rfl) rfl rfl rfl 11 (by decide) k_596 rfl rfl d_M_end_6 ?_
  refine v_if_ne hX d_M_end_9 (tgt := 14) (by decide) (fun c => absurd (by decide) c) (fun _ => ?_)
  refine v_iconst (v := (-1)) hX d_M_end_12 (by decide) ?_
  exact v_iret hX hE d_M_end_13 (Nat.le_of_ble_eq_true rfl) (Nat.le_of_ble_eq_true rfl) ⟨rfl, ⟨_, rfl⟩, ⟨hd 48 rfl, rfl, hd 76 rfl, rfl, rfl⟩, rfl, rfl⟩
