set_option maxHeartbeats 4000000 in
set_option maxRecDepth 100000 in
theorem c_P_find_neg {l : Launch} {D : va_G} {A : Nat → Prop} {cI cB cZ cJ cN : ClassId} {loc : Nat → Nat} {val : Nat → va_E} (hv : ∀ k, Nat.ble (k + 1) 48 = true → val k = pcell cI cN loc k) (x : Int32) (h : x < 0) : kM l y_P_find (Cond.code y_P_find b_P_find 3 (some FieldType.int) :: TT) (rmL 2) D CL (TY cI cB cZ cJ cN) A [.ref (loc 0), .int x] (kd 77) loc val (fun rv d lo va kc ns => rv = some (.int (-1)) ∧ keepM loc val d lo va ∧ kc = 0 ∧ ns = 0) := by
  refine kM_of (lv0 := [some (.ref (loc 0)), some (.int x), none]) (own := "ProsePages") (by decide) rfl (List.forall_mem_cons.mpr ⟨rfl, List.forall_mem_cons.mpr ⟨rfl, fun _ h => nomatch h⟩⟩) (Nat.le_of_ble_eq_true rfl) rfl (Nat.le_of_ble_eq_true rfl) (fun X hl hX hE hin0 => ?_)
  refine v_aload_n hX d_P_find_0 rfl rfl ?_
  refine v_iload_n hX d_P_find_1 rfl rfl ?_
  refine c_V hX 0 (rest := []) hl (c_P_nodeAt_neg hv x h) k_250 k_252 kp_0 k_1 k_253 rfl q_P_nodeAt ⟨(Nat.le_of_ble_eq_true rfl), (Nat.le_of_ble_eq_true rfl)⟩ (kd_b rfl) rfl (hv 0 rfl) rfl rfl rfl rfl (Nat.le_of_ble_eq_true rfl) d_P_find_2 ⟨(Nat.le_of_ble_eq_true rfl), (Nat.le_of_ble_eq_true rfl)⟩ (fun rv d2 lo2 va2 kc ns hp => ?_)
  obtain ⟨rfl, rfl, rfl, rfl, rfl, rfl⟩ := hp
  show V X D CL A _ _ _ _ _ _ _ (.null :: [])
  refine v_astore_nQ (lv' := [some (.ref (loc 0)), some (.int x), some (.null)]) hX none d_P_find_5 rfl (Nat.le_of_ble_eq_true rfl) rfl ?_
  refine v_aload_nQ hX none d_P_find_6 rfl rfl ?_
  refine v_ifnull hX none d_P_find_7 (tgt := 17) (by decide) (fun _ => ?_) (fun _ h => nomatch h)
  refine v_iconst (v := (-1)) hX d_P_find_17 (by decide) ?_
  refine v_goto hX d_P_find_18 (tgt := 25) (by decide) ?_
  exact v_iret hX hE d_P_find_25 (Nat.le_of_ble_eq_true rfl) (Nat.le_of_ble_eq_true rfl) ⟨rfl, keepM.rf, rfl, rfl⟩
set_option maxHeartbeats 4000000 in
set_option maxRecDepth 100000 in
theorem c_P_node_neg {l : Launch} {D : va_G} {A : Nat → Prop} {cI cB cZ cJ cN : ClassId} {loc : Nat → Nat} {val : Nat → va_E} (hv : ∀ k, Nat.ble (k + 1) 48 = true → val k = pcell cI cN loc k) (x : Int32) (h : x < 0) (y : Int32) : kM l y_P_node (Cond.code y_P_node b_P_node 4 (some FieldType.int) :: TT) (rmL 2) D CL (TY cI cB cZ cJ cN) A [.ref (loc 0), .int x, .int y] (kd 77) loc val (fun rv d lo va kc ns => rv = some (.int (-1)) ∧ keepM loc val d lo va ∧ kc = 0 ∧ ns = 0) := by
  refine kM_of (lv0 := [some (.ref (loc 0)), some (.int x), some (.int y), none]) (own := "ProsePages") (by decide) rfl (List.forall_mem_cons.mpr ⟨rfl, List.forall_mem_cons.mpr ⟨rfl, List.forall_mem_cons.mpr ⟨rfl, fun _ h => nomatch h⟩⟩⟩) (Nat.le_of_ble_eq_true rfl) rfl (Nat.le_of_ble_eq_true rfl) (fun X hl hX hE hin0 => ?_)
  refine v_aload_n hX d_P_node_0 rfl rfl ?_
  refine v_iload_n hX d_P_node_1 rfl rfl ?_
  refine c_V hX 0 (rest := []) hl (c_P_nodeAt_neg hv x h) k_250 k_252 kp_0 k_1 k_253 rfl q_P_nodeAt ⟨(Nat.le_of_ble_eq_true rfl), (Nat.le_of_ble_eq_true rfl)⟩ (kd_b rfl) rfl (hv 0 rfl) rfl rfl rfl rfl (Nat.le_of_ble_eq_true rfl) d_P_node_2 ⟨(Nat.le_of_ble_eq_true rfl), (Nat.le_of_ble_eq_true rfl)⟩ (fun rv d2 lo2 va2 kc ns hp => ?_)
  obtain ⟨rfl, rfl, rfl, rfl, rfl, rfl⟩ := hp
  show V X D CL A _ _ _ _ _ _ _ (.null :: [])
  refine v_astore_nQ (lv' := [some (.ref (loc 0)), some (.int x), some (.int y), some (.null)]) hX none d_P_node_5 rfl (Nat.le_of_ble_eq_true rfl) rfl ?_
  refine v_aload_nQ hX none d_P_node_6 rfl rfl ?_
  refine v_ifnonnull hX none d_P_node_7 (tgt := 12) (by decide) (fun _ h => nomatch h) (fun _ => ?_)
  refine v_iconst (v := (-1)) hX d_P_node_10 (by decide) ?_
  exact v_iret hX hE d_P_node_11 (Nat.le_of_ble_eq_true rfl) (Nat.le_of_ble_eq_true rfl) ⟨rfl, keepM.rf, rfl, rfl⟩
set_option maxHeartbeats 4000000 in
set_option maxRecDepth 100000 in
theorem c_P_find_ge {l : Launch} {D : va_G} {A : Nat → Prop} {cI cB cZ cJ cN : ClassId} {loc : Nat → Nat} {val : Nat → va_E} (hv : ∀ k, Nat.ble (k + 1) 48 = true → val k = pcell cI cN loc k) (x : Int32) (h0 : ¬ x < 0) (h : 1 ≤ x) : kM l y_P_find (Cond.code y_P_find b_P_find 3 (some FieldType.int) :: TT) (rmL 2) D CL (TY cI cB cZ cJ cN) A [.ref (loc 0), .int x] (kd 77) loc val (fun rv d lo va kc ns => rv = some (.int (-1)) ∧ keepM loc val d lo va ∧ kc = 0 ∧ ns = 0) := by
  refine kM_of (lv0 := [some (.ref (loc 0)), some (.int x), none]) (own := "ProsePages") (by decide) rfl (List.forall_mem_cons.mpr ⟨rfl, List.forall_mem_cons.mpr ⟨rfl, fun _ h => nomatch h⟩⟩) (Nat.le_of_ble_eq_true rfl) rfl (Nat.le_of_ble_eq_true rfl) (fun X hl hX hE hin0 => ?_)
  refine v_aload_n hX d_P_find_0 rfl rfl ?_
  refine v_iload_n hX d_P_find_1 rfl rfl ?_
  refine c_V hX 0 (rest := []) hl (c_P_nodeAt_ge hv x h0 h) k_250 k_252 kp_0 k_1 k_253 rfl q_P_nodeAt ⟨(Nat.le_of_ble_eq_true rfl), (Nat.le_of_ble_eq_true rfl)⟩ (kd_b rfl) rfl (hv 0 rfl) rfl rfl rfl rfl (Nat.le_of_ble_eq_true rfl) d_P_find_2 ⟨(Nat.le_of_ble_eq_true rfl), (Nat.le_of_ble_eq_true rfl)⟩ (fun rv d2 lo2 va2 kc ns hp => ?_)
  obtain ⟨rfl, rfl, rfl, rfl, rfl, rfl⟩ := hp
  show V X D CL A _ _ _ _ _ _ _ (.null :: [])
  refine v_astore_nQ (lv' := [some (.ref (loc 0)), some (.int x), some (.null)]) hX none d_P_find_5 rfl (Nat.le_of_ble_eq_true rfl) rfl ?_
  refine v_aload_nQ hX none d_P_find_6 rfl rfl ?_
  refine v_ifnull hX none d_P_find_7 (tgt := 17) (by decide) (fun _ => ?_) (fun _ h => nomatch h)
  refine v_iconst (v := (-1)) hX d_P_find_17 (by decide) ?_
  refine v_goto hX d_P_find_18 (tgt := 25) (by decide) ?_
  exact v_iret hX hE d_P_find_25 (Nat.le_of_ble_eq_true rfl) (Nat.le_of_ble_eq_true rfl) ⟨rfl, keepM.rf, rfl, rfl⟩
set_option maxHeartbeats 4000000 in
set_option maxRecDepth 100000 in
theorem c_P_node_ge {l : Launch} {D : va_G} {A : Nat → Prop} {cI cB cZ cJ cN : ClassId} {loc : Nat → Nat} {val : Nat → va_E} (hv : ∀ k, Nat.ble (k + 1) 48 = true → val k = pcell cI cN loc k) (x : Int32) (h0 : ¬ x < 0) (h : 1 ≤ x) (y : Int32) : kM l y_P_node (Cond.code y_P_node b_P_node 4 (some FieldType.int) :: TT) (rmL 2) D CL (TY cI cB cZ cJ cN) A [.ref (loc 0), .int x, .int y] (kd 77) loc val (fun rv d lo va kc ns => rv = some (.int (-1)) ∧ keepM loc val d lo va ∧ kc = 0 ∧ ns = 0) := by
  refine kM_of (lv0 := [some (.ref (loc 0)), some (.int x), some (.int y), none]) (own := "ProsePages") (by decide) rfl (List.forall_mem_cons.mpr ⟨rfl, List.forall_mem_cons.mpr ⟨rfl, List.forall_mem_cons.mpr ⟨rfl, fun _ h => nomatch h⟩⟩⟩) (Nat.le_of_ble_eq_true rfl) rfl (Nat.le_of_ble_eq_true rfl) (fun X hl hX hE hin0 => ?_)
  refine v_aload_n hX d_P_node_0 rfl rfl ?_
  refine v_iload_n hX d_P_node_1 rfl rfl ?_
  refine c_V hX 0 (rest := []) hl (c_P_nodeAt_ge hv x h0 h) k_250 k_252 kp_0 k_1 k_253 rfl q_P_nodeAt ⟨(Nat.le_of_ble_eq_true rfl), (Nat.le_of_ble_eq_true rfl)⟩ (kd_b rfl) rfl (hv 0 rfl) rfl rfl rfl rfl (Nat.le_of_ble_eq_true rfl) d_P_node_2 ⟨(Nat.le_of_ble_eq_true rfl), (Nat.le_of_ble_eq_true rfl)⟩ (fun rv d2 lo2 va2 kc ns hp => ?_)
  obtain ⟨rfl, rfl, rfl, rfl, rfl, rfl⟩ := hp
  show V X D CL A _ _ _ _ _ _ _ (.null :: [])
  refine v_astore_nQ (lv' := [some (.ref (loc 0)), some (.int x), some (.int y), some (.null)]) hX none d_P_node_5 rfl (Nat.le_of_ble_eq_true rfl) rfl ?_
  refine v_aload_nQ hX none d_P_node_6 rfl rfl ?_
  refine v_ifnonnull hX none d_P_node_7 (tgt := 12) (by decide) (fun _ h => nomatch h) (fun _ => ?_)
  refine v_iconst (v := (-1)) hX d_P_node_10 (by decide) ?_
  exact v_iret hX hE d_P_node_11 (Nat.le_of_ble_eq_true rfl) (Nat.le_of_ble_eq_true rfl) ⟨rfl, keepM.rf, rfl, rfl⟩
set_option maxHeartbeats 4000000 in
set_option maxRecDepth 100000 in
theorem c_P_find_0 {l : Launch} {D : va_G} {A : Nat → Prop} {cI cB cZ cJ cN : ClassId} {loc : Nat → Nat} {val : Nat → va_E} (hv : ∀ k, Nat.ble (k + 1) 48 = true → val k = pcell cI cN loc k)  : kM l y_P_find (Cond.code y_P_find b_P_find 3 (some FieldType.int) :: TT) (rmL 2) D CL (TY cI cB cZ cJ cN) A [.ref (loc 0), .int 0] (kd 77) loc val (fun rv d lo va kc ns => rv = some (.int (-1)) ∧ keepM loc val d lo va ∧ kc = 0 ∧ ns = 0) := by
  refine kM_of (lv0 := [some (.ref (loc 0)), some (.int 0), none]) (own := "ProsePages") (by decide) rfl (List.forall_mem_cons.mpr ⟨rfl, List.forall_mem_cons.mpr ⟨rfl, fun _ h => nomatch h⟩⟩) (Nat.le_of_ble_eq_true rfl) rfl (Nat.le_of_ble_eq_true rfl) (fun X hl hX hE hin0 => ?_)
  refine v_aload_n hX d_P_find_0 rfl rfl ?_
  refine v_iload_n hX d_P_find_1 rfl rfl ?_
  refine c_V hX 0 (rest := []) hl (c_P_nodeAt_0 hv) k_250 k_252 kp_0 k_1 k_253 rfl q_P_nodeAt ⟨(Nat.le_of_ble_eq_true rfl), (Nat.le_of_ble_eq_true rfl)⟩ (kd_b rfl) rfl (hv 0 rfl) rfl rfl rfl rfl (Nat.le_of_ble_eq_true rfl) d_P_find_2 ⟨(Nat.le_of_ble_eq_true rfl), (Nat.le_of_ble_eq_true rfl)⟩ (fun rv d2 lo2 va2 kc ns hp => ?_)
  obtain ⟨rfl, rfl, rfl, rfl, rfl, rfl⟩ := hp
  show V X D CL A _ _ _ _ _ _ _ (.ref (loc 47) :: [])
  refine v_astore_n (lv' := [some (.ref (loc 0)), some (.int 0), some (.ref (loc 47))]) hX d_P_find_5 rfl (Nat.le_of_ble_eq_true rfl) rfl ?_
  refine v_aload_n hX d_P_find_6 rfl rfl ?_
  refine v_ifnull hX (some (loc 47)) d_P_find_7 (tgt := 17) (by decide) (fun h => nomatch h) (fun _ _ => ?_)
  refine v_aload_n hX d_P_find_10 rfl rfl ?_
  refine v_get hX 0 (v := .int 0) inT4 (kd_b rfl) rfl (hv 0 rfl) rfl 7 (by decide) k_182 rfl rfl d_P_find_11 ?_
  refine v_if_ne hX d_P_find_14 (tgt := 21) (by decide) (fun c => absurd (by decide) c) (fun _ => ?_)
  refine v_iconst (v := (-1)) hX d_P_find_17 (by decide) ?_
  refine v_goto hX d_P_find_18 (tgt := 25) (by decide) ?_
  exact v_iret hX hE d_P_find_25 (Nat.le_of_ble_eq_true rfl) (Nat.le_of_ble_eq_true rfl) ⟨rfl, keepM.rf, rfl, rfl⟩
set_option maxHeartbeats 4000000 in
set_option maxRecDepth 100000 in
theorem c_P_node_0_0 {l : Launch} {D : va_G} {A : Nat → Prop} {cI cB cZ cJ cN : ClassId} {loc : Nat → Nat} {val : Nat → va_E} (hv : ∀ k, Nat.ble (k + 1) 48 = true → val k = pcell cI cN loc k)  : kM l y_P_node (Cond.code y_P_node b_P_node 4 (some FieldType.int) :: TT) (rmL 2) D CL (TY cI cB cZ cJ cN) A [.ref (loc 0), .int 0, .int 0] (kd 77) loc val (fun rv d lo va kc ns => rv = some (.int (-1)) ∧ keepM loc val d lo va ∧ kc = 0 ∧ ns = 0) := by
  refine kM_of (lv0 := [some (.ref (loc 0)), some (.int 0), some (.int 0), none]) (own := "ProsePages") (by decide) rfl (List.forall_mem_cons.mpr ⟨rfl, List.forall_mem_cons.mpr ⟨rfl, List.forall_mem_cons.mpr ⟨rfl, fun _ h => nomatch h⟩⟩⟩) (Nat.le_of_ble_eq_true rfl) rfl (Nat.le_of_ble_eq_true rfl) (fun X hl hX hE hin0 => ?_)
  refine v_aload_n hX d_P_node_0 rfl rfl ?_
  refine v_iload_n hX d_P_node_1 rfl rfl ?_
  refine c_V hX 0 (rest := []) hl (c_P_nodeAt_0 hv) k_250 k_252 kp_0 k_1 k_253 rfl q_P_nodeAt ⟨(Nat.le_of_ble_eq_true rfl), (Nat.le_of_ble_eq_true rfl)⟩ (kd_b rfl) rfl (hv 0 rfl) rfl rfl rfl rfl (Nat.le_of_ble_eq_true rfl) d_P_node_2 ⟨(Nat.le_of_ble_eq_true rfl), (Nat.le_of_ble_eq_true rfl)⟩ (fun rv d2 lo2 va2 kc ns hp => ?_)
  obtain ⟨rfl, rfl, rfl, rfl, rfl, rfl⟩ := hp
  show V X D CL A _ _ _ _ _ _ _ (.ref (loc 47) :: [])
  refine v_astore_n (lv' := [some (.ref (loc 0)), some (.int 0), some (.int 0), some (.ref (loc 47))]) hX d_P_node_5 rfl (Nat.le_of_ble_eq_true rfl) rfl ?_
  refine v_aload_n hX d_P_node_6 rfl rfl ?_
  refine v_ifnonnull hX (some (loc 47)) d_P_node_7 (tgt := 12) (by decide) (fun _ _ => ?_) (fun h => nomatch h)
  refine v_iload_n hX d_P_node_12 rfl rfl ?_
  refine v_tableIn hX d_P_node_13 (tgt := 40) (by decide) (by decide) (off := 27) (by decide) (by decide) ?_
  refine v_aload_n hX d_P_node_40 rfl rfl ?_
  refine v_get hX 47 (v := .int (-1)) inT0 (kd_b rfl) rfl (hv 47 rfl) rfl 1 (by decide) k_128 rfl rfl d_P_node_41 ?_
  exact v_iret hX hE d_P_node_44 (Nat.le_of_ble_eq_true rfl) (Nat.le_of_ble_eq_true rfl) ⟨rfl, keepM.rf, rfl, rfl⟩
set_option maxHeartbeats 4000000 in
set_option maxRecDepth 100000 in
theorem c_P_node_0_1 {l : Launch} {D : va_G} {A : Nat → Prop} {cI cB cZ cJ cN : ClassId} {loc : Nat → Nat} {val : Nat → va_E} (hv : ∀ k, Nat.ble (k + 1) 48 = true → val k = pcell cI cN loc k)  : kM l y_P_node (Cond.code y_P_node b_P_node 4 (some FieldType.int) :: TT) (rmL 2) D CL (TY cI cB cZ cJ cN) A [.ref (loc 0), .int 0, .int 1] (kd 77) loc val (fun rv d lo va kc ns => rv = some (.int (-1)) ∧ keepM loc val d lo va ∧ kc = 0 ∧ ns = 0) := by
  refine kM_of (lv0 := [some (.ref (loc 0)), some (.int 0), some (.int 1), none]) (own := "ProsePages") (by decide) rfl (List.forall_mem_cons.mpr ⟨rfl, List.forall_mem_cons.mpr ⟨rfl, List.forall_mem_cons.mpr ⟨rfl, fun _ h => nomatch h⟩⟩⟩) (Nat.le_of_ble_eq_true rfl) rfl (Nat.le_of_ble_eq_true rfl) (fun X hl hX hE hin0 => ?_)
  refine v_aload_n hX d_P_node_0 rfl rfl ?_
  refine v_iload_n hX d_P_node_1 rfl rfl ?_
  refine c_V hX 0 (rest := []) hl (c_P_nodeAt_0 hv) k_250 k_252 kp_0 k_1 k_253 rfl q_P_nodeAt ⟨(Nat.le_of_ble_eq_true rfl), (Nat.le_of_ble_eq_true rfl)⟩ (kd_b rfl) rfl (hv 0 rfl) rfl rfl rfl rfl (Nat.le_of_ble_eq_true rfl) d_P_node_2 ⟨(Nat.le_of_ble_eq_true rfl), (Nat.le_of_ble_eq_true rfl)⟩ (fun rv d2 lo2 va2 kc ns hp => ?_)
  obtain ⟨rfl, rfl, rfl, rfl, rfl, rfl⟩ := hp
  show V X D CL A _ _ _ _ _ _ _ (.ref (loc 47) :: [])
  refine v_astore_n (lv' := [some (.ref (loc 0)), some (.int 0), some (.int 1), some (.ref (loc 47))]) hX d_P_node_5 rfl (Nat.le_of_ble_eq_true rfl) rfl ?_
  refine v_aload_n hX d_P_node_6 rfl rfl ?_
  refine v_ifnonnull hX (some (loc 47)) d_P_node_7 (tgt := 12) (by decide) (fun _ _ => ?_) (fun h => nomatch h)
  refine v_iload_n hX d_P_node_12 rfl rfl ?_
  refine v_tableIn hX d_P_node_13 (tgt := 45) (by decide) (by decide) (off := 32) (by decide) (by decide) ?_
  refine v_aload_n hX d_P_node_45 rfl rfl ?_
  refine v_get hX 47 (v := .null) inT0 (kd_b rfl) rfl (hv 47 rfl) rfl 2 (by decide) k_130 rfl rfl d_P_node_46 ?_
  refine v_ifnonnull hX none d_P_node_49 (tgt := 56) (by decide) (fun _ h => nomatch h) (fun _ => ?_)
  refine v_iconst (v := (-1)) hX d_P_node_52 (by decide) ?_
  refine v_goto hX d_P_node_53 (tgt := 63) (by decide) ?_
  exact v_iret hX hE d_P_node_63 (Nat.le_of_ble_eq_true rfl) (Nat.le_of_ble_eq_true rfl) ⟨rfl, keepM.rf, rfl, rfl⟩
set_option maxHeartbeats 4000000 in
set_option maxRecDepth 100000 in
theorem c_P_node_0_2 {l : Launch} {D : va_G} {A : Nat → Prop} {cI cB cZ cJ cN : ClassId} {loc : Nat → Nat} {val : Nat → va_E} (hv : ∀ k, Nat.ble (k + 1) 48 = true → val k = pcell cI cN loc k)  : kM l y_P_node (Cond.code y_P_node b_P_node 4 (some FieldType.int) :: TT) (rmL 2) D CL (TY cI cB cZ cJ cN) A [.ref (loc 0), .int 0, .int 2] (kd 77) loc val (fun rv d lo va kc ns => rv = some (.int 0) ∧ keepM loc val d lo va ∧ kc = 0 ∧ ns = 0) := by
  refine kM_of (lv0 := [some (.ref (loc 0)), some (.int 0), some (.int 2), none]) (own := "ProsePages") (by decide) rfl (List.forall_mem_cons.mpr ⟨rfl, List.forall_mem_cons.mpr ⟨rfl, List.forall_mem_cons.mpr ⟨rfl, fun _ h => nomatch h⟩⟩⟩) (Nat.le_of_ble_eq_true rfl) rfl (Nat.le_of_ble_eq_true rfl) (fun X hl hX hE hin0 => ?_)
  refine v_aload_n hX d_P_node_0 rfl rfl ?_
  refine v_iload_n hX d_P_node_1 rfl rfl ?_
  refine c_V hX 0 (rest := []) hl (c_P_nodeAt_0 hv) k_250 k_252 kp_0 k_1 k_253 rfl q_P_nodeAt ⟨(Nat.le_of_ble_eq_true rfl), (Nat.le_of_ble_eq_true rfl)⟩ (kd_b rfl) rfl (hv 0 rfl) rfl rfl rfl rfl (Nat.le_of_ble_eq_true rfl) d_P_node_2 ⟨(Nat.le_of_ble_eq_true rfl), (Nat.le_of_ble_eq_true rfl)⟩ (fun rv d2 lo2 va2 kc ns hp => ?_)
  obtain ⟨rfl, rfl, rfl, rfl, rfl, rfl⟩ := hp
  show V X D CL A _ _ _ _ _ _ _ (.ref (loc 47) :: [])
  refine v_astore_n (lv' := [some (.ref (loc 0)), some (.int 0), some (.int 2), some (.ref (loc 47))]) hX d_P_node_5 rfl (Nat.le_of_ble_eq_true rfl) rfl ?_
  refine v_aload_n hX d_P_node_6 rfl rfl ?_
  refine v_ifnonnull hX (some (loc 47)) d_P_node_7 (tgt := 12) (by decide) (fun _ _ => ?_) (fun h => nomatch h)
  refine v_iload_n hX d_P_node_12 rfl rfl ?_
  refine v_tableIn hX d_P_node_13 (tgt := 64) (by decide) (by decide) (off := 51) (by decide) (by decide) ?_
  refine v_aload_n hX d_P_node_64 rfl rfl ?_
  refine v_get hX 47 (v := .int 0) inT0 (kd_b rfl) rfl (hv 47 rfl) rfl 6 (by decide) k_139 rfl rfl d_P_node_65 ?_
  exact v_iret hX hE d_P_node_68 (Nat.le_of_ble_eq_true rfl) (Nat.le_of_ble_eq_true rfl) ⟨rfl, keepM.rf, rfl, rfl⟩
set_option maxHeartbeats 4000000 in
set_option maxRecDepth 100000 in
theorem c_P_node_0_x {l : Launch} {D : va_G} {A : Nat → Prop} {cI cB cZ cJ cN : ClassId} {loc : Nat → Nat} {val : Nat → va_E} (hv : ∀ k, Nat.ble (k + 1) 48 = true → val k = pcell cI cN loc k) (y : Int32) (hw : y.toInt < 0 ∨ 2 < y.toInt) : kM l y_P_node (Cond.code y_P_node b_P_node 4 (some FieldType.int) :: TT) (rmL 2) D CL (TY cI cB cZ cJ cN) A [.ref (loc 0), .int 0, .int y] (kd 77) loc val (fun rv d lo va kc ns => rv = some (.int (-1)) ∧ keepM loc val d lo va ∧ kc = 0 ∧ ns = 0) := by
  refine kM_of (lv0 := [some (.ref (loc 0)), some (.int 0), some (.int y), none]) (own := "ProsePages") (by decide) rfl (List.forall_mem_cons.mpr ⟨rfl, List.forall_mem_cons.mpr ⟨rfl, List.forall_mem_cons.mpr ⟨rfl, fun _ h => nomatch h⟩⟩⟩) (Nat.le_of_ble_eq_true rfl) rfl (Nat.le_of_ble_eq_true rfl) (fun X hl hX hE hin0 => ?_)
  refine v_aload_n hX d_P_node_0 rfl rfl ?_
  refine v_iload_n hX d_P_node_1 rfl rfl ?_
  refine c_V hX 0 (rest := []) hl (c_P_nodeAt_0 hv) k_250 k_252 kp_0 k_1 k_253 rfl q_P_nodeAt ⟨(Nat.le_of_ble_eq_true rfl), (Nat.le_of_ble_eq_true rfl)⟩ (kd_b rfl) rfl (hv 0 rfl) rfl rfl rfl rfl (Nat.le_of_ble_eq_true rfl) d_P_node_2 ⟨(Nat.le_of_ble_eq_true rfl), (Nat.le_of_ble_eq_true rfl)⟩ (fun rv d2 lo2 va2 kc ns hp => ?_)
  obtain ⟨rfl, rfl, rfl, rfl, rfl, rfl⟩ := hp
  show V X D CL A _ _ _ _ _ _ _ (.ref (loc 47) :: [])
  refine v_astore_n (lv' := [some (.ref (loc 0)), some (.int 0), some (.int y), some (.ref (loc 47))]) hX d_P_node_5 rfl (Nat.le_of_ble_eq_true rfl) rfl ?_
  refine v_aload_n hX d_P_node_6 rfl rfl ?_
  refine v_ifnonnull hX (some (loc 47)) d_P_node_7 (tgt := 12) (by decide) (fun _ _ => ?_) (fun h => nomatch h)
  refine v_iload_n hX d_P_node_12 rfl rfl ?_
  refine v_tableOut hX d_P_node_13 (tgt := 69) hw (by decide) ?_
  refine v_iconst (v := (-1)) hX d_P_node_69 (by decide) ?_
  exact v_iret hX hE d_P_node_70 (Nat.le_of_ble_eq_true rfl) (Nat.le_of_ble_eq_true rfl) ⟨rfl, keepM.rf, rfl, rfl⟩
set_option maxHeartbeats 4000000 in
set_option maxRecDepth 100000 in
theorem c_P_about_0 {l : Launch} {D : va_G} {A : Nat → Prop} {cI cB cZ cJ cN : ClassId} {loc : Nat → Nat} {val : Nat → va_E} (hv : ∀ k, Nat.ble (k + 1) 48 = true → val k = pcell cI cN loc k)  : kM l y_P_about (Cond.code y_P_about b_P_about 2 (some FieldType.int) :: TT) (rmL 1) D CL (TY cI cB cZ cJ cN) A [.ref (loc 0), .int 0] (kd 77) loc val (fun rv d lo va kc ns => rv = some (.int 1) ∧ keepM loc val d lo va ∧ kc = 0 ∧ ns = 0) := by
  refine kM_of (lv0 := [some (.ref (loc 0)), some (.int 0)]) (own := "ProsePages") (by decide) rfl (List.forall_mem_cons.mpr ⟨rfl, List.forall_mem_cons.mpr ⟨rfl, fun _ h => nomatch h⟩⟩) (Nat.le_of_ble_eq_true rfl) rfl (Nat.le_of_ble_eq_true rfl) (fun X hl hX hE hin0 => ?_)
  refine v_iload_n hX d_P_about_0 rfl rfl ?_
  refine v_tableIn hX d_P_about_1 (tgt := 44) (by decide) (by decide) (off := 43) (by decide) (by decide) ?_
  refine v_aload_n hX d_P_about_44 rfl rfl ?_
  refine v_get hX 0 (v := .int 1) inT4 (kd_b rfl) rfl (hv 0 rfl) rfl 4 (by decide) k_179 rfl rfl d_P_about_45 ?_
  exact v_iret hX hE d_P_about_48 (Nat.le_of_ble_eq_true rfl) (Nat.le_of_ble_eq_true rfl) ⟨rfl, keepM.rf, rfl, rfl⟩
set_option maxHeartbeats 4000000 in
set_option maxRecDepth 100000 in
theorem c_P_about_1 {l : Launch} {D : va_G} {A : Nat → Prop} {cI cB cZ cJ cN : ClassId} {loc : Nat → Nat} {val : Nat → va_E} (hv : ∀ k, Nat.ble (k + 1) 48 = true → val k = pcell cI cN loc k)  : kM l y_P_about (Cond.code y_P_about b_P_about 2 (some FieldType.int) :: TT) (rmL 1) D CL (TY cI cB cZ cJ cN) A [.ref (loc 0), .int 1] (kd 77) loc val (fun rv d lo va kc ns => rv = some (.int 0) ∧ keepM loc val d lo va ∧ kc = 0 ∧ ns = 0) := by
  refine kM_of (lv0 := [some (.ref (loc 0)), some (.int 1)]) (own := "ProsePages") (by decide) rfl (List.forall_mem_cons.mpr ⟨rfl, List.forall_mem_cons.mpr ⟨rfl, fun _ h => nomatch h⟩⟩) (Nat.le_of_ble_eq_true rfl) rfl (Nat.le_of_ble_eq_true rfl) (fun X hl hX hE hin0 => ?_)
  refine v_iload_n hX d_P_about_0 rfl rfl ?_
  refine v_tableIn hX d_P_about_1 (tgt := 49) (by decide) (by decide) (off := 48) (by decide) (by decide) ?_
  refine v_aload_n hX d_P_about_49 rfl rfl ?_
  refine v_get hX 0 (v := .int 0) inT4 (kd_b rfl) rfl (hv 0 rfl) rfl 5 (by decide) k_180 rfl rfl d_P_about_50 ?_
  exact v_iret hX hE d_P_about_53 (Nat.le_of_ble_eq_true rfl) (Nat.le_of_ble_eq_true rfl) ⟨rfl, keepM.rf, rfl, rfl⟩
set_option maxHeartbeats 4000000 in
set_option maxRecDepth 100000 in
theorem c_P_about_2 {l : Launch} {D : va_G} {A : Nat → Prop} {cI cB cZ cJ cN : ClassId} {loc : Nat → Nat} {val : Nat → va_E} (hv : ∀ k, Nat.ble (k + 1) 48 = true → val k = pcell cI cN loc k)  : kM l y_P_about (Cond.code y_P_about b_P_about 2 (some FieldType.int) :: TT) (rmL 1) D CL (TY cI cB cZ cJ cN) A [.ref (loc 0), .int 2] (kd 77) loc val (fun rv d lo va kc ns => rv = some (.int 0) ∧ keepM loc val d lo va ∧ kc = 0 ∧ ns = 0) := by
  refine kM_of (lv0 := [some (.ref (loc 0)), some (.int 2)]) (own := "ProsePages") (by decide) rfl (List.forall_mem_cons.mpr ⟨rfl, List.forall_mem_cons.mpr ⟨rfl, fun _ h => nomatch h⟩⟩) (Nat.le_of_ble_eq_true rfl) rfl (Nat.le_of_ble_eq_true rfl) (fun X hl hX hE hin0 => ?_)
  refine v_iload_n hX d_P_about_0 rfl rfl ?_
  refine v_tableIn hX d_P_about_1 (tgt := 54) (by decide) (by decide) (off := 53) (by decide) (by decide) ?_
  refine v_aload_n hX d_P_about_54 rfl rfl ?_
  refine v_get hX 0 (v := .ref (loc 47)) inT4 (kd_b rfl) rfl (hv 0 rfl) rfl 3 (by decide) k_178 rfl rfl d_P_about_55 ?_
  refine v_get hX 47 (v := .int 0) inT0 (kd_b rfl) rfl (hv 47 rfl) rfl 0 (by decide) k_125 rfl rfl d_P_about_58 ?_
  exact v_iret hX hE d_P_about_61 (Nat.le_of_ble_eq_true rfl) (Nat.le_of_ble_eq_true rfl) ⟨rfl, keepM.rf, rfl, rfl⟩
set_option maxHeartbeats 4000000 in
set_option maxRecDepth 100000 in
theorem c_P_about_3 {l : Launch} {D : va_G} {A : Nat → Prop} {cI cB cZ cJ cN : ClassId} {loc : Nat → Nat} {val : Nat → va_E} (hv : ∀ k, Nat.ble (k + 1) 48 = true → val k = pcell cI cN loc k)  : kM l y_P_about (Cond.code y_P_about b_P_about 2 (some FieldType.int) :: TT) (rmL 1) D CL (TY cI cB cZ cJ cN) A [.ref (loc 0), .int 3] (kd 77) loc val (fun rv d lo va kc ns => rv = some (.int 0) ∧ keepM loc val d lo va ∧ kc = 0 ∧ ns = 0) := by
  refine kM_of (lv0 := [some (.ref (loc 0)), some (.int 3)]) (own := "ProsePages") (by decide) rfl (List.forall_mem_cons.mpr ⟨rfl, List.forall_mem_cons.mpr ⟨rfl, fun _ h => nomatch h⟩⟩) (Nat.le_of_ble_eq_true rfl) rfl (Nat.le_of_ble_eq_true rfl) (fun X hl hX hE hin0 => ?_)
  refine v_iload_n hX d_P_about_0 rfl rfl ?_
  refine v_tableIn hX d_P_about_1 (tgt := 62) (by decide) (by decide) (off := 61) (by decide) (by decide) ?_
  refine v_aload_n hX d_P_about_62 rfl rfl ?_
  refine v_get hX 0 (v := .int 0) inT4 (kd_b rfl) rfl (hv 0 rfl) rfl 7 (by decide) k_182 rfl rfl d_P_about_63 ?_
  refine v_if_eq hX d_P_about_66 (tgt := 79) (by decide) (fun _ => ?_) (fun c => absurd (by decide) c)
  refine v_iconst (v := 0) hX d_P_about_79 (by decide) ?_
  exact v_iret hX hE d_P_about_80 (Nat.le_of_ble_eq_true rfl) (Nat.le_of_ble_eq_true rfl) ⟨rfl, keepM.rf, rfl, rfl⟩
set_option maxHeartbeats 4000000 in
set_option maxRecDepth 100000 in
theorem c_P_about_4 {l : Launch} {D : va_G} {A : Nat → Prop} {cI cB cZ cJ cN : ClassId} {loc : Nat → Nat} {val : Nat → va_E} (hv : ∀ k, Nat.ble (k + 1) 48 = true → val k = pcell cI cN loc k)  : kM l y_P_about (Cond.code y_P_about b_P_about 2 (some FieldType.int) :: TT) (rmL 1) D CL (TY cI cB cZ cJ cN) A [.ref (loc 0), .int 4] (kd 77) loc val (fun rv d lo va kc ns => rv = some (.int 0) ∧ keepM loc val d lo va ∧ kc = 0 ∧ ns = 0) := by
  refine kM_of (lv0 := [some (.ref (loc 0)), some (.int 4)]) (own := "ProsePages") (by decide) rfl (List.forall_mem_cons.mpr ⟨rfl, List.forall_mem_cons.mpr ⟨rfl, fun _ h => nomatch h⟩⟩) (Nat.le_of_ble_eq_true rfl) rfl (Nat.le_of_ble_eq_true rfl) (fun X hl hX hE hin0 => ?_)
  refine v_iload_n hX d_P_about_0 rfl rfl ?_
  refine v_tableIn hX d_P_about_1 (tgt := 81) (by decide) (by decide) (off := 80) (by decide) (by decide) ?_
  refine v_aload_n hX d_P_about_81 rfl rfl ?_
  refine v_get hX 0 (v := .int 0) inT4 (kd_b rfl) rfl (hv 0 rfl) rfl 7 (by decide) k_182 rfl rfl d_P_about_82 ?_
  refine v_if_eq hX d_P_about_85 (tgt := 98) (by decide) (fun _ => ?_) (fun c => absurd (by decide) c)
  refine v_iconst (v := 0) hX d_P_about_98 (by decide) ?_
  exact v_iret hX hE d_P_about_99 (Nat.le_of_ble_eq_true rfl) (Nat.le_of_ble_eq_true rfl) ⟨rfl, keepM.rf, rfl, rfl⟩
set_option maxHeartbeats 4000000 in
set_option maxRecDepth 100000 in
theorem c_P_about_5 {l : Launch} {D : va_G} {A : Nat → Prop} {cI cB cZ cJ cN : ClassId} {loc : Nat → Nat} {val : Nat → va_E} (hv : ∀ k, Nat.ble (k + 1) 48 = true → val k = pcell cI cN loc k)  : kM l y_P_about (Cond.code y_P_about b_P_about 2 (some FieldType.int) :: TT) (rmL 1) D CL (TY cI cB cZ cJ cN) A [.ref (loc 0), .int 5] (kd 77) loc val (fun rv d lo va kc ns => rv = some (.int 0) ∧ keepM loc val d lo va ∧ kc = 0 ∧ ns = 0) := by
  refine kM_of (lv0 := [some (.ref (loc 0)), some (.int 5)]) (own := "ProsePages") (by decide) rfl (List.forall_mem_cons.mpr ⟨rfl, List.forall_mem_cons.mpr ⟨rfl, fun _ h => nomatch h⟩⟩) (Nat.le_of_ble_eq_true rfl) rfl (Nat.le_of_ble_eq_true rfl) (fun X hl hX hE hin0 => ?_)
  refine v_iload_n hX d_P_about_0 rfl rfl ?_
  refine v_tableIn hX d_P_about_1 (tgt := 100) (by decide) (by decide) (off := 99) (by decide) (by decide) ?_
  refine v_aload_n hX d_P_about_100 rfl rfl ?_
  refine v_get hX 0 (v := .int 0) inT4 (kd_b rfl) rfl (hv 0 rfl) rfl 7 (by decide) k_182 rfl rfl d_P_about_101 ?_
  refine v_if_eq hX d_P_about_104 (tgt := 117) (by decide) (fun _ => ?_) (fun c => absurd (by decide) c)
  refine v_iconst (v := 0) hX d_P_about_117 (by decide) ?_
  exact v_iret hX hE d_P_about_118 (Nat.le_of_ble_eq_true rfl) (Nat.le_of_ble_eq_true rfl) ⟨rfl, keepM.rf, rfl, rfl⟩
set_option maxHeartbeats 4000000 in
set_option maxRecDepth 100000 in
theorem c_P_about_6 {l : Launch} {D : va_G} {A : Nat → Prop} {cI cB cZ cJ cN : ClassId} {loc : Nat → Nat} {val : Nat → va_E} (hv : ∀ k, Nat.ble (k + 1) 48 = true → val k = pcell cI cN loc k)  : kM l y_P_about (Cond.code y_P_about b_P_about 2 (some FieldType.int) :: TT) (rmL 1) D CL (TY cI cB cZ cJ cN) A [.ref (loc 0), .int 6] (kd 77) loc val (fun rv d lo va kc ns => rv = some (.int 0) ∧ keepM loc val d lo va ∧ kc = 0 ∧ ns = 0) := by
  refine kM_of (lv0 := [some (.ref (loc 0)), some (.int 6)]) (own := "ProsePages") (by decide) rfl (List.forall_mem_cons.mpr ⟨rfl, List.forall_mem_cons.mpr ⟨rfl, fun _ h => nomatch h⟩⟩) (Nat.le_of_ble_eq_true rfl) rfl (Nat.le_of_ble_eq_true rfl) (fun X hl hX hE hin0 => ?_)
  refine v_iload_n hX d_P_about_0 rfl rfl ?_
  refine v_tableIn hX d_P_about_1 (tgt := 119) (by decide) (by decide) (off := 118) (by decide) (by decide) ?_
  refine v_aload_n hX d_P_about_119 rfl rfl ?_
  refine v_get hX 0 (v := .int 0) inT4 (kd_b rfl) rfl (hv 0 rfl) rfl 7 (by decide) k_182 rfl rfl d_P_about_120 ?_
  refine v_if_eq hX d_P_about_123 (tgt := 136) (by decide) (fun _ => ?_) (fun c => absurd (by decide) c)
  refine v_iconst (v := 0) hX d_P_about_136 (by decide) ?_
  exact v_iret hX hE d_P_about_137 (Nat.le_of_ble_eq_true rfl) (Nat.le_of_ble_eq_true rfl) ⟨rfl, keepM.rf, rfl, rfl⟩
set_option maxHeartbeats 4000000 in
set_option maxRecDepth 100000 in
theorem c_P_about_x {l : Launch} {D : va_G} {A : Nat → Prop} {cI cB cZ cJ cN : ClassId} {loc : Nat → Nat} {val : Nat → va_E} (hv : ∀ k, Nat.ble (k + 1) 48 = true → val k = pcell cI cN loc k) (y : Int32) (hw : y.toInt < 0 ∨ 6 < y.toInt) : kM l y_P_about (Cond.code y_P_about b_P_about 2 (some FieldType.int) :: TT) (rmL 1) D CL (TY cI cB cZ cJ cN) A [.ref (loc 0), .int y] (kd 77) loc val (fun rv d lo va kc ns => rv = some (.int (-1)) ∧ keepM loc val d lo va ∧ kc = 0 ∧ ns = 0) := by
  refine kM_of (lv0 := [some (.ref (loc 0)), some (.int y)]) (own := "ProsePages") (by decide) rfl (List.forall_mem_cons.mpr ⟨rfl, List.forall_mem_cons.mpr ⟨rfl, fun _ h => nomatch h⟩⟩) (Nat.le_of_ble_eq_true rfl) rfl (Nat.le_of_ble_eq_true rfl) (fun X hl hX hE hin0 => ?_)
  refine v_iload_n hX d_P_about_0 rfl rfl ?_
  refine v_tableOut hX d_P_about_1 (tgt := 138) hw (by decide) ?_
  refine v_iconst (v := (-1)) hX d_P_about_138 (by decide) ?_
  exact v_iret hX hE d_P_about_139 (Nat.le_of_ble_eq_true rfl) (Nat.le_of_ble_eq_true rfl) ⟨rfl, keepM.rf, rfl, rfl⟩
