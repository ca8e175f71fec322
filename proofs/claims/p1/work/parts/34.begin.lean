set_option maxHeartbeats 4000000 in
set_option maxRecDepth 100000 in
theorem c_P_begin_ok0 {l : Launch} {D : va_G} {A : Nat → Prop} {cI cB cZ cJ cN : ClassId} {loc : Nat → Nat} {val : Nat → va_E} (hv : ∀ k, Nat.ble (k + 1) 48 = true → val k = pcell cI cN loc k) (n : Int32) (hn : isNum 0 n = 1) : kM l y_P_begin (Cond.code y_P_begin b_P_begin 4 (some FieldType.int) :: TT) (rmL 3) D CL (TY cI cB cZ cJ cN) A [.ref (loc 0), .int 0, .int n] (kd 77) loc val (fun rv d lo va kc ns => rv = some (.int 1) ∧ keepM loc val d lo va ∧ kc = 1 ∧ ns = 12) := by
  refine kM_of (lv0 := [some (.ref (loc 0)), some (.int 0), some (.int n), none]) (own := "ProsePages") (by decide) rfl (List.forall_mem_cons.mpr ⟨rfl, List.forall_mem_cons.mpr ⟨rfl, List.forall_mem_cons.mpr ⟨rfl, fun _ h => nomatch h⟩⟩⟩) (Nat.le_of_ble_eq_true rfl) rfl (Nat.le_of_ble_eq_true rfl) (fun X hl hX hE hin0 => ?_)
  refine v_aload_n hX d_P_begin_0 rfl rfl ?_
  refine c_V hX 0 (rest := []) hl (c_P_refused hv) k_271 k_273 kp_1 k_1 k_274 rfl q_P_isNodeRefused ⟨(Nat.le_of_ble_eq_true rfl), (Nat.le_of_ble_eq_true rfl)⟩ (kd_b rfl) rfl (hv 0 rfl) rfl rfl rfl rfl (Nat.le_of_ble_eq_true rfl) d_P_begin_1 ⟨(Nat.le_of_ble_eq_true rfl), (Nat.le_of_ble_eq_true rfl)⟩ (fun rv d2 lo2 va2 kc ns hp => ?_)
  obtain ⟨rfl, rfl, rfl, rfl, rfl, rfl⟩ := hp
  show V X D CL A _ _ _ _ _ _ _ (.int 0 :: [])
  refine v_if_eq hX d_P_begin_4 (tgt := 17) (by decide) (fun _ => ?_) (fun c => absurd (by decide) c)
  refine v_iload_n hX d_P_begin_17 rfl rfl ?_
  refine v_if_lt hX d_P_begin_18 (tgt := 38) (by decide) (fun c => absurd c (by decide)) (fun _ => ?_)
  refine v_iload_n hX d_P_begin_21 rfl rfl ?_
  refine v_bipush (v := 9) hX d_P_begin_22 (by decide) ?_
  refine v_icmp_gt hX d_P_begin_24 (tgt := 38) (by decide) (fun c => absurd c (by decide)) (fun _ => ?_)
  refine v_aload_n hX d_P_begin_27 rfl rfl ?_
  refine v_get hX 0 (v := .ref (loc 47)) inT4 (kd_b rfl) rfl (hv 0 rfl) rfl 3 (by decide) k_178 rfl rfl d_P_begin_28 ?_
  refine v_iload_n hX d_P_begin_31 rfl rfl ?_
  refine c_V hX 47 (rest := []) hl (c_N_mayHold hv 0) k_342 k_343 k_344 k_5 k_345 rfl q_N_mayHold ⟨(Nat.le_of_ble_eq_true rfl), (Nat.le_of_ble_eq_true rfl)⟩ (kd_b rfl) rfl (hv 47 rfl) rfl rfl rfl rfl (Nat.le_of_ble_eq_true rfl) d_P_begin_32 ⟨(Nat.le_of_ble_eq_true rfl), (Nat.le_of_ble_eq_true rfl)⟩ (fun rv d2 lo2 va2 kc ns hp => ?_)
  obtain ⟨rfl, rfl, rfl, rfl, rfl, rfl⟩ := hp
  show V X D CL A _ _ _ _ _ _ _ (.int (oneOf 0 127) :: [])
  refine v_if_ne hX d_P_begin_35 (tgt := 48) (by decide) (fun _ => ?_) (fun c => absurd c (by decide))
  refine v_iload_n hX d_P_begin_48 rfl rfl ?_
  refine v_iload_n hX d_P_begin_49 rfl rfl ?_
  refine c_S hX (rest := []) hl (c_P_isNumberOf 0 n) k_365 k_366 k_1 k_367 rfl q_P_isNumberOf ⟨(Nat.le_of_ble_eq_true rfl), (Nat.le_of_ble_eq_true rfl)⟩ rfl rfl rfl (Nat.le_of_ble_eq_true rfl) d_P_begin_50 ⟨(Nat.le_of_ble_eq_true rfl), (Nat.le_of_ble_eq_true rfl)⟩ (fun rv d2 lo2 va2 kc ns hp => ?_)
  obtain ⟨rfl, rfl, rfl, rfl, rfl, rfl⟩ := hp
  show V X D CL A _ _ _ _ _ _ _ (.int (isNum 0 n) :: [])
  refine v_if_ne hX d_P_begin_53 (tgt := 66) (by decide) (fun _ => ?_) (fun c => absurd c (by rw [hn]; decide))
  refine v_aload_n hX d_P_begin_66 rfl rfl ?_
  refine v_iload_n hX d_P_begin_67 rfl rfl ?_
  refine v_iload_n hX d_P_begin_68 rfl rfl ?_
  refine v_iconst (v := 1) hX d_P_begin_69 (by decide) ?_
  refine v_icmp_eq hX d_P_begin_70 (tgt := 79) (by decide) (fun c => absurd c (by decide)) (fun _ => ?_)
  refine v_iload_n hX d_P_begin_73 rfl rfl ?_
  refine v_bipush (v := 6) hX d_P_begin_74 (by decide) ?_
  refine v_icmp_ne hX d_P_begin_76 (tgt := 83) (by decide) (fun _ => ?_) (fun c => absurd c (by decide))
  refine v_iconst (v := 0) hX d_P_begin_83 (by decide) ?_
  refine c_V hX 0 (rest := []) hl (c_P_addNode 0 0 (hv 0 rfl) (hv 2 rfl) (hv 3 rfl) (hv 47 rfl) (hv 1 rfl) ) k_370 k_372 kp_3 k_1 k_373 rfl q_P_addNode ⟨(Nat.le_of_ble_eq_true rfl), (Nat.le_of_ble_eq_true rfl)⟩ (kd_b rfl) rfl (hv 0 rfl) rfl rfl rfl rfl (Nat.le_of_ble_eq_true rfl) d_P_begin_84 ⟨(Nat.le_of_ble_eq_true rfl), (Nat.le_of_ble_eq_true rfl)⟩ (fun rv d2 lo2 va2 kc ns hp => ?_)
  obtain ⟨q77, rfl, rfl, rfl, rfl, rfl, rfl⟩ := hp
  show V X D CL A _ _ _ _ _ _ _ (.ref q77 :: [])
  refine v_astore_n (lv' := [some (.ref (loc 0)), some (.int 0), some (.int n), some (.ref q77)]) hX d_P_begin_87 rfl (Nat.le_of_ble_eq_true rfl) rfl ?_
  refine v_iload_n hX d_P_begin_88 rfl rfl ?_
  refine v_bipush (v := 9) hX d_P_begin_89 (by decide) ?_
  refine v_icmp_ne hX d_P_begin_91 (tgt := 121) (by decide) (fun _ => ?_) (fun c => absurd c (by decide))
  refine v_iload_n hX d_P_begin_121 rfl rfl ?_
  refine v_sipush (v := (-1541)) hX d_P_begin_122 (by decide) ?_
  refine c_S hX (rest := []) hl (c_P_isOneOf 0 (-1541)) k_403 k_347 k_1 k_348 rfl q_P_isOneOf ⟨(Nat.le_of_ble_eq_true rfl), (Nat.le_of_ble_eq_true rfl)⟩ rfl rfl rfl (Nat.le_of_ble_eq_true rfl) d_P_begin_125 ⟨(Nat.le_of_ble_eq_true rfl), (Nat.le_of_ble_eq_true rfl)⟩ (fun rv d2 lo2 va2 kc ns hp => ?_)
  obtain ⟨rfl, rfl, rfl, rfl, rfl, rfl⟩ := hp
  show V X D CL A _ _ _ _ _ _ _ (.int (oneOf 0 (-1541)) :: [])
  refine v_if_eq hX d_P_begin_128 (tgt := 136) (by decide) (fun c => absurd c (by decide)) (fun _ => ?_)
  refine v_aload_n hX d_P_begin_131 rfl rfl ?_
  refine v_aload_n hX d_P_begin_132 rfl rfl ?_
  refine v_putE hX 0 (fs2 := [.ref (loc 1), .ref (loc 2), .ref (loc 47), .ref q77, .int 2, .int 0, .ref (loc 30), .int 0]) inT4 tyX4 tyX4_ok nmX4 (kd_b rfl) rfl rfl rfl 3 (by decide) k_178 rfl rfl rfl rfl rfl (Nat.le_of_ble_eq_true rfl) d_P_begin_133 rfl ?_
  refine v_aload_n hX d_P_begin_136 rfl rfl ?_
  refine v_get hX 77 (v := .int 1) inT0 (kd_b rfl) rfl rfl rfl 0 (by decide) k_125 rfl rfl d_P_begin_137 ?_
  exact v_iret hX hE d_P_begin_140 (Nat.le_of_ble_eq_true rfl) (Nat.le_of_ble_eq_true rfl) ⟨rfl, (keepM.up (keepM.up (keepM.up (keepM.up (keepM.up (keepM.up (keepM.new keepM.rf _ _) _ _ rfl) _ _ rfl) _ _ rfl) _ _ rfl) _ _ rfl) _ _ rfl), rfl, rfl⟩
set_option maxHeartbeats 4000000 in
set_option maxRecDepth 100000 in
theorem c_P_begin_ok1 {l : Launch} {D : va_G} {A : Nat → Prop} {cI cB cZ cJ cN : ClassId} {loc : Nat → Nat} {val : Nat → va_E} (hv : ∀ k, Nat.ble (k + 1) 48 = true → val k = pcell cI cN loc k) (n : Int32) (hn : isNum 1 n = 1) : kM l y_P_begin (Cond.code y_P_begin b_P_begin 4 (some FieldType.int) :: TT) (rmL 3) D CL (TY cI cB cZ cJ cN) A [.ref (loc 0), .int 1, .int n] (kd 77) loc val (fun rv d lo va kc ns => rv = some (.int 1) ∧ keepM loc val d lo va ∧ kc = 1 ∧ ns = 12) := by
  refine kM_of (lv0 := [some (.ref (loc 0)), some (.int 1), some (.int n), none]) (own := "ProsePages") (by decide) rfl (List.forall_mem_cons.mpr ⟨rfl, List.forall_mem_cons.mpr ⟨rfl, List.forall_mem_cons.mpr ⟨rfl, fun _ h => nomatch h⟩⟩⟩) (Nat.le_of_ble_eq_true rfl) rfl (Nat.le_of_ble_eq_true rfl) (fun X hl hX hE hin0 => ?_)
  refine v_aload_n hX d_P_begin_0 rfl rfl ?_
  refine c_V hX 0 (rest := []) hl (c_P_refused hv) k_271 k_273 kp_1 k_1 k_274 rfl q_P_isNodeRefused ⟨(Nat.le_of_ble_eq_true rfl), (Nat.le_of_ble_eq_true rfl)⟩ (kd_b rfl) rfl (hv 0 rfl) rfl rfl rfl rfl (Nat.le_of_ble_eq_true rfl) d_P_begin_1 ⟨(Nat.le_of_ble_eq_true rfl), (Nat.le_of_ble_eq_true rfl)⟩ (fun rv d2 lo2 va2 kc ns hp => ?_)
  obtain ⟨rfl, rfl, rfl, rfl, rfl, rfl⟩ := hp
  show V X D CL A _ _ _ _ _ _ _ (.int 0 :: [])
  refine v_if_eq hX d_P_begin_4 (tgt := 17) (by decide) (fun _ => ?_) (fun c => absurd (by decide) c)
  refine v_iload_n hX d_P_begin_17 rfl rfl ?_
  refine v_if_lt hX d_P_begin_18 (tgt := 38) (by decide) (fun c => absurd c (by decide)) (fun _ => ?_)
  refine v_iload_n hX d_P_begin_21 rfl rfl ?_
  refine v_bipush (v := 9) hX d_P_begin_22 (by decide) ?_
  refine v_icmp_gt hX d_P_begin_24 (tgt := 38) (by decide) (fun c => absurd c (by decide)) (fun _ => ?_)
  refine v_aload_n hX d_P_begin_27 rfl rfl ?_
  refine v_get hX 0 (v := .ref (loc 47)) inT4 (kd_b rfl) rfl (hv 0 rfl) rfl 3 (by decide) k_178 rfl rfl d_P_begin_28 ?_
  refine v_iload_n hX d_P_begin_31 rfl rfl ?_
  refine c_V hX 47 (rest := []) hl (c_N_mayHold hv 1) k_342 k_343 k_344 k_5 k_345 rfl q_N_mayHold ⟨(Nat.le_of_ble_eq_true rfl), (Nat.le_of_ble_eq_true rfl)⟩ (kd_b rfl) rfl (hv 47 rfl) rfl rfl rfl rfl (Nat.le_of_ble_eq_true rfl) d_P_begin_32 ⟨(Nat.le_of_ble_eq_true rfl), (Nat.le_of_ble_eq_true rfl)⟩ (fun rv d2 lo2 va2 kc ns hp => ?_)
  obtain ⟨rfl, rfl, rfl, rfl, rfl, rfl⟩ := hp
  show V X D CL A _ _ _ _ _ _ _ (.int (oneOf 1 127) :: [])
  refine v_if_ne hX d_P_begin_35 (tgt := 48) (by decide) (fun _ => ?_) (fun c => absurd c (by decide))
  refine v_iload_n hX d_P_begin_48 rfl rfl ?_
  refine v_iload_n hX d_P_begin_49 rfl rfl ?_
  refine c_S hX (rest := []) hl (c_P_isNumberOf 1 n) k_365 k_366 k_1 k_367 rfl q_P_isNumberOf ⟨(Nat.le_of_ble_eq_true rfl), (Nat.le_of_ble_eq_true rfl)⟩ rfl rfl rfl (Nat.le_of_ble_eq_true rfl) d_P_begin_50 ⟨(Nat.le_of_ble_eq_true rfl), (Nat.le_of_ble_eq_true rfl)⟩ (fun rv d2 lo2 va2 kc ns hp => ?_)
  obtain ⟨rfl, rfl, rfl, rfl, rfl, rfl⟩ := hp
  show V X D CL A _ _ _ _ _ _ _ (.int (isNum 1 n) :: [])
  refine v_if_ne hX d_P_begin_53 (tgt := 66) (by decide) (fun _ => ?_) (fun c => absurd c (by rw [hn]; decide))
  refine v_aload_n hX d_P_begin_66 rfl rfl ?_
  refine v_iload_n hX d_P_begin_67 rfl rfl ?_
  refine v_iload_n hX d_P_begin_68 rfl rfl ?_
  refine v_iconst (v := 1) hX d_P_begin_69 (by decide) ?_
  refine v_icmp_eq hX d_P_begin_70 (tgt := 79) (by decide) (fun _ => ?_) (fun c => absurd (by decide) c)
  refine v_iload_n hX d_P_begin_79 rfl rfl ?_
  refine v_goto hX d_P_begin_80 (tgt := 84) (by decide) ?_
  refine c_V hX 0 (rest := []) hl (c_P_addNode 1 n (hv 0 rfl) (hv 2 rfl) (hv 3 rfl) (hv 47 rfl) (hv 1 rfl) ) k_370 k_372 kp_3 k_1 k_373 rfl q_P_addNode ⟨(Nat.le_of_ble_eq_true rfl), (Nat.le_of_ble_eq_true rfl)⟩ (kd_b rfl) rfl (hv 0 rfl) rfl rfl rfl rfl (Nat.le_of_ble_eq_true rfl) d_P_begin_84 ⟨(Nat.le_of_ble_eq_true rfl), (Nat.le_of_ble_eq_true rfl)⟩ (fun rv d2 lo2 va2 kc ns hp => ?_)
  obtain ⟨q77, rfl, rfl, rfl, rfl, rfl, rfl⟩ := hp
  show V X D CL A _ _ _ _ _ _ _ (.ref q77 :: [])
  refine v_astore_n (lv' := [some (.ref (loc 0)), some (.int 1), some (.int n), some (.ref q77)]) hX d_P_begin_87 rfl (Nat.le_of_ble_eq_true rfl) rfl ?_
  refine v_iload_n hX d_P_begin_88 rfl rfl ?_
  refine v_bipush (v := 9) hX d_P_begin_89 (by decide) ?_
  refine v_icmp_ne hX d_P_begin_91 (tgt := 121) (by decide) (fun _ => ?_) (fun c => absurd c (by decide))
  refine v_iload_n hX d_P_begin_121 rfl rfl ?_
  refine v_sipush (v := (-1541)) hX d_P_begin_122 (by decide) ?_
  refine c_S hX (rest := []) hl (c_P_isOneOf 1 (-1541)) k_403 k_347 k_1 k_348 rfl q_P_isOneOf ⟨(Nat.le_of_ble_eq_true rfl), (Nat.le_of_ble_eq_true rfl)⟩ rfl rfl rfl (Nat.le_of_ble_eq_true rfl) d_P_begin_125 ⟨(Nat.le_of_ble_eq_true rfl), (Nat.le_of_ble_eq_true rfl)⟩ (fun rv d2 lo2 va2 kc ns hp => ?_)
  obtain ⟨rfl, rfl, rfl, rfl, rfl, rfl⟩ := hp
  show V X D CL A _ _ _ _ _ _ _ (.int (oneOf 1 (-1541)) :: [])
  refine v_if_eq hX d_P_begin_128 (tgt := 136) (by decide) (fun c => absurd c (by decide)) (fun _ => ?_)
  refine v_aload_n hX d_P_begin_131 rfl rfl ?_
  refine v_aload_n hX d_P_begin_132 rfl rfl ?_
  refine v_putE hX 0 (fs2 := [.ref (loc 1), .ref (loc 2), .ref (loc 47), .ref q77, .int 2, .int 0, .ref (loc 30), .int 0]) inT4 tyX4 tyX4_ok nmX4 (kd_b rfl) rfl rfl rfl 3 (by decide) k_178 rfl rfl rfl rfl rfl (Nat.le_of_ble_eq_true rfl) d_P_begin_133 rfl ?_
  refine v_aload_n hX d_P_begin_136 rfl rfl ?_
  refine v_get hX 77 (v := .int 1) inT0 (kd_b rfl) rfl rfl rfl 0 (by decide) k_125 rfl rfl d_P_begin_137 ?_
  exact v_iret hX hE d_P_begin_140 (Nat.le_of_ble_eq_true rfl) (Nat.le_of_ble_eq_true rfl) ⟨rfl, (keepM.up (keepM.up (keepM.up (keepM.up (keepM.up (keepM.up (keepM.new keepM.rf _ _) _ _ rfl) _ _ rfl) _ _ rfl) _ _ rfl) _ _ rfl) _ _ rfl), rfl, rfl⟩
set_option maxHeartbeats 4000000 in
set_option maxRecDepth 100000 in
theorem c_P_begin_ok2 {l : Launch} {D : va_G} {A : Nat → Prop} {cI cB cZ cJ cN : ClassId} {loc : Nat → Nat} {val : Nat → va_E} (hv : ∀ k, Nat.ble (k + 1) 48 = true → val k = pcell cI cN loc k) (n : Int32) (hn : isNum 2 n = 1) : kM l y_P_begin (Cond.code y_P_begin b_P_begin 4 (some FieldType.int) :: TT) (rmL 3) D CL (TY cI cB cZ cJ cN) A [.ref (loc 0), .int 2, .int n] (kd 77) loc val (fun rv d lo va kc ns => rv = some (.int 1) ∧ keepM loc val d lo va ∧ kc = 1 ∧ ns = 12) := by
  refine kM_of (lv0 := [some (.ref (loc 0)), some (.int 2), some (.int n), none]) (own := "ProsePages") (by decide) rfl (List.forall_mem_cons.mpr ⟨rfl, List.forall_mem_cons.mpr ⟨rfl, List.forall_mem_cons.mpr ⟨rfl, fun _ h => nomatch h⟩⟩⟩) (Nat.le_of_ble_eq_true rfl) rfl (Nat.le_of_ble_eq_true rfl) (fun X hl hX hE hin0 => ?_)
  refine v_aload_n hX d_P_begin_0 rfl rfl ?_
  refine c_V hX 0 (rest := []) hl (c_P_refused hv) k_271 k_273 kp_1 k_1 k_274 rfl q_P_isNodeRefused ⟨(Nat.le_of_ble_eq_true rfl), (Nat.le_of_ble_eq_true rfl)⟩ (kd_b rfl) rfl (hv 0 rfl) rfl rfl rfl rfl (Nat.le_of_ble_eq_true rfl) d_P_begin_1 ⟨(Nat.le_of_ble_eq_true rfl), (Nat.le_of_ble_eq_true rfl)⟩ (fun rv d2 lo2 va2 kc ns hp => ?_)
  obtain ⟨rfl, rfl, rfl, rfl, rfl, rfl⟩ := hp
  show V X D CL A _ _ _ _ _ _ _ (.int 0 :: [])
  refine v_if_eq hX d_P_begin_4 (tgt := 17) (by decide) (fun _ => ?_) (fun c => absurd (by decide) c)
  refine v_iload_n hX d_P_begin_17 rfl rfl ?_
  refine v_if_lt hX d_P_begin_18 (tgt := 38) (by decide) (fun c => absurd c (by decide)) (fun _ => ?_)
  refine v_iload_n hX d_P_begin_21 rfl rfl ?_
  refine v_bipush (v := 9) hX d_P_begin_22 (by decide) ?_
  refine v_icmp_gt hX d_P_begin_24 (tgt := 38) (by decide) (fun c => absurd c (by decide)) (fun _ => ?_)
  refine v_aload_n hX d_P_begin_27 rfl rfl ?_
  refine v_get hX 0 (v := .ref (loc 47)) inT4 (kd_b rfl) rfl (hv 0 rfl) rfl 3 (by decide) k_178 rfl rfl d_P_begin_28 ?_
  refine v_iload_n hX d_P_begin_31 rfl rfl ?_
  refine c_V hX 47 (rest := []) hl (c_N_mayHold hv 2) k_342 k_343 k_344 k_5 k_345 rfl q_N_mayHold ⟨(Nat.le_of_ble_eq_true rfl), (Nat.le_of_ble_eq_true rfl)⟩ (kd_b rfl) rfl (hv 47 rfl) rfl rfl rfl rfl (Nat.le_of_ble_eq_true rfl) d_P_begin_32 ⟨(Nat.le_of_ble_eq_true rfl), (Nat.le_of_ble_eq_true rfl)⟩ (fun rv d2 lo2 va2 kc ns hp => ?_)
  obtain ⟨rfl, rfl, rfl, rfl, rfl, rfl⟩ := hp
  show V X D CL A _ _ _ _ _ _ _ (.int (oneOf 2 127) :: [])
  refine v_if_ne hX d_P_begin_35 (tgt := 48) (by decide) (fun _ => ?_) (fun c => absurd c (by decide))
  refine v_iload_n hX d_P_begin_48 rfl rfl ?_
  refine v_iload_n hX d_P_begin_49 rfl rfl ?_
  refine c_S hX (rest := []) hl (c_P_isNumberOf 2 n) k_365 k_366 k_1 k_367 rfl q_P_isNumberOf ⟨(Nat.le_of_ble_eq_true rfl), (Nat.le_of_ble_eq_true rfl)⟩ rfl rfl rfl (Nat.le_of_ble_eq_true rfl) d_P_begin_50 ⟨(Nat.le_of_ble_eq_true rfl), (Nat.le_of_ble_eq_true rfl)⟩ (fun rv d2 lo2 va2 kc ns hp => ?_)
  obtain ⟨rfl, rfl, rfl, rfl, rfl, rfl⟩ := hp
  show V X D CL A _ _ _ _ _ _ _ (.int (isNum 2 n) :: [])
  refine v_if_ne hX d_P_begin_53 (tgt := 66) (by decide) (fun _ => ?_) (fun c => absurd c (by rw [hn]; decide))
  refine v_aload_n hX d_P_begin_66 rfl rfl ?_
  refine v_iload_n hX d_P_begin_67 rfl rfl ?_
  refine v_iload_n hX d_P_begin_68 rfl rfl ?_
  refine v_iconst (v := 1) hX d_P_begin_69 (by decide) ?_
  refine v_icmp_eq hX d_P_begin_70 (tgt := 79) (by decide) (fun c => absurd c (by decide)) (fun _ => ?_)
  refine v_iload_n hX d_P_begin_73 rfl rfl ?_
  refine v_bipush (v := 6) hX d_P_begin_74 (by decide) ?_
  refine v_icmp_ne hX d_P_begin_76 (tgt := 83) (by decide) (fun _ => ?_) (fun c => absurd c (by decide))
  refine v_iconst (v := 0) hX d_P_begin_83 (by decide) ?_
  refine c_V hX 0 (rest := []) hl (c_P_addNode 2 0 (hv 0 rfl) (hv 2 rfl) (hv 3 rfl) (hv 47 rfl) (hv 1 rfl) ) k_370 k_372 kp_3 k_1 k_373 rfl q_P_addNode ⟨(Nat.le_of_ble_eq_true rfl), (Nat.le_of_ble_eq_true rfl)⟩ (kd_b rfl) rfl (hv 0 rfl) rfl rfl rfl rfl (Nat.le_of_ble_eq_true rfl) d_P_begin_84 ⟨(Nat.le_of_ble_eq_true rfl), (Nat.le_of_ble_eq_true rfl)⟩ (fun rv d2 lo2 va2 kc ns hp => ?_)
  obtain ⟨q77, rfl, rfl, rfl, rfl, rfl, rfl⟩ := hp
  show V X D CL A _ _ _ _ _ _ _ (.ref q77 :: [])
  refine v_astore_n (lv' := [some (.ref (loc 0)), some (.int 2), some (.int n), some (.ref q77)]) hX d_P_begin_87 rfl (Nat.le_of_ble_eq_true rfl) rfl ?_
  refine v_iload_n hX d_P_begin_88 rfl rfl ?_
  refine v_bipush (v := 9) hX d_P_begin_89 (by decide) ?_
  refine v_icmp_ne hX d_P_begin_91 (tgt := 121) (by decide) (fun _ => ?_) (fun c => absurd c (by decide))
  refine v_iload_n hX d_P_begin_121 rfl rfl ?_
  refine v_sipush (v := (-1541)) hX d_P_begin_122 (by decide) ?_
  refine c_S hX (rest := []) hl (c_P_isOneOf 2 (-1541)) k_403 k_347 k_1 k_348 rfl q_P_isOneOf ⟨(Nat.le_of_ble_eq_true rfl), (Nat.le_of_ble_eq_true rfl)⟩ rfl rfl rfl (Nat.le_of_ble_eq_true rfl) d_P_begin_125 ⟨(Nat.le_of_ble_eq_true rfl), (Nat.le_of_ble_eq_true rfl)⟩ (fun rv d2 lo2 va2 kc ns hp => ?_)
  obtain ⟨rfl, rfl, rfl, rfl, rfl, rfl⟩ := hp
  show V X D CL A _ _ _ _ _ _ _ (.int (oneOf 2 (-1541)) :: [])
  refine v_if_eq hX d_P_begin_128 (tgt := 136) (by decide) (fun _ => ?_) (fun c => absurd (by decide) c)
  refine v_aload_n hX d_P_begin_136 rfl rfl ?_
  refine v_get hX 77 (v := .int 1) inT0 (kd_b rfl) rfl rfl rfl 0 (by decide) k_125 rfl rfl d_P_begin_137 ?_
  exact v_iret hX hE d_P_begin_140 (Nat.le_of_ble_eq_true rfl) (Nat.le_of_ble_eq_true rfl) ⟨rfl, (keepM.up (keepM.up (keepM.up (keepM.up (keepM.up (keepM.new keepM.rf _ _) _ _ rfl) _ _ rfl) _ _ rfl) _ _ rfl) _ _ rfl), rfl, rfl⟩
set_option maxHeartbeats 4000000 in
set_option maxRecDepth 100000 in
theorem c_P_begin_ok3 {l : Launch} {D : va_G} {A : Nat → Prop} {cI cB cZ cJ cN : ClassId} {loc : Nat → Nat} {val : Nat → va_E} (hv : ∀ k, Nat.ble (k + 1) 48 = true → val k = pcell cI cN loc k) (n : Int32) (hn : isNum 3 n = 1) : kM l y_P_begin (Cond.code y_P_begin b_P_begin 4 (some FieldType.int) :: TT) (rmL 3) D CL (TY cI cB cZ cJ cN) A [.ref (loc 0), .int 3, .int n] (kd 77) loc val (fun rv d lo va kc ns => rv = some (.int 1) ∧ keepM loc val d lo va ∧ kc = 1 ∧ ns = 12) := by
  refine kM_of (lv0 := [some (.ref (loc 0)), some (.int 3), some (.int n), none]) (own := "ProsePages") (by decide) rfl (List.forall_mem_cons.mpr ⟨rfl, List.forall_mem_cons.mpr ⟨rfl, List.forall_mem_cons.mpr ⟨rfl, fun _ h => nomatch h⟩⟩⟩) (Nat.le_of_ble_eq_true rfl) rfl (Nat.le_of_ble_eq_true rfl) (fun X hl hX hE hin0 => ?_)
  refine v_aload_n hX d_P_begin_0 rfl rfl ?_
  refine c_V hX 0 (rest := []) hl (c_P_refused hv) k_271 k_273 kp_1 k_1 k_274 rfl q_P_isNodeRefused ⟨(Nat.le_of_ble_eq_true rfl), (Nat.le_of_ble_eq_true rfl)⟩ (kd_b rfl) rfl (hv 0 rfl) rfl rfl rfl rfl (Nat.le_of_ble_eq_true rfl) d_P_begin_1 ⟨(Nat.le_of_ble_eq_true rfl), (Nat.le_of_ble_eq_true rfl)⟩ (fun rv d2 lo2 va2 kc ns hp => ?_)
  obtain ⟨rfl, rfl, rfl, rfl, rfl, rfl⟩ := hp
  show V X D CL A _ _ _ _ _ _ _ (.int 0 :: [])
  refine v_if_eq hX d_P_begin_4 (tgt := 17) (by decide) (fun _ => ?_) (fun c => absurd (by decide) c)
  refine v_iload_n hX d_P_begin_17 rfl rfl ?_
  refine v_if_lt hX d_P_begin_18 (tgt := 38) (by decide) (fun c => absurd c (by decide)) (fun _ => ?_)
  refine v_iload_n hX d_P_begin_21 rfl rfl ?_
  refine v_bipush (v := 9) hX d_P_begin_22 (by decide) ?_
  refine v_icmp_gt hX d_P_begin_24 (tgt := 38) (by decide) (fun c => absurd c (by decide)) (fun _ => ?_)
  refine v_aload_n hX d_P_begin_27 rfl rfl ?_
  refine v_get hX 0 (v := .ref (loc 47)) inT4 (kd_b rfl) rfl (hv 0 rfl) rfl 3 (by decide) k_178 rfl rfl d_P_begin_28 ?_
  refine v_iload_n hX d_P_begin_31 rfl rfl ?_
  refine c_V hX 47 (rest := []) hl (c_N_mayHold hv 3) k_342 k_343 k_344 k_5 k_345 rfl q_N_mayHold ⟨(Nat.le_of_ble_eq_true rfl), (Nat.le_of_ble_eq_true rfl)⟩ (kd_b rfl) rfl (hv 47 rfl) rfl rfl rfl rfl (Nat.le_of_ble_eq_true rfl) d_P_begin_32 ⟨(Nat.le_of_ble_eq_true rfl), (Nat.le_of_ble_eq_true rfl)⟩ (fun rv d2 lo2 va2 kc ns hp => ?_)
  obtain ⟨rfl, rfl, rfl, rfl, rfl, rfl⟩ := hp
  show V X D CL A _ _ _ _ _ _ _ (.int (oneOf 3 127) :: [])
  refine v_if_ne hX d_P_begin_35 (tgt := 48) (by decide) (fun _ => ?_) (fun c => absurd c (by decide))
  refine v_iload_n hX d_P_begin_48 rfl rfl ?_
  refine v_iload_n hX d_P_begin_49 rfl rfl ?_
  refine c_S hX (rest := []) hl (c_P_isNumberOf 3 n) k_365 k_366 k_1 k_367 rfl q_P_isNumberOf ⟨(Nat.le_of_ble_eq_true rfl), (Nat.le_of_ble_eq_true rfl)⟩ rfl rfl rfl (Nat.le_of_ble_eq_true rfl) d_P_begin_50 ⟨(Nat.le_of_ble_eq_true rfl), (Nat.le_of_ble_eq_true rfl)⟩ (fun rv d2 lo2 va2 kc ns hp => ?_)
  obtain ⟨rfl, rfl, rfl, rfl, rfl, rfl⟩ := hp
  show V X D CL A _ _ _ _ _ _ _ (.int (isNum 3 n) :: [])
  refine v_if_ne hX d_P_begin_53 (tgt := 66) (by decide) (fun _ => ?_) (fun c => absurd c (by rw [hn]; decide))
  refine v_aload_n hX d_P_begin_66 rfl rfl ?_
  refine v_iload_n hX d_P_begin_67 rfl rfl ?_
  refine v_iload_n hX d_P_begin_68 rfl rfl ?_
  refine v_iconst (v := 1) hX d_P_begin_69 (by decide) ?_
  refine v_icmp_eq hX d_P_begin_70 (tgt := 79) (by decide) (fun c => absurd c (by decide)) (fun _ => ?_)
  refine v_iload_n hX d_P_begin_73 rfl rfl ?_
  refine v_bipush (v := 6) hX d_P_begin_74 (by decide) ?_
  refine v_icmp_ne hX d_P_begin_76 (tgt := 83) (by decide) (fun _ => ?_) (fun c => absurd c (by decide))
  refine v_iconst (v := 0) hX d_P_begin_83 (by decide) ?_
  refine c_V hX 0 (rest := []) hl (c_P_addNode 3 0 (hv 0 rfl) (hv 2 rfl) (hv 3 rfl) (hv 47 rfl) (hv 1 rfl) ) k_370 k_372 kp_3 k_1 k_373 rfl q_P_addNode ⟨(Nat.le_of_ble_eq_true rfl), (Nat.le_of_ble_eq_true rfl)⟩ (kd_b rfl) rfl (hv 0 rfl) rfl rfl rfl rfl (Nat.le_of_ble_eq_true rfl) d_P_begin_84 ⟨(Nat.le_of_ble_eq_true rfl), (Nat.le_of_ble_eq_true rfl)⟩ (fun rv d2 lo2 va2 kc ns hp => ?_)
  obtain ⟨q77, rfl, rfl, rfl, rfl, rfl, rfl⟩ := hp
  show V X D CL A _ _ _ _ _ _ _ (.ref q77 :: [])
  refine v_astore_n (lv' := [some (.ref (loc 0)), some (.int 3), some (.int n), some (.ref q77)]) hX d_P_begin_87 rfl (Nat.le_of_ble_eq_true rfl) rfl ?_
  refine v_iload_n hX d_P_begin_88 rfl rfl ?_
  refine v_bipush (v := 9) hX d_P_begin_89 (by decide) ?_
  refine v_icmp_ne hX d_P_begin_91 (tgt := 121) (by decide) (fun _ => ?_) (fun c => absurd c (by decide))
  refine v_iload_n hX d_P_begin_121 rfl rfl ?_
  refine v_sipush (v := (-1541)) hX d_P_begin_122 (by decide) ?_
  refine c_S hX (rest := []) hl (c_P_isOneOf 3 (-1541)) k_403 k_347 k_1 k_348 rfl q_P_isOneOf ⟨(Nat.le_of_ble_eq_true rfl), (Nat.le_of_ble_eq_true rfl)⟩ rfl rfl rfl (Nat.le_of_ble_eq_true rfl) d_P_begin_125 ⟨(Nat.le_of_ble_eq_true rfl), (Nat.le_of_ble_eq_true rfl)⟩ (fun rv d2 lo2 va2 kc ns hp => ?_)
  obtain ⟨rfl, rfl, rfl, rfl, rfl, rfl⟩ := hp
  show V X D CL A _ _ _ _ _ _ _ (.int (oneOf 3 (-1541)) :: [])
  refine v_if_eq hX d_P_begin_128 (tgt := 136) (by decide) (fun c => absurd c (by decide)) (fun _ => ?_)
  refine v_aload_n hX d_P_begin_131 rfl rfl ?_
  refine v_aload_n hX d_P_begin_132 rfl rfl ?_
  refine v_putE hX 0 (fs2 := [.ref (loc 1), .ref (loc 2), .ref (loc 47), .ref q77, .int 2, .int 0, .ref (loc 30), .int 0]) inT4 tyX4 tyX4_ok nmX4 (kd_b rfl) rfl rfl rfl 3 (by decide) k_178 rfl rfl rfl rfl rfl (Nat.le_of_ble_eq_true rfl) d_P_begin_133 rfl ?_
  refine v_aload_n hX d_P_begin_136 rfl rfl ?_
  refine v_get hX 77 (v := .int 1) inT0 (kd_b rfl) rfl rfl rfl 0 (by decide) k_125 rfl rfl d_P_begin_137 ?_
  exact v_iret hX hE d_P_begin_140 (Nat.le_of_ble_eq_true rfl) (Nat.le_of_ble_eq_true rfl) ⟨rfl, (keepM.up (keepM.up (keepM.up (keepM.up (keepM.up (keepM.up (keepM.new keepM.rf _ _) _ _ rfl) _ _ rfl) _ _ rfl) _ _ rfl) _ _ rfl) _ _ rfl), rfl, rfl⟩
set_option maxHeartbeats 4000000 in
set_option maxRecDepth 100000 in
theorem c_P_begin_ok4 {l : Launch} {D : va_G} {A : Nat → Prop} {cI cB cZ cJ cN : ClassId} {loc : Nat → Nat} {val : Nat → va_E} (hv : ∀ k, Nat.ble (k + 1) 48 = true → val k = pcell cI cN loc k) (n : Int32) (hn : isNum 4 n = 1) : kM l y_P_begin (Cond.code y_P_begin b_P_begin 4 (some FieldType.int) :: TT) (rmL 3) D CL (TY cI cB cZ cJ cN) A [.ref (loc 0), .int 4, .int n] (kd 77) loc val (fun rv d lo va kc ns => rv = some (.int 1) ∧ keepM loc val d lo va ∧ kc = 1 ∧ ns = 12) := by
  refine kM_of (lv0 := [some (.ref (loc 0)), some (.int 4), some (.int n), none]) (own := "ProsePages") (by decide) rfl (List.forall_mem_cons.mpr ⟨rfl, List.forall_mem_cons.mpr ⟨rfl, List.forall_mem_cons.mpr ⟨rfl, fun _ h => nomatch h⟩⟩⟩) (Nat.le_of_ble_eq_true rfl) rfl (Nat.le_of_ble_eq_true rfl) (fun X hl hX hE hin0 => ?_)
  refine v_aload_n hX d_P_begin_0 rfl rfl ?_
  refine c_V hX 0 (rest := []) hl (c_P_refused hv) k_271 k_273 kp_1 k_1 k_274 rfl q_P_isNodeRefused ⟨(Nat.le_of_ble_eq_true rfl), (Nat.le_of_ble_eq_true rfl)⟩ (kd_b rfl) rfl (hv 0 rfl) rfl rfl rfl rfl (Nat.le_of_ble_eq_true rfl) d_P_begin_1 ⟨(Nat.le_of_ble_eq_true rfl), (Nat.le_of_ble_eq_true rfl)⟩ (fun rv d2 lo2 va2 kc ns hp => ?_)
  obtain ⟨rfl, rfl, rfl, rfl, rfl, rfl⟩ := hp
  show V X D CL A _ _ _ _ _ _ _ (.int 0 :: [])
  refine v_if_eq hX d_P_begin_4 (tgt := 17) (by decide) (fun _ => ?_) (fun c => absurd (by decide) c)
  refine v_iload_n hX d_P_begin_17 rfl rfl ?_
  refine v_if_lt hX d_P_begin_18 (tgt := 38) (by decide) (fun c => absurd c (by decide)) (fun _ => ?_)
  refine v_iload_n hX d_P_begin_21 rfl rfl ?_
  refine v_bipush (v := 9) hX d_P_begin_22 (by decide) ?_
  refine v_icmp_gt hX d_P_begin_24 (tgt := 38) (by decide) (fun c => absurd c (by decide)) (fun _ => ?_)
  refine v_aload_n hX d_P_begin_27 rfl rfl ?_
  refine v_get hX 0 (v := .ref (loc 47)) inT4 (kd_b rfl) rfl (hv 0 rfl) rfl 3 (by decide) k_178 rfl rfl d_P_begin_28 ?_
  refine v_iload_n hX d_P_begin_31 rfl rfl ?_
  refine c_V hX 47 (rest := []) hl (c_N_mayHold hv 4) k_342 k_343 k_344 k_5 k_345 rfl q_N_mayHold ⟨(Nat.le_of_ble_eq_true rfl), (Nat.le_of_ble_eq_true rfl)⟩ (kd_b rfl) rfl (hv 47 rfl) rfl rfl rfl rfl (Nat.le_of_ble_eq_true rfl) d_P_begin_32 ⟨(Nat.le_of_ble_eq_true rfl), (Nat.le_of_ble_eq_true rfl)⟩ (fun rv d2 lo2 va2 kc ns hp => ?_)
  obtain ⟨rfl, rfl, rfl, rfl, rfl, rfl⟩ := hp
  show V X D CL A _ _ _ _ _ _ _ (.int (oneOf 4 127) :: [])
  refine v_if_ne hX d_P_begin_35 (tgt := 48) (by decide) (fun _ => ?_) (fun c => absurd c (by decide))
  refine v_iload_n hX d_P_begin_48 rfl rfl ?_
  refine v_iload_n hX d_P_begin_49 rfl rfl ?_
  refine c_S hX (rest := []) hl (c_P_isNumberOf 4 n) k_365 k_366 k_1 k_367 rfl q_P_isNumberOf ⟨(Nat.le_of_ble_eq_true rfl), (Nat.le_of_ble_eq_true rfl)⟩ rfl rfl rfl (Nat.le_of_ble_eq_true rfl) d_P_begin_50 ⟨(Nat.le_of_ble_eq_true rfl), (Nat.le_of_ble_eq_true rfl)⟩ (fun rv d2 lo2 va2 kc ns hp => ?_)
  obtain ⟨rfl, rfl, rfl, rfl, rfl, rfl⟩ := hp
  show V X D CL A _ _ _ _ _ _ _ (.int (isNum 4 n) :: [])
  refine v_if_ne hX d_P_begin_53 (tgt := 66) (by decide) (fun _ => ?_) (fun c => absurd c (by rw [hn]; decide))
  refine v_aload_n hX d_P_begin_66 rfl rfl ?_
  refine v_iload_n hX d_P_begin_67 rfl rfl ?_
  refine v_iload_n hX d_P_begin_68 rfl rfl ?_
  refine v_iconst (v := 1) hX d_P_begin_69 (by decide) ?_
  refine v_icmp_eq hX d_P_begin_70 (tgt := 79) (by decide) (fun c => absurd c (by decide)) (fun _ => ?_)
  refine v_iload_n hX d_P_begin_73 rfl rfl ?_
  refine v_bipush (v := 6) hX d_P_begin_74 (by decide) ?_
  refine v_icmp_ne hX d_P_begin_76 (tgt := 83) (by decide) (fun _ => ?_) (fun c => absurd c (by decide))
  refine v_iconst (v := 0) hX d_P_begin_83 (by decide) ?_
  refine c_V hX 0 (rest := []) hl (c_P_addNode 4 0 (hv 0 rfl) (hv 2 rfl) (hv 3 rfl) (hv 47 rfl) (hv 1 rfl) ) k_370 k_372 kp_3 k_1 k_373 rfl q_P_addNode ⟨(Nat.le_of_ble_eq_true rfl), (Nat.le_of_ble_eq_true rfl)⟩ (kd_b rfl) rfl (hv 0 rfl) rfl rfl rfl rfl (Nat.le_of_ble_eq_true rfl) d_P_begin_84 ⟨(Nat.le_of_ble_eq_true rfl), (Nat.le_of_ble_eq_true rfl)⟩ (fun rv d2 lo2 va2 kc ns hp => ?_)
  obtain ⟨q77, rfl, rfl, rfl, rfl, rfl, rfl⟩ := hp
  show V X D CL A _ _ _ _ _ _ _ (.ref q77 :: [])
  refine v_astore_n (lv' := [some (.ref (loc 0)), some (.int 4), some (.int n), some (.ref q77)]) hX d_P_begin_87 rfl (Nat.le_of_ble_eq_true rfl) rfl ?_
  refine v_iload_n hX d_P_begin_88 rfl rfl ?_
  refine v_bipush (v := 9) hX d_P_begin_89 (by decide) ?_
  refine v_icmp_ne hX d_P_begin_91 (tgt := 121) (by decide) (fun _ => ?_) (fun c => absurd c (by decide))
  refine v_iload_n hX d_P_begin_121 rfl rfl ?_
  refine v_sipush (v := (-1541)) hX d_P_begin_122 (by decide) ?_
  refine c_S hX (rest := []) hl (c_P_isOneOf 4 (-1541)) k_403 k_347 k_1 k_348 rfl q_P_isOneOf ⟨(Nat.le_of_ble_eq_true rfl), (Nat.le_of_ble_eq_true rfl)⟩ rfl rfl rfl (Nat.le_of_ble_eq_true rfl) d_P_begin_125 ⟨(Nat.le_of_ble_eq_true rfl), (Nat.le_of_ble_eq_true rfl)⟩ (fun rv d2 lo2 va2 kc ns hp => ?_)
  obtain ⟨rfl, rfl, rfl, rfl, rfl, rfl⟩ := hp
  show V X D CL A _ _ _ _ _ _ _ (.int (oneOf 4 (-1541)) :: [])
  refine v_if_eq hX d_P_begin_128 (tgt := 136) (by decide) (fun c => absurd c (by decide)) (fun _ => ?_)
  refine v_aload_n hX d_P_begin_131 rfl rfl ?_
  refine v_aload_n hX d_P_begin_132 rfl rfl ?_
  refine v_putE hX 0 (fs2 := [.ref (loc 1), .ref (loc 2), .ref (loc 47), .ref q77, .int 2, .int 0, .ref (loc 30), .int 0]) inT4 tyX4 tyX4_ok nmX4 (kd_b rfl) rfl rfl rfl 3 (by decide) k_178 rfl rfl rfl rfl rfl (Nat.le_of_ble_eq_true rfl) d_P_begin_133 rfl ?_
  refine v_aload_n hX d_P_begin_136 rfl rfl ?_
  refine v_get hX 77 (v := .int 1) inT0 (kd_b rfl) rfl rfl rfl 0 (by decide) k_125 rfl rfl d_P_begin_137 ?_
  exact v_iret hX hE d_P_begin_140 (Nat.le_of_ble_eq_true rfl) (Nat.le_of_ble_eq_true rfl) ⟨rfl, (keepM.up (keepM.up (keepM.up (keepM.up (keepM.up (keepM.up (keepM.new keepM.rf _ _) _ _ rfl) _ _ rfl) _ _ rfl) _ _ rfl) _ _ rfl) _ _ rfl), rfl, rfl⟩
set_option maxHeartbeats 4000000 in
set_option maxRecDepth 100000 in
theorem c_P_begin_ok5 {l : Launch} {D : va_G} {A : Nat → Prop} {cI cB cZ cJ cN : ClassId} {loc : Nat → Nat} {val : Nat → va_E} (hv : ∀ k, Nat.ble (k + 1) 48 = true → val k = pcell cI cN loc k) (n : Int32) (hn : isNum 5 n = 1) : kM l y_P_begin (Cond.code y_P_begin b_P_begin 4 (some FieldType.int) :: TT) (rmL 3) D CL (TY cI cB cZ cJ cN) A [.ref (loc 0), .int 5, .int n] (kd 77) loc val (fun rv d lo va kc ns => rv = some (.int 1) ∧ keepM loc val d lo va ∧ kc = 1 ∧ ns = 12) := by
  refine kM_of (lv0 := [some (.ref (loc 0)), some (.int 5), some (.int n), none]) (own := "ProsePages") (by decide) rfl (List.forall_mem_cons.mpr ⟨rfl, List.forall_mem_cons.mpr ⟨rfl, List.forall_mem_cons.mpr ⟨rfl, fun _ h => nomatch h⟩⟩⟩) (Nat.le_of_ble_eq_true rfl) rfl (Nat.le_of_ble_eq_true rfl) (fun X hl hX hE hin0 => ?_)
  refine v_aload_n hX d_P_begin_0 rfl rfl ?_
  refine c_V hX 0 (rest := []) hl (c_P_refused hv) k_271 k_273 kp_1 k_1 k_274 rfl q_P_isNodeRefused ⟨(Nat.le_of_ble_eq_true rfl), (Nat.le_of_ble_eq_true rfl)⟩ (kd_b rfl) rfl (hv 0 rfl) rfl rfl rfl rfl (Nat.le_of_ble_eq_true rfl) d_P_begin_1 ⟨(Nat.le_of_ble_eq_true rfl), (Nat.le_of_ble_eq_true rfl)⟩ (fun rv d2 lo2 va2 kc ns hp => ?_)
  obtain ⟨rfl, rfl, rfl, rfl, rfl, rfl⟩ := hp
  show V X D CL A _ _ _ _ _ _ _ (.int 0 :: [])
  refine v_if_eq hX d_P_begin_4 (tgt := 17) (by decide) (fun _ => ?_) (fun c => absurd (by decide) c)
  refine v_iload_n hX d_P_begin_17 rfl rfl ?_
  refine v_if_lt hX d_P_begin_18 (tgt := 38) (by decide) (fun c => absurd c (by decide)) (fun _ => ?_)
  refine v_iload_n hX d_P_begin_21 rfl rfl ?_
  refine v_bipush (v := 9) hX d_P_begin_22 (by decide) ?_
  refine v_icmp_gt hX d_P_begin_24 (tgt := 38) (by decide) (fun c => absurd c (by decide)) (fun _ => ?_)
  refine v_aload_n hX d_P_begin_27 rfl rfl ?_
  refine v_get hX 0 (v := .ref (loc 47)) inT4 (kd_b rfl) rfl (hv 0 rfl) rfl 3 (by decide) k_178 rfl rfl d_P_begin_28 ?_
  refine v_iload_n hX d_P_begin_31 rfl rfl ?_
  refine c_V hX 47 (rest := []) hl (c_N_mayHold hv 5) k_342 k_343 k_344 k_5 k_345 rfl q_N_mayHold ⟨(Nat.le_of_ble_eq_true rfl), (Nat.le_of_ble_eq_true rfl)⟩ (kd_b rfl) rfl (hv 47 rfl) rfl rfl rfl rfl (Nat.le_of_ble_eq_true rfl) d_P_begin_32 ⟨(Nat.le_of_ble_eq_true rfl), (Nat.le_of_ble_eq_true rfl)⟩ (fun rv d2 lo2 va2 kc ns hp => ?_)
  obtain ⟨rfl, rfl, rfl, rfl, rfl, rfl⟩ := hp
  show V X D CL A _ _ _ _ _ _ _ (.int (oneOf 5 127) :: [])
  refine v_if_ne hX d_P_begin_35 (tgt := 48) (by decide) (fun _ => ?_) (fun c => absurd c (by decide))
  refine v_iload_n hX d_P_begin_48 rfl rfl ?_
  refine v_iload_n hX d_P_begin_49 rfl rfl ?_
  refine c_S hX (rest := []) hl (c_P_isNumberOf 5 n) k_365 k_366 k_1 k_367 rfl q_P_isNumberOf ⟨(Nat.le_of_ble_eq_true rfl), (Nat.le_of_ble_eq_true rfl)⟩ rfl rfl rfl (Nat.le_of_ble_eq_true rfl) d_P_begin_50 ⟨(Nat.le_of_ble_eq_true rfl), (Nat.le_of_ble_eq_true rfl)⟩ (fun rv d2 lo2 va2 kc ns hp => ?_)
  obtain ⟨rfl, rfl, rfl, rfl, rfl, rfl⟩ := hp
  show V X D CL A _ _ _ _ _ _ _ (.int (isNum 5 n) :: [])
  refine v_if_ne hX d_P_begin_53 (tgt := 66) (by decide) (fun _ => ?_) (fun c => absurd c (by rw [hn]; decide))
  refine v_aload_n hX d_P_begin_66 rfl rfl ?_
  refine v_iload_n hX d_P_begin_67 rfl rfl ?_
  refine v_iload_n hX d_P_begin_68 rfl rfl ?_
  refine v_iconst (v := 1) hX d_P_begin_69 (by decide) ?_
  refine v_icmp_eq hX d_P_begin_70 (tgt := 79) (by decide) (fun c => absurd c (by decide)) (fun _ => ?_)
  refine v_iload_n hX d_P_begin_73 rfl rfl ?_
  refine v_bipush (v := 6) hX d_P_begin_74 (by decide) ?_
  refine v_icmp_ne hX d_P_begin_76 (tgt := 83) (by decide) (fun _ => ?_) (fun c => absurd c (by decide))
  refine v_iconst (v := 0) hX d_P_begin_83 (by decide) ?_
  refine c_V hX 0 (rest := []) hl (c_P_addNode 5 0 (hv 0 rfl) (hv 2 rfl) (hv 3 rfl) (hv 47 rfl) (hv 1 rfl) ) k_370 k_372 kp_3 k_1 k_373 rfl q_P_addNode ⟨(Nat.le_of_ble_eq_true rfl), (Nat.le_of_ble_eq_true rfl)⟩ (kd_b rfl) rfl (hv 0 rfl) rfl rfl rfl rfl (Nat.le_of_ble_eq_true rfl) d_P_begin_84 ⟨(Nat.le_of_ble_eq_true rfl), (Nat.le_of_ble_eq_true rfl)⟩ (fun rv d2 lo2 va2 kc ns hp => ?_)
  obtain ⟨q77, rfl, rfl, rfl, rfl, rfl, rfl⟩ := hp
  show V X D CL A _ _ _ _ _ _ _ (.ref q77 :: [])
  refine v_astore_n (lv' := [some (.ref (loc 0)), some (.int 5), some (.int n), some (.ref q77)]) hX d_P_begin_87 rfl (Nat.le_of_ble_eq_true rfl) rfl ?_
  refine v_iload_n hX d_P_begin_88 rfl rfl ?_
  refine v_bipush (v := 9) hX d_P_begin_89 (by decide) ?_
  refine v_icmp_ne hX d_P_begin_91 (tgt := 121) (by decide) (fun _ => ?_) (fun c => absurd c (by decide))
  refine v_iload_n hX d_P_begin_121 rfl rfl ?_
  refine v_sipush (v := (-1541)) hX d_P_begin_122 (by decide) ?_
  refine c_S hX (rest := []) hl (c_P_isOneOf 5 (-1541)) k_403 k_347 k_1 k_348 rfl q_P_isOneOf ⟨(Nat.le_of_ble_eq_true rfl), (Nat.le_of_ble_eq_true rfl)⟩ rfl rfl rfl (Nat.le_of_ble_eq_true rfl) d_P_begin_125 ⟨(Nat.le_of_ble_eq_true rfl), (Nat.le_of_ble_eq_true rfl)⟩ (fun rv d2 lo2 va2 kc ns hp => ?_)
  obtain ⟨rfl, rfl, rfl, rfl, rfl, rfl⟩ := hp
  show V X D CL A _ _ _ _ _ _ _ (.int (oneOf 5 (-1541)) :: [])
  refine v_if_eq hX d_P_begin_128 (tgt := 136) (by decide) (fun c => absurd c (by decide)) (fun _ => ?_)
  refine v_aload_n hX d_P_begin_131 rfl rfl ?_
  refine v_aload_n hX d_P_begin_132 rfl rfl ?_
  refine v_putE hX 0 (fs2 := [.ref (loc 1), .ref (loc 2), .ref (loc 47), .ref q77, .int 2, .int 0, .ref (loc 30), .int 0]) inT4 tyX4 tyX4_ok nmX4 (kd_b rfl) rfl rfl rfl 3 (by decide) k_178 rfl rfl rfl rfl rfl (Nat.le_of_ble_eq_true rfl) d_P_begin_133 rfl ?_
  refine v_aload_n hX d_P_begin_136 rfl rfl ?_
  refine v_get hX 77 (v := .int 1) inT0 (kd_b rfl) rfl rfl rfl 0 (by decide) k_125 rfl rfl d_P_begin_137 ?_
  exact v_iret hX hE d_P_begin_140 (Nat.le_of_ble_eq_true rfl) (Nat.le_of_ble_eq_true rfl) ⟨rfl, (keepM.up (keepM.up (keepM.up (keepM.up (keepM.up (keepM.up (keepM.new keepM.rf _ _) _ _ rfl) _ _ rfl) _ _ rfl) _ _ rfl) _ _ rfl) _ _ rfl), rfl, rfl⟩
set_option maxHeartbeats 4000000 in
set_option maxRecDepth 100000 in
theorem c_P_begin_ok6 {l : Launch} {D : va_G} {A : Nat → Prop} {cI cB cZ cJ cN : ClassId} {loc : Nat → Nat} {val : Nat → va_E} (hv : ∀ k, Nat.ble (k + 1) 48 = true → val k = pcell cI cN loc k) (n : Int32) (hn : isNum 6 n = 1) : kM l y_P_begin (Cond.code y_P_begin b_P_begin 4 (some FieldType.int) :: TT) (rmL 3) D CL (TY cI cB cZ cJ cN) A [.ref (loc 0), .int 6, .int n] (kd 77) loc val (fun rv d lo va kc ns => rv = some (.int 1) ∧ keepM loc val d lo va ∧ kc = 1 ∧ ns = 12) := by
  refine kM_of (lv0 := [some (.ref (loc 0)), some (.int 6), some (.int n), none]) (own := "ProsePages") (by decide) rfl (List.forall_mem_cons.mpr ⟨rfl, List.forall_mem_cons.mpr ⟨rfl, List.forall_mem_cons.mpr ⟨rfl, fun _ h => nomatch h⟩⟩⟩) (Nat.le_of_ble_eq_true rfl) rfl (Nat.le_of_ble_eq_true rfl) (fun X hl hX hE hin0 => ?_)
  refine v_aload_n hX d_P_begin_0 rfl rfl ?_
  refine c_V hX 0 (rest := []) hl (c_P_refused hv) k_271 k_273 kp_1 k_1 k_274 rfl q_P_isNodeRefused ⟨(Nat.le_of_ble_eq_true rfl), (Nat.le_of_ble_eq_true rfl)⟩ (kd_b rfl) rfl (hv 0 rfl) rfl rfl rfl rfl (Nat.le_of_ble_eq_true rfl) d_P_begin_1 ⟨(Nat.le_of_ble_eq_true rfl), (Nat.le_of_ble_eq_true rfl)⟩ (fun rv d2 lo2 va2 kc ns hp => ?_)
  obtain ⟨rfl, rfl, rfl, rfl, rfl, rfl⟩ := hp
  show V X D CL A _ _ _ _ _ _ _ (.int 0 :: [])
  refine v_if_eq hX d_P_begin_4 (tgt := 17) (by decide) (fun _ => ?_) (fun c => absurd (by decide) c)
  refine v_iload_n hX d_P_begin_17 rfl rfl ?_
  refine v_if_lt hX d_P_begin_18 (tgt := 38) (by decide) (fun c => absurd c (by decide)) (fun _ => ?_)
  refine v_iload_n hX d_P_begin_21 rfl rfl ?_
  refine v_bipush (v := 9) hX d_P_begin_22 (by decide) ?_
  refine v_icmp_gt hX d_P_begin_24 (tgt := 38) (by decide) (fun c => absurd c (by decide)) (fun _ => ?_)
  refine v_aload_n hX d_P_begin_27 rfl rfl ?_
  refine v_get hX 0 (v := .ref (loc 47)) inT4 (kd_b rfl) rfl (hv 0 rfl) rfl 3 (by decide) k_178 rfl rfl d_P_begin_28 ?_
  refine v_iload_n hX d_P_begin_31 rfl rfl ?_
  refine c_V hX 47 (rest := []) hl (c_N_mayHold hv 6) k_342 k_343 k_344 k_5 k_345 rfl q_N_mayHold ⟨(Nat.le_of_ble_eq_true rfl), (Nat.le_of_ble_eq_true rfl)⟩ (kd_b rfl) rfl (hv 47 rfl) rfl rfl rfl rfl (Nat.le_of_ble_eq_true rfl) d_P_begin_32 ⟨(Nat.le_of_ble_eq_true rfl), (Nat.le_of_ble_eq_true rfl)⟩ (fun rv d2 lo2 va2 kc ns hp => ?_)
  obtain ⟨rfl, rfl, rfl, rfl, rfl, rfl⟩ := hp
  show V X D CL A _ _ _ _ _ _ _ (.int (oneOf 6 127) :: [])
  refine v_if_ne hX d_P_begin_35 (tgt := 48) (by decide) (fun _ => ?_) (fun c => absurd c (by decide))
  refine v_iload_n hX d_P_begin_48 rfl rfl ?_
  refine v_iload_n hX d_P_begin_49 rfl rfl ?_
  refine c_S hX (rest := []) hl (c_P_isNumberOf 6 n) k_365 k_366 k_1 k_367 rfl q_P_isNumberOf ⟨(Nat.le_of_ble_eq_true rfl), (Nat.le_of_ble_eq_true rfl)⟩ rfl rfl rfl (Nat.le_of_ble_eq_true rfl) d_P_begin_50 ⟨(Nat.le_of_ble_eq_true rfl), (Nat.le_of_ble_eq_true rfl)⟩ (fun rv d2 lo2 va2 kc ns hp => ?_)
  obtain ⟨rfl, rfl, rfl, rfl, rfl, rfl⟩ := hp
  show V X D CL A _ _ _ _ _ _ _ (.int (isNum 6 n) :: [])
  refine v_if_ne hX d_P_begin_53 (tgt := 66) (by decide) (fun _ => ?_) (fun c => absurd c (by rw [hn]; decide))
  refine v_aload_n hX d_P_begin_66 rfl rfl ?_
  refine v_iload_n hX d_P_begin_67 rfl rfl ?_
  refine v_iload_n hX d_P_begin_68 rfl rfl ?_
  refine v_iconst (v := 1) hX d_P_begin_69 (by decide) ?_
  refine v_icmp_eq hX d_P_begin_70 (tgt := 79) (by decide) (fun c => absurd c (by decide)) (fun _ => ?_)
  refine v_iload_n hX d_P_begin_73 rfl rfl ?_
  refine v_bipush (v := 6) hX d_P_begin_74 (by decide) ?_
  refine v_icmp_ne hX d_P_begin_76 (tgt := 83) (by decide) (fun c => absurd (by decide) c) (fun _ => ?_)
  refine v_iload_n hX d_P_begin_79 rfl rfl ?_
  refine v_goto hX d_P_begin_80 (tgt := 84) (by decide) ?_
  refine c_V hX 0 (rest := []) hl (c_P_addNode 6 n (hv 0 rfl) (hv 2 rfl) (hv 3 rfl) (hv 47 rfl) (hv 1 rfl) ) k_370 k_372 kp_3 k_1 k_373 rfl q_P_addNode ⟨(Nat.le_of_ble_eq_true rfl), (Nat.le_of_ble_eq_true rfl)⟩ (kd_b rfl) rfl (hv 0 rfl) rfl rfl rfl rfl (Nat.le_of_ble_eq_true rfl) d_P_begin_84 ⟨(Nat.le_of_ble_eq_true rfl), (Nat.le_of_ble_eq_true rfl)⟩ (fun rv d2 lo2 va2 kc ns hp => ?_)
  obtain ⟨q77, rfl, rfl, rfl, rfl, rfl, rfl⟩ := hp
  show V X D CL A _ _ _ _ _ _ _ (.ref q77 :: [])
  refine v_astore_n (lv' := [some (.ref (loc 0)), some (.int 6), some (.int n), some (.ref q77)]) hX d_P_begin_87 rfl (Nat.le_of_ble_eq_true rfl) rfl ?_
  refine v_iload_n hX d_P_begin_88 rfl rfl ?_
  refine v_bipush (v := 9) hX d_P_begin_89 (by decide) ?_
  refine v_icmp_ne hX d_P_begin_91 (tgt := 121) (by decide) (fun _ => ?_) (fun c => absurd c (by decide))
  refine v_iload_n hX d_P_begin_121 rfl rfl ?_
  refine v_sipush (v := (-1541)) hX d_P_begin_122 (by decide) ?_
  refine c_S hX (rest := []) hl (c_P_isOneOf 6 (-1541)) k_403 k_347 k_1 k_348 rfl q_P_isOneOf ⟨(Nat.le_of_ble_eq_true rfl), (Nat.le_of_ble_eq_true rfl)⟩ rfl rfl rfl (Nat.le_of_ble_eq_true rfl) d_P_begin_125 ⟨(Nat.le_of_ble_eq_true rfl), (Nat.le_of_ble_eq_true rfl)⟩ (fun rv d2 lo2 va2 kc ns hp => ?_)
  obtain ⟨rfl, rfl, rfl, rfl, rfl, rfl⟩ := hp
  show V X D CL A _ _ _ _ _ _ _ (.int (oneOf 6 (-1541)) :: [])
  refine v_if_eq hX d_P_begin_128 (tgt := 136) (by decide) (fun c => absurd c (by decide)) (fun _ => ?_)
  refine v_aload_n hX d_P_begin_131 rfl rfl ?_
  refine v_aload_n hX d_P_begin_132 rfl rfl ?_
  refine v_putE hX 0 (fs2 := [.ref (loc 1), .ref (loc 2), .ref (loc 47), .ref q77, .int 2, .int 0, .ref (loc 30), .int 0]) inT4 tyX4 tyX4_ok nmX4 (kd_b rfl) rfl rfl rfl 3 (by decide) k_178 rfl rfl rfl rfl rfl (Nat.le_of_ble_eq_true rfl) d_P_begin_133 rfl ?_
  refine v_aload_n hX d_P_begin_136 rfl rfl ?_
  refine v_get hX 77 (v := .int 1) inT0 (kd_b rfl) rfl rfl rfl 0 (by decide) k_125 rfl rfl d_P_begin_137 ?_
  exact v_iret hX hE d_P_begin_140 (Nat.le_of_ble_eq_true rfl) (Nat.le_of_ble_eq_true rfl) ⟨rfl, (keepM.up (keepM.up (keepM.up (keepM.up (keepM.up (keepM.up (keepM.new keepM.rf _ _) _ _ rfl) _ _ rfl) _ _ rfl) _ _ rfl) _ _ rfl) _ _ rfl), rfl, rfl⟩
