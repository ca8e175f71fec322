theorem at_iae : ∀ w ∈ Bundle.ownAtoms "ProsePages" 62 "java/lang/IllegalArgumentException" ["java/lang/RuntimeException", "java/lang/Exception"], w ∈ TT ∨ w ∈ nfw := by
  have h : ∀ w ∈ Bundle.ownAtoms "ProsePages" 62 "java/lang/IllegalArgumentException" ["java/lang/RuntimeException", "java/lang/Exception"], (w ∈ lw_tbl ∧ goodWord w = true) ∨ w ∈ nfw := by decide +kernel
  exact fun w hw => (h w hw).imp (fun z => List.mem_filter.mpr z) id
set_option maxHeartbeats 4000000 in
set_option maxRecDepth 100000 in
theorem t_P_begin_bad7 {l : Launch} {D : va_G} {A : Nat → Prop} {cI cB cZ cJ cN : ClassId} {loc : Nat → Nat} {val : Nat → va_E} (hv : ∀ k, Nat.ble (k + 1) 48 = true → val k = pcell cI cN loc k) (n : Int32) (htr : l.stackTraces = false) : kMT l y_P_begin (Cond.code y_P_begin b_P_begin 4 (some FieldType.int) :: TT) (rmL 3) D CL (TY cI cB cZ cJ cN) A [.ref (loc 0), .int 7, .int n] (kd 77) loc val "java/lang/IllegalArgumentException" := by
  refine kMT_of (lv0 := [some (.ref (loc 0)), some (.int 7), some (.int n), none]) (own := "ProsePages") (by decide) rfl (List.forall_mem_cons.mpr ⟨rfl, List.forall_mem_cons.mpr ⟨rfl, List.forall_mem_cons.mpr ⟨rfl, fun _ h => nomatch h⟩⟩⟩) (Nat.le_of_ble_eq_true rfl) rfl (Nat.le_of_ble_eq_true rfl) (fun X hl hX hemp hQ => ?_)
  refine v_aload_n hX d_P_begin_0 rfl rfl ?_
  refine c_V hX 0 (rest := []) hl (c_P_refused hv) k_271 k_273 kp_1 k_1 k_274 rfl q_P_isNodeRefused ⟨(Nat.le_of_ble_eq_true rfl), (Nat.le_of_ble_eq_true rfl)⟩ (kd_b rfl) rfl (hv 0 rfl) rfl rfl rfl rfl (Nat.le_of_ble_eq_true rfl) d_P_begin_1 ⟨(Nat.le_of_ble_eq_true rfl), (Nat.le_of_ble_eq_true rfl)⟩ (fun rv d2 lo2 va2 kc ns hp => ?_)
  obtain ⟨rfl, rfl, rfl, rfl, rfl, rfl⟩ := hp
  show V X D CL A _ _ _ _ _ _ _ (.int 0 :: [])
  refine v_if_eq hX d_P_begin_4 (tgt := 17) (by decide) (fun _ => ?_) (fun c => absurd (by decide) c)
  refine v_iload_n hX d_P_begin_17 rfl rfl ?_
  refine v_if_lt hX d_P_begin_18 (tgt := 38) (by decide) (fun c => absurd c (by decide)) (fun _ => ?_)
  refine v_iload_n hX d_P_begin_21 rfl rfl ?_
  refine v_bipush (v := 9) hX d_P_begin_22 (by decide) ?_
  refine v_icmp_gt hX d_P_begin_24 (tgt := 38) (by decide) (fun c => absurd c (by decide)) (fun _ => ?_)
  refine v_aload_n hX d_P_begin_27 rfl rfl ?_
  refine v_get hX 0 (v := .ref (loc 47)) inT4 (kd_b rfl) rfl (hv 0 rfl) rfl 3 (by decide) k_178 rfl rfl d_P_begin_28 ?_
  refine v_iload_n hX d_P_begin_31 rfl rfl ?_
  refine c_V hX 47 (rest := []) hl (c_N_mayHold hv 7) k_342 k_343 k_344 k_5 k_345 rfl q_N_mayHold ⟨(Nat.le_of_ble_eq_true rfl), (Nat.le_of_ble_eq_true rfl)⟩ (kd_b rfl) rfl (hv 47 rfl) rfl rfl rfl rfl (Nat.le_of_ble_eq_true rfl) d_P_begin_32 ⟨(Nat.le_of_ble_eq_true rfl), (Nat.le_of_ble_eq_true rfl)⟩ (fun rv d2 lo2 va2 kc ns hp => ?_)
  obtain ⟨rfl, rfl, rfl, rfl, rfl, rfl⟩ := hp
  show V X D CL A _ _ _ _ _ _ _ (.int (oneOf 7 127) :: [])
  refine v_if_ne hX d_P_begin_35 (tgt := 48) (by decide) (fun c => absurd (by decide) c) (fun _ => ?_)
  exact v_throw hX hemp (text := "no such kind, or not here") (names := ["java/lang/RuntimeException", "java/lang/Exception"]) hQ (by rw [hl]; exact htr) (by decide) (by decide) k_349 k_11 rfl (by decide) at_iae d_P_begin_38 d_P_begin_41 d_P_begin_42 d_P_begin_44 d_P_begin_47 (Nat.le_of_ble_eq_true rfl) (Nat.le_of_ble_eq_true rfl) (Nat.le_of_ble_eq_true rfl) (Nat.le_of_ble_eq_true rfl) rfl (Nat.le_of_ble_eq_true rfl) (Nat.le_of_ble_eq_true rfl) (Nat.le_of_ble_eq_true rfl)
set_option maxHeartbeats 4000000 in
set_option maxRecDepth 100000 in
theorem t_P_begin_bad8 {l : Launch} {D : va_G} {A : Nat → Prop} {cI cB cZ cJ cN : ClassId} {loc : Nat → Nat} {val : Nat → va_E} (hv : ∀ k, Nat.ble (k + 1) 48 = true → val k = pcell cI cN loc k) (n : Int32) (htr : l.stackTraces = false) : kMT l y_P_begin (Cond.code y_P_begin b_P_begin 4 (some FieldType.int) :: TT) (rmL 3) D CL (TY cI cB cZ cJ cN) A [.ref (loc 0), .int 8, .int n] (kd 77) loc val "java/lang/IllegalArgumentException" := by
  refine kMT_of (lv0 := [some (.ref (loc 0)), some (.int 8), some (.int n), none]) (own := "ProsePages") (by decide) rfl (List.forall_mem_cons.mpr ⟨rfl, List.forall_mem_cons.mpr ⟨rfl, List.forall_mem_cons.mpr ⟨rfl, fun _ h => nomatch h⟩⟩⟩) (Nat.le_of_ble_eq_true rfl) rfl (Nat.le_of_ble_eq_true rfl) (fun X hl hX hemp hQ => ?_)
  refine v_aload_n hX d_P_begin_0 rfl rfl ?_
  refine c_V hX 0 (rest := []) hl (c_P_refused hv) k_271 k_273 kp_1 k_1 k_274 rfl q_P_isNodeRefused ⟨(Nat.le_of_ble_eq_true rfl), (Nat.le_of_ble_eq_true rfl)⟩ (kd_b rfl) rfl (hv 0 rfl) rfl rfl rfl rfl (Nat.le_of_ble_eq_true rfl) d_P_begin_1 ⟨(Nat.le_of_ble_eq_true rfl), (Nat.le_of_ble_eq_true rfl)⟩ (fun rv d2 lo2 va2 kc ns hp => ?_)
  obtain ⟨rfl, rfl, rfl, rfl, rfl, rfl⟩ := hp
  show V X D CL A _ _ _ _ _ _ _ (.int 0 :: [])
  refine v_if_eq hX d_P_begin_4 (tgt := 17) (by decide) (fun _ => ?_) (fun c => absurd (by decide) c)
  refine v_iload_n hX d_P_begin_17 rfl rfl ?_
  refine v_if_lt hX d_P_begin_18 (tgt := 38) (by decide) (fun c => absurd c (by decide)) (fun _ => ?_)
  refine v_iload_n hX d_P_begin_21 rfl rfl ?_
  refine v_bipush (v := 9) hX d_P_begin_22 (by decide) ?_
  refine v_icmp_gt hX d_P_begin_24 (tgt := 38) (by decide) (fun c => absurd c (by decide)) (fun _ => ?_)
  refine v_aload_n hX d_P_begin_27 rfl rfl ?_
  refine v_get hX 0 (v := .ref (loc 47)) inT4 (kd_b rfl) rfl (hv 0 rfl) rfl 3 (by decide) k_178 rfl rfl d_P_begin_28 ?_
  refine v_iload_n hX d_P_begin_31 rfl rfl ?_
  refine c_V hX 47 (rest := []) hl (c_N_mayHold hv 8) k_342 k_343 k_344 k_5 k_345 rfl q_N_mayHold ⟨(Nat.le_of_ble_eq_true rfl), (Nat.le_of_ble_eq_true rfl)⟩ (kd_b rfl) rfl (hv 47 rfl) rfl rfl rfl rfl (Nat.le_of_ble_eq_true rfl) d_P_begin_32 ⟨(Nat.le_of_ble_eq_true rfl), (Nat.le_of_ble_eq_true rfl)⟩ (fun rv d2 lo2 va2 kc ns hp => ?_)
  obtain ⟨rfl, rfl, rfl, rfl, rfl, rfl⟩ := hp
  show V X D CL A _ _ _ _ _ _ _ (.int (oneOf 8 127) :: [])
  refine v_if_ne hX d_P_begin_35 (tgt := 48) (by decide) (fun c => absurd (by decide) c) (fun _ => ?_)
  exact v_throw hX hemp (text := "no such kind, or not here") (names := ["java/lang/RuntimeException", "java/lang/Exception"]) hQ (by rw [hl]; exact htr) (by decide) (by decide) k_349 k_11 rfl (by decide) at_iae d_P_begin_38 d_P_begin_41 d_P_begin_42 d_P_begin_44 d_P_begin_47 (Nat.le_of_ble_eq_true rfl) (Nat.le_of_ble_eq_true rfl) (Nat.le_of_ble_eq_true rfl) (Nat.le_of_ble_eq_true rfl) rfl (Nat.le_of_ble_eq_true rfl) (Nat.le_of_ble_eq_true rfl) (Nat.le_of_ble_eq_true rfl)
set_option maxHeartbeats 4000000 in
set_option maxRecDepth 100000 in
theorem t_P_begin_bad9 {l : Launch} {D : va_G} {A : Nat → Prop} {cI cB cZ cJ cN : ClassId} {loc : Nat → Nat} {val : Nat → va_E} (hv : ∀ k, Nat.ble (k + 1) 48 = true → val k = pcell cI cN loc k) (n : Int32) (htr : l.stackTraces = false) : kMT l y_P_begin (Cond.code y_P_begin b_P_begin 4 (some FieldType.int) :: TT) (rmL 3) D CL (TY cI cB cZ cJ cN) A [.ref (loc 0), .int 9, .int n] (kd 77) loc val "java/lang/IllegalArgumentException" := by
  refine kMT_of (lv0 := [some (.ref (loc 0)), some (.int 9), some (.int n), none]) (own := "ProsePages") (by decide) rfl (List.forall_mem_cons.mpr ⟨rfl, List.forall_mem_cons.mpr ⟨rfl, List.forall_mem_cons.mpr ⟨rfl, fun _ h => nomatch h⟩⟩⟩) (Nat.le_of_ble_eq_true rfl) rfl (Nat.le_of_ble_eq_true rfl) (fun X hl hX hemp hQ => ?_)
  refine v_aload_n hX d_P_begin_0 rfl rfl ?_
  refine c_V hX 0 (rest := []) hl (c_P_refused hv) k_271 k_273 kp_1 k_1 k_274 rfl q_P_isNodeRefused ⟨(Nat.le_of_ble_eq_true rfl), (Nat.le_of_ble_eq_true rfl)⟩ (kd_b rfl) rfl (hv 0 rfl) rfl rfl rfl rfl (Nat.le_of_ble_eq_true rfl) d_P_begin_1 ⟨(Nat.le_of_ble_eq_true rfl), (Nat.le_of_ble_eq_true rfl)⟩ (fun rv d2 lo2 va2 kc ns hp => ?_)
  obtain ⟨rfl, rfl, rfl, rfl, rfl, rfl⟩ := hp
  show V X D CL A _ _ _ _ _ _ _ (.int 0 :: [])
  refine v_if_eq hX d_P_begin_4 (tgt := 17) (by decide) (fun _ => ?_) (fun c => absurd (by decide) c)
  refine v_iload_n hX d_P_begin_17 rfl rfl ?_
  refine v_if_lt hX d_P_begin_18 (tgt := 38) (by decide) (fun c => absurd c (by decide)) (fun _ => ?_)
  refine v_iload_n hX d_P_begin_21 rfl rfl ?_
  refine v_bipush (v := 9) hX d_P_begin_22 (by decide) ?_
  refine v_icmp_gt hX d_P_begin_24 (tgt := 38) (by decide) (fun c => absurd c (by decide)) (fun _ => ?_)
  refine v_aload_n hX d_P_begin_27 rfl rfl ?_
  refine v_get hX 0 (v := .ref (loc 47)) inT4 (kd_b rfl) rfl (hv 0 rfl) rfl 3 (by decide) k_178 rfl rfl d_P_begin_28 ?_
  refine v_iload_n hX d_P_begin_31 rfl rfl ?_
  refine c_V hX 47 (rest := []) hl (c_N_mayHold hv 9) k_342 k_343 k_344 k_5 k_345 rfl q_N_mayHold ⟨(Nat.le_of_ble_eq_true rfl), (Nat.le_of_ble_eq_true rfl)⟩ (kd_b rfl) rfl (hv 47 rfl) rfl rfl rfl rfl (Nat.le_of_ble_eq_true rfl) d_P_begin_32 ⟨(Nat.le_of_ble_eq_true rfl), (Nat.le_of_ble_eq_true rfl)⟩ (fun rv d2 lo2 va2 kc ns hp => ?_)
  obtain ⟨rfl, rfl, rfl, rfl, rfl, rfl⟩ := hp
  show V X D CL A _ _ _ _ _ _ _ (.int (oneOf 9 127) :: [])
  refine v_if_ne hX d_P_begin_35 (tgt := 48) (by decide) (fun c => absurd (by decide) c) (fun _ => ?_)
  exact v_throw hX hemp (text := "no such kind, or not here") (names := ["java/lang/RuntimeException", "java/lang/Exception"]) hQ (by rw [hl]; exact htr) (by decide) (by decide) k_349 k_11 rfl (by decide) at_iae d_P_begin_38 d_P_begin_41 d_P_begin_42 d_P_begin_44 d_P_begin_47 (Nat.le_of_ble_eq_true rfl) (Nat.le_of_ble_eq_true rfl) (Nat.le_of_ble_eq_true rfl) (Nat.le_of_ble_eq_true rfl) rfl (Nat.le_of_ble_eq_true rfl) (Nat.le_of_ble_eq_true rfl) (Nat.le_of_ble_eq_true rfl)
set_option maxHeartbeats 4000000 in
set_option maxRecDepth 100000 in
theorem t_P_begin_bad1 {l : Launch} {D : va_G} {A : Nat → Prop} {cI cB cZ cJ cN : ClassId} {loc : Nat → Nat} {val : Nat → va_E} (hv : ∀ k, Nat.ble (k + 1) 48 = true → val k = pcell cI cN loc k) (n : Int32) (hn : isNum 1 n = 0) (htr : l.stackTraces = false) : kMT l y_P_begin (Cond.code y_P_begin b_P_begin 4 (some FieldType.int) :: TT) (rmL 3) D CL (TY cI cB cZ cJ cN) A [.ref (loc 0), .int 1, .int n] (kd 77) loc val "java/lang/IllegalArgumentException" := by
  refine kMT_of (lv0 := [some (.ref (loc 0)), some (.int 1), some (.int n), none]) (own := "ProsePages") (by decide) rfl (List.forall_mem_cons.mpr ⟨rfl, List.forall_mem_cons.mpr ⟨rfl, List.forall_mem_cons.mpr ⟨rfl, fun _ h => nomatch h⟩⟩⟩) (Nat.le_of_ble_eq_true rfl) rfl (Nat.le_of_ble_eq_true rfl) (fun X hl hX hemp hQ => ?_)
  refine v_aload_n hX d_P_begin_0 rfl rfl ?_
  refine c_V hX 0 (rest := []) hl (c_P_refused hv) k_271 k_273 kp_1 k_1 k_274 rfl q_P_isNodeRefused ⟨(Nat.le_of_ble_eq_true rfl), (Nat.le_of_ble_eq_true rfl)⟩ (kd_b rfl) rfl (hv 0 rfl) rfl rfl rfl rfl (Nat.le_of_ble_eq_true rfl) d_P_begin_1 ⟨(Nat.le_of_ble_eq_true rfl), (Nat.le_of_ble_eq_true rfl)⟩ (fun rv d2 lo2 va2 kc ns hp => ?_)
  obtain ⟨rfl, rfl, rfl, rfl, rfl, rfl⟩ := hp
  show V X D CL A _ _ _ _ _ _ _ (.int 0 :: [])
  refine v_if_eq hX d_P_begin_4 (tgt := 17) (by decide) (fun _ => ?_) (fun c => absurd (by decide) c)
  refine v_iload_n hX d_P_begin_17 rfl rfl ?_
  refine v_if_lt hX d_P_begin_18 (tgt := 38) (by decide) (fun c => absurd c (by decide)) (fun _ => ?_)
  refine v_iload_n hX d_P_begin_21 rfl rfl ?_
  refine v_bipush (v := 9) hX d_P_begin_22 (by decide) ?_
  refine v_icmp_gt hX d_P_begin_24 (tgt := 38) (by decide) (fun c => absurd c (by decide)) (fun _ => ?_)
  refine v_aload_n hX d_P_begin_27 rfl rfl ?_
  refine v_get hX 0 (v := .ref (loc 47)) inT4 (kd_b rfl) rfl (hv 0 rfl) rfl 3 (by decide) k_178 rfl rfl d_P_begin_28 ?_
  refine v_iload_n hX d_P_begin_31 rfl rfl ?_
  refine c_V hX 47 (rest := []) hl (c_N_mayHold hv 1) k_342 k_343 k_344 k_5 k_345 rfl q_N_mayHold ⟨(Nat.le_of_ble_eq_true rfl), (Nat.le_of_ble_eq_true rfl)⟩ (kd_b rfl) rfl (hv 47 rfl) rfl rfl rfl rfl (Nat.le_of_ble_eq_true rfl) d_P_begin_32 ⟨(Nat.le_of_ble_eq_true rfl), (Nat.le_of_ble_eq_true rfl)⟩ (fun rv d2 lo2 va2 kc ns hp => ?_)
  obtain ⟨rfl, rfl, rfl, rfl, rfl, rfl⟩ := hp
  show V X D CL A _ _ _ _ _ _ _ (.int (oneOf 1 127) :: [])
  refine v_if_ne hX d_P_begin_35 (tgt := 48) (by decide) (fun _ => ?_) (fun c => absurd c (by decide))
  refine v_iload_n hX d_P_begin_48 rfl rfl ?_
  refine v_iload_n hX d_P_begin_49 rfl rfl ?_
  refine c_S hX (rest := []) hl (c_P_isNumberOf 1 n) k_365 k_366 k_1 k_367 rfl q_P_isNumberOf ⟨(Nat.le_of_ble_eq_true rfl), (Nat.le_of_ble_eq_true rfl)⟩ rfl rfl rfl (Nat.le_of_ble_eq_true rfl) d_P_begin_50 ⟨(Nat.le_of_ble_eq_true rfl), (Nat.le_of_ble_eq_true rfl)⟩ (fun rv d2 lo2 va2 kc ns hp => ?_)
  obtain ⟨rfl, rfl, rfl, rfl, rfl, rfl⟩ := hp
  show V X D CL A _ _ _ _ _ _ _ (.int (isNum 1 n) :: [])
  refine v_if_ne hX d_P_begin_53 (tgt := 66) (by decide) (fun c => absurd (hn) c) (fun _ => ?_)
  exact v_throw hX hemp (text := "no such level or number") (names := ["java/lang/RuntimeException", "java/lang/Exception"]) hQ (by rw [hl]; exact htr) (by decide) (by decide) k_349 k_11 rfl (by decide) at_iae d_P_begin_56 d_P_begin_59 d_P_begin_60 d_P_begin_62 d_P_begin_65 (Nat.le_of_ble_eq_true rfl) (Nat.le_of_ble_eq_true rfl) (Nat.le_of_ble_eq_true rfl) (Nat.le_of_ble_eq_true rfl) rfl (Nat.le_of_ble_eq_true rfl) (Nat.le_of_ble_eq_true rfl) (Nat.le_of_ble_eq_true rfl)
set_option maxHeartbeats 4000000 in
set_option maxRecDepth 100000 in
theorem t_P_begin_bad6 {l : Launch} {D : va_G} {A : Nat → Prop} {cI cB cZ cJ cN : ClassId} {loc : Nat → Nat} {val : Nat → va_E} (hv : ∀ k, Nat.ble (k + 1) 48 = true → val k = pcell cI cN loc k) (n : Int32) (hn : isNum 6 n = 0) (htr : l.stackTraces = false) : kMT l y_P_begin (Cond.code y_P_begin b_P_begin 4 (some FieldType.int) :: TT) (rmL 3) D CL (TY cI cB cZ cJ cN) A [.ref (loc 0), .int 6, .int n] (kd 77) loc val "java/lang/IllegalArgumentException" := by
  refine kMT_of (lv0 := [some (.ref (loc 0)), some (.int 6), some (.int n), none]) (own := "ProsePages") (by decide) rfl (List.forall_mem_cons.mpr ⟨rfl, List.forall_mem_cons.mpr ⟨rfl, List.forall_mem_cons.mpr ⟨rfl, fun _ h => nomatch h⟩⟩⟩) (Nat.le_of_ble_eq_true rfl) rfl (Nat.le_of_ble_eq_true rfl) (fun X hl hX hemp hQ => ?_)
  refine v_aload_n hX d_P_begin_0 rfl rfl ?_
  refine c_V hX 0 (rest := []) hl (c_P_refused hv) k_271 k_273 kp_1 k_1 k_274 rfl q_P_isNodeRefused ⟨(Nat.le_of_ble_eq_true rfl), (Nat.le_of_ble_eq_true rfl)⟩ (kd_b rfl) rfl (hv 0 rfl) rfl rfl rfl rfl (Nat.le_of_ble_eq_true rfl) d_P_begin_1 ⟨(Nat.le_of_ble_eq_true rfl), (Nat.le_of_ble_eq_true rfl)⟩ (fun rv d2 lo2 va2 kc ns hp => ?_)
  obtain ⟨rfl, rfl, rfl, rfl, rfl, rfl⟩ := hp
  show V X D CL A _ _ _ _ _ _ _ (.int 0 :: [])
  refine v_if_eq hX d_P_begin_4 (tgt := 17) (by decide) (fun _ => ?_) (fun c => absurd (by decide) c)
  refine v_iload_n hX d_P_begin_17 rfl rfl ?_
  refine v_if_lt hX d_P_begin_18 (tgt := 38) (by decide) (fun c => absurd c (by decide)) (fun _ => ?_)
  refine v_iload_n hX d_P_begin_21 rfl rfl ?_
  refine v_bipush (v := 9) hX d_P_begin_22 (by decide) ?_
  refine v_icmp_gt hX d_P_begin_24 (tgt := 38) (by decide) (fun c => absurd c (by decide)) (fun _ => ?_)
  refine v_aload_n hX d_P_begin_27 rfl rfl ?_
  refine v_get hX 0 (v := .ref (loc 47)) inT4 (kd_b rfl) rfl (hv 0 rfl) rfl 3 (by decide) k_178 rfl rfl d_P_begin_28 ?_
  refine v_iload_n hX d_P_begin_31 rfl rfl ?_
  refine c_V hX 47 (rest := []) hl (c_N_mayHold hv 6) k_342 k_343 k_344 k_5 k_345 rfl q_N_mayHold ⟨(Nat.le_of_ble_eq_true rfl), (Nat.le_of_ble_eq_true rfl)⟩ (kd_b rfl) rfl (hv 47 rfl) rfl rfl rfl rfl (Nat.le_of_ble_eq_true rfl) d_P_begin_32 ⟨(Nat.le_of_ble_eq_true rfl), (Nat.le_of_ble_eq_true rfl)⟩ (fun rv d2 lo2 va2 kc ns hp => ?_)
  obtain ⟨rfl, rfl, rfl, rfl, rfl, rfl⟩ := hp
  show V X D CL A _ _ _ _ _ _ _ (.int (oneOf 6 127) :: [])
  refine v_if_ne hX d_P_begin_35 (tgt := 48) (by decide) (fun _ => ?_) (fun c => absurd c (by decide))
  refine v_iload_n hX d_P_begin_48 rfl rfl ?_
  refine v_iload_n hX d_P_begin_49 rfl rfl ?_
  refine c_S hX (rest := []) hl (c_P_isNumberOf 6 n) k_365 k_366 k_1 k_367 rfl q_P_isNumberOf ⟨(Nat.le_of_ble_eq_true rfl), (Nat.le_of_ble_eq_true rfl)⟩ rfl rfl rfl (Nat.le_of_ble_eq_true rfl) d_P_begin_50 ⟨(Nat.le_of_ble_eq_true rfl), (Nat.le_of_ble_eq_true rfl)⟩ (fun rv d2 lo2 va2 kc ns hp => ?_)
  obtain ⟨rfl, rfl, rfl, rfl, rfl, rfl⟩ := hp
  show V X D CL A _ _ _ _ _ _ _ (.int (isNum 6 n) :: [])
  refine v_if_ne hX d_P_begin_53 (tgt := 66) (by decide) (fun c => absurd (hn) c) (fun _ => ?_)
  exact v_throw hX hemp (text := "no such level or number") (names := ["java/lang/RuntimeException", "java/lang/Exception"]) hQ (by rw [hl]; exact htr) (by decide) (by decide) k_349 k_11 rfl (by decide) at_iae d_P_begin_56 d_P_begin_59 d_P_begin_60 d_P_begin_62 d_P_begin_65 (Nat.le_of_ble_eq_true rfl) (Nat.le_of_ble_eq_true rfl) (Nat.le_of_ble_eq_true rfl) (Nat.le_of_ble_eq_true rfl) rfl (Nat.le_of_ble_eq_true rfl) (Nat.le_of_ble_eq_true rfl) (Nat.le_of_ble_eq_true rfl)
set_option maxHeartbeats 4000000 in
set_option maxRecDepth 100000 in
theorem t_P_begin_badlt {l : Launch} {D : va_G} {A : Nat → Prop} {cI cB cZ cJ cN : ClassId} {loc : Nat → Nat} {val : Nat → va_E} (hv : ∀ k, Nat.ble (k + 1) 48 = true → val k = pcell cI cN loc k) (k n : Int32) (hk : k < 0) (htr : l.stackTraces = false) : kMT l y_P_begin (Cond.code y_P_begin b_P_begin 4 (some FieldType.int) :: TT) (rmL 3) D CL (TY cI cB cZ cJ cN) A [.ref (loc 0), .int k, .int n] (kd 77) loc val "java/lang/IllegalArgumentException" := by
  refine kMT_of (lv0 := [some (.ref (loc 0)), some (.int k), some (.int n), none]) (own := "ProsePages") (by decide) rfl (List.forall_mem_cons.mpr ⟨rfl, List.forall_mem_cons.mpr ⟨rfl, List.forall_mem_cons.mpr ⟨rfl, fun _ h => nomatch h⟩⟩⟩) (Nat.le_of_ble_eq_true rfl) rfl (Nat.le_of_ble_eq_true rfl) (fun X hl hX hemp hQ => ?_)
  refine v_aload_n hX d_P_begin_0 rfl rfl ?_
  refine c_V hX 0 (rest := []) hl (c_P_refused hv) k_271 k_273 kp_1 k_1 k_274 rfl q_P_isNodeRefused ⟨(Nat.le_of_ble_eq_true rfl), (Nat.le_of_ble_eq_true rfl)⟩ (kd_b rfl) rfl (hv 0 rfl) rfl rfl rfl rfl (Nat.le_of_ble_eq_true rfl) d_P_begin_1 ⟨(Nat.le_of_ble_eq_true rfl), (Nat.le_of_ble_eq_true rfl)⟩ (fun rv d2 lo2 va2 kc ns hp => ?_)
  obtain ⟨rfl, rfl, rfl, rfl, rfl, rfl⟩ := hp
  show V X D CL A _ _ _ _ _ _ _ (.int 0 :: [])
  refine v_if_eq hX d_P_begin_4 (tgt := 17) (by decide) (fun _ => ?_) (fun c => absurd (by decide) c)
  refine v_iload_n hX d_P_begin_17 rfl rfl ?_
  refine v_if_lt hX d_P_begin_18 (tgt := 38) (by decide) (fun _ => ?_) (fun c => absurd (hk) c)
  exact v_throw hX hemp (text := "no such kind, or not here") (names := ["java/lang/RuntimeException", "java/lang/Exception"]) hQ (by rw [hl]; exact htr) (by decide) (by decide) k_349 k_11 rfl (by decide) at_iae d_P_begin_38 d_P_begin_41 d_P_begin_42 d_P_begin_44 d_P_begin_47 (Nat.le_of_ble_eq_true rfl) (Nat.le_of_ble_eq_true rfl) (Nat.le_of_ble_eq_true rfl) (Nat.le_of_ble_eq_true rfl) rfl (Nat.le_of_ble_eq_true rfl) (Nat.le_of_ble_eq_true rfl) (Nat.le_of_ble_eq_true rfl)
set_option maxHeartbeats 4000000 in
set_option maxRecDepth 100000 in
theorem t_P_begin_badgt {l : Launch} {D : va_G} {A : Nat → Prop} {cI cB cZ cJ cN : ClassId} {loc : Nat → Nat} {val : Nat → va_E} (hv : ∀ k, Nat.ble (k + 1) 48 = true → val k = pcell cI cN loc k) (k n : Int32) (hk0 : ¬ k < 0) (hk : 9 < k) (htr : l.stackTraces = false) : kMT l y_P_begin (Cond.code y_P_begin b_P_begin 4 (some FieldType.int) :: TT) (rmL 3) D CL (TY cI cB cZ cJ cN) A [.ref (loc 0), .int k, .int n] (kd 77) loc val "java/lang/IllegalArgumentException" := by
  refine kMT_of (lv0 := [some (.ref (loc 0)), some (.int k), some (.int n), none]) (own := "ProsePages") (by decide) rfl (List.forall_mem_cons.mpr ⟨rfl, List.forall_mem_cons.mpr ⟨rfl, List.forall_mem_cons.mpr ⟨rfl, fun _ h => nomatch h⟩⟩⟩) (Nat.le_of_ble_eq_true rfl) rfl (Nat.le_of_ble_eq_true rfl) (fun X hl hX hemp hQ => ?_)
  refine v_aload_n hX d_P_begin_0 rfl rfl ?_
  refine c_V hX 0 (rest := []) hl (c_P_refused hv) k_271 k_273 kp_1 k_1 k_274 rfl q_P_isNodeRefused ⟨(Nat.le_of_ble_eq_true rfl), (Nat.le_of_ble_eq_true rfl)⟩ (kd_b rfl) rfl (hv 0 rfl) rfl rfl rfl rfl (Nat.le_of_ble_eq_true rfl) d_P_begin_1 ⟨(Nat.le_of_ble_eq_true rfl), (Nat.le_of_ble_eq_true rfl)⟩ (fun rv d2 lo2 va2 kc ns hp => ?_)
  obtain ⟨rfl, rfl, rfl, rfl, rfl, rfl⟩ := hp
  show V X D CL A _ _ _ _ _ _ _ (.int 0 :: [])
  refine v_if_eq hX d_P_begin_4 (tgt := 17) (by decide) (fun _ => ?_) (fun c => absurd (by decide) c)
  refine v_iload_n hX d_P_begin_17 rfl rfl ?_
  refine v_if_lt hX d_P_begin_18 (tgt := 38) (by decide) (fun c => absurd c (hk0)) (fun _ => ?_)
  refine v_iload_n hX d_P_begin_21 rfl rfl ?_
  refine v_bipush (v := 9) hX d_P_begin_22 (by decide) ?_
  refine v_icmp_gt hX d_P_begin_24 (tgt := 38) (by decide) (fun _ => ?_) (fun c => absurd (hk) c)
  exact v_throw hX hemp (text := "no such kind, or not here") (names := ["java/lang/RuntimeException", "java/lang/Exception"]) hQ (by rw [hl]; exact htr) (by decide) (by decide) k_349 k_11 rfl (by decide) at_iae d_P_begin_38 d_P_begin_41 d_P_begin_42 d_P_begin_44 d_P_begin_47 (Nat.le_of_ble_eq_true rfl) (Nat.le_of_ble_eq_true rfl) (Nat.le_of_ble_eq_true rfl) (Nat.le_of_ble_eq_true rfl) rfl (Nat.le_of_ble_eq_true rfl) (Nat.le_of_ble_eq_true rfl) (Nat.le_of_ble_eq_true rfl)
set_option maxHeartbeats 4000000 in
set_option maxRecDepth 100000 in
theorem t_P_say {l : Launch} {D : va_G} {A : Nat → Prop} {cI cB cZ cJ cN : ClassId} {loc : Nat → Nat} {val : Nat → va_E} (hv : ∀ k, Nat.ble (k + 1) 48 = true → val k = pcell cI cN loc k) (a b c d0 n : Int32) (htr : l.stackTraces = false) : kMT l y_P_say (Cond.code y_P_say b_P_say 7 (some FieldType.int) :: TT) (rmL 3) D CL (TY cI cB cZ cJ cN) A [.ref (loc 0), .int a, .int b, .int c, .int d0, .int n] (kd 77) loc val "java/lang/IllegalArgumentException" := by
  refine kMT_of (lv0 := [some (.ref (loc 0)), some (.int a), some (.int b), some (.int c), some (.int d0), some (.int n), none]) (own := "ProsePages") (by decide) rfl (List.forall_mem_cons.mpr ⟨rfl, List.forall_mem_cons.mpr ⟨rfl, List.forall_mem_cons.mpr ⟨rfl, List.forall_mem_cons.mpr ⟨rfl, List.forall_mem_cons.mpr ⟨rfl, List.forall_mem_cons.mpr ⟨rfl, fun _ h => nomatch h⟩⟩⟩⟩⟩⟩) (Nat.le_of_ble_eq_true rfl) rfl (Nat.le_of_ble_eq_true rfl) (fun X hl hX hemp hQ => ?_)
  refine v_iload hX d_P_say_0 rfl ?_
  refine v_iconst (v := 1) hX d_P_say_2 (by decide) ?_
  refine v_icmp_lt hX d_P_say_3 (tgt := 24) (by decide) (fun c3 => ?_) (fun c3 => ?_)
  · exact v_throw hX hemp (text := "not 1 to 4 characters, or no text may be here") (names := ["java/lang/RuntimeException", "java/lang/Exception"]) hQ (by rw [hl]; exact htr) (by decide) (by decide) k_349 k_11 rfl (by decide) at_iae d_P_say_24 d_P_say_27 d_P_say_28 d_P_say_30 d_P_say_33 (Nat.le_of_ble_eq_true rfl) (Nat.le_of_ble_eq_true rfl) (Nat.le_of_ble_eq_true rfl) (Nat.le_of_ble_eq_true rfl) rfl (Nat.le_of_ble_eq_true rfl) (Nat.le_of_ble_eq_true rfl) (Nat.le_of_ble_eq_true rfl)
  · refine v_iload hX d_P_say_6 rfl ?_
    refine v_iconst (v := 4) hX d_P_say_8 (by decide) ?_
    refine v_icmp_gt hX d_P_say_9 (tgt := 24) (by decide) (fun c9 => ?_) (fun c9 => ?_)
    · exact v_throw hX hemp (text := "not 1 to 4 characters, or no text may be here") (names := ["java/lang/RuntimeException", "java/lang/Exception"]) hQ (by rw [hl]; exact htr) (by decide) (by decide) k_349 k_11 rfl (by decide) at_iae d_P_say_24 d_P_say_27 d_P_say_28 d_P_say_30 d_P_say_33 (Nat.le_of_ble_eq_true rfl) (Nat.le_of_ble_eq_true rfl) (Nat.le_of_ble_eq_true rfl) (Nat.le_of_ble_eq_true rfl) rfl (Nat.le_of_ble_eq_true rfl) (Nat.le_of_ble_eq_true rfl) (Nat.le_of_ble_eq_true rfl)
    · refine v_aload_n hX d_P_say_12 rfl rfl ?_
      refine v_get hX 0 (v := .ref (loc 47)) inT4 (kd_b rfl) rfl (hv 0 rfl) rfl 3 (by decide) k_178 rfl rfl d_P_say_13 ?_
      refine v_bipush (v := 10) hX d_P_say_16 (by decide) ?_
      refine c_V hX 47 (rest := []) hl (c_N_mayHold hv 10) k_342 k_343 k_344 k_5 k_345 rfl q_N_mayHold ⟨(Nat.le_of_ble_eq_true rfl), (Nat.le_of_ble_eq_true rfl)⟩ (kd_b rfl) rfl (hv 47 rfl) rfl rfl rfl rfl (Nat.le_of_ble_eq_true rfl) d_P_say_18 ⟨(Nat.le_of_ble_eq_true rfl), (Nat.le_of_ble_eq_true rfl)⟩ (fun rv d2 lo2 va2 kc ns hp => ?_)
      obtain ⟨rfl, rfl, rfl, rfl, rfl, rfl⟩ := hp
      show V X D CL A _ _ _ _ _ _ _ (.int (oneOf 10 127) :: [])
      refine v_if_ne hX d_P_say_21 (tgt := 34) (by decide) (fun c => absurd (by decide) c) (fun _ => ?_)
      exact v_throw hX hemp (text := "not 1 to 4 characters, or no text may be here") (names := ["java/lang/RuntimeException", "java/lang/Exception"]) hQ (by rw [hl]; exact htr) (by decide) (by decide) k_349 k_11 rfl (by decide) at_iae d_P_say_24 d_P_say_27 d_P_say_28 d_P_say_30 d_P_say_33 (Nat.le_of_ble_eq_true rfl) (Nat.le_of_ble_eq_true rfl) (Nat.le_of_ble_eq_true rfl) (Nat.le_of_ble_eq_true rfl) rfl (Nat.le_of_ble_eq_true rfl) (Nat.le_of_ble_eq_true rfl) (Nat.le_of_ble_eq_true rfl)
set_option maxHeartbeats 4000000 in
set_option maxRecDepth 100000 in
theorem t_P_pages {l : Launch} {D : va_G} {A : Nat → Prop} {cI cB cZ cJ cN : ClassId} {loc : Nat → Nat} {val : Nat → va_E} (hv : ∀ k, Nat.ble (k + 1) 48 = true → val k = pcell cI cN loc k) (r c : Int32) (hb : r < 5 ∨ 40 < r ∨ c < 8 ∨ 60 < c) (htr : l.stackTraces = false) : kMT l y_P_pages (Cond.code y_P_pages b_P_pages 4 (some FieldType.int) :: TT) (rmL 3) D CL (TY cI cB cZ cJ cN) A [.ref (loc 0), .int r, .int c] (kd 77) loc val "java/lang/IllegalArgumentException" := by
  refine kMT_of (lv0 := [some (.ref (loc 0)), some (.int r), some (.int c), none]) (own := "ProsePages") (by decide) rfl (List.forall_mem_cons.mpr ⟨rfl, List.forall_mem_cons.mpr ⟨rfl, List.forall_mem_cons.mpr ⟨rfl, fun _ h => nomatch h⟩⟩⟩) (Nat.le_of_ble_eq_true rfl) rfl (Nat.le_of_ble_eq_true rfl) (fun X hl hX hemp hQ => ?_)
  refine v_iload_n hX d_P_pages_0 rfl rfl ?_
  refine v_iconst (v := 5) hX d_P_pages_1 (by decide) ?_
  refine v_icmp_lt hX d_P_pages_2 (tgt := 23) (by decide) (fun c2 => ?_) (fun c2 => ?_)
  · exact v_throw hX hemp (text := "no such rows or columns") (names := ["java/lang/RuntimeException", "java/lang/Exception"]) hQ (by rw [hl]; exact htr) (by decide) (by decide) k_349 k_11 rfl (by decide) at_iae d_P_pages_23 d_P_pages_26 d_P_pages_27 d_P_pages_29 d_P_pages_32 (Nat.le_of_ble_eq_true rfl) (Nat.le_of_ble_eq_true rfl) (Nat.le_of_ble_eq_true rfl) (Nat.le_of_ble_eq_true rfl) rfl (Nat.le_of_ble_eq_true rfl) (Nat.le_of_ble_eq_true rfl) (Nat.le_of_ble_eq_true rfl)
  · refine v_iload_n hX d_P_pages_5 rfl rfl ?_
    refine v_bipush (v := 40) hX d_P_pages_6 (by decide) ?_
    refine v_icmp_gt hX d_P_pages_8 (tgt := 23) (by decide) (fun c8 => ?_) (fun c8 => ?_)
    · exact v_throw hX hemp (text := "no such rows or columns") (names := ["java/lang/RuntimeException", "java/lang/Exception"]) hQ (by rw [hl]; exact htr) (by decide) (by decide) k_349 k_11 rfl (by decide) at_iae d_P_pages_23 d_P_pages_26 d_P_pages_27 d_P_pages_29 d_P_pages_32 (Nat.le_of_ble_eq_true rfl) (Nat.le_of_ble_eq_true rfl) (Nat.le_of_ble_eq_true rfl) (Nat.le_of_ble_eq_true rfl) rfl (Nat.le_of_ble_eq_true rfl) (Nat.le_of_ble_eq_true rfl) (Nat.le_of_ble_eq_true rfl)
    · refine v_iload_n hX d_P_pages_11 rfl rfl ?_
      refine v_bipush (v := 8) hX d_P_pages_12 (by decide) ?_
      refine v_icmp_lt hX d_P_pages_14 (tgt := 23) (by decide) (fun c14 => ?_) (fun c14 => ?_)
      · exact v_throw hX hemp (text := "no such rows or columns") (names := ["java/lang/RuntimeException", "java/lang/Exception"]) hQ (by rw [hl]; exact htr) (by decide) (by decide) k_349 k_11 rfl (by decide) at_iae d_P_pages_23 d_P_pages_26 d_P_pages_27 d_P_pages_29 d_P_pages_32 (Nat.le_of_ble_eq_true rfl) (Nat.le_of_ble_eq_true rfl) (Nat.le_of_ble_eq_true rfl) (Nat.le_of_ble_eq_true rfl) rfl (Nat.le_of_ble_eq_true rfl) (Nat.le_of_ble_eq_true rfl) (Nat.le_of_ble_eq_true rfl)
      · refine v_iload_n hX d_P_pages_17 rfl rfl ?_
        refine v_bipush (v := 60) hX d_P_pages_18 (by decide) ?_
        refine v_icmp_le hX d_P_pages_20 (tgt := 33) (by decide) (fun c => absurd c (pgbad hb c2 c8 c14)) (fun _ => ?_)
        exact v_throw hX hemp (text := "no such rows or columns") (names := ["java/lang/RuntimeException", "java/lang/Exception"]) hQ (by rw [hl]; exact htr) (by decide) (by decide) k_349 k_11 rfl (by decide) at_iae d_P_pages_23 d_P_pages_26 d_P_pages_27 d_P_pages_29 d_P_pages_32 (Nat.le_of_ble_eq_true rfl) (Nat.le_of_ble_eq_true rfl) (Nat.le_of_ble_eq_true rfl) (Nat.le_of_ble_eq_true rfl) rfl (Nat.le_of_ble_eq_true rfl) (Nat.le_of_ble_eq_true rfl) (Nat.le_of_ble_eq_true rfl)
