set_option maxHeartbeats 4000000 in
set_option maxRecDepth 100000 in
theorem c_N_take {l : Launch} {D : va_G} {A : Nat → Prop} {cI cB cZ cJ cN : ClassId} {loc : Nat → Nat} {val : Nat → va_E} (b : Nat) (h47 : val 47 = .inr (0, [.int 0, .int (-1), .null, .int 1, .int 0, .int 0, .int 0, .null, .null, .null, .int 0, .int (-1)]))  : kM l y_N_take (Cond.code y_N_take b_N_take 2 none :: TT) (rmL 1) D CL (TY cI cB cZ cJ cN) A [.ref (loc 47), .ref b] (kd 78) loc val (fun rv d lo va kc ns => rv = none ∧ kd 78 = d ∧ loc = lo ∧ va_up (va_up (val) 47 (.inr (0, [.int 0, .int (-1), .null, .int 1, .int 0, .int 0, .int 0, .ref b, .null, .null, .int 0, .int (-1)]))) 47 (.inr (0, [.int 0, .int (-1), .null, .int 1, .int 0, .int 0, .int 0, .ref b, .ref b, .null, .int 0, .int (-1)])) = va ∧ kc = 0 ∧ ns = 0) := by
  refine kM_of (lv0 := [some (.ref (loc 47)), some (.ref b)]) (own := "ProsePages$Node") (by decide) rfl (List.forall_mem_cons.mpr ⟨rfl, List.forall_mem_cons.mpr ⟨rfl, fun _ h => nomatch h⟩⟩) (Nat.le_of_ble_eq_true rfl) rfl (Nat.le_of_ble_eq_true rfl) (fun X hl hX hE hin0 => ?_)
  refine v_aload_n hX d_N_take_0 rfl rfl ?_
  refine v_get hX 47 (v := .null) inT0 (kd_b rfl) rfl h47 rfl 8 (by decide) k_142 rfl rfl d_N_take_1 ?_
  refine v_ifnonnull hX none d_N_take_4 (tgt := 15) (by decide) (fun _ h => nomatch h) (fun _ => ?_)
  refine v_aload_n hX d_N_take_7 rfl rfl ?_
  refine v_aload_n hX d_N_take_8 rfl rfl ?_
  refine v_putE hX 47 (fs2 := [.int 0, .int (-1), .null, .int 1, .int 0, .int 0, .int 0, .ref b, .null, .null, .int 0, .int (-1)]) inT0 tyX0 tyX0_ok nmX0 (kd_b rfl) rfl h47 rfl 7 (by decide) k_141 rfl rfl rfl rfl rfl (Nat.le_of_ble_eq_true rfl) d_N_take_9 rfl ?_
  refine v_goto hX d_N_take_12 (tgt := 23) (by decide) ?_
  refine v_aload_n hX d_N_take_23 rfl rfl ?_
  refine v_aload_n hX d_N_take_24 rfl rfl ?_
  refine v_putE hX 47 (fs2 := [.int 0, .int (-1), .null, .int 1, .int 0, .int 0, .int 0, .ref b, .ref b, .null, .int 0, .int (-1)]) inT0 tyX0 tyX0_ok nmX0 (kd_b rfl) rfl rfl rfl 8 (by decide) k_142 rfl rfl rfl rfl rfl (Nat.le_of_ble_eq_true rfl) d_N_take_25 rfl ?_
  exact v_vret hX hE d_N_take_28 (Nat.le_of_ble_eq_true rfl) (Nat.le_of_ble_eq_true rfl) ⟨rfl, rfl, rfl, rfl, rfl, rfl⟩
set_option maxHeartbeats 4000000 in
set_option maxRecDepth 100000 in
theorem c_P_addNode {l : Launch} {D : va_G} {A : Nat → Prop} {cI cB cZ cJ cN : ClassId} {loc : Nat → Nat} {val : Nat → va_E} (ki v0 : Int32) (h0 : val 0 = .inr (4, [.ref (loc 1), .ref (loc 2), .ref (loc 47), .ref (loc 47), .int 1, .int 0, .ref (loc 30), .int 0])) (h2 : val 2 = .inr (2, [.ref (loc 3), .ref (loc 5), .ref (loc 22), .ref (loc 24), .ref (loc 26), .ref (loc 28)])) (h3 : val 3 = .inr (1, [.ref (loc 4), .int 0])) (h47 : val 47 = .inr (0, [.int 0, .int (-1), .null, .int 1, .int 0, .int 0, .int 0, .null, .null, .null, .int 0, .int (-1)])) (h1 : val 1 = .inl (cN, 300, .inr (.inr (.inr (.inr (va_up (fun _ => none) (Int32.toNatClampNeg 0) (some (loc 47))))))))  : kM l y_P_addNode (Cond.code y_P_addNode b_P_addNode 4 (some (FieldType.object "ProsePages$Node")) :: TT) (rmL 2) D CL (TY cI cB cZ cJ cN) A [.ref (loc 0), .int ki, .int v0] (kd 77) loc val (fun rv d lo va kc ns => ∃ q77, rv = some (.ref q77) ∧ kd 78 = d ∧ va_up (loc) 77 q77 = lo ∧ va_up (va_up (va_up (va_up (va_up (va_up (val) 77 (.inr (0, [.int 0, .int 0, .null, .int 0, .int 0, .int 0, .int 0, .null, .null, .null, .int 0, .int 0]))) 77 (.inr (0, [.int 1, .int ki, .ref (loc 47), .int (1 + 1), .int 0, .int 0, .int v0, .null, .null, .null, .int 0, .int (-1)]))) 47 (.inr (0, [.int 0, .int (-1), .null, .int 1, .int 0, .int 0, .int 0, .ref q77, .null, .null, .int 0, .int (-1)]))) 47 (.inr (0, [.int 0, .int (-1), .null, .int 1, .int 0, .int 0, .int 0, .ref q77, .ref q77, .null, .int 0, .int (-1)]))) 1 (.inl (cN, 300, .inr (.inr (.inr (.inr (va_up (va_up (fun _ => none) (Int32.toNatClampNeg 0) (some (loc 47))) (Int32.toNatClampNeg 1) (some q77)))))))) 0 (.inr (4, [.ref (loc 1), .ref (loc 2), .ref (loc 47), .ref (loc 47), .int 2, .int 0, .ref (loc 30), .int 0])) = va ∧ kc = 1 ∧ ns = 12) := by
  refine kM_of (lv0 := [some (.ref (loc 0)), some (.int ki), some (.int v0), none]) (own := "ProsePages") (by decide) rfl (List.forall_mem_cons.mpr ⟨rfl, List.forall_mem_cons.mpr ⟨rfl, List.forall_mem_cons.mpr ⟨rfl, fun _ h => nomatch h⟩⟩⟩) (Nat.le_of_ble_eq_true rfl) rfl (Nat.le_of_ble_eq_true rfl) (fun X hl hX hE hin0 => ?_)
  refine v_new hX 77 (kd 78) (ci := 0) (fs := [.int 0, .int 0, .null, .int 0, .int 0, .int 0, .int 0, .null, .null, .null, .int 0, .int 0]) inT0 tyX0 tyX0_ok k_23 k_119 k_5 rfl (by decide) (Nat.le_of_ble_eq_true rfl) (Nat.le_of_ble_eq_true rfl) d_P_addNode_0 (kd_step 77) (kd_self 77) (fun q77 _ => ?_)
  refine v_dup hX d_P_addNode_3 rfl ?_
  refine v_aload_n hX d_P_addNode_4 rfl rfl ?_
  refine v_get hX 0 (v := .int 1) inT4 (kd_b rfl) rfl h0 rfl 4 (by decide) k_179 rfl rfl d_P_addNode_5 ?_
  refine v_iload_n hX d_P_addNode_8 rfl rfl ?_
  refine v_iload_n hX d_P_addNode_9 rfl rfl ?_
  refine v_aload_n hX d_P_addNode_10 rfl rfl ?_
  refine v_get hX 0 (v := .ref (loc 47)) inT4 (kd_b rfl) rfl h0 rfl 3 (by decide) k_178 rfl rfl d_P_addNode_11 ?_
  refine v_aload_n hX d_P_addNode_14 rfl rfl ?_
  refine v_get hX 0 (v := .ref (loc 2)) inT4 (kd_b rfl) rfl h0 rfl 1 (by decide) k_176 rfl rfl d_P_addNode_15 ?_
  refine v_get hX 2 (v := .ref (loc 3)) inT2 (kd_b rfl) rfl h2 rfl 0 (by decide) k_97 rfl rfl d_P_addNode_18 ?_
  refine c_V hX 3 (rest := [.ref (loc 47), .int v0, .int ki, .int 1, .ref q77, .ref q77]) hl (c_R_size 3 (kd_b rfl) h3) k_374 k_225 k_226 k_3 k_227 rfl q_R_size ⟨(Nat.le_of_ble_eq_true rfl), (Nat.le_of_ble_eq_true rfl)⟩ (kd_b rfl) rfl h3 rfl rfl rfl rfl (Nat.le_of_ble_eq_true rfl) d_P_addNode_21 ⟨(Nat.le_of_ble_eq_true rfl), (Nat.le_of_ble_eq_true rfl)⟩ (fun rv d2 lo2 va2 kc ns hp => ?_)
  obtain ⟨rfl, rfl, rfl, rfl, rfl, rfl⟩ := hp
  show V X D CL A _ _ _ _ _ _ _ (.int 0 :: [.ref (loc 47), .int v0, .int ki, .int 1, .ref q77, .ref q77])
  refine c_I hX (rest := [.ref q77]) hl (c_N_init1 77 47 1 ki v0 0 1 (by decide) (kd_b rfl) (kd_b rfl) rfl h47) k_120 k_121 k_5 k_122 rfl q_N_init ⟨(Nat.le_of_ble_eq_true rfl), (Nat.le_of_ble_eq_true rfl)⟩ rfl rfl rfl (Nat.le_of_ble_eq_true rfl) d_P_addNode_24 ⟨(Nat.le_of_ble_eq_true rfl), (Nat.le_of_ble_eq_true rfl)⟩ (fun rv d2 lo2 va2 kc ns hp => ?_)
  obtain ⟨rfl, rfl, rfl, rfl, rfl, rfl⟩ := hp
  show V X D CL A _ _ _ _ _ _ _ [.ref q77]
  refine v_astore_n (lv' := [some (.ref (loc 0)), some (.int ki), some (.int v0), some (.ref q77)]) hX d_P_addNode_27 rfl (Nat.le_of_ble_eq_true rfl) rfl ?_
  refine v_aload_n hX d_P_addNode_28 rfl rfl ?_
  refine v_get hX 0 (v := .ref (loc 47)) inT4 (kd_b rfl) rfl h0 rfl 3 (by decide) k_178 rfl rfl d_P_addNode_29 ?_
  refine v_aload_n hX d_P_addNode_32 rfl rfl ?_
  refine c_V hX 47 (rest := []) hl (c_N_take q77 h47 ) k_375 k_376 k_377 k_5 k_378 rfl q_N_take ⟨(Nat.le_of_ble_eq_true rfl), (Nat.le_of_ble_eq_true rfl)⟩ (kd_b rfl) rfl h47 rfl rfl rfl rfl (Nat.le_of_ble_eq_true rfl) d_P_addNode_33 ⟨(Nat.le_of_ble_eq_true rfl), (Nat.le_of_ble_eq_true rfl)⟩ (fun rv d2 lo2 va2 kc ns hp => ?_)
  obtain ⟨rfl, rfl, rfl, rfl, rfl, rfl⟩ := hp
  show V X D CL A _ _ _ _ _ _ _ []
  refine v_aload_n hX d_P_addNode_36 rfl rfl ?_
  refine v_get hX 0 (v := .int 1) inT4 (kd_b rfl) rfl h0 rfl 4 (by decide) k_179 rfl rfl d_P_addNode_37 ?_
  refine v_aload_n hX d_P_addNode_40 rfl rfl ?_
  refine v_get hX 0 (v := .ref (loc 1)) inT4 (kd_b rfl) rfl h0 rfl 0 (by decide) k_175 rfl rfl d_P_addNode_41 ?_
  refine v_alen hX 1 4 (v := 300) (kd_b rfl) rfl h1 rfl rfl d_P_addNode_44 ?_
  refine v_icmp_ge hX d_P_addNode_45 (tgt := 68) (by decide) (fun c => absurd c (by decide)) (fun _ => ?_)
  refine v_aload_n hX d_P_addNode_48 rfl rfl ?_
  refine v_get hX 0 (v := .ref (loc 1)) inT4 (kd_b rfl) rfl h0 rfl 0 (by decide) k_175 rfl rfl d_P_addNode_49 ?_
  refine v_aload_n hX d_P_addNode_52 rfl rfl ?_
  refine v_get hX 0 (v := .int 1) inT4 (kd_b rfl) rfl h0 rfl 4 (by decide) k_179 rfl rfl d_P_addNode_53 ?_
  refine v_aload_n hX d_P_addNode_56 rfl rfl ?_
  refine v_astq hX 1 4 77 (kd_b rfl) rfl h1 rfl (kd_b rfl) rfl rfl rfl (vpb (by decide)) d_P_addNode_57 ?_
  refine v_aload_n hX d_P_addNode_58 rfl rfl ?_
  refine v_dup hX d_P_addNode_59 rfl ?_
  refine v_get hX 0 (v := .int 1) inT4 (kd_b rfl) rfl h0 rfl 4 (by decide) k_179 rfl rfl d_P_addNode_60 ?_
  refine v_iconst (v := 1) hX d_P_addNode_63 (by decide) ?_
  refine v_iaddE (v := 2) hX d_P_addNode_64 (by decide) ?_
  refine v_putE hX 0 (fs2 := [.ref (loc 1), .ref (loc 2), .ref (loc 47), .ref (loc 47), .int 2, .int 0, .ref (loc 30), .int 0]) inT4 tyX4 tyX4_ok nmX4 (kd_b rfl) rfl h0 rfl 4 (by decide) k_179 rfl rfl rfl rfl rfl (Nat.le_of_ble_eq_true rfl) d_P_addNode_65 rfl ?_
  refine v_aload_n hX d_P_addNode_68 rfl rfl ?_
  exact v_aret hX hE (some q77) d_P_addNode_69 (Nat.le_of_ble_eq_true rfl) (Nat.le_of_ble_eq_true rfl) ⟨q77, rfl, rfl, rfl, rfl, rfl, rfl⟩
