set_option maxHeartbeats 4000000 in
set_option maxRecDepth 100000 in
theorem c_T_init5 {l : Launch} {D : va_G} {A : Nat → Prop} {cI cB cZ cJ cN : ClassId} {loc : Nat → Nat} {val : Nat → va_E} (hv : val 5 = .inr (3, [.null, .null, .null, .null, .null, .null, .null, .null, .int 0, .int 0, .int 0])) : kM l y_T_init (Cond.code y_T_init b_T_init 1 none :: TT) (rmL 2) D CL (TY cI cB cZ cJ cN) A [.ref (loc 5)] (kd 6) loc val (fun rv d lo va kc ns => ∃ q6 q7 q8 q9 q10 q11 q12 q13 q14 q15 q16 q17 q18 q19 q20 q21, rv = none ∧ kd 22 = d ∧ va_up (va_up (va_up (va_up (va_up (va_up (va_up (va_up (va_up (va_up (va_up (va_up (va_up (va_up (va_up (va_up (loc) 6 q6) 7 q7) 8 q8) 9 q9) 10 q10) 11 q11) 12 q12) 13 q13) 14 q14) 15 q15) 16 q16) 17 q17) 18 q18) 19 q19) 20 q20) 21 q21 = lo ∧ va_up (va_up (va_up (va_up (va_up (va_up (va_up (va_up (va_up (va_up (va_up (va_up (va_up (va_up (va_up (va_up (va_up (va_up (va_up (va_up (va_up (va_up (va_up (va_up (va_up (va_up (va_up (va_up (va_up (va_up (va_up (va_up (val) 6 (.inr (1, [.null, .int 0]))) 7 (.inl (cI, 16, .inl (fun _ => 0)))) 6 (.inr (1, [.ref q7, .int 0]))) 5 (.inr (3, [.ref q6, .null, .null, .null, .null, .null, .null, .null, .int 0, .int 0, .int 0]))) 8 (.inr (1, [.null, .int 0]))) 9 (.inl (cI, 16, .inl (fun _ => 0)))) 8 (.inr (1, [.ref q9, .int 0]))) 5 (.inr (3, [.ref q6, .ref q8, .null, .null, .null, .null, .null, .null, .int 0, .int 0, .int 0]))) 10 (.inr (1, [.null, .int 0]))) 11 (.inl (cI, 16, .inl (fun _ => 0)))) 10 (.inr (1, [.ref q11, .int 0]))) 5 (.inr (3, [.ref q6, .ref q8, .ref q10, .null, .null, .null, .null, .null, .int 0, .int 0, .int 0]))) 12 (.inr (1, [.null, .int 0]))) 13 (.inl (cI, 16, .inl (fun _ => 0)))) 12 (.inr (1, [.ref q13, .int 0]))) 5 (.inr (3, [.ref q6, .ref q8, .ref q10, .ref q12, .null, .null, .null, .null, .int 0, .int 0, .int 0]))) 14 (.inr (1, [.null, .int 0]))) 15 (.inl (cI, 16, .inl (fun _ => 0)))) 14 (.inr (1, [.ref q15, .int 0]))) 5 (.inr (3, [.ref q6, .ref q8, .ref q10, .ref q12, .ref q14, .null, .null, .null, .int 0, .int 0, .int 0]))) 16 (.inr (1, [.null, .int 0]))) 17 (.inl (cI, 16, .inl (fun _ => 0)))) 16 (.inr (1, [.ref q17, .int 0]))) 5 (.inr (3, [.ref q6, .ref q8, .ref q10, .ref q12, .ref q14, .ref q16, .null, .null, .int 0, .int 0, .int 0]))) 18 (.inr (1, [.null, .int 0]))) 19 (.inl (cI, 16, .inl (fun _ => 0)))) 18 (.inr (1, [.ref q19, .int 0]))) 5 (.inr (3, [.ref q6, .ref q8, .ref q10, .ref q12, .ref q14, .ref q16, .ref q18, .null, .int 0, .int 0, .int 0]))) 20 (.inr (1, [.null, .int 0]))) 21 (.inl (cI, 16, .inl (fun _ => 0)))) 20 (.inr (1, [.ref q21, .int 0]))) 5 (.inr (3, [.ref q6, .ref q8, .ref q10, .ref q12, .ref q14, .ref q16, .ref q18, .ref q20, .int 0, .int 0, .int 0])) = va ∧ kc = 16 ∧ ns = 144) := by
  refine kM_of (lv0 := [some (.ref (loc 5))]) (own := "ProsePages$Sheet") (by decide) rfl (List.forall_mem_cons.mpr ⟨rfl, fun _ h => nomatch h⟩) (Nat.le_of_ble_eq_true rfl) rfl (Nat.le_of_ble_eq_true rfl) (fun X hl hX hE hin0 => ?_)
  refine v_aload_n hX d_T_init_0 rfl rfl ?_
  refine v_objInit hX k_50 k_21 k_objc ⟨by decide, by decide⟩ rfl (Nat.le_of_ble_eq_true rfl) d_T_init_1 ?_
  refine v_aload_n hX d_T_init_4 rfl rfl ?_
  refine v_new hX 6 (kd 7) (ci := 1) (fs := [.null, .int 0]) inT1 tyX1 tyX1_ok k_51 k_32 k_3 rfl (by decide) (Nat.le_of_ble_eq_true rfl) (Nat.le_of_ble_eq_true rfl) d_T_init_5 (kd_step 6) (kd_self 6) (fun q6 _ => ?_)
  refine v_dup hX d_T_init_8 rfl ?_
  refine c_IN hX (rest := [.ref q6, .ref (loc 5)]) hl (c_R_init 6 7 (by decide) rfl) (host := "ProsePages") (by decide) k_34 k_3 k_35 rfl q_R_init ⟨(Nat.le_of_ble_eq_true rfl), (Nat.le_of_ble_eq_true rfl)⟩ rfl rfl rfl (Nat.le_of_ble_eq_true rfl) d_T_init_9 ⟨(Nat.le_of_ble_eq_true rfl), (Nat.le_of_ble_eq_true rfl)⟩ (fun rv d2 lo2 va2 kc ns hp => ?_)
  obtain ⟨q7, rfl, rfl, rfl, rfl, rfl, rfl⟩ := hp
  show V X D CL A _ _ _ _ _ _ _ [.ref q6, .ref (loc 5)]
  refine v_putFE hX 5 (fs2 := [.ref q6, .null, .null, .null, .null, .null, .null, .null, .int 0, .int 0, .int 0]) inT3 tyX3 tyX3_ok nmX3 hin0 (kd_b rfl) rfl hv rfl 0 (by decide) k_53 rfl rfl rfl rfl rfl (Nat.le_of_ble_eq_true rfl) d_T_init_12 rfl ?_
  refine v_aload_n hX d_T_init_15 rfl rfl ?_
  refine v_new hX 8 (kd 9) (ci := 1) (fs := [.null, .int 0]) inT1 tyX1 tyX1_ok k_51 k_32 k_3 rfl (by decide) (Nat.le_of_ble_eq_true rfl) (Nat.le_of_ble_eq_true rfl) d_T_init_16 (kd_step 8) (kd_self 8) (fun q8 _ => ?_)
  refine v_dup hX d_T_init_19 rfl ?_
  refine c_IN hX (rest := [.ref q8, .ref (loc 5)]) hl (c_R_init 8 9 (by decide) rfl) (host := "ProsePages") (by decide) k_34 k_3 k_35 rfl q_R_init ⟨(Nat.le_of_ble_eq_true rfl), (Nat.le_of_ble_eq_true rfl)⟩ rfl rfl rfl (Nat.le_of_ble_eq_true rfl) d_T_init_20 ⟨(Nat.le_of_ble_eq_true rfl), (Nat.le_of_ble_eq_true rfl)⟩ (fun rv d2 lo2 va2 kc ns hp => ?_)
  obtain ⟨q9, rfl, rfl, rfl, rfl, rfl, rfl⟩ := hp
  show V X D CL A _ _ _ _ _ _ _ [.ref q8, .ref (loc 5)]
  refine v_putFE hX 5 (fs2 := [.ref q6, .ref q8, .null, .null, .null, .null, .null, .null, .int 0, .int 0, .int 0]) inT3 tyX3 tyX3_ok nmX3 hin0 (kd_b rfl) rfl rfl rfl 1 (by decide) k_54 rfl rfl rfl rfl rfl (Nat.le_of_ble_eq_true rfl) d_T_init_23 rfl ?_
  refine v_aload_n hX d_T_init_26 rfl rfl ?_
  refine v_new hX 10 (kd 11) (ci := 1) (fs := [.null, .int 0]) inT1 tyX1 tyX1_ok k_51 k_32 k_3 rfl (by decide) (Nat.le_of_ble_eq_true rfl) (Nat.le_of_ble_eq_true rfl) d_T_init_27 (kd_step 10) (kd_self 10) (fun q10 _ => ?_)
  refine v_dup hX d_T_init_30 rfl ?_
  refine c_IN hX (rest := [.ref q10, .ref (loc 5)]) hl (c_R_init 10 11 (by decide) rfl) (host := "ProsePages") (by decide) k_34 k_3 k_35 rfl q_R_init ⟨(Nat.le_of_ble_eq_true rfl), (Nat.le_of_ble_eq_true rfl)⟩ rfl rfl rfl (Nat.le_of_ble_eq_true rfl) d_T_init_31 ⟨(Nat.le_of_ble_eq_true rfl), (Nat.le_of_ble_eq_true rfl)⟩ (fun rv d2 lo2 va2 kc ns hp => ?_)
  obtain ⟨q11, rfl, rfl, rfl, rfl, rfl, rfl⟩ := hp
  show V X D CL A _ _ _ _ _ _ _ [.ref q10, .ref (loc 5)]
  refine v_putFE hX 5 (fs2 := [.ref q6, .ref q8, .ref q10, .null, .null, .null, .null, .null, .int 0, .int 0, .int 0]) inT3 tyX3 tyX3_ok nmX3 hin0 (kd_b rfl) rfl rfl rfl 2 (by decide) k_55 rfl rfl rfl rfl rfl (Nat.le_of_ble_eq_true rfl) d_T_init_34 rfl ?_
  refine v_aload_n hX d_T_init_37 rfl rfl ?_
  refine v_new hX 12 (kd 13) (ci := 1) (fs := [.null, .int 0]) inT1 tyX1 tyX1_ok k_51 k_32 k_3 rfl (by decide) (Nat.le_of_ble_eq_true rfl) (Nat.le_of_ble_eq_true rfl) d_T_init_38 (kd_step 12) (kd_self 12) (fun q12 _ => ?_)
  refine v_dup hX d_T_init_41 rfl ?_
  refine c_IN hX (rest := [.ref q12, .ref (loc 5)]) hl (c_R_init 12 13 (by decide) rfl) (host := "ProsePages") (by decide) k_34 k_3 k_35 rfl q_R_init ⟨(Nat.le_of_ble_eq_true rfl), (Nat.le_of_ble_eq_true rfl)⟩ rfl rfl rfl (Nat.le_of_ble_eq_true rfl) d_T_init_42 ⟨(Nat.le_of_ble_eq_true rfl), (Nat.le_of_ble_eq_true rfl)⟩ (fun rv d2 lo2 va2 kc ns hp => ?_)
  obtain ⟨q13, rfl, rfl, rfl, rfl, rfl, rfl⟩ := hp
  show V X D CL A _ _ _ _ _ _ _ [.ref q12, .ref (loc 5)]
  refine v_putFE hX 5 (fs2 := [.ref q6, .ref q8, .ref q10, .ref q12, .null, .null, .null, .null, .int 0, .int 0, .int 0]) inT3 tyX3 tyX3_ok nmX3 hin0 (kd_b rfl) rfl rfl rfl 3 (by decide) k_57 rfl rfl rfl rfl rfl (Nat.le_of_ble_eq_true rfl) d_T_init_45 rfl ?_
  refine v_aload_n hX d_T_init_48 rfl rfl ?_
  refine v_new hX 14 (kd 15) (ci := 1) (fs := [.null, .int 0]) inT1 tyX1 tyX1_ok k_51 k_32 k_3 rfl (by decide) (Nat.le_of_ble_eq_true rfl) (Nat.le_of_ble_eq_true rfl) d_T_init_49 (kd_step 14) (kd_self 14) (fun q14 _ => ?_)
  refine v_dup hX d_T_init_52 rfl ?_
  refine c_IN hX (rest := [.ref q14, .ref (loc 5)]) hl (c_R_init 14 15 (by decide) rfl) (host := "ProsePages") (by decide) k_34 k_3 k_35 rfl q_R_init ⟨(Nat.le_of_ble_eq_true rfl), (Nat.le_of_ble_eq_true rfl)⟩ rfl rfl rfl (Nat.le_of_ble_eq_true rfl) d_T_init_53 ⟨(Nat.le_of_ble_eq_true rfl), (Nat.le_of_ble_eq_true rfl)⟩ (fun rv d2 lo2 va2 kc ns hp => ?_)
  obtain ⟨q15, rfl, rfl, rfl, rfl, rfl, rfl⟩ := hp
  show V X D CL A _ _ _ _ _ _ _ [.ref q14, .ref (loc 5)]
  refine v_putFE hX 5 (fs2 := [.ref q6, .ref q8, .ref q10, .ref q12, .ref q14, .null, .null, .null, .int 0, .int 0, .int 0]) inT3 tyX3 tyX3_ok nmX3 hin0 (kd_b rfl) rfl rfl rfl 4 (by decide) k_59 rfl rfl rfl rfl rfl (Nat.le_of_ble_eq_true rfl) d_T_init_56 rfl ?_
  refine v_aload_n hX d_T_init_59 rfl rfl ?_
  refine v_new hX 16 (kd 17) (ci := 1) (fs := [.null, .int 0]) inT1 tyX1 tyX1_ok k_51 k_32 k_3 rfl (by decide) (Nat.le_of_ble_eq_true rfl) (Nat.le_of_ble_eq_true rfl) d_T_init_60 (kd_step 16) (kd_self 16) (fun q16 _ => ?_)
  refine v_dup hX d_T_init_63 rfl ?_
  refine c_IN hX (rest := [.ref q16, .ref (loc 5)]) hl (c_R_init 16 17 (by decide) rfl) (host := "ProsePages") (by decide) k_34 k_3 k_35 rfl q_R_init ⟨(Nat.le_of_ble_eq_true rfl), (Nat.le_of_ble_eq_true rfl)⟩ rfl rfl rfl (Nat.le_of_ble_eq_true rfl) d_T_init_64 ⟨(Nat.le_of_ble_eq_true rfl), (Nat.le_of_ble_eq_true rfl)⟩ (fun rv d2 lo2 va2 kc ns hp => ?_)
  obtain ⟨q17, rfl, rfl, rfl, rfl, rfl, rfl⟩ := hp
  show V X D CL A _ _ _ _ _ _ _ [.ref q16, .ref (loc 5)]
  refine v_putFE hX 5 (fs2 := [.ref q6, .ref q8, .ref q10, .ref q12, .ref q14, .ref q16, .null, .null, .int 0, .int 0, .int 0]) inT3 tyX3 tyX3_ok nmX3 hin0 (kd_b rfl) rfl rfl rfl 5 (by decide) k_62 rfl rfl rfl rfl rfl (Nat.le_of_ble_eq_true rfl) d_T_init_67 rfl ?_
  refine v_aload_n hX d_T_init_70 rfl rfl ?_
  refine v_new hX 18 (kd 19) (ci := 1) (fs := [.null, .int 0]) inT1 tyX1 tyX1_ok k_51 k_32 k_3 rfl (by decide) (Nat.le_of_ble_eq_true rfl) (Nat.le_of_ble_eq_true rfl) d_T_init_71 (kd_step 18) (kd_self 18) (fun q18 _ => ?_)
  refine v_dup hX d_T_init_74 rfl ?_
  refine c_IN hX (rest := [.ref q18, .ref (loc 5)]) hl (c_R_init 18 19 (by decide) rfl) (host := "ProsePages") (by decide) k_34 k_3 k_35 rfl q_R_init ⟨(Nat.le_of_ble_eq_true rfl), (Nat.le_of_ble_eq_true rfl)⟩ rfl rfl rfl (Nat.le_of_ble_eq_true rfl) d_T_init_75 ⟨(Nat.le_of_ble_eq_true rfl), (Nat.le_of_ble_eq_true rfl)⟩ (fun rv d2 lo2 va2 kc ns hp => ?_)
  obtain ⟨q19, rfl, rfl, rfl, rfl, rfl, rfl⟩ := hp
  show V X D CL A _ _ _ _ _ _ _ [.ref q18, .ref (loc 5)]
  refine v_putFE hX 5 (fs2 := [.ref q6, .ref q8, .ref q10, .ref q12, .ref q14, .ref q16, .ref q18, .null, .int 0, .int 0, .int 0]) inT3 tyX3 tyX3_ok nmX3 hin0 (kd_b rfl) rfl rfl rfl 6 (by decide) k_63 rfl rfl rfl rfl rfl (Nat.le_of_ble_eq_true rfl) d_T_init_78 rfl ?_
  refine v_aload_n hX d_T_init_81 rfl rfl ?_
  refine v_new hX 20 (kd 21) (ci := 1) (fs := [.null, .int 0]) inT1 tyX1 tyX1_ok k_51 k_32 k_3 rfl (by decide) (Nat.le_of_ble_eq_true rfl) (Nat.le_of_ble_eq_true rfl) d_T_init_82 (kd_step 20) (kd_self 20) (fun q20 _ => ?_)
  refine v_dup hX d_T_init_85 rfl ?_
  refine c_IN hX (rest := [.ref q20, .ref (loc 5)]) hl (c_R_init 20 21 (by decide) rfl) (host := "ProsePages") (by decide) k_34 k_3 k_35 rfl q_R_init ⟨(Nat.le_of_ble_eq_true rfl), (Nat.le_of_ble_eq_true rfl)⟩ rfl rfl rfl (Nat.le_of_ble_eq_true rfl) d_T_init_86 ⟨(Nat.le_of_ble_eq_true rfl), (Nat.le_of_ble_eq_true rfl)⟩ (fun rv d2 lo2 va2 kc ns hp => ?_)
  obtain ⟨q21, rfl, rfl, rfl, rfl, rfl, rfl⟩ := hp
  show V X D CL A _ _ _ _ _ _ _ [.ref q20, .ref (loc 5)]
  refine v_putFE hX 5 (fs2 := [.ref q6, .ref q8, .ref q10, .ref q12, .ref q14, .ref q16, .ref q18, .ref q20, .int 0, .int 0, .int 0]) inT3 tyX3 tyX3_ok nmX3 hin0 (kd_b rfl) rfl rfl rfl 7 (by decide) k_65 rfl rfl rfl rfl rfl (Nat.le_of_ble_eq_true rfl) d_T_init_89 rfl ?_
  exact v_vret hX hE d_T_init_92 (Nat.le_of_ble_eq_true rfl) (Nat.le_of_ble_eq_true rfl) ⟨q6, q7, q8, q9, q10, q11, q12, q13, q14, q15, q16, q17, q18, q19, q20, q21, rfl, rfl, rfl, rfl, rfl, rfl⟩
set_option maxHeartbeats 4000000 in
set_option maxRecDepth 100000 in
theorem c_T_init30 {l : Launch} {D : va_G} {A : Nat → Prop} {cI cB cZ cJ cN : ClassId} {loc : Nat → Nat} {val : Nat → va_E} (hv : val 30 = .inr (3, [.null, .null, .null, .null, .null, .null, .null, .null, .int 0, .int 0, .int 0])) : kM l y_T_init (Cond.code y_T_init b_T_init 1 none :: TT) (rmL 2) D CL (TY cI cB cZ cJ cN) A [.ref (loc 30)] (kd 31) loc val (fun rv d lo va kc ns => ∃ q31 q32 q33 q34 q35 q36 q37 q38 q39 q40 q41 q42 q43 q44 q45 q46, rv = none ∧ kd 47 = d ∧ va_up (va_up (va_up (va_up (va_up (va_up (va_up (va_up (va_up (va_up (va_up (va_up (va_up (va_up (va_up (va_up (loc) 31 q31) 32 q32) 33 q33) 34 q34) 35 q35) 36 q36) 37 q37) 38 q38) 39 q39) 40 q40) 41 q41) 42 q42) 43 q43) 44 q44) 45 q45) 46 q46 = lo ∧ va_up (va_up (va_up (va_up (va_up (va_up (va_up (va_up (va_up (va_up (va_up (va_up (va_up (va_up (va_up (va_up (va_up (va_up (va_up (va_up (va_up (va_up (va_up (va_up (va_up (va_up (va_up (va_up (va_up (va_up (va_up (va_up (val) 31 (.inr (1, [.null, .int 0]))) 32 (.inl (cI, 16, .inl (fun _ => 0)))) 31 (.inr (1, [.ref q32, .int 0]))) 30 (.inr (3, [.ref q31, .null, .null, .null, .null, .null, .null, .null, .int 0, .int 0, .int 0]))) 33 (.inr (1, [.null, .int 0]))) 34 (.inl (cI, 16, .inl (fun _ => 0)))) 33 (.inr (1, [.ref q34, .int 0]))) 30 (.inr (3, [.ref q31, .ref q33, .null, .null, .null, .null, .null, .null, .int 0, .int 0, .int 0]))) 35 (.inr (1, [.null, .int 0]))) 36 (.inl (cI, 16, .inl (fun _ => 0)))) 35 (.inr (1, [.ref q36, .int 0]))) 30 (.inr (3, [.ref q31, .ref q33, .ref q35, .null, .null, .null, .null, .null, .int 0, .int 0, .int 0]))) 37 (.inr (1, [.null, .int 0]))) 38 (.inl (cI, 16, .inl (fun _ => 0)))) 37 (.inr (1, [.ref q38, .int 0]))) 30 (.inr (3, [.ref q31, .ref q33, .ref q35, .ref q37, .null, .null, .null, .null, .int 0, .int 0, .int 0]))) 39 (.inr (1, [.null, .int 0]))) 40 (.inl (cI, 16, .inl (fun _ => 0)))) 39 (.inr (1, [.ref q40, .int 0]))) 30 (.inr (3, [.ref q31, .ref q33, .ref q35, .ref q37, .ref q39, .null, .null, .null, .int 0, .int 0, .int 0]))) 41 (.inr (1, [.null, .int 0]))) 42 (.inl (cI, 16, .inl (fun _ => 0)))) 41 (.inr (1, [.ref q42, .int 0]))) 30 (.inr (3, [.ref q31, .ref q33, .ref q35, .ref q37, .ref q39, .ref q41, .null, .null, .int 0, .int 0, .int 0]))) 43 (.inr (1, [.null, .int 0]))) 44 (.inl (cI, 16, .inl (fun _ => 0)))) 43 (.inr (1, [.ref q44, .int 0]))) 30 (.inr (3, [.ref q31, .ref q33, .ref q35, .ref q37, .ref q39, .ref q41, .ref q43, .null, .int 0, .int 0, .int 0]))) 45 (.inr (1, [.null, .int 0]))) 46 (.inl (cI, 16, .inl (fun _ => 0)))) 45 (.inr (1, [.ref q46, .int 0]))) 30 (.inr (3, [.ref q31, .ref q33, .ref q35, .ref q37, .ref q39, .ref q41, .ref q43, .ref q45, .int 0, .int 0, .int 0])) = va ∧ kc = 16 ∧ ns = 144) := by
  refine kM_of (lv0 := [some (.ref (loc 30))]) (own := "ProsePages$Sheet") (by decide) rfl (List.forall_mem_cons.mpr ⟨rfl, fun _ h => nomatch h⟩) (Nat.le_of_ble_eq_true rfl) rfl (Nat.le_of_ble_eq_true rfl) (fun X hl hX hE hin0 => ?_)
  refine v_aload_n hX d_T_init_0 rfl rfl ?_
  refine v_objInit hX k_50 k_21 k_objc ⟨by decide, by decide⟩ rfl (Nat.le_of_ble_eq_true rfl) d_T_init_1 ?_
  refine v_aload_n hX d_T_init_4 rfl rfl ?_
  refine v_new hX 31 (kd 32) (ci := 1) (fs := [.null, .int 0]) inT1 tyX1 tyX1_ok k_51 k_32 k_3 rfl (by decide) (Nat.le_of_ble_eq_true rfl) (Nat.le_of_ble_eq_true rfl) d_T_init_5 (kd_step 31) (kd_self 31) (fun q31 _ => ?_)
  refine v_dup hX d_T_init_8 rfl ?_
  refine c_IN hX (rest := [.ref q31, .ref (loc 30)]) hl (c_R_init 31 32 (by decide) rfl) (host := "ProsePages") (by decide) k_34 k_3 k_35 rfl q_R_init ⟨(Nat.le_of_ble_eq_true rfl), (Nat.le_of_ble_eq_true rfl)⟩ rfl rfl rfl (Nat.le_of_ble_eq_true rfl) d_T_init_9 ⟨(Nat.le_of_ble_eq_true rfl), (Nat.le_of_ble_eq_true rfl)⟩ (fun rv d2 lo2 va2 kc ns hp => ?_)
  obtain ⟨q32, rfl, rfl, rfl, rfl, rfl, rfl⟩ := hp
  show V X D CL A _ _ _ _ _ _ _ [.ref q31, .ref (loc 30)]
  refine v_putFE hX 30 (fs2 := [.ref q31, .null, .null, .null, .null, .null, .null, .null, .int 0, .int 0, .int 0]) inT3 tyX3 tyX3_ok nmX3 hin0 (kd_b rfl) rfl hv rfl 0 (by decide) k_53 rfl rfl rfl rfl rfl (Nat.le_of_ble_eq_true rfl) d_T_init_12 rfl ?_
  refine v_aload_n hX d_T_init_15 rfl rfl ?_
  refine v_new hX 33 (kd 34) (ci := 1) (fs := [.null, .int 0]) inT1 tyX1 tyX1_ok k_51 k_32 k_3 rfl (by decide) (Nat.le_of_ble_eq_true rfl) (Nat.le_of_ble_eq_true rfl) d_T_init_16 (kd_step 33) (kd_self 33) (fun q33 _ => ?_)
  refine v_dup hX d_T_init_19 rfl ?_
  refine c_IN hX (rest := [.ref q33, .ref (loc 30)]) hl (c_R_init 33 34 (by decide) rfl) (host := "ProsePages") (by decide) k_34 k_3 k_35 rfl q_R_init ⟨(Nat.le_of_ble_eq_true rfl), (Nat.le_of_ble_eq_true rfl)⟩ rfl rfl rfl (Nat.le_of_ble_eq_true rfl) d_T_init_20 ⟨(Nat.le_of_ble_eq_true rfl), (Nat.le_of_ble_eq_true rfl)⟩ (fun rv d2 lo2 va2 kc ns hp => ?_)
  obtain ⟨q34, rfl, rfl, rfl, rfl, rfl, rfl⟩ := hp
  show V X D CL A _ _ _ _ _ _ _ [.ref q33, .ref (loc 30)]
  refine v_putFE hX 30 (fs2 := [.ref q31, .ref q33, .null, .null, .null, .null, .null, .null, .int 0, .int 0, .int 0]) inT3 tyX3 tyX3_ok nmX3 hin0 (kd_b rfl) rfl rfl rfl 1 (by decide) k_54 rfl rfl rfl rfl rfl (Nat.le_of_ble_eq_true rfl) d_T_init_23 rfl ?_
  refine v_aload_n hX d_T_init_26 rfl rfl ?_
  refine v_new hX 35 (kd 36) (ci := 1) (fs := [.null, .int 0]) inT1 tyX1 tyX1_ok k_51 k_32 k_3 rfl (by decide) (Nat.le_of_ble_eq_true rfl) (Nat.le_of_ble_eq_true rfl) d_T_init_27 (kd_step 35) (kd_self 35) (fun q35 _ => ?_)
  refine v_dup hX d_T_init_30 rfl ?_
  refine c_IN hX (rest := [.ref q35, .ref (loc 30)]) hl (c_R_init 35 36 (by decide) rfl) (host := "ProsePages") (by decide) k_34 k_3 k_35 rfl q_R_init ⟨(Nat.le_of_ble_eq_true rfl), (Nat.le_of_ble_eq_true rfl)⟩ rfl rfl rfl (Nat.le_of_ble_eq_true rfl) d_T_init_31 ⟨(Nat.le_of_ble_eq_true rfl), (Nat.le_of_ble_eq_true rfl)⟩ (fun rv d2 lo2 va2 kc ns hp => ?_)
  obtain ⟨q36, rfl, rfl, rfl, rfl, rfl, rfl⟩ := hp
  show V X D CL A _ _ _ _ _ _ _ [.ref q35, .ref (loc 30)]
  refine v_putFE hX 30 (fs2 := [.ref q31, .ref q33, .ref q35, .null, .null, .null, .null, .null, .int 0, .int 0, .int 0]) inT3 tyX3 tyX3_ok nmX3 hin0 (kd_b rfl) rfl rfl rfl 2 (by decide) k_55 rfl rfl rfl rfl rfl (Nat.le_of_ble_eq_true rfl) d_T_init_34 rfl ?_
  refine v_aload_n hX d_T_init_37 rfl rfl ?_
  refine v_new hX 37 (kd 38) (ci := 1) (fs := [.null, .int 0]) inT1 tyX1 tyX1_ok k_51 k_32 k_3 rfl (by decide) (Nat.le_of_ble_eq_true rfl) (Nat.le_of_ble_eq_true rfl) d_T_init_38 (kd_step 37) (kd_self 37) (fun q37 _ => ?_)
  refine v_dup hX d_T_init_41 rfl ?_
  refine c_IN hX (rest := [.ref q37, .ref (loc 30)]) hl (c_R_init 37 38 (by decide) rfl) (host := "ProsePages") (by decide) k_34 k_3 k_35 rfl q_R_init ⟨(Nat.le_of_ble_eq_true rfl), (Nat.le_of_ble_eq_true rfl)⟩ rfl rfl rfl (Nat.le_of_ble_eq_true rfl) d_T_init_42 ⟨(Nat.le_of_ble_eq_true rfl), (Nat.le_of_ble_eq_true rfl)⟩ (fun rv d2 lo2 va2 kc ns hp => ?_)
  obtain ⟨q38, rfl, rfl, rfl, rfl, rfl, rfl⟩ := hp
  show V X D CL A _ _ _ _ _ _ _ [.ref q37, .ref (loc 30)]
  refine v_putFE hX 30 (fs2 := [.ref q31, .ref q33, .ref q35, .ref q37, .null, .null, .null, .null, .int 0, .int 0, .int 0]) inT3 tyX3 tyX3_ok nmX3 hin0 (kd_b rfl) rfl rfl rfl 3 (by decide) k_57 rfl rfl rfl rfl rfl (Nat.le_of_ble_eq_true rfl) d_T_init_45 rfl ?_
  refine v_aload_n hX d_T_init_48 rfl rfl ?_
  refine v_new hX 39 (kd 40) (ci := 1) (fs := [.null, .int 0]) inT1 tyX1 tyX1_ok k_51 k_32 k_3 rfl (by decide) (Nat.le_of_ble_eq_true rfl) (Nat.le_of_ble_eq_true rfl) d_T_init_49 (kd_step 39) (kd_self 39) (fun q39 _ => ?_)
  refine v_dup hX d_T_init_52 rfl ?_
  refine c_IN hX (rest := [.ref q39, .ref (loc 30)]) hl (c_R_init 39 40 (by decide) rfl) (host := "ProsePages") (by decide) k_34 k_3 k_35 rfl q_R_init ⟨(Nat.le_of_ble_eq_true rfl), (Nat.le_of_ble_eq_true rfl)⟩ rfl rfl rfl (Nat.le_of_ble_eq_true rfl) d_T_init_53 ⟨(Nat.le_of_ble_eq_true rfl), (Nat.le_of_ble_eq_true rfl)⟩ (fun rv d2 lo2 va2 kc ns hp => ?_)
  obtain ⟨q40, rfl, rfl, rfl, rfl, rfl, rfl⟩ := hp
  show V X D CL A _ _ _ _ _ _ _ [.ref q39, .ref (loc 30)]
  refine v_putFE hX 30 (fs2 := [.ref q31, .ref q33, .ref q35, .ref q37, .ref q39, .null, .null, .null, .int 0, .int 0, .int 0]) inT3 tyX3 tyX3_ok nmX3 hin0 (kd_b rfl) rfl rfl rfl 4 (by decide) k_59 rfl rfl rfl rfl rfl (Nat.le_of_ble_eq_true rfl) d_T_init_56 rfl ?_
  refine v_aload_n hX d_T_init_59 rfl rfl ?_
  refine v_new hX 41 (kd 42) (ci := 1) (fs := [.null, .int 0]) inT1 tyX1 tyX1_ok k_51 k_32 k_3 rfl (by decide) (Nat.le_of_ble_eq_true rfl) (Nat.le_of_ble_eq_true rfl) d_T_init_60 (kd_step 41) (kd_self 41) (fun q41 _ => ?_)
  refine v_dup hX d_T_init_63 rfl ?_
  refine c_IN hX (rest := [.ref q41, .ref (loc 30)]) hl (c_R_init 41 42 (by decide) rfl) (host := "ProsePages") (by decide) k_34 k_3 k_35 rfl q_R_init ⟨(Nat.le_of_ble_eq_true rfl), (Nat.le_of_ble_eq_true rfl)⟩ rfl rfl rfl (Nat.le_of_ble_eq_true rfl) d_T_init_64 ⟨(Nat.le_of_ble_eq_true rfl), (Nat.le_of_ble_eq_true rfl)⟩ (fun rv d2 lo2 va2 kc ns hp => ?_)
  obtain ⟨q42, rfl, rfl, rfl, rfl, rfl, rfl⟩ := hp
  show V X D CL A _ _ _ _ _ _ _ [.ref q41, .ref (loc 30)]
  refine v_putFE hX 30 (fs2 := [.ref q31, .ref q33, .ref q35, .ref q37, .ref q39, .ref q41, .null, .null, .int 0, .int 0, .int 0]) inT3 tyX3 tyX3_ok nmX3 hin0 (kd_b rfl) rfl rfl rfl 5 (by decide) k_62 rfl rfl rfl rfl rfl (Nat.le_of_ble_eq_true rfl) d_T_init_67 rfl ?_
  refine v_aload_n hX d_T_init_70 rfl rfl ?_
  refine v_new hX 43 (kd 44) (ci := 1) (fs := [.null, .int 0]) inT1 tyX1 tyX1_ok k_51 k_32 k_3 rfl (by decide) (Nat.le_of_ble_eq_true rfl) (Nat.le_of_ble_eq_true rfl) d_T_init_71 (kd_step 43) (kd_self 43) (fun q43 _ => ?_)
  refine v_dup hX d_T_init_74 rfl ?_
  refine c_IN hX (rest := [.ref q43, .ref (loc 30)]) hl (c_R_init 43 44 (by decide) rfl) (host := "ProsePages") (by decide) k_34 k_3 k_35 rfl q_R_init ⟨(Nat.le_of_ble_eq_true rfl), (Nat.le_of_ble_eq_true rfl)⟩ rfl rfl rfl (Nat.le_of_ble_eq_true rfl) d_T_init_75 ⟨(Nat.le_of_ble_eq_true rfl), (Nat.le_of_ble_eq_true rfl)⟩ (fun rv d2 lo2 va2 kc ns hp => ?_)
  obtain ⟨q44, rfl, rfl, rfl, rfl, rfl, rfl⟩ := hp
  show V X D CL A _ _ _ _ _ _ _ [.ref q43, .ref (loc 30)]
  refine v_putFE hX 30 (fs2 := [.ref q31, .ref q33, .ref q35, .ref q37, .ref q39, .ref q41, .ref q43, .null, .int 0, .int 0, .int 0]) inT3 tyX3 tyX3_ok nmX3 hin0 (kd_b rfl) rfl rfl rfl 6 (by decide) k_63 rfl rfl rfl rfl rfl (Nat.le_of_ble_eq_true rfl) d_T_init_78 rfl ?_
  refine v_aload_n hX d_T_init_81 rfl rfl ?_
  refine v_new hX 45 (kd 46) (ci := 1) (fs := [.null, .int 0]) inT1 tyX1 tyX1_ok k_51 k_32 k_3 rfl (by decide) (Nat.le_of_ble_eq_true rfl) (Nat.le_of_ble_eq_true rfl) d_T_init_82 (kd_step 45) (kd_self 45) (fun q45 _ => ?_)
  refine v_dup hX d_T_init_85 rfl ?_
  refine c_IN hX (rest := [.ref q45, .ref (loc 30)]) hl (c_R_init 45 46 (by decide) rfl) (host := "ProsePages") (by decide) k_34 k_3 k_35 rfl q_R_init ⟨(Nat.le_of_ble_eq_true rfl), (Nat.le_of_ble_eq_true rfl)⟩ rfl rfl rfl (Nat.le_of_ble_eq_true rfl) d_T_init_86 ⟨(Nat.le_of_ble_eq_true rfl), (Nat.le_of_ble_eq_true rfl)⟩ (fun rv d2 lo2 va2 kc ns hp => ?_)
  obtain ⟨q46, rfl, rfl, rfl, rfl, rfl, rfl⟩ := hp
  show V X D CL A _ _ _ _ _ _ _ [.ref q45, .ref (loc 30)]
  refine v_putFE hX 30 (fs2 := [.ref q31, .ref q33, .ref q35, .ref q37, .ref q39, .ref q41, .ref q43, .ref q45, .int 0, .int 0, .int 0]) inT3 tyX3 tyX3_ok nmX3 hin0 (kd_b rfl) rfl rfl rfl 7 (by decide) k_65 rfl rfl rfl rfl rfl (Nat.le_of_ble_eq_true rfl) d_T_init_89 rfl ?_
  exact v_vret hX hE d_T_init_92 (Nat.le_of_ble_eq_true rfl) (Nat.le_of_ble_eq_true rfl) ⟨q31, q32, q33, q34, q35, q36, q37, q38, q39, q40, q41, q42, q43, q44, q45, q46, rfl, rfl, rfl, rfl, rfl, rfl⟩
