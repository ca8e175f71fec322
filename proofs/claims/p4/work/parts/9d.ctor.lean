set_option maxHeartbeats 4000000 in
set_option maxRecDepth 100000 in
/-- Row(): an array of 16 zeros under the next key -/
theorem c_R_init {l : Launch} {D : va_G} {A : Nat → Prop} {cI cB cZ cJ cN : ClassId} {loc : Nat → Nat} {val : Nat → va_E} (j n : Nat) (hj : j < n) (hv : val j = .inr (1, [.null, .int 0])) : kM l y_R_init (Cond.code y_R_init b_R_init 1 none :: TT) (rmL 1) D CL (TY cI cB cZ cJ cN) A [.ref (loc j)] (kd n) loc val (fun rv d lo va kc ns => ∃ q, rv = none ∧ kd (n + 1) = d ∧ va_up loc n q = lo ∧ va_up (va_up val n (.inl (cI, 16, .inl (fun _ => 0)))) j (.inr (1, [.ref q, .int 0])) = va ∧ kc = 1 ∧ ns = 16) := by
  refine kM_of (lv0 := [some (.ref (loc j))]) (own := "ProsePages$Row") (by decide) rfl (List.forall_mem_cons.mpr ⟨rfl, fun _ h => nomatch h⟩) (Nat.le_of_ble_eq_true rfl) rfl (Nat.le_of_ble_eq_true rfl) (fun X hl hX hE hin0 => ?_)
  refine v_aload_n hX d_R_init_0 rfl rfl ?_
  refine v_objInit hX ml_R_3 im_O_init k_objc ⟨by decide, by decide⟩ rfl (Nat.le_of_ble_eq_true rfl) d_R_init_1 ?_
  refine v_aload_n hX d_R_init_4 rfl rfl ?_
  refine v_bipush (v := 16) hX d_R_init_5 (by decide) ?_
  refine v_newp hX n 0 (kd (n + 1)) (N := 16) (ty := .int) (16, .inl (fun _ => 0)) rfl (fun _ => rfl) (fun _ h => h) ac_int rfl (by decide) (by decide) (Nat.le_of_ble_eq_true rfl) (Nat.le_of_ble_eq_true rfl) (Nat.le_of_ble_eq_true rfl) d_R_init_7 (kd_step n) (kd_self n) (fun q => ?_)
  refine v_putE hX j (fs2 := [.ref q, .int 0]) inT1 tyX1 tyX1_ok nmX1 (Nat.lt_succ_of_lt hj) (kup_ne (Nat.ne_of_lt hj) rfl) (kup_ne (Nat.ne_of_lt hj) hv) rfl 0 (by decide) fl_R_9 rfl rfl rfl rfl rfl (Nat.le_of_ble_eq_true rfl) d_R_init_9 rfl ?_
  exact v_vret hX hE d_R_init_12 (Nat.le_of_ble_eq_true rfl) (Nat.le_of_ble_eq_true rfl) ⟨q, rfl, rfl, rfl, rfl, rfl, rfl⟩
set_option maxHeartbeats 4000000 in
set_option maxRecDepth 100000 in
theorem c_T_init5 {l : Launch} {D : va_G} {A : Nat → Prop} {cI cB cZ cJ cN : ClassId} {loc : Nat → Nat} {val : Nat → va_E} (hv : val 5 = .inr (3, [.null, .null, .null, .null, .null, .null, .null, .null, .int 0, .int 0, .int 0])) : kM l y_T_init (Cond.code y_T_init b_T_init 1 none :: TT) (rmL 2) D CL (TY cI cB cZ cJ cN) A [.ref (loc 5)] (kd 6) loc val (fun rv d lo va kc ns => ∃ q6 q7 q8 q9 q10 q11 q12 q13 q14 q15 q16 q17 q18 q19 q20 q21, rv = none ∧ kd 22 = d ∧ va_up (va_up (va_up (va_up (va_up (va_up (va_up (va_up (va_up (va_up (va_up (va_up (va_up (va_up (va_up (va_up (loc) 6 q6) 7 q7) 8 q8) 9 q9) 10 q10) 11 q11) 12 q12) 13 q13) 14 q14) 15 q15) 16 q16) 17 q17) 18 q18) 19 q19) 20 q20) 21 q21 = lo ∧ va_up (va_up (va_up (va_up (va_up (va_up (va_up (va_up (va_up (va_up (va_up (va_up (va_up (va_up (va_up (va_up (va_up (va_up (va_up (va_up (va_up (va_up (va_up (va_up (va_up (va_up (va_up (va_up (va_up (va_up (va_up (va_up (val) 6 (.inr (1, [.null, .int 0]))) 7 (.inl (cI, 16, .inl (fun _ => 0)))) 6 (.inr (1, [.ref q7, .int 0]))) 5 (.inr (3, [.ref q6, .null, .null, .null, .null, .null, .null, .null, .int 0, .int 0, .int 0]))) 8 (.inr (1, [.null, .int 0]))) 9 (.inl (cI, 16, .inl (fun _ => 0)))) 8 (.inr (1, [.ref q9, .int 0]))) 5 (.inr (3, [.ref q6, .ref q8, .null, .null, .null, .null, .null, .null, .int 0, .int 0, .int 0]))) 10 (.inr (1, [.null, .int 0]))) 11 (.inl (cI, 16, .inl (fun _ => 0)))) 10 (.inr (1, [.ref q11, .int 0]))) 5 (.inr (3, [.ref q6, .ref q8, .ref q10, .null, .null, .null, .null, .null, .int 0, .int 0, .int 0]))) 12 (.inr (1, [.null, .int 0]))) 13 (.inl (cI, 16, .inl (fun _ => 0)))) 12 (.inr (1, [.ref q13, .int 0]))) 5 (.inr (3, [.ref q6, .ref q8, .ref q10, .ref q12, .null, .null, .null, .null, .int 0, .int 0, .int 0]))) 14 (.inr (1, [.null, .int 0]))) 15 (.inl (cI, 16, .inl (fun _ => 0)))) 14 (.inr (1, [.ref q15, .int 0]))) 5 (.inr (3, [.ref q6, .ref q8, .ref q10, .ref q12, .ref q14, .null, .null, .null, .int 0, .int 0, .int 0]))) 16 (.inr (1, [.null, .int 0]))) 17 (.inl (cI, 16, .inl (fun _ => 0)))) 16 (.inr (1, [.ref q17, .int 0]))) 5 (.inr (3, [.ref q6, .ref q8, .ref q10, .ref q12, .ref q14, .ref q16, .null, .null, .int 0, .int 0, .int 0]))) 18 (.inr (1, [.null, .int 0]))) 19 (.inl (cI, 16, .inl (fun _ => 0)))) 18 (.inr (1, [.ref q19, .int 0]))) 5 (.inr (3, [.ref q6, .ref q8, .ref q10, .ref q12, .ref q14, .ref q16, .ref q18, .null, .int 0, .int 0, .int 0]))) 20 (.inr (1, [.null, .int 0]))) 21 (.inl (cI, 16, .inl (fun _ => 0)))) 20 (.inr (1, [.ref q21, .int 0]))) 5 (.inr (3, [.ref q6, .ref q8, .ref q10, .ref q12, .ref q14, .ref q16, .ref q18, .ref q20, .int 0, .int 0, .int 0])) = va ∧ kc = 16 ∧ ns = 144) := by
  refine kM_of (lv0 := [some (.ref (loc 5))]) (own := "ProsePages$Sheet") (by decide) rfl (List.forall_mem_cons.mpr ⟨rfl, fun _ h => nomatch h⟩) (Nat.le_of_ble_eq_true rfl) rfl (Nat.le_of_ble_eq_true rfl) (fun X hl hX hE hin0 => ?_)
  refine v_aload_n hX d_T_init_0 rfl rfl ?_
  refine v_objInit hX ml_T_3 im_O_init k_objc ⟨by decide, by decide⟩ rfl (Nat.le_of_ble_eq_true rfl) d_T_init_1 ?_
  refine v_aload_n hX d_T_init_4 rfl rfl ?_
  refine v_new hX 6 (kd 7) (ci := 1) (fs := [.null, .int 0]) inT1 tyX1 tyX1_ok cl_T_9 ia_R in_R rfl (by decide) (Nat.le_of_ble_eq_true rfl) (Nat.le_of_ble_eq_true rfl) d_T_init_5 (kd_step 6) (kd_self 6) (fun q6 _ => ?_)
  refine v_dup hX d_T_init_8 rfl ?_
  refine c_IN hX (rest := [.ref q6, .ref (loc 5)]) hl (c_R_init 6 7 (by decide) rfl) (host := "ProsePages") (by decide) im_R_init in_R cd_R_init rfl q_R_init ⟨(Nat.le_of_ble_eq_true rfl), (Nat.le_of_ble_eq_true rfl)⟩ rfl rfl rfl (Nat.le_of_ble_eq_true rfl) d_T_init_9 ⟨(Nat.le_of_ble_eq_true rfl), (Nat.le_of_ble_eq_true rfl)⟩ (fun rv d2 lo2 va2 kc ns hp => ?_)
  obtain ⟨q7, rfl, rfl, rfl, rfl, rfl, rfl⟩ := hp
  show V X D CL A _ _ _ _ _ _ _ [.ref q6, .ref (loc 5)]
  refine v_putFE hX 5 (fs2 := [.ref q6, .null, .null, .null, .null, .null, .null, .null, .int 0, .int 0, .int 0]) inT3 tyX3 tyX3_ok nmX3 hin0 (kd_b rfl) rfl hv rfl 0 (by decide) fl_T_12 rfl rfl rfl rfl rfl (Nat.le_of_ble_eq_true rfl) d_T_init_12 rfl ?_
  refine v_aload_n hX d_T_init_15 rfl rfl ?_
  refine v_new hX 8 (kd 9) (ci := 1) (fs := [.null, .int 0]) inT1 tyX1 tyX1_ok cl_T_9 ia_R in_R rfl (by decide) (Nat.le_of_ble_eq_true rfl) (Nat.le_of_ble_eq_true rfl) d_T_init_16 (kd_step 8) (kd_self 8) (fun q8 _ => ?_)
  refine v_dup hX d_T_init_19 rfl ?_
  refine c_IN hX (rest := [.ref q8, .ref (loc 5)]) hl (c_R_init 8 9 (by decide) rfl) (host := "ProsePages") (by decide) im_R_init in_R cd_R_init rfl q_R_init ⟨(Nat.le_of_ble_eq_true rfl), (Nat.le_of_ble_eq_true rfl)⟩ rfl rfl rfl (Nat.le_of_ble_eq_true rfl) d_T_init_20 ⟨(Nat.le_of_ble_eq_true rfl), (Nat.le_of_ble_eq_true rfl)⟩ (fun rv d2 lo2 va2 kc ns hp => ?_)
  obtain ⟨q9, rfl, rfl, rfl, rfl, rfl, rfl⟩ := hp
  show V X D CL A _ _ _ _ _ _ _ [.ref q8, .ref (loc 5)]
  refine v_putFE hX 5 (fs2 := [.ref q6, .ref q8, .null, .null, .null, .null, .null, .null, .int 0, .int 0, .int 0]) inT3 tyX3 tyX3_ok nmX3 hin0 (kd_b rfl) rfl rfl rfl 1 (by decide) fl_T_18 rfl rfl rfl rfl rfl (Nat.le_of_ble_eq_true rfl) d_T_init_23 rfl ?_
  refine v_aload_n hX d_T_init_26 rfl rfl ?_
  refine v_new hX 10 (kd 11) (ci := 1) (fs := [.null, .int 0]) inT1 tyX1 tyX1_ok cl_T_9 ia_R in_R rfl (by decide) (Nat.le_of_ble_eq_true rfl) (Nat.le_of_ble_eq_true rfl) d_T_init_27 (kd_step 10) (kd_self 10) (fun q10 _ => ?_)
  refine v_dup hX d_T_init_30 rfl ?_
  refine c_IN hX (rest := [.ref q10, .ref (loc 5)]) hl (c_R_init 10 11 (by decide) rfl) (host := "ProsePages") (by decide) im_R_init in_R cd_R_init rfl q_R_init ⟨(Nat.le_of_ble_eq_true rfl), (Nat.le_of_ble_eq_true rfl)⟩ rfl rfl rfl (Nat.le_of_ble_eq_true rfl) d_T_init_31 ⟨(Nat.le_of_ble_eq_true rfl), (Nat.le_of_ble_eq_true rfl)⟩ (fun rv d2 lo2 va2 kc ns hp => ?_)
  obtain ⟨q11, rfl, rfl, rfl, rfl, rfl, rfl⟩ := hp
  show V X D CL A _ _ _ _ _ _ _ [.ref q10, .ref (loc 5)]
  refine v_putFE hX 5 (fs2 := [.ref q6, .ref q8, .ref q10, .null, .null, .null, .null, .null, .int 0, .int 0, .int 0]) inT3 tyX3 tyX3_ok nmX3 hin0 (kd_b rfl) rfl rfl rfl 2 (by decide) fl_T_21 rfl rfl rfl rfl rfl (Nat.le_of_ble_eq_true rfl) d_T_init_34 rfl ?_
  refine v_aload_n hX d_T_init_37 rfl rfl ?_
  refine v_new hX 12 (kd 13) (ci := 1) (fs := [.null, .int 0]) inT1 tyX1 tyX1_ok cl_T_9 ia_R in_R rfl (by decide) (Nat.le_of_ble_eq_true rfl) (Nat.le_of_ble_eq_true rfl) d_T_init_38 (kd_step 12) (kd_self 12) (fun q12 _ => ?_)
  refine v_dup hX d_T_init_41 rfl ?_
  refine c_IN hX (rest := [.ref q12, .ref (loc 5)]) hl (c_R_init 12 13 (by decide) rfl) (host := "ProsePages") (by decide) im_R_init in_R cd_R_init rfl q_R_init ⟨(Nat.le_of_ble_eq_true rfl), (Nat.le_of_ble_eq_true rfl)⟩ rfl rfl rfl (Nat.le_of_ble_eq_true rfl) d_T_init_42 ⟨(Nat.le_of_ble_eq_true rfl), (Nat.le_of_ble_eq_true rfl)⟩ (fun rv d2 lo2 va2 kc ns hp => ?_)
  obtain ⟨q13, rfl, rfl, rfl, rfl, rfl, rfl⟩ := hp
  show V X D CL A _ _ _ _ _ _ _ [.ref q12, .ref (loc 5)]
  refine v_putFE hX 5 (fs2 := [.ref q6, .ref q8, .ref q10, .ref q12, .null, .null, .null, .null, .int 0, .int 0, .int 0]) inT3 tyX3 tyX3_ok nmX3 hin0 (kd_b rfl) rfl rfl rfl 3 (by decide) fl_T_24 rfl rfl rfl rfl rfl (Nat.le_of_ble_eq_true rfl) d_T_init_45 rfl ?_
  refine v_aload_n hX d_T_init_48 rfl rfl ?_
  refine v_new hX 14 (kd 15) (ci := 1) (fs := [.null, .int 0]) inT1 tyX1 tyX1_ok cl_T_9 ia_R in_R rfl (by decide) (Nat.le_of_ble_eq_true rfl) (Nat.le_of_ble_eq_true rfl) d_T_init_49 (kd_step 14) (kd_self 14) (fun q14 _ => ?_)
  refine v_dup hX d_T_init_52 rfl ?_
  refine c_IN hX (rest := [.ref q14, .ref (loc 5)]) hl (c_R_init 14 15 (by decide) rfl) (host := "ProsePages") (by decide) im_R_init in_R cd_R_init rfl q_R_init ⟨(Nat.le_of_ble_eq_true rfl), (Nat.le_of_ble_eq_true rfl)⟩ rfl rfl rfl (Nat.le_of_ble_eq_true rfl) d_T_init_53 ⟨(Nat.le_of_ble_eq_true rfl), (Nat.le_of_ble_eq_true rfl)⟩ (fun rv d2 lo2 va2 kc ns hp => ?_)
  obtain ⟨q15, rfl, rfl, rfl, rfl, rfl, rfl⟩ := hp
  show V X D CL A _ _ _ _ _ _ _ [.ref q14, .ref (loc 5)]
  refine v_putFE hX 5 (fs2 := [.ref q6, .ref q8, .ref q10, .ref q12, .ref q14, .null, .null, .null, .int 0, .int 0, .int 0]) inT3 tyX3 tyX3_ok nmX3 hin0 (kd_b rfl) rfl rfl rfl 4 (by decide) fl_T_27 rfl rfl rfl rfl rfl (Nat.le_of_ble_eq_true rfl) d_T_init_56 rfl ?_
  refine v_aload_n hX d_T_init_59 rfl rfl ?_
  refine v_new hX 16 (kd 17) (ci := 1) (fs := [.null, .int 0]) inT1 tyX1 tyX1_ok cl_T_9 ia_R in_R rfl (by decide) (Nat.le_of_ble_eq_true rfl) (Nat.le_of_ble_eq_true rfl) d_T_init_60 (kd_step 16) (kd_self 16) (fun q16 _ => ?_)
  refine v_dup hX d_T_init_63 rfl ?_
  refine c_IN hX (rest := [.ref q16, .ref (loc 5)]) hl (c_R_init 16 17 (by decide) rfl) (host := "ProsePages") (by decide) im_R_init in_R cd_R_init rfl q_R_init ⟨(Nat.le_of_ble_eq_true rfl), (Nat.le_of_ble_eq_true rfl)⟩ rfl rfl rfl (Nat.le_of_ble_eq_true rfl) d_T_init_64 ⟨(Nat.le_of_ble_eq_true rfl), (Nat.le_of_ble_eq_true rfl)⟩ (fun rv d2 lo2 va2 kc ns hp => ?_)
  obtain ⟨q17, rfl, rfl, rfl, rfl, rfl, rfl⟩ := hp
  show V X D CL A _ _ _ _ _ _ _ [.ref q16, .ref (loc 5)]
  refine v_putFE hX 5 (fs2 := [.ref q6, .ref q8, .ref q10, .ref q12, .ref q14, .ref q16, .null, .null, .int 0, .int 0, .int 0]) inT3 tyX3 tyX3_ok nmX3 hin0 (kd_b rfl) rfl rfl rfl 5 (by decide) fl_T_30 rfl rfl rfl rfl rfl (Nat.le_of_ble_eq_true rfl) d_T_init_67 rfl ?_
  refine v_aload_n hX d_T_init_70 rfl rfl ?_
  refine v_new hX 18 (kd 19) (ci := 1) (fs := [.null, .int 0]) inT1 tyX1 tyX1_ok cl_T_9 ia_R in_R rfl (by decide) (Nat.le_of_ble_eq_true rfl) (Nat.le_of_ble_eq_true rfl) d_T_init_71 (kd_step 18) (kd_self 18) (fun q18 _ => ?_)
  refine v_dup hX d_T_init_74 rfl ?_
  refine c_IN hX (rest := [.ref q18, .ref (loc 5)]) hl (c_R_init 18 19 (by decide) rfl) (host := "ProsePages") (by decide) im_R_init in_R cd_R_init rfl q_R_init ⟨(Nat.le_of_ble_eq_true rfl), (Nat.le_of_ble_eq_true rfl)⟩ rfl rfl rfl (Nat.le_of_ble_eq_true rfl) d_T_init_75 ⟨(Nat.le_of_ble_eq_true rfl), (Nat.le_of_ble_eq_true rfl)⟩ (fun rv d2 lo2 va2 kc ns hp => ?_)
  obtain ⟨q19, rfl, rfl, rfl, rfl, rfl, rfl⟩ := hp
  show V X D CL A _ _ _ _ _ _ _ [.ref q18, .ref (loc 5)]
  refine v_putFE hX 5 (fs2 := [.ref q6, .ref q8, .ref q10, .ref q12, .ref q14, .ref q16, .ref q18, .null, .int 0, .int 0, .int 0]) inT3 tyX3 tyX3_ok nmX3 hin0 (kd_b rfl) rfl rfl rfl 6 (by decide) fl_T_33 rfl rfl rfl rfl rfl (Nat.le_of_ble_eq_true rfl) d_T_init_78 rfl ?_
  refine v_aload_n hX d_T_init_81 rfl rfl ?_
  refine v_new hX 20 (kd 21) (ci := 1) (fs := [.null, .int 0]) inT1 tyX1 tyX1_ok cl_T_9 ia_R in_R rfl (by decide) (Nat.le_of_ble_eq_true rfl) (Nat.le_of_ble_eq_true rfl) d_T_init_82 (kd_step 20) (kd_self 20) (fun q20 _ => ?_)
  refine v_dup hX d_T_init_85 rfl ?_
  refine c_IN hX (rest := [.ref q20, .ref (loc 5)]) hl (c_R_init 20 21 (by decide) rfl) (host := "ProsePages") (by decide) im_R_init in_R cd_R_init rfl q_R_init ⟨(Nat.le_of_ble_eq_true rfl), (Nat.le_of_ble_eq_true rfl)⟩ rfl rfl rfl (Nat.le_of_ble_eq_true rfl) d_T_init_86 ⟨(Nat.le_of_ble_eq_true rfl), (Nat.le_of_ble_eq_true rfl)⟩ (fun rv d2 lo2 va2 kc ns hp => ?_)
  obtain ⟨q21, rfl, rfl, rfl, rfl, rfl, rfl⟩ := hp
  show V X D CL A _ _ _ _ _ _ _ [.ref q20, .ref (loc 5)]
  refine v_putFE hX 5 (fs2 := [.ref q6, .ref q8, .ref q10, .ref q12, .ref q14, .ref q16, .ref q18, .ref q20, .int 0, .int 0, .int 0]) inT3 tyX3 tyX3_ok nmX3 hin0 (kd_b rfl) rfl rfl rfl 7 (by decide) fl_T_36 rfl rfl rfl rfl rfl (Nat.le_of_ble_eq_true rfl) d_T_init_89 rfl ?_
  exact v_vret hX hE d_T_init_92 (Nat.le_of_ble_eq_true rfl) (Nat.le_of_ble_eq_true rfl) ⟨q6, q7, q8, q9, q10, q11, q12, q13, q14, q15, q16, q17, q18, q19, q20, q21, rfl, rfl, rfl, rfl, rfl, rfl⟩
set_option maxHeartbeats 4000000 in
set_option maxRecDepth 100000 in
theorem c_T_init30 {l : Launch} {D : va_G} {A : Nat → Prop} {cI cB cZ cJ cN : ClassId} {loc : Nat → Nat} {val : Nat → va_E} (hv : val 30 = .inr (3, [.null, .null, .null, .null, .null, .null, .null, .null, .int 0, .int 0, .int 0])) : kM l y_T_init (Cond.code y_T_init b_T_init 1 none :: TT) (rmL 2) D CL (TY cI cB cZ cJ cN) A [.ref (loc 30)] (kd 31) loc val (fun rv d lo va kc ns => ∃ q31 q32 q33 q34 q35 q36 q37 q38 q39 q40 q41 q42 q43 q44 q45 q46, rv = none ∧ kd 47 = d ∧ va_up (va_up (va_up (va_up (va_up (va_up (va_up (va_up (va_up (va_up (va_up (va_up (va_up (va_up (va_up (va_up (loc) 31 q31) 32 q32) 33 q33) 34 q34) 35 q35) 36 q36) 37 q37) 38 q38) 39 q39) 40 q40) 41 q41) 42 q42) 43 q43) 44 q44) 45 q45) 46 q46 = lo ∧ va_up (va_up (va_up (va_up (va_up (va_up (va_up (va_up (va_up (va_up (va_up (va_up (va_up (va_up (va_up (va_up (va_up (va_up (va_up (va_up (va_up (va_up (va_up (va_up (va_up (va_up (va_up (va_up (va_up (va_up (va_up (va_up (val) 31 (.inr (1, [.null, .int 0]))) 32 (.inl (cI, 16, .inl (fun _ => 0)))) 31 (.inr (1, [.ref q32, .int 0]))) 30 (.inr (3, [.ref q31, .null, .null, .null, .null, .null, .null, .null, .int 0, .int 0, .int 0]))) 33 (.inr (1, [.null, .int 0]))) 34 (.inl (cI, 16, .inl (fun _ => 0)))) 33 (.inr (1, [.ref q34, .int 0]))) 30 (.inr (3, [.ref q31, .ref q33, .null, .null, .null, .null, .null, .null, .int 0, .int 0, .int 0]))) 35 (.inr (1, [.null, .int 0]))) 36 (.inl (cI, 16, .inl (fun _ => 0)))) 35 (.inr (1, [.ref q36, .int 0]))) 30 (.inr (3, [.ref q31, .ref q33, .ref q35, .null, .null, .null, .null, .null, .int 0, .int 0, .int 0]))) 37 (.inr (1, [.null, .int 0]))) 38 (.inl (cI, 16, .inl (fun _ => 0)))) 37 (.inr (1, [.ref q38, .int 0]))) 30 (.inr (3, [.ref q31, .ref q33, .ref q35, .ref q37, .null, .null, .null, .null, .int 0, .int 0, .int 0]))) 39 (.inr (1, [.null, .int 0]))) 40 (.inl (cI, 16, .inl (fun _ => 0)))) 39 (.inr (1, [.ref q40, .int 0]))) 30 (.inr (3, [.ref q31, .ref q33, .ref q35, .ref q37, .ref q39, .null, .null, .null, .int 0, .int 0, .int 0]))) 41 (.inr (1, [.null, .int 0]))) 42 (.inl (cI, 16, .inl (fun _ => 0)))) 41 (.inr (1, [.ref q42, .int 0]))) 30 (.inr (3, [.ref q31, .ref q33, .ref q35, .ref q37, .ref q39, .ref q41, .null, .null, .int 0, .int 0, .int 0]))) 43 (.inr (1, [.null, .int 0]))) 44 (.inl (cI, 16, .inl (fun _ => 0)))) 43 (.inr (1, [.ref q44, .int 0]))) 30 (.inr (3, [.ref q31, .ref q33, .ref q35, .ref q37, .ref q39, .ref q41, .ref q43, .null, .int 0, .int 0, .int 0]))) 45 (.inr (1, [.null, .int 0]))) 46 (.inl (cI, 16, .inl (fun _ => 0)))) 45 (.inr (1, [.ref q46, .int 0]))) 30 (.inr (3, [.ref q31, .ref q33, .ref q35, .ref q37, .ref q39, .ref q41, .ref q43, .ref q45, .int 0, .int 0, .int 0])) = va ∧ kc = 16 ∧ ns = 144) := by
  refine kM_of (lv0 := [some (.ref (loc 30))]) (own := "ProsePages$Sheet") (by decide) rfl (List.forall_mem_cons.mpr ⟨rfl, fun _ h => nomatch h⟩) (Nat.le_of_ble_eq_true rfl) rfl (Nat.le_of_ble_eq_true rfl) (fun X hl hX hE hin0 => ?_)
  refine v_aload_n hX d_T_init_0 rfl rfl ?_
  refine v_objInit hX ml_T_3 im_O_init k_objc ⟨by decide, by decide⟩ rfl (Nat.le_of_ble_eq_true rfl) d_T_init_1 ?_
  refine v_aload_n hX d_T_init_4 rfl rfl ?_
  refine v_new hX 31 (kd 32) (ci := 1) (fs := [.null, .int 0]) inT1 tyX1 tyX1_ok cl_T_9 ia_R in_R rfl (by decide) (Nat.le_of_ble_eq_true rfl) (Nat.le_of_ble_eq_true rfl) d_T_init_5 (kd_step 31) (kd_self 31) (fun q31 _ => ?_)
  refine v_dup hX d_T_init_8 rfl ?_
  refine c_IN hX (rest := [.ref q31, .ref (loc 30)]) hl (c_R_init 31 32 (by decide) rfl) (host := "ProsePages") (by decide) im_R_init in_R cd_R_init rfl q_R_init ⟨(Nat.le_of_ble_eq_true rfl), (Nat.le_of_ble_eq_true rfl)⟩ rfl rfl rfl (Nat.le_of_ble_eq_true rfl) d_T_init_9 ⟨(Nat.le_of_ble_eq_true rfl), (Nat.le_of_ble_eq_true rfl)⟩ (fun rv d2 lo2 va2 kc ns hp => ?_)
  obtain ⟨q32, rfl, rfl, rfl, rfl, rfl, rfl⟩ := hp
  show V X D CL A _ _ _ _ _ _ _ [.ref q31, .ref (loc 30)]
  refine v_putFE hX 30 (fs2 := [.ref q31, .null, .null, .null, .null, .null, .null, .null, .int 0, .int 0, .int 0]) inT3 tyX3 tyX3_ok nmX3 hin0 (kd_b rfl) rfl hv rfl 0 (by decide) fl_T_12 rfl rfl rfl rfl rfl (Nat.le_of_ble_eq_true rfl) d_T_init_12 rfl ?_
  refine v_aload_n hX d_T_init_15 rfl rfl ?_
  refine v_new hX 33 (kd 34) (ci := 1) (fs := [.null, .int 0]) inT1 tyX1 tyX1_ok cl_T_9 ia_R in_R rfl (by decide) (Nat.le_of_ble_eq_true rfl) (Nat.le_of_ble_eq_true rfl) d_T_init_16 (kd_step 33) (kd_self 33) (fun q33 _ => ?_)
  refine v_dup hX d_T_init_19 rfl ?_
  refine c_IN hX (rest := [.ref q33, .ref (loc 30)]) hl (c_R_init 33 34 (by decide) rfl) (host := "ProsePages") (by decide) im_R_init in_R cd_R_init rfl q_R_init ⟨(Nat.le_of_ble_eq_true rfl), (Nat.le_of_ble_eq_true rfl)⟩ rfl rfl rfl (Nat.le_of_ble_eq_true rfl) d_T_init_20 ⟨(Nat.le_of_ble_eq_true rfl), (Nat.le_of_ble_eq_true rfl)⟩ (fun rv d2 lo2 va2 kc ns hp => ?_)
  obtain ⟨q34, rfl, rfl, rfl, rfl, rfl, rfl⟩ := hp
  show V X D CL A _ _ _ _ _ _ _ [.ref q33, .ref (loc 30)]
  refine v_putFE hX 30 (fs2 := [.ref q31, .ref q33, .null, .null, .null, .null, .null, .null, .int 0, .int 0, .int 0]) inT3 tyX3 tyX3_ok nmX3 hin0 (kd_b rfl) rfl rfl rfl 1 (by decide) fl_T_18 rfl rfl rfl rfl rfl (Nat.le_of_ble_eq_true rfl) d_T_init_23 rfl ?_
  refine v_aload_n hX d_T_init_26 rfl rfl ?_
  refine v_new hX 35 (kd 36) (ci := 1) (fs := [.null, .int 0]) inT1 tyX1 tyX1_ok cl_T_9 ia_R in_R rfl (by decide) (Nat.le_of_ble_eq_true rfl) (Nat.le_of_ble_eq_true rfl) d_T_init_27 (kd_step 35) (kd_self 35) (fun q35 _ => ?_)
  refine v_dup hX d_T_init_30 rfl ?_
  refine c_IN hX (rest := [.ref q35, .ref (loc 30)]) hl (c_R_init 35 36 (by decide) rfl) (host := "ProsePages") (by decide) im_R_init in_R cd_R_init rfl q_R_init ⟨(Nat.le_of_ble_eq_true rfl), (Nat.le_of_ble_eq_true rfl)⟩ rfl rfl rfl (Nat.le_of_ble_eq_true rfl) d_T_init_31 ⟨(Nat.le_of_ble_eq_true rfl), (Nat.le_of_ble_eq_true rfl)⟩ (fun rv d2 lo2 va2 kc ns hp => ?_)
  obtain ⟨q36, rfl, rfl, rfl, rfl, rfl, rfl⟩ := hp
  show V X D CL A _ _ _ _ _ _ _ [.ref q35, .ref (loc 30)]
  refine v_putFE hX 30 (fs2 := [.ref q31, .ref q33, .ref q35, .null, .null, .null, .null, .null, .int 0, .int 0, .int 0]) inT3 tyX3 tyX3_ok nmX3 hin0 (kd_b rfl) rfl rfl rfl 2 (by decide) fl_T_21 rfl rfl rfl rfl rfl (Nat.le_of_ble_eq_true rfl) d_T_init_34 rfl ?_
  refine v_aload_n hX d_T_init_37 rfl rfl ?_
  refine v_new hX 37 (kd 38) (ci := 1) (fs := [.null, .int 0]) inT1 tyX1 tyX1_ok cl_T_9 ia_R in_R rfl (by decide) (Nat.le_of_ble_eq_true rfl) (Nat.le_of_ble_eq_true rfl) d_T_init_38 (kd_step 37) (kd_self 37) (fun q37 _ => ?_)
  refine v_dup hX d_T_init_41 rfl ?_
  refine c_IN hX (rest := [.ref q37, .ref (loc 30)]) hl (c_R_init 37 38 (by decide) rfl) (host := "ProsePages") (by decide) im_R_init in_R cd_R_init rfl q_R_init ⟨(Nat.le_of_ble_eq_true rfl), (Nat.le_of_ble_eq_true rfl)⟩ rfl rfl rfl (Nat.le_of_ble_eq_true rfl) d_T_init_42 ⟨(Nat.le_of_ble_eq_true rfl), (Nat.le_of_ble_eq_true rfl)⟩ (fun rv d2 lo2 va2 kc ns hp => ?_)
  obtain ⟨q38, rfl, rfl, rfl, rfl, rfl, rfl⟩ := hp
  show V X D CL A _ _ _ _ _ _ _ [.ref q37, .ref (loc 30)]
  refine v_putFE hX 30 (fs2 := [.ref q31, .ref q33, .ref q35, .ref q37, .null, .null, .null, .null, .int 0, .int 0, .int 0]) inT3 tyX3 tyX3_ok nmX3 hin0 (kd_b rfl) rfl rfl rfl 3 (by decide) fl_T_24 rfl rfl rfl rfl rfl (Nat.le_of_ble_eq_true rfl) d_T_init_45 rfl ?_
  refine v_aload_n hX d_T_init_48 rfl rfl ?_
  refine v_new hX 39 (kd 40) (ci := 1) (fs := [.null, .int 0]) inT1 tyX1 tyX1_ok cl_T_9 ia_R in_R rfl (by decide) (Nat.le_of_ble_eq_true rfl) (Nat.le_of_ble_eq_true rfl) d_T_init_49 (kd_step 39) (kd_self 39) (fun q39 _ => ?_)
  refine v_dup hX d_T_init_52 rfl ?_
  refine c_IN hX (rest := [.ref q39, .ref (loc 30)]) hl (c_R_init 39 40 (by decide) rfl) (host := "ProsePages") (by decide) im_R_init in_R cd_R_init rfl q_R_init ⟨(Nat.le_of_ble_eq_true rfl), (Nat.le_of_ble_eq_true rfl)⟩ rfl rfl rfl (Nat.le_of_ble_eq_true rfl) d_T_init_53 ⟨(Nat.le_of_ble_eq_true rfl), (Nat.le_of_ble_eq_true rfl)⟩ (fun rv d2 lo2 va2 kc ns hp => ?_)
  obtain ⟨q40, rfl, rfl, rfl, rfl, rfl, rfl⟩ := hp
  show V X D CL A _ _ _ _ _ _ _ [.ref q39, .ref (loc 30)]
  refine v_putFE hX 30 (fs2 := [.ref q31, .ref q33, .ref q35, .ref q37, .ref q39, .null, .null, .null, .int 0, .int 0, .int 0]) inT3 tyX3 tyX3_ok nmX3 hin0 (kd_b rfl) rfl rfl rfl 4 (by decide) fl_T_27 rfl rfl rfl rfl rfl (Nat.le_of_ble_eq_true rfl) d_T_init_56 rfl ?_
  refine v_aload_n hX d_T_init_59 rfl rfl ?_
  refine v_new hX 41 (kd 42) (ci := 1) (fs := [.null, .int 0]) inT1 tyX1 tyX1_ok cl_T_9 ia_R in_R rfl (by decide) (Nat.le_of_ble_eq_true rfl) (Nat.le_of_ble_eq_true rfl) d_T_init_60 (kd_step 41) (kd_self 41) (fun q41 _ => ?_)
  refine v_dup hX d_T_init_63 rfl ?_
  refine c_IN hX (rest := [.ref q41, .ref (loc 30)]) hl (c_R_init 41 42 (by decide) rfl) (host := "ProsePages") (by decide) im_R_init in_R cd_R_init rfl q_R_init ⟨(Nat.le_of_ble_eq_true rfl), (Nat.le_of_ble_eq_true rfl)⟩ rfl rfl rfl (Nat.le_of_ble_eq_true rfl) d_T_init_64 ⟨(Nat.le_of_ble_eq_true rfl), (Nat.le_of_ble_eq_true rfl)⟩ (fun rv d2 lo2 va2 kc ns hp => ?_)
  obtain ⟨q42, rfl, rfl, rfl, rfl, rfl, rfl⟩ := hp
  show V X D CL A _ _ _ _ _ _ _ [.ref q41, .ref (loc 30)]
  refine v_putFE hX 30 (fs2 := [.ref q31, .ref q33, .ref q35, .ref q37, .ref q39, .ref q41, .null, .null, .int 0, .int 0, .int 0]) inT3 tyX3 tyX3_ok nmX3 hin0 (kd_b rfl) rfl rfl rfl 5 (by decide) fl_T_30 rfl rfl rfl rfl rfl (Nat.le_of_ble_eq_true rfl) d_T_init_67 rfl ?_
  refine v_aload_n hX d_T_init_70 rfl rfl ?_
  refine v_new hX 43 (kd 44) (ci := 1) (fs := [.null, .int 0]) inT1 tyX1 tyX1_ok cl_T_9 ia_R in_R rfl (by decide) (Nat.le_of_ble_eq_true rfl) (Nat.le_of_ble_eq_true rfl) d_T_init_71 (kd_step 43) (kd_self 43) (fun q43 _ => ?_)
  refine v_dup hX d_T_init_74 rfl ?_
  refine c_IN hX (rest := [.ref q43, .ref (loc 30)]) hl (c_R_init 43 44 (by decide) rfl) (host := "ProsePages") (by decide) im_R_init in_R cd_R_init rfl q_R_init ⟨(Nat.le_of_ble_eq_true rfl), (Nat.le_of_ble_eq_true rfl)⟩ rfl rfl rfl (Nat.le_of_ble_eq_true rfl) d_T_init_75 ⟨(Nat.le_of_ble_eq_true rfl), (Nat.le_of_ble_eq_true rfl)⟩ (fun rv d2 lo2 va2 kc ns hp => ?_)
  obtain ⟨q44, rfl, rfl, rfl, rfl, rfl, rfl⟩ := hp
  show V X D CL A _ _ _ _ _ _ _ [.ref q43, .ref (loc 30)]
  refine v_putFE hX 30 (fs2 := [.ref q31, .ref q33, .ref q35, .ref q37, .ref q39, .ref q41, .ref q43, .null, .int 0, .int 0, .int 0]) inT3 tyX3 tyX3_ok nmX3 hin0 (kd_b rfl) rfl rfl rfl 6 (by decide) fl_T_33 rfl rfl rfl rfl rfl (Nat.le_of_ble_eq_true rfl) d_T_init_78 rfl ?_
  refine v_aload_n hX d_T_init_81 rfl rfl ?_
  refine v_new hX 45 (kd 46) (ci := 1) (fs := [.null, .int 0]) inT1 tyX1 tyX1_ok cl_T_9 ia_R in_R rfl (by decide) (Nat.le_of_ble_eq_true rfl) (Nat.le_of_ble_eq_true rfl) d_T_init_82 (kd_step 45) (kd_self 45) (fun q45 _ => ?_)
  refine v_dup hX d_T_init_85 rfl ?_
  refine c_IN hX (rest := [.ref q45, .ref (loc 30)]) hl (c_R_init 45 46 (by decide) rfl) (host := "ProsePages") (by decide) im_R_init in_R cd_R_init rfl q_R_init ⟨(Nat.le_of_ble_eq_true rfl), (Nat.le_of_ble_eq_true rfl)⟩ rfl rfl rfl (Nat.le_of_ble_eq_true rfl) d_T_init_86 ⟨(Nat.le_of_ble_eq_true rfl), (Nat.le_of_ble_eq_true rfl)⟩ (fun rv d2 lo2 va2 kc ns hp => ?_)
  obtain ⟨q46, rfl, rfl, rfl, rfl, rfl, rfl⟩ := hp
  show V X D CL A _ _ _ _ _ _ _ [.ref q45, .ref (loc 30)]
  refine v_putFE hX 30 (fs2 := [.ref q31, .ref q33, .ref q35, .ref q37, .ref q39, .ref q41, .ref q43, .ref q45, .int 0, .int 0, .int 0]) inT3 tyX3 tyX3_ok nmX3 hin0 (kd_b rfl) rfl rfl rfl 7 (by decide) fl_T_36 rfl rfl rfl rfl rfl (Nat.le_of_ble_eq_true rfl) d_T_init_89 rfl ?_
  exact v_vret hX hE d_T_init_92 (Nat.le_of_ble_eq_true rfl) (Nat.le_of_ble_eq_true rfl) ⟨q31, q32, q33, q34, q35, q36, q37, q38, q39, q40, q41, q42, q43, q44, q45, q46, rfl, rfl, rfl, rfl, rfl, rfl⟩
set_option maxHeartbeats 4000000 in
set_option maxRecDepth 100000 in
theorem c_S_init {l : Launch} {D : va_G} {A : Nat → Prop} {cI cB cZ cJ cN : ClassId} {loc : Nat → Nat} {val : Nat → va_E} (hv : val 2 = .inr (2, [.null, .null, .null, .null, .null, .null])) : kM l y_S_init (Cond.code y_S_init b_S_init 1 none :: TT) (rmL 3) D CL (TY cI cB cZ cJ cN) A [.ref (loc 2)] (kd 3) loc val (fun rv d lo va kc ns => ∃ q3 q4 q5 q6 q7 q8 q9 q10 q11 q12 q13 q14 q15 q16 q17 q18 q19 q20 q21 q22 q23 q24 q25 q26 q27 q28 q29, rv = none ∧ kd 30 = d ∧ va_up (va_up (va_up (va_up (va_up (va_up (va_up (va_up (va_up (va_up (va_up (va_up (va_up (va_up (va_up (va_up (va_up (va_up (va_up (va_up (va_up (va_up (va_up (va_up (va_up (va_up (va_up (loc) 3 q3) 4 q4) 5 q5) 6 q6) 7 q7) 8 q8) 9 q9) 10 q10) 11 q11) 12 q12) 13 q13) 14 q14) 15 q15) 16 q16) 17 q17) 18 q18) 19 q19) 20 q20) 21 q21) 22 q22) 23 q23) 24 q24) 25 q25) 26 q26) 27 q27) 28 q28) 29 q29 = lo ∧ va_up (va_up (va_up (va_up (va_up (va_up (va_up (va_up (va_up (va_up (va_up (va_up (va_up (va_up (va_up (va_up (va_up (va_up (va_up (va_up (va_up (va_up (va_up (va_up (va_up (va_up (va_up (va_up (va_up (va_up (va_up (va_up (va_up (va_up (va_up (va_up (va_up (va_up (va_up (va_up (va_up (va_up (va_up (va_up (va_up (va_up (va_up (va_up (va_up (va_up (va_up (va_up (va_up (va_up (val) 3 (.inr (1, [.null, .int 0]))) 4 (.inl (cI, 16, .inl (fun _ => 0)))) 3 (.inr (1, [.ref q4, .int 0]))) 2 (.inr (2, [.ref q3, .null, .null, .null, .null, .null]))) 5 (.inr (3, [.null, .null, .null, .null, .null, .null, .null, .null, .int 0, .int 0, .int 0]))) 6 (.inr (1, [.null, .int 0]))) 7 (.inl (cI, 16, .inl (fun _ => 0)))) 6 (.inr (1, [.ref q7, .int 0]))) 5 (.inr (3, [.ref q6, .null, .null, .null, .null, .null, .null, .null, .int 0, .int 0, .int 0]))) 8 (.inr (1, [.null, .int 0]))) 9 (.inl (cI, 16, .inl (fun _ => 0)))) 8 (.inr (1, [.ref q9, .int 0]))) 5 (.inr (3, [.ref q6, .ref q8, .null, .null, .null, .null, .null, .null, .int 0, .int 0, .int 0]))) 10 (.inr (1, [.null, .int 0]))) 11 (.inl (cI, 16, .inl (fun _ => 0)))) 10 (.inr (1, [.ref q11, .int 0]))) 5 (.inr (3, [.ref q6, .ref q8, .ref q10, .null, .null, .null, .null, .null, .int 0, .int 0, .int 0]))) 12 (.inr (1, [.null, .int 0]))) 13 (.inl (cI, 16, .inl (fun _ => 0)))) 12 (.inr (1, [.ref q13, .int 0]))) 5 (.inr (3, [.ref q6, .ref q8, .ref q10, .ref q12, .null, .null, .null, .null, .int 0, .int 0, .int 0]))) 14 (.inr (1, [.null, .int 0]))) 15 (.inl (cI, 16, .inl (fun _ => 0)))) 14 (.inr (1, [.ref q15, .int 0]))) 5 (.inr (3, [.ref q6, .ref q8, .ref q10, .ref q12, .ref q14, .null, .null, .null, .int 0, .int 0, .int 0]))) 16 (.inr (1, [.null, .int 0]))) 17 (.inl (cI, 16, .inl (fun _ => 0)))) 16 (.inr (1, [.ref q17, .int 0]))) 5 (.inr (3, [.ref q6, .ref q8, .ref q10, .ref q12, .ref q14, .ref q16, .null, .null, .int 0, .int 0, .int 0]))) 18 (.inr (1, [.null, .int 0]))) 19 (.inl (cI, 16, .inl (fun _ => 0)))) 18 (.inr (1, [.ref q19, .int 0]))) 5 (.inr (3, [.ref q6, .ref q8, .ref q10, .ref q12, .ref q14, .ref q16, .ref q18, .null, .int 0, .int 0, .int 0]))) 20 (.inr (1, [.null, .int 0]))) 21 (.inl (cI, 16, .inl (fun _ => 0)))) 20 (.inr (1, [.ref q21, .int 0]))) 5 (.inr (3, [.ref q6, .ref q8, .ref q10, .ref q12, .ref q14, .ref q16, .ref q18, .ref q20, .int 0, .int 0, .int 0]))) 2 (.inr (2, [.ref q3, .ref q5, .null, .null, .null, .null]))) 22 (.inr (1, [.null, .int 0]))) 23 (.inl (cI, 16, .inl (fun _ => 0)))) 22 (.inr (1, [.ref q23, .int 0]))) 2 (.inr (2, [.ref q3, .ref q5, .ref q22, .null, .null, .null]))) 24 (.inr (1, [.null, .int 0]))) 25 (.inl (cI, 16, .inl (fun _ => 0)))) 24 (.inr (1, [.ref q25, .int 0]))) 2 (.inr (2, [.ref q3, .ref q5, .ref q22, .ref q24, .null, .null]))) 26 (.inr (1, [.null, .int 0]))) 27 (.inl (cI, 16, .inl (fun _ => 0)))) 26 (.inr (1, [.ref q27, .int 0]))) 2 (.inr (2, [.ref q3, .ref q5, .ref q22, .ref q24, .ref q26, .null]))) 28 (.inr (1, [.null, .int 0]))) 29 (.inl (cI, 16, .inl (fun _ => 0)))) 28 (.inr (1, [.ref q29, .int 0]))) 2 (.inr (2, [.ref q3, .ref q5, .ref q22, .ref q24, .ref q26, .ref q28])) = va ∧ kc = 27 ∧ ns = 245) := by
  refine kM_of (lv0 := [some (.ref (loc 2))]) (own := "ProsePages$Setter") (by decide) rfl (List.forall_mem_cons.mpr ⟨rfl, fun _ h => nomatch h⟩) (Nat.le_of_ble_eq_true rfl) rfl (Nat.le_of_ble_eq_true rfl) (fun X hl hX hE hin0 => ?_)
  refine v_aload_n hX d_S_init_0 rfl rfl ?_
  refine v_objInit hX ml_S_3 im_O_init k_objc ⟨by decide, by decide⟩ rfl (Nat.le_of_ble_eq_true rfl) d_S_init_1 ?_
  refine v_aload_n hX d_S_init_4 rfl rfl ?_
  refine v_new hX 3 (kd 4) (ci := 1) (fs := [.null, .int 0]) inT1 tyX1 tyX1_ok cl_S_9 ia_R in_R rfl (by decide) (Nat.le_of_ble_eq_true rfl) (Nat.le_of_ble_eq_true rfl) d_S_init_5 (kd_step 3) (kd_self 3) (fun q3 _ => ?_)
  refine v_dup hX d_S_init_8 rfl ?_
  refine c_IN hX (rest := [.ref q3, .ref (loc 2)]) hl (c_R_init 3 4 (by decide) rfl) (host := "ProsePages") (by decide) im_R_init in_R cd_R_init rfl q_R_init ⟨(Nat.le_of_ble_eq_true rfl), (Nat.le_of_ble_eq_true rfl)⟩ rfl rfl rfl (Nat.le_of_ble_eq_true rfl) d_S_init_9 ⟨(Nat.le_of_ble_eq_true rfl), (Nat.le_of_ble_eq_true rfl)⟩ (fun rv d2 lo2 va2 kc ns hp => ?_)
  obtain ⟨q4, rfl, rfl, rfl, rfl, rfl, rfl⟩ := hp
  show V X D CL A _ _ _ _ _ _ _ [.ref q3, .ref (loc 2)]
  refine v_putFE hX 2 (fs2 := [.ref q3, .null, .null, .null, .null, .null]) inT2 tyX2 tyX2_ok nmX2 hin0 (kd_b rfl) rfl hv rfl 0 (by decide) fl_S_12 rfl rfl rfl rfl rfl (Nat.le_of_ble_eq_true rfl) d_S_init_12 rfl ?_
  refine v_aload_n hX d_S_init_15 rfl rfl ?_
  refine v_new hX 5 (kd 6) (ci := 3) (fs := [.null, .null, .null, .null, .null, .null, .null, .null, .int 0, .int 0, .int 0]) inT3 tyX3 tyX3_ok cl_S_18 ia_T in_T rfl (by decide) (Nat.le_of_ble_eq_true rfl) (Nat.le_of_ble_eq_true rfl) d_S_init_16 (kd_step 5) (kd_self 5) (fun q5 _ => ?_)
  refine v_dup hX d_S_init_19 rfl ?_
  refine c_IN hX (rest := [.ref q5, .ref (loc 2)]) hl (c_T_init5 rfl) (host := "ProsePages") (by decide) im_T_init in_T cd_T_init rfl q_T_init ⟨(Nat.le_of_ble_eq_true rfl), (Nat.le_of_ble_eq_true rfl)⟩ rfl rfl rfl (Nat.le_of_ble_eq_true rfl) d_S_init_20 ⟨(Nat.le_of_ble_eq_true rfl), (Nat.le_of_ble_eq_true rfl)⟩ (fun rv d2 lo2 va2 kc ns hp => ?_)
  obtain ⟨q6, q7, q8, q9, q10, q11, q12, q13, q14, q15, q16, q17, q18, q19, q20, q21, rfl, rfl, rfl, rfl, rfl, rfl⟩ := hp
  show V X D CL A _ _ _ _ _ _ _ [.ref q5, .ref (loc 2)]
  refine v_putE hX 2 (fs2 := [.ref q3, .ref q5, .null, .null, .null, .null]) inT2 tyX2 tyX2_ok nmX2 (kd_b rfl) rfl rfl rfl 1 (by decide) fl_S_21 rfl rfl rfl rfl rfl (Nat.le_of_ble_eq_true rfl) d_S_init_23 rfl ?_
  refine v_aload_n hX d_S_init_26 rfl rfl ?_
  refine v_new hX 22 (kd 23) (ci := 1) (fs := [.null, .int 0]) inT1 tyX1 tyX1_ok cl_S_9 ia_R in_R rfl (by decide) (Nat.le_of_ble_eq_true rfl) (Nat.le_of_ble_eq_true rfl) d_S_init_27 (kd_step 22) (kd_self 22) (fun q22 _ => ?_)
  refine v_dup hX d_S_init_30 rfl ?_
  refine c_IN hX (rest := [.ref q22, .ref (loc 2)]) hl (c_R_init 22 23 (by decide) rfl) (host := "ProsePages") (by decide) im_R_init in_R cd_R_init rfl q_R_init ⟨(Nat.le_of_ble_eq_true rfl), (Nat.le_of_ble_eq_true rfl)⟩ rfl rfl rfl (Nat.le_of_ble_eq_true rfl) d_S_init_31 ⟨(Nat.le_of_ble_eq_true rfl), (Nat.le_of_ble_eq_true rfl)⟩ (fun rv d2 lo2 va2 kc ns hp => ?_)
  obtain ⟨q23, rfl, rfl, rfl, rfl, rfl, rfl⟩ := hp
  show V X D CL A _ _ _ _ _ _ _ [.ref q22, .ref (loc 2)]
  refine v_putFE hX 2 (fs2 := [.ref q3, .ref q5, .ref q22, .null, .null, .null]) inT2 tyX2 tyX2_ok nmX2 hin0 (kd_b rfl) rfl rfl rfl 2 (by decide) fl_S_25 rfl rfl rfl rfl rfl (Nat.le_of_ble_eq_true rfl) d_S_init_34 rfl ?_
  refine v_aload_n hX d_S_init_37 rfl rfl ?_
  refine v_new hX 24 (kd 25) (ci := 1) (fs := [.null, .int 0]) inT1 tyX1 tyX1_ok cl_S_9 ia_R in_R rfl (by decide) (Nat.le_of_ble_eq_true rfl) (Nat.le_of_ble_eq_true rfl) d_S_init_38 (kd_step 24) (kd_self 24) (fun q24 _ => ?_)
  refine v_dup hX d_S_init_41 rfl ?_
  refine c_IN hX (rest := [.ref q24, .ref (loc 2)]) hl (c_R_init 24 25 (by decide) rfl) (host := "ProsePages") (by decide) im_R_init in_R cd_R_init rfl q_R_init ⟨(Nat.le_of_ble_eq_true rfl), (Nat.le_of_ble_eq_true rfl)⟩ rfl rfl rfl (Nat.le_of_ble_eq_true rfl) d_S_init_42 ⟨(Nat.le_of_ble_eq_true rfl), (Nat.le_of_ble_eq_true rfl)⟩ (fun rv d2 lo2 va2 kc ns hp => ?_)
  obtain ⟨q25, rfl, rfl, rfl, rfl, rfl, rfl⟩ := hp
  show V X D CL A _ _ _ _ _ _ _ [.ref q24, .ref (loc 2)]
  refine v_putFE hX 2 (fs2 := [.ref q3, .ref q5, .ref q22, .ref q24, .null, .null]) inT2 tyX2 tyX2_ok nmX2 hin0 (kd_b rfl) rfl rfl rfl 3 (by decide) fl_S_28 rfl rfl rfl rfl rfl (Nat.le_of_ble_eq_true rfl) d_S_init_45 rfl ?_
  refine v_aload_n hX d_S_init_48 rfl rfl ?_
  refine v_new hX 26 (kd 27) (ci := 1) (fs := [.null, .int 0]) inT1 tyX1 tyX1_ok cl_S_9 ia_R in_R rfl (by decide) (Nat.le_of_ble_eq_true rfl) (Nat.le_of_ble_eq_true rfl) d_S_init_49 (kd_step 26) (kd_self 26) (fun q26 _ => ?_)
  refine v_dup hX d_S_init_52 rfl ?_
  refine c_IN hX (rest := [.ref q26, .ref (loc 2)]) hl (c_R_init 26 27 (by decide) rfl) (host := "ProsePages") (by decide) im_R_init in_R cd_R_init rfl q_R_init ⟨(Nat.le_of_ble_eq_true rfl), (Nat.le_of_ble_eq_true rfl)⟩ rfl rfl rfl (Nat.le_of_ble_eq_true rfl) d_S_init_53 ⟨(Nat.le_of_ble_eq_true rfl), (Nat.le_of_ble_eq_true rfl)⟩ (fun rv d2 lo2 va2 kc ns hp => ?_)
  obtain ⟨q27, rfl, rfl, rfl, rfl, rfl, rfl⟩ := hp
  show V X D CL A _ _ _ _ _ _ _ [.ref q26, .ref (loc 2)]
  refine v_putFE hX 2 (fs2 := [.ref q3, .ref q5, .ref q22, .ref q24, .ref q26, .null]) inT2 tyX2 tyX2_ok nmX2 hin0 (kd_b rfl) rfl rfl rfl 4 (by decide) fl_S_31 rfl rfl rfl rfl rfl (Nat.le_of_ble_eq_true rfl) d_S_init_56 rfl ?_
  refine v_aload_n hX d_S_init_59 rfl rfl ?_
  refine v_new hX 28 (kd 29) (ci := 1) (fs := [.null, .int 0]) inT1 tyX1 tyX1_ok cl_S_9 ia_R in_R rfl (by decide) (Nat.le_of_ble_eq_true rfl) (Nat.le_of_ble_eq_true rfl) d_S_init_60 (kd_step 28) (kd_self 28) (fun q28 _ => ?_)
  refine v_dup hX d_S_init_63 rfl ?_
  refine c_IN hX (rest := [.ref q28, .ref (loc 2)]) hl (c_R_init 28 29 (by decide) rfl) (host := "ProsePages") (by decide) im_R_init in_R cd_R_init rfl q_R_init ⟨(Nat.le_of_ble_eq_true rfl), (Nat.le_of_ble_eq_true rfl)⟩ rfl rfl rfl (Nat.le_of_ble_eq_true rfl) d_S_init_64 ⟨(Nat.le_of_ble_eq_true rfl), (Nat.le_of_ble_eq_true rfl)⟩ (fun rv d2 lo2 va2 kc ns hp => ?_)
  obtain ⟨q29, rfl, rfl, rfl, rfl, rfl, rfl⟩ := hp
  show V X D CL A _ _ _ _ _ _ _ [.ref q28, .ref (loc 2)]
  refine v_putFE hX 2 (fs2 := [.ref q3, .ref q5, .ref q22, .ref q24, .ref q26, .ref q28]) inT2 tyX2 tyX2_ok nmX2 hin0 (kd_b rfl) rfl rfl rfl 5 (by decide) fl_S_34 rfl rfl rfl rfl rfl (Nat.le_of_ble_eq_true rfl) d_S_init_67 rfl ?_
  exact v_vret hX hE d_S_init_70 (Nat.le_of_ble_eq_true rfl) (Nat.le_of_ble_eq_true rfl) ⟨q3, q4, q5, q6, q7, q8, q9, q10, q11, q12, q13, q14, q15, q16, q17, q18, q19, q20, q21, q22, q23, q24, q25, q26, q27, q28, q29, rfl, rfl, rfl, rfl, rfl, rfl⟩
def plist (cI cN : ClassId) (loc : Nat → Nat) : List va_E := [
  .inr (4, [.ref (loc 1), .ref (loc 2), .ref (loc 47), .ref (loc 47), .int 1, .int 0, .ref (loc 30), .int 0]),
  .inl (cN, 300, .inr (.inr (.inr (.inr (va_up (fun _ => none) (Int32.toNatClampNeg 0) (some (loc 47))))))),
  .inr (2, [.ref (loc 3), .ref (loc 5), .ref (loc 22), .ref (loc 24), .ref (loc 26), .ref (loc 28)]),
  .inr (1, [.ref (loc 4), .int 0]),
  .inl (cI, 16, .inl (fun _ => 0)),
  .inr (3, [.ref (loc 6), .ref (loc 8), .ref (loc 10), .ref (loc 12), .ref (loc 14), .ref (loc 16), .ref (loc 18), .ref (loc 20), .int 0, .int 0, .int 0]),
  .inr (1, [.ref (loc 7), .int 0]),
  .inl (cI, 16, .inl (fun _ => 0)),
  .inr (1, [.ref (loc 9), .int 0]),
  .inl (cI, 16, .inl (fun _ => 0)),
  .inr (1, [.ref (loc 11), .int 0]),
  .inl (cI, 16, .inl (fun _ => 0)),
  .inr (1, [.ref (loc 13), .int 0]),
  .inl (cI, 16, .inl (fun _ => 0)),
  .inr (1, [.ref (loc 15), .int 0]),
  .inl (cI, 16, .inl (fun _ => 0)),
  .inr (1, [.ref (loc 17), .int 0]),
  .inl (cI, 16, .inl (fun _ => 0)),
  .inr (1, [.ref (loc 19), .int 0]),
  .inl (cI, 16, .inl (fun _ => 0)),
  .inr (1, [.ref (loc 21), .int 0]),
  .inl (cI, 16, .inl (fun _ => 0)),
  .inr (1, [.ref (loc 23), .int 0]),
  .inl (cI, 16, .inl (fun _ => 0)),
  .inr (1, [.ref (loc 25), .int 0]),
  .inl (cI, 16, .inl (fun _ => 0)),
  .inr (1, [.ref (loc 27), .int 0]),
  .inl (cI, 16, .inl (fun _ => 0)),
  .inr (1, [.ref (loc 29), .int 0]),
  .inl (cI, 16, .inl (fun _ => 0)),
  .inr (3, [.ref (loc 31), .ref (loc 33), .ref (loc 35), .ref (loc 37), .ref (loc 39), .ref (loc 41), .ref (loc 43), .ref (loc 45), .int 0, .int 0, .int 0]),
  .inr (1, [.ref (loc 32), .int 0]),
  .inl (cI, 16, .inl (fun _ => 0)),
  .inr (1, [.ref (loc 34), .int 0]),
  .inl (cI, 16, .inl (fun _ => 0)),
  .inr (1, [.ref (loc 36), .int 0]),
  .inl (cI, 16, .inl (fun _ => 0)),
  .inr (1, [.ref (loc 38), .int 0]),
  .inl (cI, 16, .inl (fun _ => 0)),
  .inr (1, [.ref (loc 40), .int 0]),
  .inl (cI, 16, .inl (fun _ => 0)),
  .inr (1, [.ref (loc 42), .int 0]),
  .inl (cI, 16, .inl (fun _ => 0)),
  .inr (1, [.ref (loc 44), .int 0]),
  .inl (cI, 16, .inl (fun _ => 0)),
  .inr (1, [.ref (loc 46), .int 0]),
  .inl (cI, 16, .inl (fun _ => 0)),
  .inr (0, [.int 0, .int (-1), .null, .int 1, .int 0, .int 0, .int 0, .null, .null, .null, .int 0, .int (-1)])]
def pcell (cI cN : ClassId) (loc : Nat → Nat) (k : Nat) : va_E := (plist cI cN loc).getD k (.inr (0, []))
set_option maxHeartbeats 4000000 in
set_option maxRecDepth 100000 in
theorem c_P_init {l : Launch} {D : va_G} {A : Nat → Prop} {cI cB cZ cJ cN : ClassId} {loc : Nat → Nat} {val : Nat → va_E} (hv : val 0 = .inr (4, [.null, .null, .null, .null, .int 0, .int 0, .null, .int 0])) : kM l y_P_init (Cond.code y_P_init b_P_init 1 none :: TT) (rmL 4) D CL (TY cI cB cZ cJ cN) A [.ref (loc 0)] (kd 1) loc val (fun rv d lo va kc ns => rv = none ∧ d = kd 48 ∧ lo 0 = loc 0 ∧ (∀ k, Nat.ble (k + 1) 48 = true → va k = pcell cI cN lo k) ∧ kc = 47 ∧ ns = 718) := by
  refine kM_of (lv0 := [some (.ref (loc 0))]) (own := "ProsePages") (by decide) rfl (List.forall_mem_cons.mpr ⟨rfl, fun _ h => nomatch h⟩) (Nat.le_of_ble_eq_true rfl) rfl (Nat.le_of_ble_eq_true rfl) (fun X hl hX hE hin0 => ?_)
  refine v_aload_n hX d_P_init_0 rfl rfl ?_
  refine v_objInit hX ml_P_3 im_O_init k_objc ⟨by decide, by decide⟩ rfl (Nat.le_of_ble_eq_true rfl) d_P_init_1 ?_
  refine v_aload_n hX d_P_init_4 rfl rfl ?_
  refine v_sipush (v := 300) hX d_P_init_5 (by decide) ?_
  refine v_newq hX 1 4 (kd 2) (N := 300) cl_P_9 hX.2.2.2.2.2.2.2.2.2.now.2.1 rfl (by decide) (by decide) (Nat.le_of_ble_eq_true rfl) (Nat.le_of_ble_eq_true rfl) (Nat.le_of_ble_eq_true rfl) d_P_init_8 (kd_step 1) (kd_self 1) (fun q1 => ?_)
  refine v_putFE hX 0 (fs2 := [.ref q1, .null, .null, .null, .int 0, .int 0, .null, .int 0]) inT4 tyX4 tyX4_ok nmX4 hin0 (kd_b rfl) rfl hv rfl 0 (by decide) fl_P_11 rfl rfl rfl rfl rfl (Nat.le_of_ble_eq_true rfl) d_P_init_11 rfl ?_
  refine v_aload_n hX d_P_init_14 rfl rfl ?_
  refine v_new hX 2 (kd 3) (ci := 2) (fs := [.null, .null, .null, .null, .null, .null]) inT2 tyX2 tyX2_ok cl_P_15 ia_S in_S rfl (by decide) (Nat.le_of_ble_eq_true rfl) (Nat.le_of_ble_eq_true rfl) d_P_init_15 (kd_step 2) (kd_self 2) (fun q2 _ => ?_)
  refine v_dup hX d_P_init_18 rfl ?_
  refine c_IN hX (rest := [.ref q2, .ref (loc 0)]) hl (c_S_init rfl) (host := "ProsePages") (by decide) im_S_init in_S cd_S_init rfl q_S_init ⟨(Nat.le_of_ble_eq_true rfl), (Nat.le_of_ble_eq_true rfl)⟩ rfl rfl rfl (Nat.le_of_ble_eq_true rfl) d_P_init_19 ⟨(Nat.le_of_ble_eq_true rfl), (Nat.le_of_ble_eq_true rfl)⟩ (fun rv d2 lo2 va2 kc ns hp => ?_)
  obtain ⟨q3, q4, q5, q6, q7, q8, q9, q10, q11, q12, q13, q14, q15, q16, q17, q18, q19, q20, q21, q22, q23, q24, q25, q26, q27, q28, q29, rfl, rfl, rfl, rfl, rfl, rfl⟩ := hp
  show V X D CL A _ _ _ _ _ _ _ [.ref q2, .ref (loc 0)]
  refine v_putFE hX 0 (fs2 := [.ref q1, .ref q2, .null, .null, .int 0, .int 0, .null, .int 0]) inT4 tyX4 tyX4_ok nmX4 hin0 (kd_b rfl) rfl rfl rfl 1 (by decide) fl_P_18 rfl rfl rfl rfl rfl (Nat.le_of_ble_eq_true rfl) d_P_init_22 rfl ?_
  refine v_aload_n hX d_P_init_25 rfl rfl ?_
  refine v_new hX 30 (kd 31) (ci := 3) (fs := [.null, .null, .null, .null, .null, .null, .null, .null, .int 0, .int 0, .int 0]) inT3 tyX3 tyX3_ok cl_P_22 ia_T in_T rfl (by decide) (Nat.le_of_ble_eq_true rfl) (Nat.le_of_ble_eq_true rfl) d_P_init_26 (kd_step 30) (kd_self 30) (fun q30 _ => ?_)
  refine v_dup hX d_P_init_29 rfl ?_
  refine c_IN hX (rest := [.ref q30, .ref (loc 0)]) hl (c_T_init30 rfl) (host := "ProsePages") (by decide) im_T_init in_T cd_T_init rfl q_T_init ⟨(Nat.le_of_ble_eq_true rfl), (Nat.le_of_ble_eq_true rfl)⟩ rfl rfl rfl (Nat.le_of_ble_eq_true rfl) d_P_init_30 ⟨(Nat.le_of_ble_eq_true rfl), (Nat.le_of_ble_eq_true rfl)⟩ (fun rv d2 lo2 va2 kc ns hp => ?_)
  obtain ⟨q31, q32, q33, q34, q35, q36, q37, q38, q39, q40, q41, q42, q43, q44, q45, q46, rfl, rfl, rfl, rfl, rfl, rfl⟩ := hp
  show V X D CL A _ _ _ _ _ _ _ [.ref q30, .ref (loc 0)]
  refine v_putE hX 0 (fs2 := [.ref q1, .ref q2, .null, .null, .int 0, .int 0, .ref q30, .int 0]) inT4 tyX4 tyX4_ok nmX4 (kd_b rfl) rfl rfl rfl 6 (by decide) fl_P_25 rfl rfl rfl rfl rfl (Nat.le_of_ble_eq_true rfl) d_P_init_33 rfl ?_
  refine v_aload_n hX d_P_init_36 rfl rfl ?_
  refine v_new hX 47 (kd 48) (ci := 0) (fs := [.int 0, .int 0, .null, .int 0, .int 0, .int 0, .int 0, .null, .null, .null, .int 0, .int 0]) inT0 tyX0 tyX0_ok cl_P_9 ia_N in_N rfl (by decide) (Nat.le_of_ble_eq_true rfl) (Nat.le_of_ble_eq_true rfl) d_P_init_37 (kd_step 47) (kd_self 47) (fun q47 _ => ?_)
  refine v_dup hX d_P_init_40 rfl ?_
  refine v_iconst (v := 0) hX d_P_init_41 (by decide) ?_
  refine v_iconst (v := (-1)) hX d_P_init_42 (by decide) ?_
  refine v_iconst (v := 0) hX d_P_init_43 (by decide) ?_
  refine v_null hX d_P_init_44 ?_
  refine v_iconst (v := 0) hX d_P_init_45 (by decide) ?_
  refine c_I hX (rest := [.ref q47, .ref (loc 0)]) hl (c_N_init0 47 0 (-1) 0 0 (kd_b rfl) rfl) ml_P_29 im_N_init in_N cd_N_init rfl q_N_init ⟨(Nat.le_of_ble_eq_true rfl), (Nat.le_of_ble_eq_true rfl)⟩ rfl rfl rfl (Nat.le_of_ble_eq_true rfl) d_P_init_46 ⟨(Nat.le_of_ble_eq_true rfl), (Nat.le_of_ble_eq_true rfl)⟩ (fun rv d2 lo2 va2 kc ns hp => ?_)
  obtain ⟨rfl, rfl, rfl, rfl, rfl, rfl⟩ := hp
  show V X D CL A _ _ _ _ _ _ _ [.ref q47, .ref (loc 0)]
  refine v_putE hX 0 (fs2 := [.ref q1, .ref q2, .ref q47, .null, .int 0, .int 0, .ref q30, .int 0]) inT4 tyX4 tyX4_ok nmX4 (kd_b rfl) rfl rfl rfl 2 (by decide) fl_P_32 rfl rfl rfl rfl rfl (Nat.le_of_ble_eq_true rfl) d_P_init_49 rfl ?_
  refine v_aload_n hX d_P_init_52 rfl rfl ?_
  refine v_aload_n hX d_P_init_53 rfl rfl ?_
  refine v_get hX 0 (v := .ref q47) inT4 (kd_b rfl) rfl rfl rfl 2 (by decide) fl_P_32 rfl rfl d_P_init_54 ?_
  refine v_putE hX 0 (fs2 := [.ref q1, .ref q2, .ref q47, .ref q47, .int 0, .int 0, .ref q30, .int 0]) inT4 tyX4 tyX4_ok nmX4 (kd_b rfl) rfl rfl rfl 3 (by decide) fl_P_36 rfl rfl rfl rfl rfl (Nat.le_of_ble_eq_true rfl) d_P_init_57 rfl ?_
  refine v_aload_n hX d_P_init_60 rfl rfl ?_
  refine v_get hX 0 (v := .ref q1) inT4 (kd_b rfl) rfl rfl rfl 0 (by decide) fl_P_11 rfl rfl d_P_init_61 ?_
  refine v_iconst (v := 0) hX d_P_init_64 (by decide) ?_
  refine v_aload_n hX d_P_init_65 rfl rfl ?_
  refine v_get hX 0 (v := .ref q47) inT4 (kd_b rfl) rfl rfl rfl 2 (by decide) fl_P_32 rfl rfl d_P_init_66 ?_
  refine v_astq hX 1 4 47 (kd_b rfl) rfl rfl rfl (kd_b rfl) rfl rfl rfl (vpb (by decide)) d_P_init_69 ?_
  refine v_aload_n hX d_P_init_70 rfl rfl ?_
  refine v_iconst (v := 1) hX d_P_init_71 (by decide) ?_
  refine v_putE hX 0 (fs2 := [.ref q1, .ref q2, .ref q47, .ref q47, .int 1, .int 0, .ref q30, .int 0]) inT4 tyX4 tyX4_ok nmX4 (kd_b rfl) rfl rfl rfl 4 (by decide) fl_P_39 rfl rfl rfl rfl rfl (Nat.le_of_ble_eq_true rfl) d_P_init_72 rfl ?_
  refine v_vret hX hE d_P_init_75 (Nat.le_of_ble_eq_true rfl) (Nat.le_of_ble_eq_true rfl) ⟨rfl, rfl, rfl, ?_, rfl, rfl⟩
  intro k hk
  have hk := Nat.le_of_ble_eq_true hk
  match k, hk with
  | 0, _ => rfl
  | 1, _ => rfl
  | 2, _ => rfl
  | 3, _ => rfl
  | 4, _ => rfl
  | 5, _ => rfl
  | 6, _ => rfl
  | 7, _ => rfl
  | 8, _ => rfl
  | 9, _ => rfl
  | 10, _ => rfl
  | 11, _ => rfl
  | 12, _ => rfl
  | 13, _ => rfl
  | 14, _ => rfl
  | 15, _ => rfl
  | 16, _ => rfl
  | 17, _ => rfl
  | 18, _ => rfl
  | 19, _ => rfl
  | 20, _ => rfl
  | 21, _ => rfl
  | 22, _ => rfl
  | 23, _ => rfl
  | 24, _ => rfl
  | 25, _ => rfl
  | 26, _ => rfl
  | 27, _ => rfl
  | 28, _ => rfl
  | 29, _ => rfl
  | 30, _ => rfl
  | 31, _ => rfl
  | 32, _ => rfl
  | 33, _ => rfl
  | 34, _ => rfl
  | 35, _ => rfl
  | 36, _ => rfl
  | 37, _ => rfl
  | 38, _ => rfl
  | 39, _ => rfl
  | 40, _ => rfl
  | 41, _ => rfl
  | 42, _ => rfl
  | 43, _ => rfl
  | 44, _ => rfl
  | 45, _ => rfl
  | 46, _ => rfl
  | 47, _ => rfl
  | k + 48, h => exact absurd h (by omega)
def mlist (cI cB cZ : ClassId) (loc : Nat → Nat) : List va_E := [
  .inr (5, [.int 0, .ref (loc 49), .ref (loc 50), .ref (loc 51), .ref (loc 52), .ref (loc 53), .ref (loc 54), .ref (loc 55), .ref (loc 56), .int 1, .int 0, .int 0, .ref (loc 57), .ref (loc 58), .ref (loc 59), .ref (loc 60), .ref (loc 61), .ref (loc 62), .int 0, .int 0, .int 0, .int 0, .int 0, .int 0, .ref (loc 63), .ref (loc 64), .ref (loc 65), .ref (loc 66), .ref (loc 67), .ref (loc 68), .ref (loc 69), .ref (loc 70), .ref (loc 71), .ref (loc 72), .int 0, .ref (loc 73), .ref (loc 74), .ref (loc 75), .int 0, .int 0, .int 0, .int 0, .int 0, .int 0, .int 0]),
  .inl (cI, 300, .inl (upd (fun _ => 0) (Int32.toNatClampNeg 0) 11)),
  .inl (cI, 300, .inl (upd (fun _ => 0) (Int32.toNatClampNeg 0) (-1))),
  .inl (cI, 300, .inl (upd (fun _ => 0) (Int32.toNatClampNeg 0) 0)),
  .inl (cI, 300, .inl (upd (fun _ => 0) (Int32.toNatClampNeg 0) 1)),
  .inl (cI, 300, .inl (fun _ => 0)),
  .inl (cI, 300, .inl (upd (fun _ => 0) (Int32.toNatClampNeg 0) 0)),
  .inl (cI, 300, .inl (upd (fun _ => 0) (Int32.toNatClampNeg 0) (-1))),
  .inl (cB, 4000, .inl (fun _ => 0)),
  .inl (cI, 1501, .inl (fun _ => 0)),
  .inl (cI, 1501, .inl (fun _ => 0)),
  .inl (cI, 1501, .inl (fun _ => 0)),
  .inl (cI, 1501, .inl (fun _ => 0)),
  .inl (cZ, 1501, .inl (fun _ => 0)),
  .inl (cB, 90060, .inl (fun _ => 0)),
  .inl (cI, 300, .inl (fun _ => 0)),
  .inl (cI, 300, .inl (fun _ => 0)),
  .inl (cI, 14, .inl (fun _ => 0)),
  .inl (cI, 14, .inl (fun _ => 0)),
  .inl (cI, 14, .inl (fun _ => 0)),
  .inl (cI, 14, .inl (fun _ => 0)),
  .inl (cZ, 14, .inl (fun _ => 0)),
  .inl (cZ, 14, .inl (fun _ => 0)),
  .inl (cZ, 14, .inl (fun _ => 0)),
  .inl (cZ, 14, .inl (fun _ => 0)),
  .inl (cI, 4010, .inl (fun _ => 0)),
  .inl (cI, 4010, .inl (fun _ => 0)),
  .inl (cI, 4300, .inl (fun _ => 0))]
def mcell (cI cB cZ : ClassId) (loc : Nat → Nat) (k : Nat) : va_E := (mlist cI cB cZ loc).getD (k - 48) (.inr (0, []))
set_option maxHeartbeats 4000000 in
set_option maxRecDepth 100000 in
/-- empty() in the constructor -/
theorem c_M_empty0 {l : Launch} {D : va_G} {A : Nat → Prop} {cI cB cZ cJ cN : ClassId} {loc : Nat → Nat} {val : Nat → va_E} (h48 : val 48 = .inr (5, [.int 0, .ref (loc 49), .ref (loc 50), .ref (loc 51), .ref (loc 52), .ref (loc 53), .ref (loc 54), .ref (loc 55), .ref (loc 56), .int 0, .int 0, .int 0, .ref (loc 57), .ref (loc 58), .ref (loc 59), .ref (loc 60), .ref (loc 61), .ref (loc 62), .int 0, .int 0, .int 0, .int 0, .int 0, .int 0, .ref (loc 63), .ref (loc 64), .ref (loc 65), .ref (loc 66), .ref (loc 67), .ref (loc 68), .ref (loc 69), .ref (loc 70), .ref (loc 71), .ref (loc 72), .int 0, .ref (loc 73), .ref (loc 74), .ref (loc 75), .int 0, .int 0, .int 0, .int 0, .int 0, .int 0, .int 0])) (h49 : val 49 = .inl (cI, 300, .inl (fun _ => 0))) (h50 : val 50 = .inl (cI, 300, .inl (fun _ => 0))) (h51 : val 51 = .inl (cI, 300, .inl (fun _ => 0))) (h52 : val 52 = .inl (cI, 300, .inl (fun _ => 0))) (h54 : val 54 = .inl (cI, 300, .inl (fun _ => 0))) (h55 : val 55 = .inl (cI, 300, .inl (fun _ => 0))) : kM l y_M_empty (Cond.code y_M_empty b_M_empty 1 none :: TT) (rmL 1) D CL (TY cI cB cZ cJ cN) A [.ref (loc 48)] (kd 76) loc val (fun rv d lo va kc ns => rv = none ∧ kd 76 = d ∧ loc = lo ∧ va_up (va_up (va_up (va_up (va_up (va_up (va_up (va_up (va_up (va_up (va_up (va_up (va_up (va_up (val) 49 (.inl (cI, 300, .inl (upd (fun _ => 0) (Int32.toNatClampNeg 0) 11)))) 50 (.inl (cI, 300, .inl (upd (fun _ => 0) (Int32.toNatClampNeg 0) (-1))))) 52 (.inl (cI, 300, .inl (upd (fun _ => 0) (Int32.toNatClampNeg 0) 1)))) 55 (.inl (cI, 300, .inl (upd (fun _ => 0) (Int32.toNatClampNeg 0) (-1))))) 51 (.inl (cI, 300, .inl (upd (fun _ => 0) (Int32.toNatClampNeg 0) 0)))) 54 (.inl (cI, 300, .inl (upd (fun _ => 0) (Int32.toNatClampNeg 0) 0)))) 48 (.inr (5, [.int 0, .ref (loc 49), .ref (loc 50), .ref (loc 51), .ref (loc 52), .ref (loc 53), .ref (loc 54), .ref (loc 55), .ref (loc 56), .int 1, .int 0, .int 0, .ref (loc 57), .ref (loc 58), .ref (loc 59), .ref (loc 60), .ref (loc 61), .ref (loc 62), .int 0, .int 0, .int 0, .int 0, .int 0, .int 0, .ref (loc 63), .ref (loc 64), .ref (loc 65), .ref (loc 66), .ref (loc 67), .ref (loc 68), .ref (loc 69), .ref (loc 70), .ref (loc 71), .ref (loc 72), .int 0, .ref (loc 73), .ref (loc 74), .ref (loc 75), .int 0, .int 0, .int 0, .int 0, .int 0, .int 0, .int 0]))) 48 (.inr (5, [.int 0, .ref (loc 49), .ref (loc 50), .ref (loc 51), .ref (loc 52), .ref (loc 53), .ref (loc 54), .ref (loc 55), .ref (loc 56), .int 1, .int 0, .int 0, .ref (loc 57), .ref (loc 58), .ref (loc 59), .ref (loc 60), .ref (loc 61), .ref (loc 62), .int 0, .int 0, .int 0, .int 0, .int 0, .int 0, .ref (loc 63), .ref (loc 64), .ref (loc 65), .ref (loc 66), .ref (loc 67), .ref (loc 68), .ref (loc 69), .ref (loc 70), .ref (loc 71), .ref (loc 72), .int 0, .ref (loc 73), .ref (loc 74), .ref (loc 75), .int 0, .int 0, .int 0, .int 0, .int 0, .int 0, .int 0]))) 48 (.inr (5, [.int 0, .ref (loc 49), .ref (loc 50), .ref (loc 51), .ref (loc 52), .ref (loc 53), .ref (loc 54), .ref (loc 55), .ref (loc 56), .int 1, .int 0, .int 0, .ref (loc 57), .ref (loc 58), .ref (loc 59), .ref (loc 60), .ref (loc 61), .ref (loc 62), .int 0, .int 0, .int 0, .int 0, .int 0, .int 0, .ref (loc 63), .ref (loc 64), .ref (loc 65), .ref (loc 66), .ref (loc 67), .ref (loc 68), .ref (loc 69), .ref (loc 70), .ref (loc 71), .ref (loc 72), .int 0, .ref (loc 73), .ref (loc 74), .ref (loc 75), .int 0, .int 0, .int 0, .int 0, .int 0, .int 0, .int 0]))) 48 (.inr (5, [.int 0, .ref (loc 49), .ref (loc 50), .ref (loc 51), .ref (loc 52), .ref (loc 53), .ref (loc 54), .ref (loc 55), .ref (loc 56), .int 1, .int 0, .int 0, .ref (loc 57), .ref (loc 58), .ref (loc 59), .ref (loc 60), .ref (loc 61), .ref (loc 62), .int 0, .int 0, .int 0, .int 0, .int 0, .int 0, .ref (loc 63), .ref (loc 64), .ref (loc 65), .ref (loc 66), .ref (loc 67), .ref (loc 68), .ref (loc 69), .ref (loc 70), .ref (loc 71), .ref (loc 72), .int 0, .ref (loc 73), .ref (loc 74), .ref (loc 75), .int 0, .int 0, .int 0, .int 0, .int 0, .int 0, .int 0]))) 48 (.inr (5, [.int 0, .ref (loc 49), .ref (loc 50), .ref (loc 51), .ref (loc 52), .ref (loc 53), .ref (loc 54), .ref (loc 55), .ref (loc 56), .int 1, .int 0, .int 0, .ref (loc 57), .ref (loc 58), .ref (loc 59), .ref (loc 60), .ref (loc 61), .ref (loc 62), .int 0, .int 0, .int 0, .int 0, .int 0, .int 0, .ref (loc 63), .ref (loc 64), .ref (loc 65), .ref (loc 66), .ref (loc 67), .ref (loc 68), .ref (loc 69), .ref (loc 70), .ref (loc 71), .ref (loc 72), .int 0, .ref (loc 73), .ref (loc 74), .ref (loc 75), .int 0, .int 0, .int 0, .int 0, .int 0, .int 0, .int 0]))) 48 (.inr (5, [.int 0, .ref (loc 49), .ref (loc 50), .ref (loc 51), .ref (loc 52), .ref (loc 53), .ref (loc 54), .ref (loc 55), .ref (loc 56), .int 1, .int 0, .int 0, .ref (loc 57), .ref (loc 58), .ref (loc 59), .ref (loc 60), .ref (loc 61), .ref (loc 62), .int 0, .int 0, .int 0, .int 0, .int 0, .int 0, .ref (loc 63), .ref (loc 64), .ref (loc 65), .ref (loc 66), .ref (loc 67), .ref (loc 68), .ref (loc 69), .ref (loc 70), .ref (loc 71), .ref (loc 72), .int 0, .ref (loc 73), .ref (loc 74), .ref (loc 75), .int 0, .int 0, .int 0, .int 0, .int 0, .int 0, .int 0]))) 48 (.inr (5, [.int 0, .ref (loc 49), .ref (loc 50), .ref (loc 51), .ref (loc 52), .ref (loc 53), .ref (loc 54), .ref (loc 55), .ref (loc 56), .int 1, .int 0, .int 0, .ref (loc 57), .ref (loc 58), .ref (loc 59), .ref (loc 60), .ref (loc 61), .ref (loc 62), .int 0, .int 0, .int 0, .int 0, .int 0, .int 0, .ref (loc 63), .ref (loc 64), .ref (loc 65), .ref (loc 66), .ref (loc 67), .ref (loc 68), .ref (loc 69), .ref (loc 70), .ref (loc 71), .ref (loc 72), .int 0, .ref (loc 73), .ref (loc 74), .ref (loc 75), .int 0, .int 0, .int 0, .int 0, .int 0, .int 0, .int 0]))) 48 (.inr (5, [.int 0, .ref (loc 49), .ref (loc 50), .ref (loc 51), .ref (loc 52), .ref (loc 53), .ref (loc 54), .ref (loc 55), .ref (loc 56), .int 1, .int 0, .int 0, .ref (loc 57), .ref (loc 58), .ref (loc 59), .ref (loc 60), .ref (loc 61), .ref (loc 62), .int 0, .int 0, .int 0, .int 0, .int 0, .int 0, .ref (loc 63), .ref (loc 64), .ref (loc 65), .ref (loc 66), .ref (loc 67), .ref (loc 68), .ref (loc 69), .ref (loc 70), .ref (loc 71), .ref (loc 72), .int 0, .ref (loc 73), .ref (loc 74), .ref (loc 75), .int 0, .int 0, .int 0, .int 0, .int 0, .int 0, .int 0])) = va ∧ kc = 0 ∧ ns = 0) := by
  refine kM_of (lv0 := [some (.ref (loc 48))]) (own := "ProsePagesModel") (by decide) rfl (List.forall_mem_cons.mpr ⟨rfl, fun _ h => nomatch h⟩) (Nat.le_of_ble_eq_true rfl) rfl (Nat.le_of_ble_eq_true rfl) (fun X hl hX hE hin0 => ?_)
  refine v_aload_n hX d_M_empty_0 rfl rfl ?_
  refine v_get hX 48 (v := .ref (loc 49)) inT5 (kd_b rfl) rfl h48 rfl 1 (by decide) fl_M_7 rfl rfl d_M_empty_1 ?_
  refine v_iconst (v := 0) hX d_M_empty_4 (by decide) ?_
  refine v_bipush (v := 11) hX d_M_empty_5 (by decide) ?_
  refine v_iast hX 49 0 (kd_b rfl) rfl h49 rfl (vpb (by decide)) d_M_empty_7 ?_
  refine v_aload_n hX d_M_empty_8 rfl rfl ?_
  refine v_get hX 48 (v := .ref (loc 50)) inT5 (kd_b rfl) rfl h48 rfl 2 (by decide) fl_M_13 rfl rfl d_M_empty_9 ?_
  refine v_iconst (v := 0) hX d_M_empty_12 (by decide) ?_
  refine v_iconst (v := (-1)) hX d_M_empty_13 (by decide) ?_
  refine v_iast hX 50 0 (kd_b rfl) rfl h50 rfl (vpb (by decide)) d_M_empty_14 ?_
  refine v_aload_n hX d_M_empty_15 rfl rfl ?_
  refine v_get hX 48 (v := .ref (loc 52)) inT5 (kd_b rfl) rfl h48 rfl 4 (by decide) fl_M_19 rfl rfl d_M_empty_16 ?_
  refine v_iconst (v := 0) hX d_M_empty_19 (by decide) ?_
  refine v_iconst (v := 1) hX d_M_empty_20 (by decide) ?_
  refine v_iast hX 52 0 (kd_b rfl) rfl h52 rfl (vpb (by decide)) d_M_empty_21 ?_
  refine v_aload_n hX d_M_empty_22 rfl rfl ?_
  refine v_get hX 48 (v := .ref (loc 55)) inT5 (kd_b rfl) rfl h48 rfl 7 (by decide) fl_M_28 rfl rfl d_M_empty_23 ?_
  refine v_iconst (v := 0) hX d_M_empty_26 (by decide) ?_
  refine v_iconst (v := (-1)) hX d_M_empty_27 (by decide) ?_
  refine v_iast hX 55 0 (kd_b rfl) rfl h55 rfl (vpb (by decide)) d_M_empty_28 ?_
  refine v_aload_n hX d_M_empty_29 rfl rfl ?_
  refine v_get hX 48 (v := .ref (loc 51)) inT5 (kd_b rfl) rfl h48 rfl 3 (by decide) fl_M_16 rfl rfl d_M_empty_30 ?_
  refine v_iconst (v := 0) hX d_M_empty_33 (by decide) ?_
  refine v_iconst (v := 0) hX d_M_empty_34 (by decide) ?_
  refine v_iast hX 51 0 (kd_b rfl) rfl h51 rfl (vpb (by decide)) d_M_empty_35 ?_
  refine v_aload_n hX d_M_empty_36 rfl rfl ?_
  refine v_get hX 48 (v := .ref (loc 54)) inT5 (kd_b rfl) rfl h48 rfl 6 (by decide) fl_M_25 rfl rfl d_M_empty_37 ?_
  refine v_iconst (v := 0) hX d_M_empty_40 (by decide) ?_
  refine v_iconst (v := 0) hX d_M_empty_41 (by decide) ?_
  refine v_iast hX 54 0 (kd_b rfl) rfl h54 rfl (vpb (by decide)) d_M_empty_42 ?_
  refine v_aload_n hX d_M_empty_43 rfl rfl ?_
  refine v_iconst (v := 1) hX d_M_empty_44 (by decide) ?_
  refine v_putE hX 48 (fs2 := [.int 0, .ref (loc 49), .ref (loc 50), .ref (loc 51), .ref (loc 52), .ref (loc 53), .ref (loc 54), .ref (loc 55), .ref (loc 56), .int 1, .int 0, .int 0, .ref (loc 57), .ref (loc 58), .ref (loc 59), .ref (loc 60), .ref (loc 61), .ref (loc 62), .int 0, .int 0, .int 0, .int 0, .int 0, .int 0, .ref (loc 63), .ref (loc 64), .ref (loc 65), .ref (loc 66), .ref (loc 67), .ref (loc 68), .ref (loc 69), .ref (loc 70), .ref (loc 71), .ref (loc 72), .int 0, .ref (loc 73), .ref (loc 74), .ref (loc 75), .int 0, .int 0, .int 0, .int 0, .int 0, .int 0, .int 0]) inT5 tyX5 tyX5_ok nmX5 (kd_b rfl) rfl h48 rfl 9 (by decide) fl_M_101 rfl rfl rfl rfl rfl (Nat.le_of_ble_eq_true rfl) d_M_empty_45 rfl ?_
  refine v_aload_n hX d_M_empty_48 rfl rfl ?_
  refine v_iconst (v := 0) hX d_M_empty_49 (by decide) ?_
  refine v_putE hX 48 (fs2 := [.int 0, .ref (loc 49), .ref (loc 50), .ref (loc 51), .ref (loc 52), .ref (loc 53), .ref (loc 54), .ref (loc 55), .ref (loc 56), .int 1, .int 0, .int 0, .ref (loc 57), .ref (loc 58), .ref (loc 59), .ref (loc 60), .ref (loc 61), .ref (loc 62), .int 0, .int 0, .int 0, .int 0, .int 0, .int 0, .ref (loc 63), .ref (loc 64), .ref (loc 65), .ref (loc 66), .ref (loc 67), .ref (loc 68), .ref (loc 69), .ref (loc 70), .ref (loc 71), .ref (loc 72), .int 0, .ref (loc 73), .ref (loc 74), .ref (loc 75), .int 0, .int 0, .int 0, .int 0, .int 0, .int 0, .int 0]) inT5 tyX5 tyX5_ok nmX5 (kd_b rfl) rfl rfl rfl 10 (by decide) fl_M_104 rfl rfl rfl rfl rfl (Nat.le_of_ble_eq_true rfl) d_M_empty_50 rfl ?_
  refine v_aload_n hX d_M_empty_53 rfl rfl ?_
  refine v_iconst (v := 0) hX d_M_empty_54 (by decide) ?_
  refine v_putE hX 48 (fs2 := [.int 0, .ref (loc 49), .ref (loc 50), .ref (loc 51), .ref (loc 52), .ref (loc 53), .ref (loc 54), .ref (loc 55), .ref (loc 56), .int 1, .int 0, .int 0, .ref (loc 57), .ref (loc 58), .ref (loc 59), .ref (loc 60), .ref (loc 61), .ref (loc 62), .int 0, .int 0, .int 0, .int 0, .int 0, .int 0, .ref (loc 63), .ref (loc 64), .ref (loc 65), .ref (loc 66), .ref (loc 67), .ref (loc 68), .ref (loc 69), .ref (loc 70), .ref (loc 71), .ref (loc 72), .int 0, .ref (loc 73), .ref (loc 74), .ref (loc 75), .int 0, .int 0, .int 0, .int 0, .int 0, .int 0, .int 0]) inT5 tyX5 tyX5_ok nmX5 (kd_b rfl) rfl rfl rfl 11 (by decide) fl_M_107 rfl rfl rfl rfl rfl (Nat.le_of_ble_eq_true rfl) d_M_empty_55 rfl ?_
  refine v_aload_n hX d_M_empty_58 rfl rfl ?_
  refine v_iconst (v := 0) hX d_M_empty_59 (by decide) ?_
  refine v_putE hX 48 (fs2 := [.int 0, .ref (loc 49), .ref (loc 50), .ref (loc 51), .ref (loc 52), .ref (loc 53), .ref (loc 54), .ref (loc 55), .ref (loc 56), .int 1, .int 0, .int 0, .ref (loc 57), .ref (loc 58), .ref (loc 59), .ref (loc 60), .ref (loc 61), .ref (loc 62), .int 0, .int 0, .int 0, .int 0, .int 0, .int 0, .ref (loc 63), .ref (loc 64), .ref (loc 65), .ref (loc 66), .ref (loc 67), .ref (loc 68), .ref (loc 69), .ref (loc 70), .ref (loc 71), .ref (loc 72), .int 0, .ref (loc 73), .ref (loc 74), .ref (loc 75), .int 0, .int 0, .int 0, .int 0, .int 0, .int 0, .int 0]) inT5 tyX5 tyX5_ok nmX5 (kd_b rfl) rfl rfl rfl 19 (by decide) fl_M_110 rfl rfl rfl rfl rfl (Nat.le_of_ble_eq_true rfl) d_M_empty_60 rfl ?_
  refine v_aload_n hX d_M_empty_63 rfl rfl ?_
  refine v_iconst (v := 0) hX d_M_empty_64 (by decide) ?_
  refine v_putE hX 48 (fs2 := [.int 0, .ref (loc 49), .ref (loc 50), .ref (loc 51), .ref (loc 52), .ref (loc 53), .ref (loc 54), .ref (loc 55), .ref (loc 56), .int 1, .int 0, .int 0, .ref (loc 57), .ref (loc 58), .ref (loc 59), .ref (loc 60), .ref (loc 61), .ref (loc 62), .int 0, .int 0, .int 0, .int 0, .int 0, .int 0, .ref (loc 63), .ref (loc 64), .ref (loc 65), .ref (loc 66), .ref (loc 67), .ref (loc 68), .ref (loc 69), .ref (loc 70), .ref (loc 71), .ref (loc 72), .int 0, .ref (loc 73), .ref (loc 74), .ref (loc 75), .int 0, .int 0, .int 0, .int 0, .int 0, .int 0, .int 0]) inT5 tyX5 tyX5_ok nmX5 (kd_b rfl) rfl rfl rfl 18 (by decide) fl_M_113 rfl rfl rfl rfl rfl (Nat.le_of_ble_eq_true rfl) d_M_empty_65 rfl ?_
  refine v_aload_n hX d_M_empty_68 rfl rfl ?_
  refine v_iconst (v := 0) hX d_M_empty_69 (by decide) ?_
  refine v_putE hX 48 (fs2 := [.int 0, .ref (loc 49), .ref (loc 50), .ref (loc 51), .ref (loc 52), .ref (loc 53), .ref (loc 54), .ref (loc 55), .ref (loc 56), .int 1, .int 0, .int 0, .ref (loc 57), .ref (loc 58), .ref (loc 59), .ref (loc 60), .ref (loc 61), .ref (loc 62), .int 0, .int 0, .int 0, .int 0, .int 0, .int 0, .ref (loc 63), .ref (loc 64), .ref (loc 65), .ref (loc 66), .ref (loc 67), .ref (loc 68), .ref (loc 69), .ref (loc 70), .ref (loc 71), .ref (loc 72), .int 0, .ref (loc 73), .ref (loc 74), .ref (loc 75), .int 0, .int 0, .int 0, .int 0, .int 0, .int 0, .int 0]) inT5 tyX5 tyX5_ok nmX5 (kd_b rfl) rfl rfl rfl 20 (by decide) fl_M_116 rfl rfl rfl rfl rfl (Nat.le_of_ble_eq_true rfl) d_M_empty_70 rfl ?_
  refine v_aload_n hX d_M_empty_73 rfl rfl ?_
  refine v_iconst (v := 0) hX d_M_empty_74 (by decide) ?_
  refine v_putE hX 48 (fs2 := [.int 0, .ref (loc 49), .ref (loc 50), .ref (loc 51), .ref (loc 52), .ref (loc 53), .ref (loc 54), .ref (loc 55), .ref (loc 56), .int 1, .int 0, .int 0, .ref (loc 57), .ref (loc 58), .ref (loc 59), .ref (loc 60), .ref (loc 61), .ref (loc 62), .int 0, .int 0, .int 0, .int 0, .int 0, .int 0, .ref (loc 63), .ref (loc 64), .ref (loc 65), .ref (loc 66), .ref (loc 67), .ref (loc 68), .ref (loc 69), .ref (loc 70), .ref (loc 71), .ref (loc 72), .int 0, .ref (loc 73), .ref (loc 74), .ref (loc 75), .int 0, .int 0, .int 0, .int 0, .int 0, .int 0, .int 0]) inT5 tyX5 tyX5_ok nmX5 (kd_b rfl) rfl rfl rfl 21 (by decide) fl_M_119 rfl rfl rfl rfl rfl (Nat.le_of_ble_eq_true rfl) d_M_empty_75 rfl ?_
  refine v_aload_n hX d_M_empty_78 rfl rfl ?_
  refine v_iconst (v := 0) hX d_M_empty_79 (by decide) ?_
  refine v_putE hX 48 (fs2 := [.int 0, .ref (loc 49), .ref (loc 50), .ref (loc 51), .ref (loc 52), .ref (loc 53), .ref (loc 54), .ref (loc 55), .ref (loc 56), .int 1, .int 0, .int 0, .ref (loc 57), .ref (loc 58), .ref (loc 59), .ref (loc 60), .ref (loc 61), .ref (loc 62), .int 0, .int 0, .int 0, .int 0, .int 0, .int 0, .ref (loc 63), .ref (loc 64), .ref (loc 65), .ref (loc 66), .ref (loc 67), .ref (loc 68), .ref (loc 69), .ref (loc 70), .ref (loc 71), .ref (loc 72), .int 0, .ref (loc 73), .ref (loc 74), .ref (loc 75), .int 0, .int 0, .int 0, .int 0, .int 0, .int 0, .int 0]) inT5 tyX5 tyX5_ok nmX5 (kd_b rfl) rfl rfl rfl 22 (by decide) fl_M_122 rfl rfl rfl rfl rfl (Nat.le_of_ble_eq_true rfl) d_M_empty_80 rfl ?_
  exact v_vret hX hE d_M_empty_83 (Nat.le_of_ble_eq_true rfl) (Nat.le_of_ble_eq_true rfl) ⟨rfl, rfl, rfl, rfl, rfl, rfl⟩
set_option maxHeartbeats 4000000 in
set_option maxRecDepth 100000 in
theorem c_M_init {l : Launch} {D : va_G} {A : Nat → Prop} {cI cB cZ cJ cN : ClassId} {loc : Nat → Nat} {val : Nat → va_E} (hv : val 48 = .inr (5, [.int 0, .null, .null, .null, .null, .null, .null, .null, .null, .int 0, .int 0, .int 0, .null, .null, .null, .null, .null, .null, .int 0, .int 0, .int 0, .int 0, .int 0, .int 0, .null, .null, .null, .null, .null, .null, .null, .null, .null, .null, .int 0, .null, .null, .null, .int 0, .int 0, .int 0, .int 0, .int 0, .int 0, .int 0])) : kM l y_M_init (Cond.code y_M_init b_M_init 1 none :: TT) (rmL 2) D CL (TY cI cB cZ cJ cN) A [.ref (loc 48)] (kd 49) loc val (fun rv d lo va kc ns => rv = none ∧ d = kd 76 ∧ lo 48 = loc 48 ∧ (∀ k, Nat.ble (k + 1) 48 = true → lo k = loc k ∧ va k = val k) ∧ (∀ k, (Nat.ble 48 k && Nat.ble (k + 1) 76) = true → va k = mcell cI cB cZ lo k) ∧ kc = 27 ∧ ns = 116697) := by
  refine kM_of (lv0 := [some (.ref (loc 48))]) (own := "ProsePagesModel") (by decide) rfl (List.forall_mem_cons.mpr ⟨rfl, fun _ h => nomatch h⟩) (Nat.le_of_ble_eq_true rfl) rfl (Nat.le_of_ble_eq_true rfl) (fun X hl hX hE hin0 => ?_)
  refine v_aload_n hX d_M_init_0 rfl rfl ?_
  refine v_objInit hX ml_M_1 im_O_init k_objc ⟨by decide, by decide⟩ rfl (Nat.le_of_ble_eq_true rfl) d_M_init_1 ?_
  refine v_aload_n hX d_M_init_4 rfl rfl ?_
  refine v_sipush (v := 300) hX d_M_init_5 (by decide) ?_
  refine v_newp hX 49 0 (kd 50) (N := 300) (ty := .int) (300, .inl (fun _ => 0)) rfl (fun _ => rfl) (fun _ h => h) ac_int rfl (by decide) (by decide) (Nat.le_of_ble_eq_true rfl) (Nat.le_of_ble_eq_true rfl) (Nat.le_of_ble_eq_true rfl) d_M_init_8 (kd_step 49) (kd_self 49) (fun q49 => ?_)
  refine v_putFE hX 48 (fs2 := [.int 0, .ref q49, .null, .null, .null, .null, .null, .null, .null, .int 0, .int 0, .int 0, .null, .null, .null, .null, .null, .null, .int 0, .int 0, .int 0, .int 0, .int 0, .int 0, .null, .null, .null, .null, .null, .null, .null, .null, .null, .null, .int 0, .null, .null, .null, .int 0, .int 0, .int 0, .int 0, .int 0, .int 0, .int 0]) inT5 tyX5 tyX5_ok nmX5 hin0 (kd_b rfl) rfl hv rfl 1 (by decide) fl_M_7 rfl rfl rfl rfl rfl (Nat.le_of_ble_eq_true rfl) d_M_init_10 rfl ?_
  refine v_aload_n hX d_M_init_13 rfl rfl ?_
  refine v_sipush (v := 300) hX d_M_init_14 (by decide) ?_
  refine v_newp hX 50 0 (kd 51) (N := 300) (ty := .int) (300, .inl (fun _ => 0)) rfl (fun _ => rfl) (fun _ h => h) ac_int rfl (by decide) (by decide) (Nat.le_of_ble_eq_true rfl) (Nat.le_of_ble_eq_true rfl) (Nat.le_of_ble_eq_true rfl) d_M_init_17 (kd_step 50) (kd_self 50) (fun q50 => ?_)
  refine v_putFE hX 48 (fs2 := [.int 0, .ref q49, .ref q50, .null, .null, .null, .null, .null, .null, .int 0, .int 0, .int 0, .null, .null, .null, .null, .null, .null, .int 0, .int 0, .int 0, .int 0, .int 0, .int 0, .null, .null, .null, .null, .null, .null, .null, .null, .null, .null, .int 0, .null, .null, .null, .int 0, .int 0, .int 0, .int 0, .int 0, .int 0, .int 0]) inT5 tyX5 tyX5_ok nmX5 hin0 (kd_b rfl) rfl rfl rfl 2 (by decide) fl_M_13 rfl rfl rfl rfl rfl (Nat.le_of_ble_eq_true rfl) d_M_init_19 rfl ?_
  refine v_aload_n hX d_M_init_22 rfl rfl ?_
  refine v_sipush (v := 300) hX d_M_init_23 (by decide) ?_
  refine v_newp hX 51 0 (kd 52) (N := 300) (ty := .int) (300, .inl (fun _ => 0)) rfl (fun _ => rfl) (fun _ h => h) ac_int rfl (by decide) (by decide) (Nat.le_of_ble_eq_true rfl) (Nat.le_of_ble_eq_true rfl) (Nat.le_of_ble_eq_true rfl) d_M_init_26 (kd_step 51) (kd_self 51) (fun q51 => ?_)
  refine v_putFE hX 48 (fs2 := [.int 0, .ref q49, .ref q50, .ref q51, .null, .null, .null, .null, .null, .int 0, .int 0, .int 0, .null, .null, .null, .null, .null, .null, .int 0, .int 0, .int 0, .int 0, .int 0, .int 0, .null, .null, .null, .null, .null, .null, .null, .null, .null, .null, .int 0, .null, .null, .null, .int 0, .int 0, .int 0, .int 0, .int 0, .int 0, .int 0]) inT5 tyX5 tyX5_ok nmX5 hin0 (kd_b rfl) rfl rfl rfl 3 (by decide) fl_M_16 rfl rfl rfl rfl rfl (Nat.le_of_ble_eq_true rfl) d_M_init_28 rfl ?_
  refine v_aload_n hX d_M_init_31 rfl rfl ?_
  refine v_sipush (v := 300) hX d_M_init_32 (by decide) ?_
  refine v_newp hX 52 0 (kd 53) (N := 300) (ty := .int) (300, .inl (fun _ => 0)) rfl (fun _ => rfl) (fun _ h => h) ac_int rfl (by decide) (by decide) (Nat.le_of_ble_eq_true rfl) (Nat.le_of_ble_eq_true rfl) (Nat.le_of_ble_eq_true rfl) d_M_init_35 (kd_step 52) (kd_self 52) (fun q52 => ?_)
  refine v_putFE hX 48 (fs2 := [.int 0, .ref q49, .ref q50, .ref q51, .ref q52, .null, .null, .null, .null, .int 0, .int 0, .int 0, .null, .null, .null, .null, .null, .null, .int 0, .int 0, .int 0, .int 0, .int 0, .int 0, .null, .null, .null, .null, .null, .null, .null, .null, .null, .null, .int 0, .null, .null, .null, .int 0, .int 0, .int 0, .int 0, .int 0, .int 0, .int 0]) inT5 tyX5 tyX5_ok nmX5 hin0 (kd_b rfl) rfl rfl rfl 4 (by decide) fl_M_19 rfl rfl rfl rfl rfl (Nat.le_of_ble_eq_true rfl) d_M_init_37 rfl ?_
  refine v_aload_n hX d_M_init_40 rfl rfl ?_
  refine v_sipush (v := 300) hX d_M_init_41 (by decide) ?_
  refine v_newp hX 53 0 (kd 54) (N := 300) (ty := .int) (300, .inl (fun _ => 0)) rfl (fun _ => rfl) (fun _ h => h) ac_int rfl (by decide) (by decide) (Nat.le_of_ble_eq_true rfl) (Nat.le_of_ble_eq_true rfl) (Nat.le_of_ble_eq_true rfl) d_M_init_44 (kd_step 53) (kd_self 53) (fun q53 => ?_)
  refine v_putFE hX 48 (fs2 := [.int 0, .ref q49, .ref q50, .ref q51, .ref q52, .ref q53, .null, .null, .null, .int 0, .int 0, .int 0, .null, .null, .null, .null, .null, .null, .int 0, .int 0, .int 0, .int 0, .int 0, .int 0, .null, .null, .null, .null, .null, .null, .null, .null, .null, .null, .int 0, .null, .null, .null, .int 0, .int 0, .int 0, .int 0, .int 0, .int 0, .int 0]) inT5 tyX5 tyX5_ok nmX5 hin0 (kd_b rfl) rfl rfl rfl 5 (by decide) fl_M_22 rfl rfl rfl rfl rfl (Nat.le_of_ble_eq_true rfl) d_M_init_46 rfl ?_
  refine v_aload_n hX d_M_init_49 rfl rfl ?_
  refine v_sipush (v := 300) hX d_M_init_50 (by decide) ?_
  refine v_newp hX 54 0 (kd 55) (N := 300) (ty := .int) (300, .inl (fun _ => 0)) rfl (fun _ => rfl) (fun _ h => h) ac_int rfl (by decide) (by decide) (Nat.le_of_ble_eq_true rfl) (Nat.le_of_ble_eq_true rfl) (Nat.le_of_ble_eq_true rfl) d_M_init_53 (kd_step 54) (kd_self 54) (fun q54 => ?_)
  refine v_putFE hX 48 (fs2 := [.int 0, .ref q49, .ref q50, .ref q51, .ref q52, .ref q53, .ref q54, .null, .null, .int 0, .int 0, .int 0, .null, .null, .null, .null, .null, .null, .int 0, .int 0, .int 0, .int 0, .int 0, .int 0, .null, .null, .null, .null, .null, .null, .null, .null, .null, .null, .int 0, .null, .null, .null, .int 0, .int 0, .int 0, .int 0, .int 0, .int 0, .int 0]) inT5 tyX5 tyX5_ok nmX5 hin0 (kd_b rfl) rfl rfl rfl 6 (by decide) fl_M_25 rfl rfl rfl rfl rfl (Nat.le_of_ble_eq_true rfl) d_M_init_55 rfl ?_
  refine v_aload_n hX d_M_init_58 rfl rfl ?_
  refine v_sipush (v := 300) hX d_M_init_59 (by decide) ?_
  refine v_newp hX 55 0 (kd 56) (N := 300) (ty := .int) (300, .inl (fun _ => 0)) rfl (fun _ => rfl) (fun _ h => h) ac_int rfl (by decide) (by decide) (Nat.le_of_ble_eq_true rfl) (Nat.le_of_ble_eq_true rfl) (Nat.le_of_ble_eq_true rfl) d_M_init_62 (kd_step 55) (kd_self 55) (fun q55 => ?_)
  refine v_putFE hX 48 (fs2 := [.int 0, .ref q49, .ref q50, .ref q51, .ref q52, .ref q53, .ref q54, .ref q55, .null, .int 0, .int 0, .int 0, .null, .null, .null, .null, .null, .null, .int 0, .int 0, .int 0, .int 0, .int 0, .int 0, .null, .null, .null, .null, .null, .null, .null, .null, .null, .null, .int 0, .null, .null, .null, .int 0, .int 0, .int 0, .int 0, .int 0, .int 0, .int 0]) inT5 tyX5 tyX5_ok nmX5 hin0 (kd_b rfl) rfl rfl rfl 7 (by decide) fl_M_28 rfl rfl rfl rfl rfl (Nat.le_of_ble_eq_true rfl) d_M_init_64 rfl ?_
  refine v_aload_n hX d_M_init_67 rfl rfl ?_
  refine v_sipush (v := 4000) hX d_M_init_68 (by decide) ?_
  refine v_newp hX 56 1 (kd 57) (N := 4000) (ty := .byte) (4000, .inl (fun _ => 0)) rfl (fun _ => rfl) (fun _ h => h) ac_byte rfl (by decide) (by decide) (Nat.le_of_ble_eq_true rfl) (Nat.le_of_ble_eq_true rfl) (Nat.le_of_ble_eq_true rfl) d_M_init_71 (kd_step 56) (kd_self 56) (fun q56 => ?_)
  refine v_putFE hX 48 (fs2 := [.int 0, .ref q49, .ref q50, .ref q51, .ref q52, .ref q53, .ref q54, .ref q55, .ref q56, .int 0, .int 0, .int 0, .null, .null, .null, .null, .null, .null, .int 0, .int 0, .int 0, .int 0, .int 0, .int 0, .null, .null, .null, .null, .null, .null, .null, .null, .null, .null, .int 0, .null, .null, .null, .int 0, .int 0, .int 0, .int 0, .int 0, .int 0, .int 0]) inT5 tyX5 tyX5_ok nmX5 hin0 (kd_b rfl) rfl rfl rfl 8 (by decide) fl_M_31 rfl rfl rfl rfl rfl (Nat.le_of_ble_eq_true rfl) d_M_init_73 rfl ?_
  refine v_aload_n hX d_M_init_76 rfl rfl ?_
  refine v_sipush (v := 1501) hX d_M_init_77 (by decide) ?_
  refine v_newp hX 57 0 (kd 58) (N := 1501) (ty := .int) (1501, .inl (fun _ => 0)) rfl (fun _ => rfl) (fun _ h => h) ac_int rfl (by decide) (by decide) (Nat.le_of_ble_eq_true rfl) (Nat.le_of_ble_eq_true rfl) (Nat.le_of_ble_eq_true rfl) d_M_init_80 (kd_step 57) (kd_self 57) (fun q57 => ?_)
  refine v_putFE hX 48 (fs2 := [.int 0, .ref q49, .ref q50, .ref q51, .ref q52, .ref q53, .ref q54, .ref q55, .ref q56, .int 0, .int 0, .int 0, .ref q57, .null, .null, .null, .null, .null, .int 0, .int 0, .int 0, .int 0, .int 0, .int 0, .null, .null, .null, .null, .null, .null, .null, .null, .null, .null, .int 0, .null, .null, .null, .int 0, .int 0, .int 0, .int 0, .int 0, .int 0, .int 0]) inT5 tyX5 tyX5_ok nmX5 hin0 (kd_b rfl) rfl rfl rfl 12 (by decide) fl_M_35 rfl rfl rfl rfl rfl (Nat.le_of_ble_eq_true rfl) d_M_init_82 rfl ?_
  refine v_aload_n hX d_M_init_85 rfl rfl ?_
  refine v_sipush (v := 1501) hX d_M_init_86 (by decide) ?_
  refine v_newp hX 58 0 (kd 59) (N := 1501) (ty := .int) (1501, .inl (fun _ => 0)) rfl (fun _ => rfl) (fun _ h => h) ac_int rfl (by decide) (by decide) (Nat.le_of_ble_eq_true rfl) (Nat.le_of_ble_eq_true rfl) (Nat.le_of_ble_eq_true rfl) d_M_init_89 (kd_step 58) (kd_self 58) (fun q58 => ?_)
  refine v_putFE hX 48 (fs2 := [.int 0, .ref q49, .ref q50, .ref q51, .ref q52, .ref q53, .ref q54, .ref q55, .ref q56, .int 0, .int 0, .int 0, .ref q57, .ref q58, .null, .null, .null, .null, .int 0, .int 0, .int 0, .int 0, .int 0, .int 0, .null, .null, .null, .null, .null, .null, .null, .null, .null, .null, .int 0, .null, .null, .null, .int 0, .int 0, .int 0, .int 0, .int 0, .int 0, .int 0]) inT5 tyX5 tyX5_ok nmX5 hin0 (kd_b rfl) rfl rfl rfl 13 (by decide) fl_M_38 rfl rfl rfl rfl rfl (Nat.le_of_ble_eq_true rfl) d_M_init_91 rfl ?_
  refine v_aload_n hX d_M_init_94 rfl rfl ?_
  refine v_sipush (v := 1501) hX d_M_init_95 (by decide) ?_
  refine v_newp hX 59 0 (kd 60) (N := 1501) (ty := .int) (1501, .inl (fun _ => 0)) rfl (fun _ => rfl) (fun _ h => h) ac_int rfl (by decide) (by decide) (Nat.le_of_ble_eq_true rfl) (Nat.le_of_ble_eq_true rfl) (Nat.le_of_ble_eq_true rfl) d_M_init_98 (kd_step 59) (kd_self 59) (fun q59 => ?_)
  refine v_putFE hX 48 (fs2 := [.int 0, .ref q49, .ref q50, .ref q51, .ref q52, .ref q53, .ref q54, .ref q55, .ref q56, .int 0, .int 0, .int 0, .ref q57, .ref q58, .ref q59, .null, .null, .null, .int 0, .int 0, .int 0, .int 0, .int 0, .int 0, .null, .null, .null, .null, .null, .null, .null, .null, .null, .null, .int 0, .null, .null, .null, .int 0, .int 0, .int 0, .int 0, .int 0, .int 0, .int 0]) inT5 tyX5 tyX5_ok nmX5 hin0 (kd_b rfl) rfl rfl rfl 14 (by decide) fl_M_41 rfl rfl rfl rfl rfl (Nat.le_of_ble_eq_true rfl) d_M_init_100 rfl ?_
  refine v_aload_n hX d_M_init_103 rfl rfl ?_
  refine v_sipush (v := 1501) hX d_M_init_104 (by decide) ?_
  refine v_newp hX 60 0 (kd 61) (N := 1501) (ty := .int) (1501, .inl (fun _ => 0)) rfl (fun _ => rfl) (fun _ h => h) ac_int rfl (by decide) (by decide) (Nat.le_of_ble_eq_true rfl) (Nat.le_of_ble_eq_true rfl) (Nat.le_of_ble_eq_true rfl) d_M_init_107 (kd_step 60) (kd_self 60) (fun q60 => ?_)
  refine v_putFE hX 48 (fs2 := [.int 0, .ref q49, .ref q50, .ref q51, .ref q52, .ref q53, .ref q54, .ref q55, .ref q56, .int 0, .int 0, .int 0, .ref q57, .ref q58, .ref q59, .ref q60, .null, .null, .int 0, .int 0, .int 0, .int 0, .int 0, .int 0, .null, .null, .null, .null, .null, .null, .null, .null, .null, .null, .int 0, .null, .null, .null, .int 0, .int 0, .int 0, .int 0, .int 0, .int 0, .int 0]) inT5 tyX5 tyX5_ok nmX5 hin0 (kd_b rfl) rfl rfl rfl 15 (by decide) fl_M_44 rfl rfl rfl rfl rfl (Nat.le_of_ble_eq_true rfl) d_M_init_109 rfl ?_
  refine v_aload_n hX d_M_init_112 rfl rfl ?_
  refine v_sipush (v := 1501) hX d_M_init_113 (by decide) ?_
  refine v_newp hX 61 2 (kd 62) (N := 1501) (ty := .boolean) (1501, .inl (fun _ => 0)) rfl (fun _ => rfl) (fun _ h => h) ac_boolean rfl (by decide) (by decide) (Nat.le_of_ble_eq_true rfl) (Nat.le_of_ble_eq_true rfl) (Nat.le_of_ble_eq_true rfl) d_M_init_116 (kd_step 61) (kd_self 61) (fun q61 => ?_)
  refine v_putFE hX 48 (fs2 := [.int 0, .ref q49, .ref q50, .ref q51, .ref q52, .ref q53, .ref q54, .ref q55, .ref q56, .int 0, .int 0, .int 0, .ref q57, .ref q58, .ref q59, .ref q60, .ref q61, .null, .int 0, .int 0, .int 0, .int 0, .int 0, .int 0, .null, .null, .null, .null, .null, .null, .null, .null, .null, .null, .int 0, .null, .null, .null, .int 0, .int 0, .int 0, .int 0, .int 0, .int 0, .int 0]) inT5 tyX5 tyX5_ok nmX5 hin0 (kd_b rfl) rfl rfl rfl 16 (by decide) fl_M_47 rfl rfl rfl rfl rfl (Nat.le_of_ble_eq_true rfl) d_M_init_118 rfl ?_
  refine v_aload_n hX d_M_init_121 rfl rfl ?_
  refine v_ldc (v := 90060) hX ct_M_51 d_M_init_122 ?_
  refine v_newp hX 62 1 (kd 63) (N := 90060) (ty := .byte) (90060, .inl (fun _ => 0)) rfl (fun _ => rfl) (fun _ h => h) ac_byte rfl (by decide) (by decide) (Nat.le_of_ble_eq_true rfl) (Nat.le_of_ble_eq_true rfl) (Nat.le_of_ble_eq_true rfl) d_M_init_124 (kd_step 62) (kd_self 62) (fun q62 => ?_)
  refine v_putFE hX 48 (fs2 := [.int 0, .ref q49, .ref q50, .ref q51, .ref q52, .ref q53, .ref q54, .ref q55, .ref q56, .int 0, .int 0, .int 0, .ref q57, .ref q58, .ref q59, .ref q60, .ref q61, .ref q62, .int 0, .int 0, .int 0, .int 0, .int 0, .int 0, .null, .null, .null, .null, .null, .null, .null, .null, .null, .null, .int 0, .null, .null, .null, .int 0, .int 0, .int 0, .int 0, .int 0, .int 0, .int 0]) inT5 tyX5 tyX5_ok nmX5 hin0 (kd_b rfl) rfl rfl rfl 17 (by decide) fl_M_52 rfl rfl rfl rfl rfl (Nat.le_of_ble_eq_true rfl) d_M_init_126 rfl ?_
  refine v_aload_n hX d_M_init_129 rfl rfl ?_
  refine v_sipush (v := 300) hX d_M_init_130 (by decide) ?_
  refine v_newp hX 63 0 (kd 64) (N := 300) (ty := .int) (300, .inl (fun _ => 0)) rfl (fun _ => rfl) (fun _ h => h) ac_int rfl (by decide) (by decide) (Nat.le_of_ble_eq_true rfl) (Nat.le_of_ble_eq_true rfl) (Nat.le_of_ble_eq_true rfl) d_M_init_133 (kd_step 63) (kd_self 63) (fun q63 => ?_)
  refine v_putFE hX 48 (fs2 := [.int 0, .ref q49, .ref q50, .ref q51, .ref q52, .ref q53, .ref q54, .ref q55, .ref q56, .int 0, .int 0, .int 0, .ref q57, .ref q58, .ref q59, .ref q60, .ref q61, .ref q62, .int 0, .int 0, .int 0, .int 0, .int 0, .int 0, .ref q63, .null, .null, .null, .null, .null, .null, .null, .null, .null, .int 0, .null, .null, .null, .int 0, .int 0, .int 0, .int 0, .int 0, .int 0, .int 0]) inT5 tyX5 tyX5_ok nmX5 hin0 (kd_b rfl) rfl rfl rfl 24 (by decide) fl_M_55 rfl rfl rfl rfl rfl (Nat.le_of_ble_eq_true rfl) d_M_init_135 rfl ?_
  refine v_aload_n hX d_M_init_138 rfl rfl ?_
  refine v_sipush (v := 300) hX d_M_init_139 (by decide) ?_
  refine v_newp hX 64 0 (kd 65) (N := 300) (ty := .int) (300, .inl (fun _ => 0)) rfl (fun _ => rfl) (fun _ h => h) ac_int rfl (by decide) (by decide) (Nat.le_of_ble_eq_true rfl) (Nat.le_of_ble_eq_true rfl) (Nat.le_of_ble_eq_true rfl) d_M_init_142 (kd_step 64) (kd_self 64) (fun q64 => ?_)
  refine v_putFE hX 48 (fs2 := [.int 0, .ref q49, .ref q50, .ref q51, .ref q52, .ref q53, .ref q54, .ref q55, .ref q56, .int 0, .int 0, .int 0, .ref q57, .ref q58, .ref q59, .ref q60, .ref q61, .ref q62, .int 0, .int 0, .int 0, .int 0, .int 0, .int 0, .ref q63, .ref q64, .null, .null, .null, .null, .null, .null, .null, .null, .int 0, .null, .null, .null, .int 0, .int 0, .int 0, .int 0, .int 0, .int 0, .int 0]) inT5 tyX5 tyX5_ok nmX5 hin0 (kd_b rfl) rfl rfl rfl 25 (by decide) fl_M_58 rfl rfl rfl rfl rfl (Nat.le_of_ble_eq_true rfl) d_M_init_144 rfl ?_
  refine v_aload_n hX d_M_init_147 rfl rfl ?_
  refine v_bipush (v := 14) hX d_M_init_148 (by decide) ?_
  refine v_newp hX 65 0 (kd 66) (N := 14) (ty := .int) (14, .inl (fun _ => 0)) rfl (fun _ => rfl) (fun _ h => h) ac_int rfl (by decide) (by decide) (Nat.le_of_ble_eq_true rfl) (Nat.le_of_ble_eq_true rfl) (Nat.le_of_ble_eq_true rfl) d_M_init_150 (kd_step 65) (kd_self 65) (fun q65 => ?_)
  refine v_putFE hX 48 (fs2 := [.int 0, .ref q49, .ref q50, .ref q51, .ref q52, .ref q53, .ref q54, .ref q55, .ref q56, .int 0, .int 0, .int 0, .ref q57, .ref q58, .ref q59, .ref q60, .ref q61, .ref q62, .int 0, .int 0, .int 0, .int 0, .int 0, .int 0, .ref q63, .ref q64, .ref q65, .null, .null, .null, .null, .null, .null, .null, .int 0, .null, .null, .null, .int 0, .int 0, .int 0, .int 0, .int 0, .int 0, .int 0]) inT5 tyX5 tyX5_ok nmX5 hin0 (kd_b rfl) rfl rfl rfl 26 (by decide) fl_M_61 rfl rfl rfl rfl rfl (Nat.le_of_ble_eq_true rfl) d_M_init_152 rfl ?_
  refine v_aload_n hX d_M_init_155 rfl rfl ?_
  refine v_bipush (v := 14) hX d_M_init_156 (by decide) ?_
  refine v_newp hX 66 0 (kd 67) (N := 14) (ty := .int) (14, .inl (fun _ => 0)) rfl (fun _ => rfl) (fun _ h => h) ac_int rfl (by decide) (by decide) (Nat.le_of_ble_eq_true rfl) (Nat.le_of_ble_eq_true rfl) (Nat.le_of_ble_eq_true rfl) d_M_init_158 (kd_step 66) (kd_self 66) (fun q66 => ?_)
  refine v_putFE hX 48 (fs2 := [.int 0, .ref q49, .ref q50, .ref q51, .ref q52, .ref q53, .ref q54, .ref q55, .ref q56, .int 0, .int 0, .int 0, .ref q57, .ref q58, .ref q59, .ref q60, .ref q61, .ref q62, .int 0, .int 0, .int 0, .int 0, .int 0, .int 0, .ref q63, .ref q64, .ref q65, .ref q66, .null, .null, .null, .null, .null, .null, .int 0, .null, .null, .null, .int 0, .int 0, .int 0, .int 0, .int 0, .int 0, .int 0]) inT5 tyX5 tyX5_ok nmX5 hin0 (kd_b rfl) rfl rfl rfl 27 (by decide) fl_M_64 rfl rfl rfl rfl rfl (Nat.le_of_ble_eq_true rfl) d_M_init_160 rfl ?_
  refine v_aload_n hX d_M_init_163 rfl rfl ?_
  refine v_bipush (v := 14) hX d_M_init_164 (by decide) ?_
  refine v_newp hX 67 0 (kd 68) (N := 14) (ty := .int) (14, .inl (fun _ => 0)) rfl (fun _ => rfl) (fun _ h => h) ac_int rfl (by decide) (by decide) (Nat.le_of_ble_eq_true rfl) (Nat.le_of_ble_eq_true rfl) (Nat.le_of_ble_eq_true rfl) d_M_init_166 (kd_step 67) (kd_self 67) (fun q67 => ?_)
  refine v_putFE hX 48 (fs2 := [.int 0, .ref q49, .ref q50, .ref q51, .ref q52, .ref q53, .ref q54, .ref q55, .ref q56, .int 0, .int 0, .int 0, .ref q57, .ref q58, .ref q59, .ref q60, .ref q61, .ref q62, .int 0, .int 0, .int 0, .int 0, .int 0, .int 0, .ref q63, .ref q64, .ref q65, .ref q66, .ref q67, .null, .null, .null, .null, .null, .int 0, .null, .null, .null, .int 0, .int 0, .int 0, .int 0, .int 0, .int 0, .int 0]) inT5 tyX5 tyX5_ok nmX5 hin0 (kd_b rfl) rfl rfl rfl 28 (by decide) fl_M_67 rfl rfl rfl rfl rfl (Nat.le_of_ble_eq_true rfl) d_M_init_168 rfl ?_
  refine v_aload_n hX d_M_init_171 rfl rfl ?_
  refine v_bipush (v := 14) hX d_M_init_172 (by decide) ?_
  refine v_newp hX 68 0 (kd 69) (N := 14) (ty := .int) (14, .inl (fun _ => 0)) rfl (fun _ => rfl) (fun _ h => h) ac_int rfl (by decide) (by decide) (Nat.le_of_ble_eq_true rfl) (Nat.le_of_ble_eq_true rfl) (Nat.le_of_ble_eq_true rfl) d_M_init_174 (kd_step 68) (kd_self 68) (fun q68 => ?_)
  refine v_putFE hX 48 (fs2 := [.int 0, .ref q49, .ref q50, .ref q51, .ref q52, .ref q53, .ref q54, .ref q55, .ref q56, .int 0, .int 0, .int 0, .ref q57, .ref q58, .ref q59, .ref q60, .ref q61, .ref q62, .int 0, .int 0, .int 0, .int 0, .int 0, .int 0, .ref q63, .ref q64, .ref q65, .ref q66, .ref q67, .ref q68, .null, .null, .null, .null, .int 0, .null, .null, .null, .int 0, .int 0, .int 0, .int 0, .int 0, .int 0, .int 0]) inT5 tyX5 tyX5_ok nmX5 hin0 (kd_b rfl) rfl rfl rfl 29 (by decide) fl_M_70 rfl rfl rfl rfl rfl (Nat.le_of_ble_eq_true rfl) d_M_init_176 rfl ?_
  refine v_aload_n hX d_M_init_179 rfl rfl ?_
  refine v_bipush (v := 14) hX d_M_init_180 (by decide) ?_
  refine v_newp hX 69 2 (kd 70) (N := 14) (ty := .boolean) (14, .inl (fun _ => 0)) rfl (fun _ => rfl) (fun _ h => h) ac_boolean rfl (by decide) (by decide) (Nat.le_of_ble_eq_true rfl) (Nat.le_of_ble_eq_true rfl) (Nat.le_of_ble_eq_true rfl) d_M_init_182 (kd_step 69) (kd_self 69) (fun q69 => ?_)
  refine v_putFE hX 48 (fs2 := [.int 0, .ref q49, .ref q50, .ref q51, .ref q52, .ref q53, .ref q54, .ref q55, .ref q56, .int 0, .int 0, .int 0, .ref q57, .ref q58, .ref q59, .ref q60, .ref q61, .ref q62, .int 0, .int 0, .int 0, .int 0, .int 0, .int 0, .ref q63, .ref q64, .ref q65, .ref q66, .ref q67, .ref q68, .ref q69, .null, .null, .null, .int 0, .null, .null, .null, .int 0, .int 0, .int 0, .int 0, .int 0, .int 0, .int 0]) inT5 tyX5 tyX5_ok nmX5 hin0 (kd_b rfl) rfl rfl rfl 30 (by decide) fl_M_73 rfl rfl rfl rfl rfl (Nat.le_of_ble_eq_true rfl) d_M_init_184 rfl ?_
  refine v_aload_n hX d_M_init_187 rfl rfl ?_
  refine v_bipush (v := 14) hX d_M_init_188 (by decide) ?_
  refine v_newp hX 70 2 (kd 71) (N := 14) (ty := .boolean) (14, .inl (fun _ => 0)) rfl (fun _ => rfl) (fun _ h => h) ac_boolean rfl (by decide) (by decide) (Nat.le_of_ble_eq_true rfl) (Nat.le_of_ble_eq_true rfl) (Nat.le_of_ble_eq_true rfl) d_M_init_190 (kd_step 70) (kd_self 70) (fun q70 => ?_)
  refine v_putFE hX 48 (fs2 := [.int 0, .ref q49, .ref q50, .ref q51, .ref q52, .ref q53, .ref q54, .ref q55, .ref q56, .int 0, .int 0, .int 0, .ref q57, .ref q58, .ref q59, .ref q60, .ref q61, .ref q62, .int 0, .int 0, .int 0, .int 0, .int 0, .int 0, .ref q63, .ref q64, .ref q65, .ref q66, .ref q67, .ref q68, .ref q69, .ref q70, .null, .null, .int 0, .null, .null, .null, .int 0, .int 0, .int 0, .int 0, .int 0, .int 0, .int 0]) inT5 tyX5 tyX5_ok nmX5 hin0 (kd_b rfl) rfl rfl rfl 31 (by decide) fl_M_76 rfl rfl rfl rfl rfl (Nat.le_of_ble_eq_true rfl) d_M_init_192 rfl ?_
  refine v_aload_n hX d_M_init_195 rfl rfl ?_
  refine v_bipush (v := 14) hX d_M_init_196 (by decide) ?_
  refine v_newp hX 71 2 (kd 72) (N := 14) (ty := .boolean) (14, .inl (fun _ => 0)) rfl (fun _ => rfl) (fun _ h => h) ac_boolean rfl (by decide) (by decide) (Nat.le_of_ble_eq_true rfl) (Nat.le_of_ble_eq_true rfl) (Nat.le_of_ble_eq_true rfl) d_M_init_198 (kd_step 71) (kd_self 71) (fun q71 => ?_)
  refine v_putFE hX 48 (fs2 := [.int 0, .ref q49, .ref q50, .ref q51, .ref q52, .ref q53, .ref q54, .ref q55, .ref q56, .int 0, .int 0, .int 0, .ref q57, .ref q58, .ref q59, .ref q60, .ref q61, .ref q62, .int 0, .int 0, .int 0, .int 0, .int 0, .int 0, .ref q63, .ref q64, .ref q65, .ref q66, .ref q67, .ref q68, .ref q69, .ref q70, .ref q71, .null, .int 0, .null, .null, .null, .int 0, .int 0, .int 0, .int 0, .int 0, .int 0, .int 0]) inT5 tyX5 tyX5_ok nmX5 hin0 (kd_b rfl) rfl rfl rfl 32 (by decide) fl_M_79 rfl rfl rfl rfl rfl (Nat.le_of_ble_eq_true rfl) d_M_init_200 rfl ?_
  refine v_aload_n hX d_M_init_203 rfl rfl ?_
  refine v_bipush (v := 14) hX d_M_init_204 (by decide) ?_
  refine v_newp hX 72 2 (kd 73) (N := 14) (ty := .boolean) (14, .inl (fun _ => 0)) rfl (fun _ => rfl) (fun _ h => h) ac_boolean rfl (by decide) (by decide) (Nat.le_of_ble_eq_true rfl) (Nat.le_of_ble_eq_true rfl) (Nat.le_of_ble_eq_true rfl) d_M_init_206 (kd_step 72) (kd_self 72) (fun q72 => ?_)
  refine v_putFE hX 48 (fs2 := [.int 0, .ref q49, .ref q50, .ref q51, .ref q52, .ref q53, .ref q54, .ref q55, .ref q56, .int 0, .int 0, .int 0, .ref q57, .ref q58, .ref q59, .ref q60, .ref q61, .ref q62, .int 0, .int 0, .int 0, .int 0, .int 0, .int 0, .ref q63, .ref q64, .ref q65, .ref q66, .ref q67, .ref q68, .ref q69, .ref q70, .ref q71, .ref q72, .int 0, .null, .null, .null, .int 0, .int 0, .int 0, .int 0, .int 0, .int 0, .int 0]) inT5 tyX5 tyX5_ok nmX5 hin0 (kd_b rfl) rfl rfl rfl 33 (by decide) fl_M_82 rfl rfl rfl rfl rfl (Nat.le_of_ble_eq_true rfl) d_M_init_208 rfl ?_
  refine v_aload_n hX d_M_init_211 rfl rfl ?_
  refine v_sipush (v := 4010) hX d_M_init_212 (by decide) ?_
  refine v_newp hX 73 0 (kd 74) (N := 4010) (ty := .int) (4010, .inl (fun _ => 0)) rfl (fun _ => rfl) (fun _ h => h) ac_int rfl (by decide) (by decide) (Nat.le_of_ble_eq_true rfl) (Nat.le_of_ble_eq_true rfl) (Nat.le_of_ble_eq_true rfl) d_M_init_215 (kd_step 73) (kd_self 73) (fun q73 => ?_)
  refine v_putFE hX 48 (fs2 := [.int 0, .ref q49, .ref q50, .ref q51, .ref q52, .ref q53, .ref q54, .ref q55, .ref q56, .int 0, .int 0, .int 0, .ref q57, .ref q58, .ref q59, .ref q60, .ref q61, .ref q62, .int 0, .int 0, .int 0, .int 0, .int 0, .int 0, .ref q63, .ref q64, .ref q65, .ref q66, .ref q67, .ref q68, .ref q69, .ref q70, .ref q71, .ref q72, .int 0, .ref q73, .null, .null, .int 0, .int 0, .int 0, .int 0, .int 0, .int 0, .int 0]) inT5 tyX5 tyX5_ok nmX5 hin0 (kd_b rfl) rfl rfl rfl 35 (by decide) fl_M_85 rfl rfl rfl rfl rfl (Nat.le_of_ble_eq_true rfl) d_M_init_217 rfl ?_
  refine v_aload_n hX d_M_init_220 rfl rfl ?_
  refine v_sipush (v := 4010) hX d_M_init_221 (by decide) ?_
  refine v_newp hX 74 0 (kd 75) (N := 4010) (ty := .int) (4010, .inl (fun _ => 0)) rfl (fun _ => rfl) (fun _ h => h) ac_int rfl (by decide) (by decide) (Nat.le_of_ble_eq_true rfl) (Nat.le_of_ble_eq_true rfl) (Nat.le_of_ble_eq_true rfl) d_M_init_224 (kd_step 74) (kd_self 74) (fun q74 => ?_)
  refine v_putFE hX 48 (fs2 := [.int 0, .ref q49, .ref q50, .ref q51, .ref q52, .ref q53, .ref q54, .ref q55, .ref q56, .int 0, .int 0, .int 0, .ref q57, .ref q58, .ref q59, .ref q60, .ref q61, .ref q62, .int 0, .int 0, .int 0, .int 0, .int 0, .int 0, .ref q63, .ref q64, .ref q65, .ref q66, .ref q67, .ref q68, .ref q69, .ref q70, .ref q71, .ref q72, .int 0, .ref q73, .ref q74, .null, .int 0, .int 0, .int 0, .int 0, .int 0, .int 0, .int 0]) inT5 tyX5 tyX5_ok nmX5 hin0 (kd_b rfl) rfl rfl rfl 36 (by decide) fl_M_88 rfl rfl rfl rfl rfl (Nat.le_of_ble_eq_true rfl) d_M_init_226 rfl ?_
  refine v_aload_n hX d_M_init_229 rfl rfl ?_
  refine v_sipush (v := 4300) hX d_M_init_230 (by decide) ?_
  refine v_newp hX 75 0 (kd 76) (N := 4300) (ty := .int) (4300, .inl (fun _ => 0)) rfl (fun _ => rfl) (fun _ h => h) ac_int rfl (by decide) (by decide) (Nat.le_of_ble_eq_true rfl) (Nat.le_of_ble_eq_true rfl) (Nat.le_of_ble_eq_true rfl) d_M_init_233 (kd_step 75) (kd_self 75) (fun q75 => ?_)
  refine v_putFE hX 48 (fs2 := [.int 0, .ref q49, .ref q50, .ref q51, .ref q52, .ref q53, .ref q54, .ref q55, .ref q56, .int 0, .int 0, .int 0, .ref q57, .ref q58, .ref q59, .ref q60, .ref q61, .ref q62, .int 0, .int 0, .int 0, .int 0, .int 0, .int 0, .ref q63, .ref q64, .ref q65, .ref q66, .ref q67, .ref q68, .ref q69, .ref q70, .ref q71, .ref q72, .int 0, .ref q73, .ref q74, .ref q75, .int 0, .int 0, .int 0, .int 0, .int 0, .int 0, .int 0]) inT5 tyX5 tyX5_ok nmX5 hin0 (kd_b rfl) rfl rfl rfl 37 (by decide) fl_M_91 rfl rfl rfl rfl rfl (Nat.le_of_ble_eq_true rfl) d_M_init_235 rfl ?_
  refine v_aload_n hX d_M_init_238 rfl rfl ?_
  refine c_V hX 48 (rest := []) hl (c_M_empty0 rfl rfl rfl rfl rfl rfl rfl) ml_M_94 im_M_empty se_M_empty in_M cd_M_empty rfl q_M_empty ⟨(Nat.le_of_ble_eq_true rfl), (Nat.le_of_ble_eq_true rfl)⟩ (kd_b rfl) rfl rfl rfl rfl rfl rfl (Nat.le_of_ble_eq_true rfl) d_M_init_239 ⟨(Nat.le_of_ble_eq_true rfl), (Nat.le_of_ble_eq_true rfl)⟩ (fun rv d2 lo2 va2 kc ns hp => ?_)
  obtain ⟨rfl, rfl, rfl, rfl, rfl, rfl⟩ := hp
  show V X D CL A _ _ _ _ _ _ _ []
  refine v_vret hX hE d_M_init_242 (Nat.le_of_ble_eq_true rfl) (Nat.le_of_ble_eq_true rfl) ⟨rfl, rfl, rfl, ?_, ?_, rfl, rfl⟩
  · intro k hk
    have hk := Nat.le_of_ble_eq_true hk
    match k, hk with
    | 0, _ => exact ⟨rfl, rfl⟩
    | 1, _ => exact ⟨rfl, rfl⟩
    | 2, _ => exact ⟨rfl, rfl⟩
    | 3, _ => exact ⟨rfl, rfl⟩
    | 4, _ => exact ⟨rfl, rfl⟩
    | 5, _ => exact ⟨rfl, rfl⟩
    | 6, _ => exact ⟨rfl, rfl⟩
    | 7, _ => exact ⟨rfl, rfl⟩
    | 8, _ => exact ⟨rfl, rfl⟩
    | 9, _ => exact ⟨rfl, rfl⟩
    | 10, _ => exact ⟨rfl, rfl⟩
    | 11, _ => exact ⟨rfl, rfl⟩
    | 12, _ => exact ⟨rfl, rfl⟩
    | 13, _ => exact ⟨rfl, rfl⟩
    | 14, _ => exact ⟨rfl, rfl⟩
    | 15, _ => exact ⟨rfl, rfl⟩
    | 16, _ => exact ⟨rfl, rfl⟩
    | 17, _ => exact ⟨rfl, rfl⟩
    | 18, _ => exact ⟨rfl, rfl⟩
    | 19, _ => exact ⟨rfl, rfl⟩
    | 20, _ => exact ⟨rfl, rfl⟩
    | 21, _ => exact ⟨rfl, rfl⟩
    | 22, _ => exact ⟨rfl, rfl⟩
    | 23, _ => exact ⟨rfl, rfl⟩
    | 24, _ => exact ⟨rfl, rfl⟩
    | 25, _ => exact ⟨rfl, rfl⟩
    | 26, _ => exact ⟨rfl, rfl⟩
    | 27, _ => exact ⟨rfl, rfl⟩
    | 28, _ => exact ⟨rfl, rfl⟩
    | 29, _ => exact ⟨rfl, rfl⟩
    | 30, _ => exact ⟨rfl, rfl⟩
    | 31, _ => exact ⟨rfl, rfl⟩
    | 32, _ => exact ⟨rfl, rfl⟩
    | 33, _ => exact ⟨rfl, rfl⟩
    | 34, _ => exact ⟨rfl, rfl⟩
    | 35, _ => exact ⟨rfl, rfl⟩
    | 36, _ => exact ⟨rfl, rfl⟩
    | 37, _ => exact ⟨rfl, rfl⟩
    | 38, _ => exact ⟨rfl, rfl⟩
    | 39, _ => exact ⟨rfl, rfl⟩
    | 40, _ => exact ⟨rfl, rfl⟩
    | 41, _ => exact ⟨rfl, rfl⟩
    | 42, _ => exact ⟨rfl, rfl⟩
    | 43, _ => exact ⟨rfl, rfl⟩
    | 44, _ => exact ⟨rfl, rfl⟩
    | 45, _ => exact ⟨rfl, rfl⟩
    | 46, _ => exact ⟨rfl, rfl⟩
    | 47, _ => exact ⟨rfl, rfl⟩
    | k + 48, h => exact absurd h (by omega)
  · intro k hk
    rw [Bool.and_eq_true] at hk
    have h1 := Nat.le_of_ble_eq_true hk.1
    have h2 := Nat.le_of_ble_eq_true hk.2
    obtain ⟨i, rfl⟩ : ∃ i, k = 48 + i := ⟨k - 48, by omega⟩
    have hk : i < 28 := by omega
    clear h1 h2
    match i, hk with
    | 0, _ => rfl
    | 1, _ => rfl
    | 2, _ => rfl
    | 3, _ => rfl
    | 4, _ => rfl
    | 5, _ => rfl
    | 6, _ => rfl
    | 7, _ => rfl
    | 8, _ => rfl
    | 9, _ => rfl
    | 10, _ => rfl
    | 11, _ => rfl
    | 12, _ => rfl
    | 13, _ => rfl
    | 14, _ => rfl
    | 15, _ => rfl
    | 16, _ => rfl
    | 17, _ => rfl
    | 18, _ => rfl
    | 19, _ => rfl
    | 20, _ => rfl
    | 21, _ => rfl
    | 22, _ => rfl
    | 23, _ => rfl
    | 24, _ => rfl
    | 25, _ => rfl
    | 26, _ => rfl
    | 27, _ => rfl
    | k + 28, h => exact absurd h (by omega)
