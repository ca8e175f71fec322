set_option maxHeartbeats 4000000 in
set_option maxRecDepth 100000 in
theorem c_S_init {l : Launch} {D : va_G} {A : Nat → Prop} {cI cB cZ cJ cN : ClassId} {loc : Nat → Nat} {val : Nat → va_E} (hv : val 2 = .inr (2, [.null, .null, .null, .null, .null, .null])) : kM l y_S_init (Cond.code y_S_init b_S_init 1 none :: TT) (rmL 3) D CL (TY cI cB cZ cJ cN) A [.ref (loc 2)] (kd 3) loc val (fun rv d lo va kc ns => ∃ q3 q4 q5 q6 q7 q8 q9 q10 q11 q12 q13 q14 q15 q16 q17 q18 q19 q20 q21 q22 q23 q24 q25 q26 q27 q28 q29, rv = none ∧ kd 30 = d ∧ va_up (va_up (va_up (va_up (va_up (va_up (va_up (va_up (va_up (va_up (va_up (va_up (va_up (va_up (va_up (va_up (va_up (va_up (va_up (va_up (va_up (va_up (va_up (va_up (va_up (va_up (va_up (loc) 3 q3) 4 q4) 5 q5) 6 q6) 7 q7) 8 q8) 9 q9) 10 q10) 11 q11) 12 q12) 13 q13) 14 q14) 15 q15) 16 q16) 17 q17) 18 q18) 19 q19) 20 q20) 21 q21) 22 q22) 23 q23) 24 q24) 25 q25) 26 q26) 27 q27) 28 q28) 29 q29 = lo ∧ va_up (va_up (va_up (va_up (va_up (va_up (va_up (va_up (va_up (va_up (va_up (va_up (va_up (va_up (va_up (va_up (va_up (va_up (va_up (va_up (va_up (va_up (va_up (va_up (va_up (va_up (va_up (va_up (va_up (va_up (va_up (va_up (va_up (va_up (va_up (va_up (va_up (va_up (va_up (va_up (va_up (va_up (va_up (va_up (va_up (va_up (va_up (va_up (va_up (va_up (va_up (va_up (va_up (va_up (val) 3 (.inr (1, [.null, .int 0]))) 4 (.inl (cI, 16, .inl (fun _ => 0)))) 3 (.inr (1, [.ref q4, .int 0]))) 2 (.inr (2, [.ref q3, .null, .null, .null, .null, .null]))) 5 (.inr (3, [.null, .null, .null, .null, .null, .null, .null, .null, .int 0, .int 0, .int 0]))) 6 (.inr (1, [.null, .int 0]))) 7 (.inl (cI, 16, .inl (fun _ => 0)))) 6 (.inr (1, [.ref q7, .int 0]))) 5 (.inr (3, [.ref q6, .null, .null, .null, .null, .null, .null, .null, .int 0, .int 0, .int 0]))) 8 (.inr (1, [.null, .int 0]))) 9 (.inl (cI, 16, .inl (fun _ => 0)))) 8 (.inr (1, [.ref q9, .int 0]))) 5 (.inr (3, [.ref q6, .ref q8, .null, .null, .null, .null, .null, .null, .int 0, .int 0, .int 0]))) 10 (.inr (1, [.null, .int 0]))) 11 (.inl (cI, 16, .inl (fun _ => 0)))) 10 (.inr (1, [.ref q11, .int 0]))) 5 (.inr (3, [.ref q6, .ref q8, .ref q10, .null, .null, .null, .null, .null, .int 0, .int 0, .int 0]))) 12 (.inr (1, [.null, .int 0]))) 13 (.inl (cI, 16, .inl (fun _ => 0)))) 12 (.inr (1, [.ref q13, .int 0]))) 5 (.inr (3, [.ref q6, .ref q8, .ref q10, .ref q12, .null, .null, .null, .null, .int 0, .int 0, .int 0]))) 14 (.inr (1, [.null, .int 0]))) 15 (.inl (cI, 16, .inl (fun _ => 0)))) 14 (.inr (1, [.ref q15, .int 0]))) 5 (.inr (3, [.ref q6, .ref q8, .ref q10, .ref q12, .ref q14, .null, .null, .null, .int 0, .int 0, .int 0]))) 16 (.inr (1, [.null, .int 0]))) 17 (.inl (cI, 16, .inl (fun _ => 0)))) 16 (.inr (1, [.ref q17, .int 0]))) 5 (.inr (3, [.ref q6, .ref q8, .ref q10, .ref q12, .ref q14, .ref q16, .null, .null, .int 0, .int 0, .int 0]))) 18 (.inr (1, [.null, .int 0]))) 19 (.inl (cI, 16, .inl (fun _ => 0)))) 18 (.inr (1, [.ref q19, .int 0]))) 5 (.inr (3, [.ref q6, .ref q8, .ref q10, .ref q12, .ref q14, .ref q16, .ref q18, .null, .int 0, .int 0, .int 0]))) 20 (.inr (1, [.null, .int 0]))) 21 (.inl (cI, 16, .inl (fun _ => 0)))) 20 (.inr (1, [.ref q21, .int 0]))) 5 (.inr (3, [.ref q6, .ref q8, .ref q10, .ref q12, .ref q14, .ref q16, .ref q18, .ref q20, .int 0, .int 0, .int 0]))) 2 (.inr (2, [.ref q3, .ref q5, .null, .null, .null, .null]))) 22 (.inr (1, [.null, .int 0]))) 23 (.inl (cI, 16, .inl (fun _ => 0)))) 22 (.inr (1, [.ref q23, .int 0]))) 2 (.inr (2, [.ref q3, .ref q5, .ref q22, .null, .null, .null]))) 24 (.inr (1, [.null, .int 0]))) 25 (.inl (cI, 16, .inl (fun _ => 0)))) 24 (.inr (1, [.ref q25, .int 0]))) 2 (.inr (2, [.ref q3, .ref q5, .ref q22, .ref q24, .null, .null]))) 26 (.inr (1, [.null, .int 0]))) 27 (.inl (cI, 16, .inl (fun _ => 0)))) 26 (.inr (1, [.ref q27, .int 0]))) 2 (.inr (2, [.ref q3, .ref q5, .ref q22, .ref q24, .ref q26, .null]))) 28 (.inr (1, [.null, .int 0]))) 29 (.inl (cI, 16, .inl (fun _ => 0)))) 28 (.inr (1, [.ref q29, .int 0]))) 2 (.inr (2, [.ref q3, .ref q5, .ref q22, .ref q24, .ref q26, .ref q28])) = va ∧ kc = 27 ∧ ns = 245) := by
  refine kM_of (lv0 := [some (.ref (loc 2))]) (own := "ProsePages$Setter") (by decide) rfl (List.forall_mem_cons.mpr ⟨rfl, fun _ h => nomatch h⟩) (Nat.le_of_ble_eq_true rfl) rfl (Nat.le_of_ble_eq_true rfl) (fun X hl hX hE hin0 => ?_)
  refine v_aload_n hX d_S_init_0 rfl rfl ?_
  refine v_objInit hX k_30 k_21 k_objc ⟨by decide, by decide⟩ rfl (Nat.le_of_ble_eq_true rfl) d_S_init_1 ?_
  refine v_aload_n hX d_S_init_4 rfl rfl ?_
  refine v_new hX 3 (kd 4) (ci := 1) (fs := [.null, .int 0]) inT1 tyX1 tyX1_ok k_31 k_32 k_3 rfl (by decide) (Nat.le_of_ble_eq_true rfl) (Nat.le_of_ble_eq_true rfl) d_S_init_5 (kd_step 3) (kd_self 3) (fun q3 _ => ?_)
  refine v_dup hX d_S_init_8 rfl ?_
  refine c_IN hX (rest := [.ref q3, .ref (loc 2)]) hl (c_R_init 3 4 (by decide) rfl) (host := "ProsePages") (by decide) k_34 k_3 k_35 rfl q_R_init ⟨(Nat.le_of_ble_eq_true rfl), (Nat.le_of_ble_eq_true rfl)⟩ rfl rfl rfl (Nat.le_of_ble_eq_true rfl) d_S_init_9 ⟨(Nat.le_of_ble_eq_true rfl), (Nat.le_of_ble_eq_true rfl)⟩ (fun rv d2 lo2 va2 kc ns hp => ?_)
  obtain ⟨q4, rfl, rfl, rfl, rfl, rfl, rfl⟩ := hp
  show V X D CL A _ _ _ _ _ _ _ [.ref q3, .ref (loc 2)]
  refine v_putFE hX 2 (fs2 := [.ref q3, .null, .null, .null, .null, .null]) inT2 tyX2 tyX2_ok nmX2 hin0 (kd_b rfl) rfl hv rfl 0 (by decide) k_96 rfl rfl rfl rfl rfl (Nat.le_of_ble_eq_true rfl) d_S_init_12 rfl ?_
  refine v_aload_n hX d_S_init_15 rfl rfl ?_
  refine v_new hX 5 (kd 6) (ci := 3) (fs := [.null, .null, .null, .null, .null, .null, .null, .null, .int 0, .int 0, .int 0]) inT3 tyX3 tyX3_ok k_45 k_46 k_4 rfl (by decide) (Nat.le_of_ble_eq_true rfl) (Nat.le_of_ble_eq_true rfl) d_S_init_16 (kd_step 5) (kd_self 5) (fun q5 _ => ?_)
  refine v_dup hX d_S_init_19 rfl ?_
  refine c_IN hX (rest := [.ref q5, .ref (loc 2)]) hl (c_T_init5 rfl) (host := "ProsePages") (by decide) k_48 k_4 k_49 rfl q_T_init ⟨(Nat.le_of_ble_eq_true rfl), (Nat.le_of_ble_eq_true rfl)⟩ rfl rfl rfl (Nat.le_of_ble_eq_true rfl) d_S_init_20 ⟨(Nat.le_of_ble_eq_true rfl), (Nat.le_of_ble_eq_true rfl)⟩ (fun rv d2 lo2 va2 kc ns hp => ?_)
  obtain ⟨q6, q7, q8, q9, q10, q11, q12, q13, q14, q15, q16, q17, q18, q19, q20, q21, rfl, rfl, rfl, rfl, rfl, rfl⟩ := hp
  show V X D CL A _ _ _ _ _ _ _ [.ref q5, .ref (loc 2)]
  refine v_putE hX 2 (fs2 := [.ref q3, .ref q5, .null, .null, .null, .null]) inT2 tyX2 tyX2_ok nmX2 (kd_b rfl) rfl rfl rfl 1 (by decide) k_98 rfl rfl rfl rfl rfl (Nat.le_of_ble_eq_true rfl) d_S_init_23 rfl ?_
  refine v_aload_n hX d_S_init_26 rfl rfl ?_
  refine v_new hX 22 (kd 23) (ci := 1) (fs := [.null, .int 0]) inT1 tyX1 tyX1_ok k_31 k_32 k_3 rfl (by decide) (Nat.le_of_ble_eq_true rfl) (Nat.le_of_ble_eq_true rfl) d_S_init_27 (kd_step 22) (kd_self 22) (fun q22 _ => ?_)
  refine v_dup hX d_S_init_30 rfl ?_
  refine c_IN hX (rest := [.ref q22, .ref (loc 2)]) hl (c_R_init 22 23 (by decide) rfl) (host := "ProsePages") (by decide) k_34 k_3 k_35 rfl q_R_init ⟨(Nat.le_of_ble_eq_true rfl), (Nat.le_of_ble_eq_true rfl)⟩ rfl rfl rfl (Nat.le_of_ble_eq_true rfl) d_S_init_31 ⟨(Nat.le_of_ble_eq_true rfl), (Nat.le_of_ble_eq_true rfl)⟩ (fun rv d2 lo2 va2 kc ns hp => ?_)
  obtain ⟨q23, rfl, rfl, rfl, rfl, rfl, rfl⟩ := hp
  show V X D CL A _ _ _ _ _ _ _ [.ref q22, .ref (loc 2)]
  refine v_putFE hX 2 (fs2 := [.ref q3, .ref q5, .ref q22, .null, .null, .null]) inT2 tyX2 tyX2_ok nmX2 hin0 (kd_b rfl) rfl rfl rfl 2 (by decide) k_100 rfl rfl rfl rfl rfl (Nat.le_of_ble_eq_true rfl) d_S_init_34 rfl ?_
  refine v_aload_n hX d_S_init_37 rfl rfl ?_
  refine v_new hX 24 (kd 25) (ci := 1) (fs := [.null, .int 0]) inT1 tyX1 tyX1_ok k_31 k_32 k_3 rfl (by decide) (Nat.le_of_ble_eq_true rfl) (Nat.le_of_ble_eq_true rfl) d_S_init_38 (kd_step 24) (kd_self 24) (fun q24 _ => ?_)
  refine v_dup hX d_S_init_41 rfl ?_
  refine c_IN hX (rest := [.ref q24, .ref (loc 2)]) hl (c_R_init 24 25 (by decide) rfl) (host := "ProsePages") (by decide) k_34 k_3 k_35 rfl q_R_init ⟨(Nat.le_of_ble_eq_true rfl), (Nat.le_of_ble_eq_true rfl)⟩ rfl rfl rfl (Nat.le_of_ble_eq_true rfl) d_S_init_42 ⟨(Nat.le_of_ble_eq_true rfl), (Nat.le_of_ble_eq_true rfl)⟩ (fun rv d2 lo2 va2 kc ns hp => ?_)
  obtain ⟨q25, rfl, rfl, rfl, rfl, rfl, rfl⟩ := hp
  show V X D CL A _ _ _ _ _ _ _ [.ref q24, .ref (loc 2)]
  refine v_putFE hX 2 (fs2 := [.ref q3, .ref q5, .ref q22, .ref q24, .null, .null]) inT2 tyX2 tyX2_ok nmX2 hin0 (kd_b rfl) rfl rfl rfl 3 (by decide) k_101 rfl rfl rfl rfl rfl (Nat.le_of_ble_eq_true rfl) d_S_init_45 rfl ?_
  refine v_aload_n hX d_S_init_48 rfl rfl ?_
  refine v_new hX 26 (kd 27) (ci := 1) (fs := [.null, .int 0]) inT1 tyX1 tyX1_ok k_31 k_32 k_3 rfl (by decide) (Nat.le_of_ble_eq_true rfl) (Nat.le_of_ble_eq_true rfl) d_S_init_49 (kd_step 26) (kd_self 26) (fun q26 _ => ?_)
  refine v_dup hX d_S_init_52 rfl ?_
  refine c_IN hX (rest := [.ref q26, .ref (loc 2)]) hl (c_R_init 26 27 (by decide) rfl) (host := "ProsePages") (by decide) k_34 k_3 k_35 rfl q_R_init ⟨(Nat.le_of_ble_eq_true rfl), (Nat.le_of_ble_eq_true rfl)⟩ rfl rfl rfl (Nat.le_of_ble_eq_true rfl) d_S_init_53 ⟨(Nat.le_of_ble_eq_true rfl), (Nat.le_of_ble_eq_true rfl)⟩ (fun rv d2 lo2 va2 kc ns hp => ?_)
  obtain ⟨q27, rfl, rfl, rfl, rfl, rfl, rfl⟩ := hp
  show V X D CL A _ _ _ _ _ _ _ [.ref q26, .ref (loc 2)]
  refine v_putFE hX 2 (fs2 := [.ref q3, .ref q5, .ref q22, .ref q24, .ref q26, .null]) inT2 tyX2 tyX2_ok nmX2 hin0 (kd_b rfl) rfl rfl rfl 4 (by decide) k_102 rfl rfl rfl rfl rfl (Nat.le_of_ble_eq_true rfl) d_S_init_56 rfl ?_
  refine v_aload_n hX d_S_init_59 rfl rfl ?_
  refine v_new hX 28 (kd 29) (ci := 1) (fs := [.null, .int 0]) inT1 tyX1 tyX1_ok k_31 k_32 k_3 rfl (by decide) (Nat.le_of_ble_eq_true rfl) (Nat.le_of_ble_eq_true rfl) d_S_init_60 (kd_step 28) (kd_self 28) (fun q28 _ => ?_)
  refine v_dup hX d_S_init_63 rfl ?_
  refine c_IN hX (rest := [.ref q28, .ref (loc 2)]) hl (c_R_init 28 29 (by decide) rfl) (host := "ProsePages") (by decide) k_34 k_3 k_35 rfl q_R_init ⟨(Nat.le_of_ble_eq_true rfl), (Nat.le_of_ble_eq_true rfl)⟩ rfl rfl rfl (Nat.le_of_ble_eq_true rfl) d_S_init_64 ⟨(Nat.le_of_ble_eq_true rfl), (Nat.le_of_ble_eq_true rfl)⟩ (fun rv d2 lo2 va2 kc ns hp => ?_)
  obtain ⟨q29, rfl, rfl, rfl, rfl, rfl, rfl⟩ := hp
  show V X D CL A _ _ _ _ _ _ _ [.ref q28, .ref (loc 2)]
  refine v_putFE hX 2 (fs2 := [.ref q3, .ref q5, .ref q22, .ref q24, .ref q26, .ref q28]) inT2 tyX2 tyX2_ok nmX2 hin0 (kd_b rfl) rfl rfl rfl 5 (by decide) k_103 rfl rfl rfl rfl rfl (Nat.le_of_ble_eq_true rfl) d_S_init_67 rfl ?_
  exact v_vret hX hE d_S_init_70 (Nat.le_of_ble_eq_true rfl) (Nat.le_of_ble_eq_true rfl) ⟨q3, q4, q5, q6, q7, q8, q9, q10, q11, q12, q13, q14, q15, q16, q17, q18, q19, q20, q21, q22, q23, q24, q25, q26, q27, q28, q29, rfl, rfl, rfl, rfl, rfl, rfl⟩
def plist (cI cN : ClassId) (loc : Nat → Nat) : List va_E := [
  .inr (4, [.ref (loc 1), .ref (loc 2), .ref (loc 47), .ref (loc 47), .int 1, .int 0, .ref (loc 30), .int 0]),
  .inl (cN, 300, .inr (.inr (.inr (.inr (va_up (fun _ => none) (Int32.toNatClampNeg 0) (some (loc 47))))))),
  .inr (2, [.ref (loc 3), .ref (loc 5), .ref (loc 22), .ref (loc 24), .ref (loc 26), .ref (loc 28)]),
  .inr (1, [.ref (loc 4), .int 0]),
  .inl (cI, 16, .inl (fun _ => 0)),
  .inr (3, [.ref (loc 6), .ref (loc 8), .ref (loc 10), .ref (loc 12), .ref (loc 14), .ref (loc 16), .ref (loc 18), .ref (loc 20), .int 0, .int 0, .int 0]),
  .inr (1, [.ref (loc 7), .int 0]),
  .inl (cI, 16, .inl (fun _ => 0)),
  .inr (1, [.ref (loc 9), .int 0]),
  .inl (cI, 16, .inl (fun _ => 0)),
  .inr (1, [.ref (loc 11), .int 0]),
  .inl (cI, 16, .inl (fun _ => 0)),
  .inr (1, [.ref (loc 13), .int 0]),
  .inl (cI, 16, .inl (fun _ => 0)),
  .inr (1, [.ref (loc 15), .int 0]),
  .inl (cI, 16, .inl (fun _ => 0)),
  .inr (1, [.ref (loc 17), .int 0]),
  .inl (cI, 16, .inl (fun _ => 0)),
  .inr (1, [.ref (loc 19), .int 0]),
  .inl (cI, 16, .inl (fun _ => 0)),
  .inr (1, [.ref (loc 21), .int 0]),
  .inl (cI, 16, .inl (fun _ => 0)),
  .inr (1, [.ref (loc 23), .int 0]),
  .inl (cI, 16, .inl (fun _ => 0)),
  .inr (1, [.ref (loc 25), .int 0]),
  .inl (cI, 16, .inl (fun _ => 0)),
  .inr (1, [.ref (loc 27), .int 0]),
  .inl (cI, 16, .inl (fun _ => 0)),
  .inr (1, [.ref (loc 29), .int 0]),
  .inl (cI, 16, .inl (fun _ => 0)),
  .inr (3, [.ref (loc 31), .ref (loc 33), .ref (loc 35), .ref (loc 37), .ref (loc 39), .ref (loc 41), .ref (loc 43), .ref (loc 45), .int 0, .int 0, .int 0]),
  .inr (1, [.ref (loc 32), .int 0]),
  .inl (cI, 16, .inl (fun _ => 0)),
  .inr (1, [.ref (loc 34), .int 0]),
  .inl (cI, 16, .inl (fun _ => 0)),
  .inr (1, [.ref (loc 36), .int 0]),
  .inl (cI, 16, .inl (fun _ => 0)),
  .inr (1, [.ref (loc 38), .int 0]),
  .inl (cI, 16, .inl (fun _ => 0)),
  .inr (1, [.ref (loc 40), .int 0]),
  .inl (cI, 16, .inl (fun _ => 0)),
  .inr (1, [.ref (loc 42), .int 0]),
  .inl (cI, 16, .inl (fun _ => 0)),
  .inr (1, [.ref (loc 44), .int 0]),
  .inl (cI, 16, .inl (fun _ => 0)),
  .inr (1, [.ref (loc 46), .int 0]),
  .inl (cI, 16, .inl (fun _ => 0)),
  .inr (0, [.int 0, .int (-1), .null, .int 1, .int 0, .int 0, .int 0, .null, .null, .null, .int 0, .int (-1)])]
def pcell (cI cN : ClassId) (loc : Nat → Nat) (k : Nat) : va_E := (plist cI cN loc).getD k (.inr (0, []))
set_option maxHeartbeats 4000000 in
set_option maxRecDepth 100000 in
theorem c_P_init {l : Launch} {D : va_G} {A : Nat → Prop} {cI cB cZ cJ cN : ClassId} {loc : Nat → Nat} {val : Nat → va_E} (hv : val 0 = .inr (4, [.null, .null, .null, .null, .int 0, .int 0, .null, .int 0])) : kM l y_P_init (Cond.code y_P_init b_P_init 1 none :: TT) (rmL 4) D CL (TY cI cB cZ cJ cN) A [.ref (loc 0)] (kd 1) loc val (fun rv d lo va kc ns => rv = none ∧ d = kd 48 ∧ lo 0 = loc 0 ∧ (∀ k, Nat.ble (k + 1) 48 = true → va k = pcell cI cN lo k) ∧ kc = 47 ∧ ns = 718) := by
  refine kM_of (lv0 := [some (.ref (loc 0))]) (own := "ProsePages") (by decide) rfl (List.forall_mem_cons.mpr ⟨rfl, fun _ h => nomatch h⟩) (Nat.le_of_ble_eq_true rfl) rfl (Nat.le_of_ble_eq_true rfl) (fun X hl hX hE hin0 => ?_)
  refine v_aload_n hX d_P_init_0 rfl rfl ?_
  refine v_objInit hX k_20 k_21 k_objc ⟨by decide, by decide⟩ rfl (Nat.le_of_ble_eq_true rfl) d_P_init_1 ?_
  refine v_aload_n hX d_P_init_4 rfl rfl ?_
  refine v_sipush (v := 300) hX d_P_init_5 (by decide) ?_
  refine v_newq hX 1 4 (kd 2) (N := 300) k_23 hX.2.2.2.2.2.2.2.2.2.now.2.1 rfl (by decide) (by decide) (Nat.le_of_ble_eq_true rfl) (Nat.le_of_ble_eq_true rfl) (Nat.le_of_ble_eq_true rfl) d_P_init_8 (kd_step 1) (kd_self 1) (fun q1 => ?_)
  refine v_putFE hX 0 (fs2 := [.ref q1, .null, .null, .null, .int 0, .int 0, .null, .int 0]) inT4 tyX4 tyX4_ok nmX4 hin0 (kd_b rfl) rfl hv rfl 0 (by decide) k_175 rfl rfl rfl rfl rfl (Nat.le_of_ble_eq_true rfl) d_P_init_11 rfl ?_
  refine v_aload_n hX d_P_init_14 rfl rfl ?_
  refine v_new hX 2 (kd 3) (ci := 2) (fs := [.null, .null, .null, .null, .null, .null]) inT2 tyX2 tyX2_ok k_25 k_26 k_2 rfl (by decide) (Nat.le_of_ble_eq_true rfl) (Nat.le_of_ble_eq_true rfl) d_P_init_15 (kd_step 2) (kd_self 2) (fun q2 _ => ?_)
  refine v_dup hX d_P_init_18 rfl ?_
  refine c_IN hX (rest := [.ref q2, .ref (loc 0)]) hl (c_S_init rfl) (host := "ProsePages") (by decide) k_28 k_2 k_29 rfl q_S_init ⟨(Nat.le_of_ble_eq_true rfl), (Nat.le_of_ble_eq_true rfl)⟩ rfl rfl rfl (Nat.le_of_ble_eq_true rfl) d_P_init_19 ⟨(Nat.le_of_ble_eq_true rfl), (Nat.le_of_ble_eq_true rfl)⟩ (fun rv d2 lo2 va2 kc ns hp => ?_)
  obtain ⟨q3, q4, q5, q6, q7, q8, q9, q10, q11, q12, q13, q14, q15, q16, q17, q18, q19, q20, q21, q22, q23, q24, q25, q26, q27, q28, q29, rfl, rfl, rfl, rfl, rfl, rfl⟩ := hp
  show V X D CL A _ _ _ _ _ _ _ [.ref q2, .ref (loc 0)]
  refine v_putFE hX 0 (fs2 := [.ref q1, .ref q2, .null, .null, .int 0, .int 0, .null, .int 0]) inT4 tyX4 tyX4_ok nmX4 hin0 (kd_b rfl) rfl rfl rfl 1 (by decide) k_176 rfl rfl rfl rfl rfl (Nat.le_of_ble_eq_true rfl) d_P_init_22 rfl ?_
  refine v_aload_n hX d_P_init_25 rfl rfl ?_
  refine v_new hX 30 (kd 31) (ci := 3) (fs := [.null, .null, .null, .null, .null, .null, .null, .null, .int 0, .int 0, .int 0]) inT3 tyX3 tyX3_ok k_117 k_46 k_4 rfl (by decide) (Nat.le_of_ble_eq_true rfl) (Nat.le_of_ble_eq_true rfl) d_P_init_26 (kd_step 30) (kd_self 30) (fun q30 _ => ?_)
  refine v_dup hX d_P_init_29 rfl ?_
  refine c_IN hX (rest := [.ref q30, .ref (loc 0)]) hl (c_T_init30 rfl) (host := "ProsePages") (by decide) k_48 k_4 k_49 rfl q_T_init ⟨(Nat.le_of_ble_eq_true rfl), (Nat.le_of_ble_eq_true rfl)⟩ rfl rfl rfl (Nat.le_of_ble_eq_true rfl) d_P_init_30 ⟨(Nat.le_of_ble_eq_true rfl), (Nat.le_of_ble_eq_true rfl)⟩ (fun rv d2 lo2 va2 kc ns hp => ?_)
  obtain ⟨q31, q32, q33, q34, q35, q36, q37, q38, q39, q40, q41, q42, q43, q44, q45, q46, rfl, rfl, rfl, rfl, rfl, rfl⟩ := hp
  show V X D CL A _ _ _ _ _ _ _ [.ref q30, .ref (loc 0)]
  refine v_putE hX 0 (fs2 := [.ref q1, .ref q2, .null, .null, .int 0, .int 0, .ref q30, .int 0]) inT4 tyX4 tyX4_ok nmX4 (kd_b rfl) rfl rfl rfl 6 (by decide) k_181 rfl rfl rfl rfl rfl (Nat.le_of_ble_eq_true rfl) d_P_init_33 rfl ?_
  refine v_aload_n hX d_P_init_36 rfl rfl ?_
  refine v_new hX 47 (kd 48) (ci := 0) (fs := [.int 0, .int 0, .null, .int 0, .int 0, .int 0, .int 0, .null, .null, .null, .int 0, .int 0]) inT0 tyX0 tyX0_ok k_23 k_119 k_5 rfl (by decide) (Nat.le_of_ble_eq_true rfl) (Nat.le_of_ble_eq_true rfl) d_P_init_37 (kd_step 47) (kd_self 47) (fun q47 _ => ?_)
  refine v_dup hX d_P_init_40 rfl ?_
  refine v_iconst (v := 0) hX d_P_init_41 (by decide) ?_
  refine v_iconst (v := (-1)) hX d_P_init_42 (by decide) ?_
  refine v_iconst (v := 0) hX d_P_init_43 (by decide) ?_
  refine v_null hX d_P_init_44 ?_
  refine v_iconst (v := 0) hX d_P_init_45 (by decide) ?_
  refine c_I hX (rest := [.ref q47, .ref (loc 0)]) hl (c_N_init0 47 0 (-1) 0 0 (kd_b rfl) rfl) k_120 k_121 k_5 k_122 rfl q_N_init ⟨(Nat.le_of_ble_eq_true rfl), (Nat.le_of_ble_eq_true rfl)⟩ rfl rfl rfl (Nat.le_of_ble_eq_true rfl) d_P_init_46 ⟨(Nat.le_of_ble_eq_true rfl), (Nat.le_of_ble_eq_true rfl)⟩ (fun rv d2 lo2 va2 kc ns hp => ?_)
  obtain ⟨rfl, rfl, rfl, rfl, rfl, rfl⟩ := hp
  show V X D CL A _ _ _ _ _ _ _ [.ref q47, .ref (loc 0)]
  refine v_putE hX 0 (fs2 := [.ref q1, .ref q2, .ref q47, .null, .int 0, .int 0, .ref q30, .int 0]) inT4 tyX4 tyX4_ok nmX4 (kd_b rfl) rfl rfl rfl 2 (by decide) k_177 rfl rfl rfl rfl rfl (Nat.le_of_ble_eq_true rfl) d_P_init_49 rfl ?_
  refine v_aload_n hX d_P_init_52 rfl rfl ?_
  refine v_aload_n hX d_P_init_53 rfl rfl ?_
  refine v_get hX 0 (v := .ref q47) inT4 (kd_b rfl) rfl rfl rfl 2 (by decide) k_177 rfl rfl d_P_init_54 ?_
  refine v_putE hX 0 (fs2 := [.ref q1, .ref q2, .ref q47, .ref q47, .int 0, .int 0, .ref q30, .int 0]) inT4 tyX4 tyX4_ok nmX4 (kd_b rfl) rfl rfl rfl 3 (by decide) k_178 rfl rfl rfl rfl rfl (Nat.le_of_ble_eq_true rfl) d_P_init_57 rfl ?_
  refine v_aload_n hX d_P_init_60 rfl rfl ?_
  refine v_get hX 0 (v := .ref q1) inT4 (kd_b rfl) rfl rfl rfl 0 (by decide) k_175 rfl rfl d_P_init_61 ?_
  refine v_iconst (v := 0) hX d_P_init_64 (by decide) ?_
  refine v_aload_n hX d_P_init_65 rfl rfl ?_
  refine v_get hX 0 (v := .ref q47) inT4 (kd_b rfl) rfl rfl rfl 2 (by decide) k_177 rfl rfl d_P_init_66 ?_
  refine v_astq hX 1 4 47 (kd_b rfl) rfl rfl rfl (kd_b rfl) rfl rfl rfl (vpb (by decide)) d_P_init_69 ?_
  refine v_aload_n hX d_P_init_70 rfl rfl ?_
  refine v_iconst (v := 1) hX d_P_init_71 (by decide) ?_
  refine v_putE hX 0 (fs2 := [.ref q1, .ref q2, .ref q47, .ref q47, .int 1, .int 0, .ref q30, .int 0]) inT4 tyX4 tyX4_ok nmX4 (kd_b rfl) rfl rfl rfl 4 (by decide) k_179 rfl rfl rfl rfl rfl (Nat.le_of_ble_eq_true rfl) d_P_init_72 rfl ?_
  refine v_vret hX hE d_P_init_75 (Nat.le_of_ble_eq_true rfl) (Nat.le_of_ble_eq_true rfl) ⟨rfl, rfl, rfl, ?_, rfl, rfl⟩
  intro k hk
  have hk := Nat.le_of_ble_eq_true hk
  match k, hk with
  | 0, _ => rfl
  | 1, _ => rfl
  | 2, _ => rfl
  | 3, _ => rfl
  | 4, _ => rfl
  | 5, _ => rfl
  | 6, _ => rfl
  | 7, _ => rfl
  | 8, _ => rfl
  | 9, _ => rfl
  | 10, _ => rfl
  | 11, _ => rfl
  | 12, _ => rfl
  | 13, _ => rfl
  | 14, _ => rfl
  | 15, _ => rfl
  | 16, _ => rfl
  | 17, _ => rfl
  | 18, _ => rfl
  | 19, _ => rfl
  | 20, _ => rfl
  | 21, _ => rfl
  | 22, _ => rfl
  | 23, _ => rfl
  | 24, _ => rfl
  | 25, _ => rfl
  | 26, _ => rfl
  | 27, _ => rfl
  | 28, _ => rfl
  | 29, _ => rfl
  | 30, _ => rfl
  | 31, _ => rfl
  | 32, _ => rfl
  | 33, _ => rfl
  | 34, _ => rfl
  | 35, _ => rfl
  | 36, _ => rfl
  | 37, _ => rfl
  | 38, _ => rfl
  | 39, _ => rfl
  | 40, _ => rfl
  | 41, _ => rfl
  | 42, _ => rfl
  | 43, _ => rfl
  | 44, _ => rfl
  | 45, _ => rfl
  | 46, _ => rfl
  | 47, _ => rfl
  | k + 48, h => exact absurd h (by omega)
