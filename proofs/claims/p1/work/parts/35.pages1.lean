set_option maxHeartbeats 4000000 in
set_option maxRecDepth 100000 in
theorem c_T_reset {l : Launch} {D : va_G} {A : Nat → Prop} {cI cB cZ cJ cN : ClassId} {loc : Nat → Nat} {val : Nat → va_E} (r c : Int32) (h5 : val 5 = .inr (3, [.ref (loc 6), .ref (loc 8), .ref (loc 10), .ref (loc 12), .ref (loc 14), .ref (loc 16), .ref (loc 18), .ref (loc 20), .int 0, .int 0, .int 0])) (h6 : val 6 = .inr (1, [.ref (loc 7), .int 0])) (h8 : val 8 = .inr (1, [.ref (loc 9), .int 0])) (h10 : val 10 = .inr (1, [.ref (loc 11), .int 0])) (h12 : val 12 = .inr (1, [.ref (loc 13), .int 0])) (h14 : val 14 = .inr (1, [.ref (loc 15), .int 0])) (h16 : val 16 = .inr (1, [.ref (loc 17), .int 0])) (h18 : val 18 = .inr (1, [.ref (loc 19), .int 0])) (h20 : val 20 = .inr (1, [.ref (loc 21), .int 0]))  : kM l y_T_reset (Cond.code y_T_reset b_T_reset 3 none :: TT) (rmL 2) D CL (TY cI cB cZ cJ cN) A [.ref (loc 5), .int r, .int c] (kd 77) loc val (fun rv d lo va kc ns => rv = none ∧ kd 77 = d ∧ loc = lo ∧ va_up (va_up (va_up (val) 5 (.inr (3, [.ref (loc 6), .ref (loc 8), .ref (loc 10), .ref (loc 12), .ref (loc 14), .ref (loc 16), .ref (loc 18), .ref (loc 20), .int r, .int 0, .int 0]))) 5 (.inr (3, [.ref (loc 6), .ref (loc 8), .ref (loc 10), .ref (loc 12), .ref (loc 14), .ref (loc 16), .ref (loc 18), .ref (loc 20), .int r, .int c, .int 0]))) 5 (.inr (3, [.ref (loc 6), .ref (loc 8), .ref (loc 10), .ref (loc 12), .ref (loc 14), .ref (loc 16), .ref (loc 18), .ref (loc 20), .int r, .int c, .int 0])) = va ∧ kc = 0 ∧ ns = 0) := by
  refine kM_of (lv0 := [some (.ref (loc 5)), some (.int r), some (.int c)]) (own := "ProsePages$Sheet") (by decide) rfl (List.forall_mem_cons.mpr ⟨rfl, List.forall_mem_cons.mpr ⟨rfl, List.forall_mem_cons.mpr ⟨rfl, fun _ h => nomatch h⟩⟩⟩) (Nat.le_of_ble_eq_true rfl) rfl (Nat.le_of_ble_eq_true rfl) (fun X hl hX hE hin0 => ?_)
  refine v_aload_n hX d_T_reset_0 rfl rfl ?_
  refine v_get hX 5 (v := .ref (loc 6)) inT3 (kd_b rfl) rfl h5 rfl 0 (by decide) k_53 rfl rfl d_T_reset_1 ?_
  refine v_iconst (v := 0) hX d_T_reset_4 (by decide) ?_
  refine c_V hX 6 (rest := []) hl (c_R_cut 6 0 (kd_b rfl) h6 (by decide)) k_429 k_209 k_210 k_3 k_211 rfl q_R_cut ⟨(Nat.le_of_ble_eq_true rfl), (Nat.le_of_ble_eq_true rfl)⟩ (kd_b rfl) rfl h6 rfl rfl rfl rfl (Nat.le_of_ble_eq_true rfl) d_T_reset_5 ⟨(Nat.le_of_ble_eq_true rfl), (Nat.le_of_ble_eq_true rfl)⟩ (fun rv d2 lo2 va2 kc ns hp => ?_)
  obtain ⟨rfl, rfl, rfl, rfl, rfl, rfl⟩ := hp
  show V X D CL A _ _ _ _ _ _ _ []
  refine v_aload_n hX d_T_reset_8 rfl rfl ?_
  refine v_get hX 5 (v := .ref (loc 8)) inT3 (kd_b rfl) rfl h5 rfl 1 (by decide) k_54 rfl rfl d_T_reset_9 ?_
  refine v_iconst (v := 0) hX d_T_reset_12 (by decide) ?_
  refine c_V hX 8 (rest := []) hl (c_R_cut 8 0 (kd_b rfl) h8 (by decide)) k_429 k_209 k_210 k_3 k_211 rfl q_R_cut ⟨(Nat.le_of_ble_eq_true rfl), (Nat.le_of_ble_eq_true rfl)⟩ (kd_b rfl) rfl h8 rfl rfl rfl rfl (Nat.le_of_ble_eq_true rfl) d_T_reset_13 ⟨(Nat.le_of_ble_eq_true rfl), (Nat.le_of_ble_eq_true rfl)⟩ (fun rv d2 lo2 va2 kc ns hp => ?_)
  obtain ⟨rfl, rfl, rfl, rfl, rfl, rfl⟩ := hp
  show V X D CL A _ _ _ _ _ _ _ []
  refine v_aload_n hX d_T_reset_16 rfl rfl ?_
  refine v_get hX 5 (v := .ref (loc 10)) inT3 (kd_b rfl) rfl h5 rfl 2 (by decide) k_55 rfl rfl d_T_reset_17 ?_
  refine v_iconst (v := 0) hX d_T_reset_20 (by decide) ?_
  refine c_V hX 10 (rest := []) hl (c_R_cut 10 0 (kd_b rfl) h10 (by decide)) k_429 k_209 k_210 k_3 k_211 rfl q_R_cut ⟨(Nat.le_of_ble_eq_true rfl), (Nat.le_of_ble_eq_true rfl)⟩ (kd_b rfl) rfl h10 rfl rfl rfl rfl (Nat.le_of_ble_eq_true rfl) d_T_reset_21 ⟨(Nat.le_of_ble_eq_true rfl), (Nat.le_of_ble_eq_true rfl)⟩ (fun rv d2 lo2 va2 kc ns hp => ?_)
  obtain ⟨rfl, rfl, rfl, rfl, rfl, rfl⟩ := hp
  show V X D CL A _ _ _ _ _ _ _ []
  refine v_aload_n hX d_T_reset_24 rfl rfl ?_
  refine v_get hX 5 (v := .ref (loc 12)) inT3 (kd_b rfl) rfl h5 rfl 3 (by decide) k_57 rfl rfl d_T_reset_25 ?_
  refine v_iconst (v := 0) hX d_T_reset_28 (by decide) ?_
  refine c_V hX 12 (rest := []) hl (c_R_cut 12 0 (kd_b rfl) h12 (by decide)) k_429 k_209 k_210 k_3 k_211 rfl q_R_cut ⟨(Nat.le_of_ble_eq_true rfl), (Nat.le_of_ble_eq_true rfl)⟩ (kd_b rfl) rfl h12 rfl rfl rfl rfl (Nat.le_of_ble_eq_true rfl) d_T_reset_29 ⟨(Nat.le_of_ble_eq_true rfl), (Nat.le_of_ble_eq_true rfl)⟩ (fun rv d2 lo2 va2 kc ns hp => ?_)
  obtain ⟨rfl, rfl, rfl, rfl, rfl, rfl⟩ := hp
  show V X D CL A _ _ _ _ _ _ _ []
  refine v_aload_n hX d_T_reset_32 rfl rfl ?_
  refine v_get hX 5 (v := .ref (loc 14)) inT3 (kd_b rfl) rfl h5 rfl 4 (by decide) k_59 rfl rfl d_T_reset_33 ?_
  refine v_iconst (v := 0) hX d_T_reset_36 (by decide) ?_
  refine c_V hX 14 (rest := []) hl (c_R_cut 14 0 (kd_b rfl) h14 (by decide)) k_429 k_209 k_210 k_3 k_211 rfl q_R_cut ⟨(Nat.le_of_ble_eq_true rfl), (Nat.le_of_ble_eq_true rfl)⟩ (kd_b rfl) rfl h14 rfl rfl rfl rfl (Nat.le_of_ble_eq_true rfl) d_T_reset_37 ⟨(Nat.le_of_ble_eq_true rfl), (Nat.le_of_ble_eq_true rfl)⟩ (fun rv d2 lo2 va2 kc ns hp => ?_)
  obtain ⟨rfl, rfl, rfl, rfl, rfl, rfl⟩ := hp
  show V X D CL A _ _ _ _ _ _ _ []
  refine v_aload_n hX d_T_reset_40 rfl rfl ?_
  refine v_get hX 5 (v := .ref (loc 16)) inT3 (kd_b rfl) rfl h5 rfl 5 (by decide) k_62 rfl rfl d_T_reset_41 ?_
  refine v_iconst (v := 0) hX d_T_reset_44 (by decide) ?_
  refine c_V hX 16 (rest := []) hl (c_R_cut 16 0 (kd_b rfl) h16 (by decide)) k_429 k_209 k_210 k_3 k_211 rfl q_R_cut ⟨(Nat.le_of_ble_eq_true rfl), (Nat.le_of_ble_eq_true rfl)⟩ (kd_b rfl) rfl h16 rfl rfl rfl rfl (Nat.le_of_ble_eq_true rfl) d_T_reset_45 ⟨(Nat.le_of_ble_eq_true rfl), (Nat.le_of_ble_eq_true rfl)⟩ (fun rv d2 lo2 va2 kc ns hp => ?_)
  obtain ⟨rfl, rfl, rfl, rfl, rfl, rfl⟩ := hp
  show V X D CL A _ _ _ _ _ _ _ []
  refine v_aload_n hX d_T_reset_48 rfl rfl ?_
  refine v_get hX 5 (v := .ref (loc 18)) inT3 (kd_b rfl) rfl h5 rfl 6 (by decide) k_63 rfl rfl d_T_reset_49 ?_
  refine v_iconst (v := 0) hX d_T_reset_52 (by decide) ?_
  refine c_V hX 18 (rest := []) hl (c_R_cut 18 0 (kd_b rfl) h18 (by decide)) k_429 k_209 k_210 k_3 k_211 rfl q_R_cut ⟨(Nat.le_of_ble_eq_true rfl), (Nat.le_of_ble_eq_true rfl)⟩ (kd_b rfl) rfl h18 rfl rfl rfl rfl (Nat.le_of_ble_eq_true rfl) d_T_reset_53 ⟨(Nat.le_of_ble_eq_true rfl), (Nat.le_of_ble_eq_true rfl)⟩ (fun rv d2 lo2 va2 kc ns hp => ?_)
  obtain ⟨rfl, rfl, rfl, rfl, rfl, rfl⟩ := hp
  show V X D CL A _ _ _ _ _ _ _ []
  refine v_aload_n hX d_T_reset_56 rfl rfl ?_
  refine v_get hX 5 (v := .ref (loc 20)) inT3 (kd_b rfl) rfl h5 rfl 7 (by decide) k_65 rfl rfl d_T_reset_57 ?_
  refine v_iconst (v := 0) hX d_T_reset_60 (by decide) ?_
  refine c_V hX 20 (rest := []) hl (c_R_cut 20 0 (kd_b rfl) h20 (by decide)) k_429 k_209 k_210 k_3 k_211 rfl q_R_cut ⟨(Nat.le_of_ble_eq_true rfl), (Nat.le_of_ble_eq_true rfl)⟩ (kd_b rfl) rfl h20 rfl rfl rfl rfl (Nat.le_of_ble_eq_true rfl) d_T_reset_61 ⟨(Nat.le_of_ble_eq_true rfl), (Nat.le_of_ble_eq_true rfl)⟩ (fun rv d2 lo2 va2 kc ns hp => ?_)
  obtain ⟨rfl, rfl, rfl, rfl, rfl, rfl⟩ := hp
  show V X D CL A _ _ _ _ _ _ _ []
  refine v_aload_n hX d_T_reset_64 rfl rfl ?_
  refine v_iload_n hX d_T_reset_65 rfl rfl ?_
  refine v_putE hX 5 (fs2 := [.ref (loc 6), .ref (loc 8), .ref (loc 10), .ref (loc 12), .ref (loc 14), .ref (loc 16), .ref (loc 18), .ref (loc 20), .int r, .int 0, .int 0]) inT3 tyX3 tyX3_ok nmX3 (kd_b rfl) rfl h5 rfl 8 (by decide) k_67 rfl rfl rfl rfl rfl (Nat.le_of_ble_eq_true rfl) d_T_reset_66 rfl ?_
  refine v_aload_n hX d_T_reset_69 rfl rfl ?_
  refine v_iload_n hX d_T_reset_70 rfl rfl ?_
  refine v_putE hX 5 (fs2 := [.ref (loc 6), .ref (loc 8), .ref (loc 10), .ref (loc 12), .ref (loc 14), .ref (loc 16), .ref (loc 18), .ref (loc 20), .int r, .int c, .int 0]) inT3 tyX3 tyX3_ok nmX3 (kd_b rfl) rfl rfl rfl 9 (by decide) k_69 rfl rfl rfl rfl rfl (Nat.le_of_ble_eq_true rfl) d_T_reset_71 rfl ?_
  refine v_aload_n hX d_T_reset_74 rfl rfl ?_
  refine v_iconst (v := 0) hX d_T_reset_75 (by decide) ?_
  refine v_putE hX 5 (fs2 := [.ref (loc 6), .ref (loc 8), .ref (loc 10), .ref (loc 12), .ref (loc 14), .ref (loc 16), .ref (loc 18), .ref (loc 20), .int r, .int c, .int 0]) inT3 tyX3 tyX3_ok nmX3 (kd_b rfl) rfl rfl rfl 10 (by decide) k_71 rfl rfl rfl (by decide) rfl (Nat.le_of_ble_eq_true rfl) d_T_reset_76 rfl ?_
  exact v_vret hX hE d_T_reset_79 (Nat.le_of_ble_eq_true rfl) (Nat.le_of_ble_eq_true rfl) ⟨rfl, rfl, rfl, rfl, rfl, rfl⟩
set_option maxHeartbeats 4000000 in
set_option maxRecDepth 100000 in
theorem c_T_lines {l : Launch} {D : va_G} {A : Nat → Prop} {cI cB cZ cJ cN : ClassId} {loc : Nat → Nat} {val : Nat → va_E} (r c : Int32) (h5 : val 5 = .inr (3, [.ref (loc 6), .ref (loc 8), .ref (loc 10), .ref (loc 12), .ref (loc 14), .ref (loc 16), .ref (loc 18), .ref (loc 20), .int r, .int c, .int 0])) (h8 : val 8 = .inr (1, [.ref (loc 9), .int 0]))  : kM l y_T_lineCount (Cond.code y_T_lineCount b_T_lineCount 1 (some FieldType.int) :: TT) (rmL 2) D CL (TY cI cB cZ cJ cN) A [.ref (loc 5)] (kd 77) loc val (fun rv d lo va kc ns => rv = some (.int 0) ∧ kd 77 = d ∧ loc = lo ∧ val = va ∧ kc = 0 ∧ ns = 0) := by
  refine kM_of (lv0 := [some (.ref (loc 5))]) (own := "ProsePages$Sheet") (by decide) rfl (List.forall_mem_cons.mpr ⟨rfl, fun _ h => nomatch h⟩) (Nat.le_of_ble_eq_true rfl) rfl (Nat.le_of_ble_eq_true rfl) (fun X hl hX hE hin0 => ?_)
  refine v_aload_n hX d_T_lineCount_0 rfl rfl ?_
  refine v_get hX 5 (v := .ref (loc 8)) inT3 (kd_b rfl) rfl h5 rfl 1 (by decide) k_54 rfl rfl d_T_lineCount_1 ?_
  refine c_V hX 8 (rest := []) hl (c_R_size 8 (kd_b rfl) h8) k_224 k_225 k_226 k_3 k_227 rfl q_R_size ⟨(Nat.le_of_ble_eq_true rfl), (Nat.le_of_ble_eq_true rfl)⟩ (kd_b rfl) rfl h8 rfl rfl rfl rfl (Nat.le_of_ble_eq_true rfl) d_T_lineCount_4 ⟨(Nat.le_of_ble_eq_true rfl), (Nat.le_of_ble_eq_true rfl)⟩ (fun rv d2 lo2 va2 kc ns hp => ?_)
  obtain ⟨rfl, rfl, rfl, rfl, rfl, rfl⟩ := hp
  show V X D CL A _ _ _ _ _ _ _ (.int 0 :: [])
  exact v_iret hX hE d_T_lineCount_7 (Nat.le_of_ble_eq_true rfl) (Nat.le_of_ble_eq_true rfl) ⟨rfl, rfl, rfl, rfl, rfl, rfl⟩
set_option maxHeartbeats 4000000 in
set_option maxRecDepth 100000 in
theorem c_T_pages0 {l : Launch} {D : va_G} {A : Nat → Prop} {cI cB cZ cJ cN : ClassId} {loc : Nat → Nat} {val : Nat → va_E} (r c : Int32) (h5 : val 5 = .inr (3, [.ref (loc 6), .ref (loc 8), .ref (loc 10), .ref (loc 12), .ref (loc 14), .ref (loc 16), .ref (loc 18), .ref (loc 20), .int r, .int c, .int 0])) (h18 : val 18 = .inr (1, [.ref (loc 19), .int 0]))  : kM l y_T_pageCount (Cond.code y_T_pageCount b_T_pageCount 1 (some FieldType.int) :: TT) (rmL 2) D CL (TY cI cB cZ cJ cN) A [.ref (loc 5)] (kd 77) loc val (fun rv d lo va kc ns => rv = some (.int 0) ∧ kd 77 = d ∧ loc = lo ∧ val = va ∧ kc = 0 ∧ ns = 0) := by
  refine kM_of (lv0 := [some (.ref (loc 5))]) (own := "ProsePages$Sheet") (by decide) rfl (List.forall_mem_cons.mpr ⟨rfl, fun _ h => nomatch h⟩) (Nat.le_of_ble_eq_true rfl) rfl (Nat.le_of_ble_eq_true rfl) (fun X hl hX hE hin0 => ?_)
  refine v_aload_n hX d_T_pageCount_0 rfl rfl ?_
  refine v_get hX 5 (v := .ref (loc 18)) inT3 (kd_b rfl) rfl h5 rfl 6 (by decide) k_63 rfl rfl d_T_pageCount_1 ?_
  refine c_V hX 18 (rest := []) hl (c_R_size 18 (kd_b rfl) h18) k_224 k_225 k_226 k_3 k_227 rfl q_R_size ⟨(Nat.le_of_ble_eq_true rfl), (Nat.le_of_ble_eq_true rfl)⟩ (kd_b rfl) rfl h18 rfl rfl rfl rfl (Nat.le_of_ble_eq_true rfl) d_T_pageCount_4 ⟨(Nat.le_of_ble_eq_true rfl), (Nat.le_of_ble_eq_true rfl)⟩ (fun rv d2 lo2 va2 kc ns hp => ?_)
  obtain ⟨rfl, rfl, rfl, rfl, rfl, rfl⟩ := hp
  show V X D CL A _ _ _ _ _ _ _ (.int 0 :: [])
  exact v_iret hX hE d_T_pageCount_7 (Nat.le_of_ble_eq_true rfl) (Nat.le_of_ble_eq_true rfl) ⟨rfl, rfl, rfl, rfl, rfl, rfl⟩
set_option maxHeartbeats 4000000 in
set_option maxRecDepth 100000 in
theorem c_S_layParts {l : Launch} {D : va_G} {A : Nat → Prop} {cI cB cZ cJ cN : ClassId} {loc : Nat → Nat} {val : Nat → va_E} (r c : Int32) (w : Int32) (h2 : val 2 = .inr (2, [.ref (loc 3), .ref (loc 5), .ref (loc 22), .ref (loc 24), .ref (loc 26), .ref (loc 28)])) (h5 : val 5 = .inr (3, [.ref (loc 6), .ref (loc 8), .ref (loc 10), .ref (loc 12), .ref (loc 14), .ref (loc 16), .ref (loc 18), .ref (loc 20), .int r, .int c, .int 0])) (h8 : val 8 = .inr (1, [.ref (loc 9), .int 0])) (h47 : val 47 = .inr (0, [.int 0, .int (-1), .null, .int 1, .int 0, .int 0, .int 0, .null, .null, .null, .int 0, .int (-1)]))  : kM l y_S_layParts (Cond.code y_S_layParts b_S_layParts 7 none :: TT) (rmL 3) D CL (TY cI cB cZ cJ cN) A [.ref (loc 2), .ref (loc 47), .int w] (kd 77) loc val (fun rv d lo va kc ns => rv = none ∧ kd 77 = d ∧ loc = lo ∧ val = va ∧ kc = 0 ∧ ns = 0) := by
  refine kM_of (lv0 := [some (.ref (loc 2)), some (.ref (loc 47)), some (.int w), none, none, none, none]) (own := "ProsePages$Setter") (by decide) rfl (List.forall_mem_cons.mpr ⟨rfl, List.forall_mem_cons.mpr ⟨rfl, List.forall_mem_cons.mpr ⟨rfl, fun _ h => nomatch h⟩⟩⟩) (Nat.le_of_ble_eq_true rfl) rfl (Nat.le_of_ble_eq_true rfl) (fun X hl hX hE hin0 => ?_)
  refine v_aload_n hX d_S_layParts_0 rfl rfl ?_
  refine v_get hX 2 (v := .ref (loc 5)) inT2 (kd_b rfl) rfl h2 rfl 1 (by decide) k_98 rfl rfl d_S_layParts_1 ?_
  refine c_V hX 5 (rest := []) hl (c_T_lines r c h5 h8 ) k_434 k_243 k_244 k_4 k_245 rfl q_T_lineCount ⟨(Nat.le_of_ble_eq_true rfl), (Nat.le_of_ble_eq_true rfl)⟩ (kd_b rfl) rfl h5 rfl rfl rfl rfl (Nat.le_of_ble_eq_true rfl) d_S_layParts_4 ⟨(Nat.le_of_ble_eq_true rfl), (Nat.le_of_ble_eq_true rfl)⟩ (fun rv d2 lo2 va2 kc ns hp => ?_)
  obtain ⟨rfl, rfl, rfl, rfl, rfl, rfl⟩ := hp
  show V X D CL A _ _ _ _ _ _ _ (.int 0 :: [])
  refine v_istore_n (lv' := [some (.ref (loc 2)), some (.ref (loc 47)), some (.int w), some (.int 0), none, none, none]) hX d_S_layParts_7 rfl (Nat.le_of_ble_eq_true rfl) rfl ?_
  refine v_aload_n hX d_S_layParts_8 rfl rfl ?_
  refine v_get hX 47 (v := .int (-1)) inT0 (kd_b rfl) rfl h47 rfl 1 (by decide) k_127 rfl rfl d_S_layParts_9 ?_
  refine v_bipush (v := 7) hX d_S_layParts_12 (by decide) ?_
  refine v_icmp_ne hX d_S_layParts_14 (tgt := 25) (by decide) (fun _ => ?_) (fun c => absurd c (by decide))
  refine v_iconst (v := 1) hX d_S_layParts_25 (by decide) ?_
  refine v_goto hX d_S_layParts_26 (tgt := 30) (by decide) ?_
  refine v_istore (lv' := [some (.ref (loc 2)), some (.ref (loc 47)), some (.int w), some (.int 0), some (.int 1), none, none]) hX d_S_layParts_30 (Nat.le_of_ble_eq_true rfl) rfl ?_
  refine v_aload_n hX d_S_layParts_32 rfl rfl ?_
  refine v_get hX 47 (v := .null) inT0 (kd_b rfl) rfl h47 rfl 7 (by decide) k_140 rfl rfl d_S_layParts_33 ?_
  refine v_astoreQ (lv' := [some (.ref (loc 2)), some (.ref (loc 47)), some (.int w), some (.int 0), some (.int 1), some (.null), none]) hX none d_S_layParts_36 (Nat.le_of_ble_eq_true rfl) rfl ?_
  refine v_aloadQ hX none d_S_layParts_38 rfl ?_
  refine v_ifnull hX none d_S_layParts_40 (tgt := 100) (by decide) (fun _ => ?_) (fun _ h => nomatch h)
  exact v_vret hX hE d_S_layParts_100 (Nat.le_of_ble_eq_true rfl) (Nat.le_of_ble_eq_true rfl) ⟨rfl, rfl, rfl, rfl, rfl, rfl⟩
set_option maxHeartbeats 4000000 in
set_option maxRecDepth 100000 in
theorem c_T_fill {l : Launch} {D : va_G} {A : Nat → Prop} {cI cB cZ cJ cN : ClassId} {loc : Nat → Nat} {val : Nat → va_E} (r c : Int32) (h5 : val 5 = .inr (3, [.ref (loc 6), .ref (loc 8), .ref (loc 10), .ref (loc 12), .ref (loc 14), .ref (loc 16), .ref (loc 18), .ref (loc 20), .int r, .int c, .int 0])) (h8 : val 8 = .inr (1, [.ref (loc 9), .int 0])) (h18 : val 18 = .inr (1, [.ref (loc 19), .int 0])) (h19 : val 19 = .inl (cI, 16, .inl (fun _ => 0))) (h20 : val 20 = .inr (1, [.ref (loc 21), .int 0])) (h21 : val 21 = .inl (cI, 16, .inl (fun _ => 0)))  : kM l y_T_fillPages (Cond.code y_T_fillPages b_T_fillPages 3 none :: TT) (rmL 3) D CL (TY cI cB cZ cJ cN) A [.ref (loc 5)] (kd 77) loc val (fun rv d lo va kc ns => rv = none ∧ kd 77 = d ∧ loc = lo ∧ va_up (va_up (va_up (va_up (val) 19 (.inl (cI, 16, .inl (upd (fun _ => 0) (Int32.toNatClampNeg 0) 0)))) 18 (.inr (1, [.ref (loc 19), .int 1]))) 21 (.inl (cI, 16, .inl (upd (fun _ => 0) (Int32.toNatClampNeg 0) 0)))) 20 (.inr (1, [.ref (loc 21), .int 1])) = va ∧ kc = 0 ∧ ns = 0) := by
  refine kM_of (lv0 := [some (.ref (loc 5)), none, none]) (own := "ProsePages$Sheet") (by decide) rfl (List.forall_mem_cons.mpr ⟨rfl, fun _ h => nomatch h⟩) (Nat.le_of_ble_eq_true rfl) rfl (Nat.le_of_ble_eq_true rfl) (fun X hl hX hE hin0 => ?_)
  refine v_iconst (v := 0) hX d_T_fillPages_0 (by decide) ?_
  refine v_istore_n (lv' := [some (.ref (loc 5)), some (.int 0), none]) hX d_T_fillPages_1 rfl (Nat.le_of_ble_eq_true rfl) rfl ?_
  refine v_iconst (v := 0) hX d_T_fillPages_2 (by decide) ?_
  refine v_istore_n (lv' := [some (.ref (loc 5)), some (.int 0), some (.int 0)]) hX d_T_fillPages_3 rfl (Nat.le_of_ble_eq_true rfl) rfl ?_
  refine v_iload_n hX d_T_fillPages_4 rfl rfl ?_
  refine v_aload_n hX d_T_fillPages_5 rfl rfl ?_
  refine c_V hX 5 (rest := [.int 0]) hl (c_T_lines r c h5 h8 ) k_554 k_243 k_244 k_4 k_245 rfl q_T_lineCount ⟨(Nat.le_of_ble_eq_true rfl), (Nat.le_of_ble_eq_true rfl)⟩ (kd_b rfl) rfl h5 rfl rfl rfl rfl (Nat.le_of_ble_eq_true rfl) d_T_fillPages_6 ⟨(Nat.le_of_ble_eq_true rfl), (Nat.le_of_ble_eq_true rfl)⟩ (fun rv d2 lo2 va2 kc ns hp => ?_)
  obtain ⟨rfl, rfl, rfl, rfl, rfl, rfl⟩ := hp
  show V X D CL A _ _ _ _ _ _ _ (.int 0 :: [.int 0])
  refine v_icmp_ge hX d_T_fillPages_9 (tgt := 110) (by decide) (fun _ => ?_) (fun c => absurd (by decide) c)
  refine v_aload_n hX d_T_fillPages_110 rfl rfl ?_
  refine c_V hX 5 (rest := []) hl (c_T_pages0 r c h5 h18 ) k_220 k_221 k_222 k_4 k_223 rfl q_T_pageCount ⟨(Nat.le_of_ble_eq_true rfl), (Nat.le_of_ble_eq_true rfl)⟩ (kd_b rfl) rfl h5 rfl rfl rfl rfl (Nat.le_of_ble_eq_true rfl) d_T_fillPages_111 ⟨(Nat.le_of_ble_eq_true rfl), (Nat.le_of_ble_eq_true rfl)⟩ (fun rv d2 lo2 va2 kc ns hp => ?_)
  obtain ⟨rfl, rfl, rfl, rfl, rfl, rfl⟩ := hp
  show V X D CL A _ _ _ _ _ _ _ (.int 0 :: [])
  refine v_if_ne hX d_T_fillPages_114 (tgt := 136) (by decide) (fun c => absurd (by decide) c) (fun _ => ?_)
  refine v_aload_n hX d_T_fillPages_117 rfl rfl ?_
  refine v_get hX 5 (v := .ref (loc 18)) inT3 (kd_b rfl) rfl h5 rfl 6 (by decide) k_63 rfl rfl d_T_fillPages_118 ?_
  refine v_aload_n hX d_T_fillPages_121 rfl rfl ?_
  refine c_V hX 5 (rest := [.ref (loc 18)]) hl (c_T_lines r c h5 h8 ) k_554 k_243 k_244 k_4 k_245 rfl q_T_lineCount ⟨(Nat.le_of_ble_eq_true rfl), (Nat.le_of_ble_eq_true rfl)⟩ (kd_b rfl) rfl h5 rfl rfl rfl rfl (Nat.le_of_ble_eq_true rfl) d_T_fillPages_122 ⟨(Nat.le_of_ble_eq_true rfl), (Nat.le_of_ble_eq_true rfl)⟩ (fun rv d2 lo2 va2 kc ns hp => ?_)
  obtain ⟨rfl, rfl, rfl, rfl, rfl, rfl⟩ := hp
  show V X D CL A _ _ _ _ _ _ _ (.int 0 :: [.ref (loc 18)])
  refine c_V hX 18 (rest := []) hl (c_R_add 18 19 0 (by decide) (kd_b rfl) (kd_b rfl) h18 h19) k_476 k_380 k_381 k_3 k_382 rfl q_R_add ⟨(Nat.le_of_ble_eq_true rfl), (Nat.le_of_ble_eq_true rfl)⟩ (kd_b rfl) rfl h18 rfl rfl rfl rfl (Nat.le_of_ble_eq_true rfl) d_T_fillPages_125 ⟨(Nat.le_of_ble_eq_true rfl), (Nat.le_of_ble_eq_true rfl)⟩ (fun rv d2 lo2 va2 kc ns hp => ?_)
  obtain ⟨rfl, rfl, rfl, rfl, rfl, rfl⟩ := hp
  show V X D CL A _ _ _ _ _ _ _ []
  refine v_aload_n hX d_T_fillPages_128 rfl rfl ?_
  refine v_get hX 5 (v := .ref (loc 20)) inT3 (kd_b rfl) rfl h5 rfl 7 (by decide) k_65 rfl rfl d_T_fillPages_129 ?_
  refine v_iconst (v := 0) hX d_T_fillPages_132 (by decide) ?_
  refine c_V hX 20 (rest := []) hl (c_R_add 20 21 0 (by decide) (kd_b rfl) (kd_b rfl) h20 h21) k_476 k_380 k_381 k_3 k_382 rfl q_R_add ⟨(Nat.le_of_ble_eq_true rfl), (Nat.le_of_ble_eq_true rfl)⟩ (kd_b rfl) rfl h20 rfl rfl rfl rfl (Nat.le_of_ble_eq_true rfl) d_T_fillPages_133 ⟨(Nat.le_of_ble_eq_true rfl), (Nat.le_of_ble_eq_true rfl)⟩ (fun rv d2 lo2 va2 kc ns hp => ?_)
  obtain ⟨rfl, rfl, rfl, rfl, rfl, rfl⟩ := hp
  show V X D CL A _ _ _ _ _ _ _ []
  exact v_vret hX hE d_T_fillPages_136 (Nat.le_of_ble_eq_true rfl) (Nat.le_of_ble_eq_true rfl) ⟨rfl, rfl, rfl, rfl, rfl, rfl⟩
set_option maxHeartbeats 4000000 in
set_option maxRecDepth 100000 in
theorem c_T_pages1 {l : Launch} {D : va_G} {A : Nat → Prop} {cI cB cZ cJ cN : ClassId} {loc : Nat → Nat} {val : Nat → va_E} (r c : Int32) (h5 : val 5 = .inr (3, [.ref (loc 6), .ref (loc 8), .ref (loc 10), .ref (loc 12), .ref (loc 14), .ref (loc 16), .ref (loc 18), .ref (loc 20), .int r, .int c, .int 0])) (h18 : val 18 = .inr (1, [.ref (loc 19), .int 1]))  : kM l y_T_pageCount (Cond.code y_T_pageCount b_T_pageCount 1 (some FieldType.int) :: TT) (rmL 2) D CL (TY cI cB cZ cJ cN) A [.ref (loc 5)] (kd 77) loc val (fun rv d lo va kc ns => rv = some (.int 1) ∧ kd 77 = d ∧ loc = lo ∧ val = va ∧ kc = 0 ∧ ns = 0) := by
  refine kM_of (lv0 := [some (.ref (loc 5))]) (own := "ProsePages$Sheet") (by decide) rfl (List.forall_mem_cons.mpr ⟨rfl, fun _ h => nomatch h⟩) (Nat.le_of_ble_eq_true rfl) rfl (Nat.le_of_ble_eq_true rfl) (fun X hl hX hE hin0 => ?_)
  refine v_aload_n hX d_T_pageCount_0 rfl rfl ?_
  refine v_get hX 5 (v := .ref (loc 18)) inT3 (kd_b rfl) rfl h5 rfl 6 (by decide) k_63 rfl rfl d_T_pageCount_1 ?_
  refine c_V hX 18 (rest := []) hl (c_R_size 18 (kd_b rfl) h18) k_224 k_225 k_226 k_3 k_227 rfl q_R_size ⟨(Nat.le_of_ble_eq_true rfl), (Nat.le_of_ble_eq_true rfl)⟩ (kd_b rfl) rfl h18 rfl rfl rfl rfl (Nat.le_of_ble_eq_true rfl) d_T_pageCount_4 ⟨(Nat.le_of_ble_eq_true rfl), (Nat.le_of_ble_eq_true rfl)⟩ (fun rv d2 lo2 va2 kc ns hp => ?_)
  obtain ⟨rfl, rfl, rfl, rfl, rfl, rfl⟩ := hp
  show V X D CL A _ _ _ _ _ _ _ (.int 1 :: [])
  exact v_iret hX hE d_T_pageCount_7 (Nat.le_of_ble_eq_true rfl) (Nat.le_of_ble_eq_true rfl) ⟨rfl, rfl, rfl, rfl, rfl, rfl⟩
set_option maxHeartbeats 4000000 in
set_option maxRecDepth 100000 in
theorem c_T_from {l : Launch} {D : va_G} {A : Nat → Prop} {cI cB cZ cJ cN : ClassId} {loc : Nat → Nat} {val : Nat → va_E} (r c : Int32) (h5 : val 5 = .inr (3, [.ref (loc 6), .ref (loc 8), .ref (loc 10), .ref (loc 12), .ref (loc 14), .ref (loc 16), .ref (loc 18), .ref (loc 20), .int r, .int c, .int 0])) (h8 : val 8 = .inr (1, [.ref (loc 9), .int 0])) (h18 : val 18 = .inr (1, [.ref (loc 19), .int 1]))  : kM l y_T_pageFrom (Cond.code y_T_pageFrom b_T_pageFrom 3 (some FieldType.int) :: TT) (rmL 3) D CL (TY cI cB cZ cJ cN) A [.ref (loc 5), .int 0] (kd 77) loc val (fun rv d lo va kc ns => rv = some (.int 0) ∧ kd 77 = d ∧ loc = lo ∧ val = va ∧ kc = 0 ∧ ns = 0) := by
  refine kM_of (lv0 := [some (.ref (loc 5)), some (.int 0), none]) (own := "ProsePages$Sheet") (by decide) rfl (List.forall_mem_cons.mpr ⟨rfl, List.forall_mem_cons.mpr ⟨rfl, fun _ h => nomatch h⟩⟩) (Nat.le_of_ble_eq_true rfl) rfl (Nat.le_of_ble_eq_true rfl) (fun X hl hX hE hin0 => ?_)
  refine v_iload_n hX d_T_pageFrom_0 rfl rfl ?_
  refine v_istore_n (lv' := [some (.ref (loc 5)), some (.int 0), some (.int 0)]) hX d_T_pageFrom_1 rfl (Nat.le_of_ble_eq_true rfl) rfl ?_
  refine v_iload_n hX d_T_pageFrom_2 rfl rfl ?_
  refine v_aload_n hX d_T_pageFrom_3 rfl rfl ?_
  refine c_V hX 5 (rest := [.int 0]) hl (c_T_lines r c h5 h8 ) k_554 k_243 k_244 k_4 k_245 rfl q_T_lineCount ⟨(Nat.le_of_ble_eq_true rfl), (Nat.le_of_ble_eq_true rfl)⟩ (kd_b rfl) rfl h5 rfl rfl rfl rfl (Nat.le_of_ble_eq_true rfl) d_T_pageFrom_4 ⟨(Nat.le_of_ble_eq_true rfl), (Nat.le_of_ble_eq_true rfl)⟩ (fun rv d2 lo2 va2 kc ns hp => ?_)
  obtain ⟨rfl, rfl, rfl, rfl, rfl, rfl⟩ := hp
  show V X D CL A _ _ _ _ _ _ _ (.int 0 :: [.int 0])
  refine v_icmp_ge hX d_T_pageFrom_7 (tgt := 48) (by decide) (fun _ => ?_) (fun c => absurd (by decide) c)
  refine v_aload_n hX d_T_pageFrom_48 rfl rfl ?_
  refine c_V hX 5 (rest := []) hl (c_T_pages1 r c h5 h18 ) k_220 k_221 k_222 k_4 k_223 rfl q_T_pageCount ⟨(Nat.le_of_ble_eq_true rfl), (Nat.le_of_ble_eq_true rfl)⟩ (kd_b rfl) rfl h5 rfl rfl rfl rfl (Nat.le_of_ble_eq_true rfl) d_T_pageFrom_49 ⟨(Nat.le_of_ble_eq_true rfl), (Nat.le_of_ble_eq_true rfl)⟩ (fun rv d2 lo2 va2 kc ns hp => ?_)
  obtain ⟨rfl, rfl, rfl, rfl, rfl, rfl⟩ := hp
  show V X D CL A _ _ _ _ _ _ _ (.int 1 :: [])
  refine v_iconst (v := 1) hX d_T_pageFrom_52 (by decide) ?_
  refine v_isubE (v := 0) hX d_T_pageFrom_53 (by decide) ?_
  exact v_iret hX hE d_T_pageFrom_54 (Nat.le_of_ble_eq_true rfl) (Nat.le_of_ble_eq_true rfl) ⟨rfl, rfl, rfl, rfl, rfl, rfl⟩
set_option maxHeartbeats 4000000 in
set_option maxRecDepth 100000 in
theorem c_P_pageOf {l : Launch} {D : va_G} {A : Nat → Prop} {cI cB cZ cJ cN : ClassId} {loc : Nat → Nat} {val : Nat → va_E} (r c : Int32) (h47 : val 47 = .inr (0, [.int 0, .int (-1), .null, .int 1, .int 0, .int 0, .int 0, .null, .null, .null, .int 0, .int (-1)])) (h0 : val 0 = .inr (4, [.ref (loc 1), .ref (loc 2), .ref (loc 47), .ref (loc 47), .int 1, .int 0, .ref (loc 5), .int 1])) (h5 : val 5 = .inr (3, [.ref (loc 6), .ref (loc 8), .ref (loc 10), .ref (loc 12), .ref (loc 14), .ref (loc 16), .ref (loc 18), .ref (loc 20), .int r, .int c, .int 0])) (h8 : val 8 = .inr (1, [.ref (loc 9), .int 0])) (h18 : val 18 = .inr (1, [.ref (loc 19), .int 1]))  : kM l y_P_pageOfNode (Cond.code y_P_pageOfNode b_P_pageOfNode 3 (some FieldType.int) :: TT) (rmL 4) D CL (TY cI cB cZ cJ cN) A [.ref (loc 0), .ref (loc 47)] (kd 77) loc val (fun rv d lo va kc ns => rv = some (.int 0) ∧ kd 77 = d ∧ loc = lo ∧ val = va ∧ kc = 0 ∧ ns = 0) := by
  refine kM_of (lv0 := [some (.ref (loc 0)), some (.ref (loc 47)), none]) (own := "ProsePages") (by decide) rfl (List.forall_mem_cons.mpr ⟨rfl, List.forall_mem_cons.mpr ⟨rfl, fun _ h => nomatch h⟩⟩) (Nat.le_of_ble_eq_true rfl) rfl (Nat.le_of_ble_eq_true rfl) (fun X hl hX hE hin0 => ?_)
  refine v_aload_n hX d_P_pageOfNode_0 rfl rfl ?_
  refine v_get hX 47 (v := .null) inT0 (kd_b rfl) rfl h47 rfl 2 (by decide) k_130 rfl rfl d_P_pageOfNode_1 ?_
  refine v_astore_nQ (lv' := [some (.ref (loc 0)), some (.ref (loc 47)), some (.null)]) hX none d_P_pageOfNode_4 rfl (Nat.le_of_ble_eq_true rfl) rfl ?_
  refine v_aload_nQ hX none d_P_pageOfNode_5 rfl rfl ?_
  refine v_ifnull hX none d_P_pageOfNode_6 (tgt := 30) (by decide) (fun _ => ?_) (fun _ h => nomatch h)
  refine v_aload_n hX d_P_pageOfNode_30 rfl rfl ?_
  refine v_get hX 0 (v := .ref (loc 5)) inT4 (kd_b rfl) rfl h0 rfl 6 (by decide) k_181 rfl rfl d_P_pageOfNode_31 ?_
  refine v_aload_n hX d_P_pageOfNode_34 rfl rfl ?_
  refine v_get hX 47 (v := .int 0) inT0 (kd_b rfl) rfl h47 rfl 10 (by decide) k_147 rfl rfl d_P_pageOfNode_35 ?_
  refine c_V hX 5 (rest := []) hl (c_T_from r c h5 h8 h18 ) k_570 k_571 k_572 k_4 k_573 rfl q_T_pageFrom ⟨(Nat.le_of_ble_eq_true rfl), (Nat.le_of_ble_eq_true rfl)⟩ (kd_b rfl) rfl h5 rfl rfl rfl rfl (Nat.le_of_ble_eq_true rfl) d_P_pageOfNode_38 ⟨(Nat.le_of_ble_eq_true rfl), (Nat.le_of_ble_eq_true rfl)⟩ (fun rv d2 lo2 va2 kc ns hp => ?_)
  obtain ⟨rfl, rfl, rfl, rfl, rfl, rfl⟩ := hp
  show V X D CL A _ _ _ _ _ _ _ (.int 0 :: [])
  exact v_iret hX hE d_P_pageOfNode_41 (Nat.le_of_ble_eq_true rfl) (Nat.le_of_ble_eq_true rfl) ⟨rfl, rfl, rfl, rfl, rfl, rfl⟩
set_option maxHeartbeats 4000000 in
set_option maxRecDepth 100000 in
theorem c_P_nodeAt2 {l : Launch} {D : va_G} {A : Nat → Prop} {cI cB cZ cJ cN : ClassId} {loc : Nat → Nat} {val : Nat → va_E}  (h0 : val 0 = .inr (4, [.ref (loc 1), .ref (loc 2), .ref (loc 47), .ref (loc 47), .int 1, .int 0, .ref (loc 5), .int 1])) (h1 : val 1 = .inl (cN, 300, .inr (.inr (.inr (.inr (va_up (fun _ => none) (Int32.toNatClampNeg 0) (some (loc 47))))))))  : kM l y_P_nodeAt (Cond.code y_P_nodeAt b_P_nodeAt 2 (some (FieldType.object "ProsePages$Node")) :: TT) (rmL 1) D CL (TY cI cB cZ cJ cN) A [.ref (loc 0), .int 0] (kd 77) loc val (fun rv d lo va kc ns => rv = some (.ref (loc 47)) ∧ kd 77 = d ∧ loc = lo ∧ val = va ∧ kc = 0 ∧ ns = 0) := by
  refine kM_of (lv0 := [some (.ref (loc 0)), some (.int 0)]) (own := "ProsePages") (by decide) rfl (List.forall_mem_cons.mpr ⟨rfl, List.forall_mem_cons.mpr ⟨rfl, fun _ h => nomatch h⟩⟩) (Nat.le_of_ble_eq_true rfl) rfl (Nat.le_of_ble_eq_true rfl) (fun X hl hX hE hin0 => ?_)
  refine v_iload_n hX d_P_nodeAt_0 rfl rfl ?_
  refine v_if_lt hX d_P_nodeAt_1 (tgt := 30) (by decide) (fun c => absurd c (by decide)) (fun _ => ?_)
  refine v_iload_n hX d_P_nodeAt_4 rfl rfl ?_
  refine v_aload_n hX d_P_nodeAt_5 rfl rfl ?_
  refine v_get hX 0 (v := .int 1) inT4 (kd_b rfl) rfl h0 rfl 4 (by decide) k_179 rfl rfl d_P_nodeAt_6 ?_
  refine v_icmp_ge hX d_P_nodeAt_9 (tgt := 30) (by decide) (fun c => absurd c (by decide)) (fun _ => ?_)
  refine v_iload_n hX d_P_nodeAt_12 rfl rfl ?_
  refine v_aload_n hX d_P_nodeAt_13 rfl rfl ?_
  refine v_get hX 0 (v := .ref (loc 1)) inT4 (kd_b rfl) rfl h0 rfl 0 (by decide) k_175 rfl rfl d_P_nodeAt_14 ?_
  refine v_alen hX 1 4 (v := 300) (kd_b rfl) rfl h1 rfl rfl d_P_nodeAt_17 ?_
  refine v_icmp_ge hX d_P_nodeAt_18 (tgt := 30) (by decide) (fun c => absurd c (by decide)) (fun _ => ?_)
  refine v_aload_n hX d_P_nodeAt_21 rfl rfl ?_
  refine v_get hX 0 (v := .ref (loc 1)) inT4 (kd_b rfl) rfl h0 rfl 0 (by decide) k_175 rfl rfl d_P_nodeAt_22 ?_
  refine v_iload_n hX d_P_nodeAt_25 rfl rfl ?_
  refine v_aldr hX 1 4 (b := (loc 47)) (kd_b rfl) rfl h1 rfl (vpb (by decide)) rfl d_P_nodeAt_26 ?_
  refine v_goto hX d_P_nodeAt_27 (tgt := 31) (by decide) ?_
  exact v_aret hX hE (some (loc 47)) d_P_nodeAt_31 (Nat.le_of_ble_eq_true rfl) (Nat.le_of_ble_eq_true rfl) ⟨rfl, rfl, rfl, rfl, rfl, rfl⟩
set_option maxHeartbeats 4000000 in
set_option maxRecDepth 100000 in
theorem c_P_place {l : Launch} {D : va_G} {A : Nat → Prop} {cI cB cZ cJ cN : ClassId} {loc : Nat → Nat} {val : Nat → va_E} (r c : Int32) (h0 : val 0 = .inr (4, [.ref (loc 1), .ref (loc 2), .ref (loc 47), .ref (loc 47), .int 1, .int 0, .ref (loc 5), .int 1])) (h1 : val 1 = .inl (cN, 300, .inr (.inr (.inr (.inr (va_up (fun _ => none) (Int32.toNatClampNeg 0) (some (loc 47)))))))) (h47 : val 47 = .inr (0, [.int 0, .int (-1), .null, .int 1, .int 0, .int 0, .int 0, .null, .null, .null, .int 0, .int (-1)])) (h5 : val 5 = .inr (3, [.ref (loc 6), .ref (loc 8), .ref (loc 10), .ref (loc 12), .ref (loc 14), .ref (loc 16), .ref (loc 18), .ref (loc 20), .int r, .int c, .int 0])) (h8 : val 8 = .inr (1, [.ref (loc 9), .int 0])) (h18 : val 18 = .inr (1, [.ref (loc 19), .int 1]))  : kM l y_P_placeNodes (Cond.code y_P_placeNodes b_P_placeNodes 3 none :: TT) (rmL 5) D CL (TY cI cB cZ cJ cN) A [.ref (loc 0)] (kd 77) loc val (fun rv d lo va kc ns => rv = none ∧ kd 77 = d ∧ loc = lo ∧ va_up (val) 47 (.inr (0, [.int 0, .int (-1), .null, .int 1, .int 0, .int 0, .int 0, .null, .null, .null, .int 0, .int 0])) = va ∧ kc = 0 ∧ ns = 0) := by
  refine kM_of (lv0 := [some (.ref (loc 0)), none, none]) (own := "ProsePages") (by decide) rfl (List.forall_mem_cons.mpr ⟨rfl, fun _ h => nomatch h⟩) (Nat.le_of_ble_eq_true rfl) rfl (Nat.le_of_ble_eq_true rfl) (fun X hl hX hE hin0 => ?_)
  refine v_iconst (v := 0) hX d_P_placeNodes_0 (by decide) ?_
  refine v_istore_n (lv' := [some (.ref (loc 0)), some (.int 0), none]) hX d_P_placeNodes_1 rfl (Nat.le_of_ble_eq_true rfl) rfl ?_
  refine v_iload_n hX d_P_placeNodes_2 rfl rfl ?_
  refine v_aload_n hX d_P_placeNodes_3 rfl rfl ?_
  refine v_get hX 0 (v := .int 1) inT4 (kd_b rfl) rfl h0 rfl 4 (by decide) k_179 rfl rfl d_P_placeNodes_4 ?_
  refine v_icmp_ge hX d_P_placeNodes_7 (tgt := 35) (by decide) (fun c => absurd c (by decide)) (fun _ => ?_)
  refine v_aload_n hX d_P_placeNodes_10 rfl rfl ?_
  refine v_iload_n hX d_P_placeNodes_11 rfl rfl ?_
  refine c_V hX 0 (rest := []) hl (c_P_nodeAt2  h0 h1 ) k_250 k_252 kp_0 k_1 k_253 rfl q_P_nodeAt ⟨(Nat.le_of_ble_eq_true rfl), (Nat.le_of_ble_eq_true rfl)⟩ (kd_b rfl) rfl h0 rfl rfl rfl rfl (Nat.le_of_ble_eq_true rfl) d_P_placeNodes_12 ⟨(Nat.le_of_ble_eq_true rfl), (Nat.le_of_ble_eq_true rfl)⟩ (fun rv d2 lo2 va2 kc ns hp => ?_)
  obtain ⟨rfl, rfl, rfl, rfl, rfl, rfl⟩ := hp
  show V X D CL A _ _ _ _ _ _ _ (.ref (loc 47) :: [])
  refine v_astore_n (lv' := [some (.ref (loc 0)), some (.int 0), some (.ref (loc 47))]) hX d_P_placeNodes_15 rfl (Nat.le_of_ble_eq_true rfl) rfl ?_
  refine v_aload_n hX d_P_placeNodes_16 rfl rfl ?_
  refine v_ifnull hX (some (loc 47)) d_P_placeNodes_17 (tgt := 29) (by decide) (fun h => nomatch h) (fun _ _ => ?_)
  refine v_aload_n hX d_P_placeNodes_20 rfl rfl ?_
  refine v_aload_n hX d_P_placeNodes_21 rfl rfl ?_
  refine v_aload_n hX d_P_placeNodes_22 rfl rfl ?_
  refine c_V hX 0 (rest := [.ref (loc 47)]) hl (c_P_pageOf r c h47 h0 h5 h8 h18 ) k_565 k_567 kp_26 k_1 k_568 rfl q_P_pageOfNode ⟨(Nat.le_of_ble_eq_true rfl), (Nat.le_of_ble_eq_true rfl)⟩ (kd_b rfl) rfl h0 rfl rfl rfl rfl (Nat.le_of_ble_eq_true rfl) d_P_placeNodes_23 ⟨(Nat.le_of_ble_eq_true rfl), (Nat.le_of_ble_eq_true rfl)⟩ (fun rv d2 lo2 va2 kc ns hp => ?_)
  obtain ⟨rfl, rfl, rfl, rfl, rfl, rfl⟩ := hp
  show V X D CL A _ _ _ _ _ _ _ (.int 0 :: [.ref (loc 47)])
  refine v_putE hX 47 (fs2 := [.int 0, .int (-1), .null, .int 1, .int 0, .int 0, .int 0, .null, .null, .null, .int 0, .int 0]) inT0 tyX0 tyX0_ok nmX0 (kd_b rfl) rfl h47 rfl 11 (by decide) k_149 rfl rfl rfl rfl rfl (Nat.le_of_ble_eq_true rfl) d_P_placeNodes_26 rfl ?_
  refine v_iinc (y := 1) (lv' := [some (.ref (loc 0)), some (.int 1), some (.ref (loc 47))]) hX d_P_placeNodes_29 rfl (by decide) rfl ?_
  refine v_goto hX d_P_placeNodes_32 (tgt := 2) (by decide) ?_
  refine v_iload_n hX d_P_placeNodes_2 rfl rfl ?_
  refine v_aload_n hX d_P_placeNodes_3 rfl rfl ?_
  refine v_get hX 0 (v := .int 1) inT4 (kd_b rfl) rfl h0 rfl 4 (by decide) k_179 rfl rfl d_P_placeNodes_4 ?_
  refine v_icmp_ge hX d_P_placeNodes_7 (tgt := 35) (by decide) (fun _ => ?_) (fun c => absurd (by decide) c)
  exact v_vret hX hE d_P_placeNodes_35 (Nat.le_of_ble_eq_true rfl) (Nat.le_of_ble_eq_true rfl) ⟨rfl, rfl, rfl, rfl, rfl, rfl⟩
