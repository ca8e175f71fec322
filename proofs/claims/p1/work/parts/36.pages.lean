set_option maxHeartbeats 4000000 in
set_option maxRecDepth 100000 in
theorem c_P_pages_ok {l : Launch} {D : va_G} {A : Nat → Prop} {cI cB cZ cJ cN : ClassId} {loc : Nat → Nat} {val : Nat → va_E} (hv : ∀ k, Nat.ble (k + 1) 48 = true → val k = pcell cI cN loc k) (r c : Int32) (h1 : ¬ r < 5) (h2 : ¬ 40 < r) (h3 : ¬ c < 8) (h4 : c ≤ 60) : kM l y_P_pages (Cond.code y_P_pages b_P_pages 4 (some FieldType.int) :: TT) (rmL 6) D CL (TY cI cB cZ cJ cN) A [.ref (loc 0), .int r, .int c] (kd 77) loc val (fun rv d lo va kc ns => rv = some (.int 1) ∧ keepM loc val d lo va ∧ kc = 0 ∧ ns = 0) := by
  refine kM_of (lv0 := [some (.ref (loc 0)), some (.int r), some (.int c), none]) (own := "ProsePages") (by decide) rfl (List.forall_mem_cons.mpr ⟨rfl, List.forall_mem_cons.mpr ⟨rfl, List.forall_mem_cons.mpr ⟨rfl, fun _ h => nomatch h⟩⟩⟩) (Nat.le_of_ble_eq_true rfl) rfl (Nat.le_of_ble_eq_true rfl) (fun X hl hX hE hin0 => ?_)
  refine v_iload_n hX d_P_pages_0 rfl rfl ?_
  refine v_iconst (v := 5) hX d_P_pages_1 (by decide) ?_
  refine v_icmp_lt hX d_P_pages_2 (tgt := 23) (by decide) (fun c => absurd c (h1)) (fun _ => ?_)
  refine v_iload_n hX d_P_pages_5 rfl rfl ?_
  refine v_bipush (v := 40) hX d_P_pages_6 (by decide) ?_
  refine v_icmp_gt hX d_P_pages_8 (tgt := 23) (by decide) (fun c => absurd c (h2)) (fun _ => ?_)
  refine v_iload_n hX d_P_pages_11 rfl rfl ?_
  refine v_bipush (v := 8) hX d_P_pages_12 (by decide) ?_
  refine v_icmp_lt hX d_P_pages_14 (tgt := 23) (by decide) (fun c => absurd c (h3)) (fun _ => ?_)
  refine v_iload_n hX d_P_pages_17 rfl rfl ?_
  refine v_bipush (v := 60) hX d_P_pages_18 (by decide) ?_
  refine v_icmp_le hX d_P_pages_20 (tgt := 33) (by decide) (fun _ => ?_) (fun c => absurd (h4) c)
  refine v_aload_n hX d_P_pages_33 rfl rfl ?_
  refine v_get hX 0 (v := .ref (loc 2)) inT4 (kd_b rfl) rfl (hv 0 rfl) rfl 1 (by decide) k_176 rfl rfl d_P_pages_34 ?_
  refine v_get hX 2 (v := .ref (loc 5)) inT2 (kd_b rfl) rfl (hv 2 rfl) rfl 1 (by decide) k_99 rfl rfl d_P_pages_37 ?_
  refine v_astore_n (lv' := [some (.ref (loc 0)), some (.int r), some (.int c), some (.ref (loc 5))]) hX d_P_pages_40 rfl (Nat.le_of_ble_eq_true rfl) rfl ?_
  refine v_aload_n hX d_P_pages_41 rfl rfl ?_
  refine v_iload_n hX d_P_pages_42 rfl rfl ?_
  refine v_iload_n hX d_P_pages_43 rfl rfl ?_
  refine c_V hX 5 (rest := []) hl (c_T_reset r c (hv 5 rfl) (hv 6 rfl) (hv 8 rfl) (hv 10 rfl) (hv 12 rfl) (hv 14 rfl) (hv 16 rfl) (hv 18 rfl) (hv 20 rfl) ) k_425 k_426 k_427 k_4 k_428 rfl q_T_reset ⟨(Nat.le_of_ble_eq_true rfl), (Nat.le_of_ble_eq_true rfl)⟩ (kd_b rfl) rfl (hv 5 rfl) rfl rfl rfl rfl (Nat.le_of_ble_eq_true rfl) d_P_pages_44 ⟨(Nat.le_of_ble_eq_true rfl), (Nat.le_of_ble_eq_true rfl)⟩ (fun rv d2 lo2 va2 kc ns hp => ?_)
  obtain ⟨rfl, rfl, rfl, rfl, rfl, rfl⟩ := hp
  show V X D CL A _ _ _ _ _ _ _ []
  refine v_aload_n hX d_P_pages_47 rfl rfl ?_
  refine v_get hX 0 (v := .ref (loc 2)) inT4 (kd_b rfl) rfl (hv 0 rfl) rfl 1 (by decide) k_176 rfl rfl d_P_pages_48 ?_
  refine v_aload_n hX d_P_pages_51 rfl rfl ?_
  refine v_get hX 0 (v := .ref (loc 47)) inT4 (kd_b rfl) rfl (hv 0 rfl) rfl 2 (by decide) k_177 rfl rfl d_P_pages_52 ?_
  refine v_iload_n hX d_P_pages_55 rfl rfl ?_
  refine c_V hX 2 (rest := []) hl (c_S_layParts r c c (hv 2 rfl) rfl (hv 8 rfl) (hv 47 rfl) ) k_430 k_431 k_432 k_2 k_433 rfl q_S_layParts ⟨(Nat.le_of_ble_eq_true rfl), (Nat.le_of_ble_eq_true rfl)⟩ (kd_b rfl) rfl (hv 2 rfl) rfl rfl rfl rfl (Nat.le_of_ble_eq_true rfl) d_P_pages_56 ⟨(Nat.le_of_ble_eq_true rfl), (Nat.le_of_ble_eq_true rfl)⟩ (fun rv d2 lo2 va2 kc ns hp => ?_)
  obtain ⟨rfl, rfl, rfl, rfl, rfl, rfl⟩ := hp
  show V X D CL A _ _ _ _ _ _ _ []
  refine v_aload_n hX d_P_pages_59 rfl rfl ?_
  refine v_get hX 5 (v := .int 0) inT3 (kd_b rfl) rfl rfl rfl 10 (by decide) k_72 rfl rfl d_P_pages_60 ?_
  refine v_if_eq hX d_P_pages_63 (tgt := 76) (by decide) (fun _ => ?_) (fun c => absurd (by decide) c)
  refine v_aload_n hX d_P_pages_76 rfl rfl ?_
  refine c_V hX 5 (rest := []) hl (c_T_fill r c rfl (hv 8 rfl) (hv 18 rfl) (hv 19 rfl) (hv 20 rfl) (hv 21 rfl) ) k_550 k_551 k_552 k_4 k_553 rfl q_T_fillPages ⟨(Nat.le_of_ble_eq_true rfl), (Nat.le_of_ble_eq_true rfl)⟩ (kd_b rfl) rfl rfl rfl rfl rfl rfl (Nat.le_of_ble_eq_true rfl) d_P_pages_77 ⟨(Nat.le_of_ble_eq_true rfl), (Nat.le_of_ble_eq_true rfl)⟩ (fun rv d2 lo2 va2 kc ns hp => ?_)
  obtain ⟨rfl, rfl, rfl, rfl, rfl, rfl⟩ := hp
  show V X D CL A _ _ _ _ _ _ _ []
  refine v_aload_n hX d_P_pages_80 rfl rfl ?_
  refine v_get hX 0 (v := .ref (loc 2)) inT4 (kd_b rfl) rfl (hv 0 rfl) rfl 1 (by decide) k_176 rfl rfl d_P_pages_81 ?_
  refine v_aload_n hX d_P_pages_84 rfl rfl ?_
  refine v_get hX 0 (v := .ref (loc 30)) inT4 (kd_b rfl) rfl (hv 0 rfl) rfl 6 (by decide) k_181 rfl rfl d_P_pages_85 ?_
  refine v_putE hX 2 (fs2 := [.ref (loc 3), .ref (loc 30), .ref (loc 22), .ref (loc 24), .ref (loc 26), .ref (loc 28)]) inT2 tyX2 tyX2_ok nmX2 (kd_b rfl) rfl (hv 2 rfl) rfl 1 (by decide) k_99 rfl rfl rfl rfl rfl (Nat.le_of_ble_eq_true rfl) d_P_pages_88 rfl ?_
  refine v_aload_n hX d_P_pages_91 rfl rfl ?_
  refine v_aload_n hX d_P_pages_92 rfl rfl ?_
  refine v_putE hX 0 (fs2 := [.ref (loc 1), .ref (loc 2), .ref (loc 47), .ref (loc 47), .int 1, .int 0, .ref (loc 5), .int 0]) inT4 tyX4 tyX4_ok nmX4 (kd_b rfl) rfl (hv 0 rfl) rfl 6 (by decide) k_181 rfl rfl rfl rfl rfl (Nat.le_of_ble_eq_true rfl) d_P_pages_93 rfl ?_
  refine v_aload_n hX d_P_pages_96 rfl rfl ?_
  refine v_iconst (v := 1) hX d_P_pages_97 (by decide) ?_
  refine v_putE hX 0 (fs2 := [.ref (loc 1), .ref (loc 2), .ref (loc 47), .ref (loc 47), .int 1, .int 0, .ref (loc 5), .int 1]) inT4 tyX4 tyX4_ok nmX4 (kd_b rfl) rfl rfl rfl 7 (by decide) k_182 rfl rfl rfl (by decide) rfl (Nat.le_of_ble_eq_true rfl) d_P_pages_98 rfl ?_
  refine v_aload_n hX d_P_pages_101 rfl rfl ?_
  refine c_V hX 0 (rest := []) hl (c_P_place r c rfl (hv 1 rfl) (hv 47 rfl) rfl (hv 8 rfl) rfl ) k_561 k_563 kp_25 k_1 k_564 rfl q_P_placeNodes ⟨(Nat.le_of_ble_eq_true rfl), (Nat.le_of_ble_eq_true rfl)⟩ (kd_b rfl) rfl rfl rfl rfl rfl rfl (Nat.le_of_ble_eq_true rfl) d_P_pages_102 ⟨(Nat.le_of_ble_eq_true rfl), (Nat.le_of_ble_eq_true rfl)⟩ (fun rv d2 lo2 va2 kc ns hp => ?_)
  obtain ⟨rfl, rfl, rfl, rfl, rfl, rfl⟩ := hp
  show V X D CL A _ _ _ _ _ _ _ []
  refine v_aload_n hX d_P_pages_105 rfl rfl ?_
  refine v_get hX 0 (v := .ref (loc 5)) inT4 (kd_b rfl) rfl rfl rfl 6 (by decide) k_181 rfl rfl d_P_pages_106 ?_
  refine c_V hX 5 (rest := []) hl (c_T_pages1 r c rfl rfl ) k_236 k_221 k_222 k_4 k_223 rfl q_T_pageCount ⟨(Nat.le_of_ble_eq_true rfl), (Nat.le_of_ble_eq_true rfl)⟩ (kd_b rfl) rfl rfl rfl rfl rfl rfl (Nat.le_of_ble_eq_true rfl) d_P_pages_109 ⟨(Nat.le_of_ble_eq_true rfl), (Nat.le_of_ble_eq_true rfl)⟩ (fun rv d2 lo2 va2 kc ns hp => ?_)
  obtain ⟨rfl, rfl, rfl, rfl, rfl, rfl⟩ := hp
  show V X D CL A _ _ _ _ _ _ _ (.int 1 :: [])
  exact v_iret hX hE d_P_pages_112 (Nat.le_of_ble_eq_true rfl) (Nat.le_of_ble_eq_true rfl) ⟨rfl, (keepM.up (keepM.up (keepM.up (keepM.up (keepM.up (keepM.up (keepM.up (keepM.up (keepM.up (keepM.up (keepM.up keepM.rf _ _ rfl) _ _ rfl) _ _ rfl) _ _ rfl) _ _ rfl) _ _ rfl) _ _ rfl) _ _ rfl) _ _ rfl) _ _ rfl) _ _ rfl), rfl, rfl⟩
