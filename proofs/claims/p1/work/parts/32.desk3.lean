set_option maxHeartbeats 4000000 in
set_option maxRecDepth 100000 in
theorem c_P_clear {l : Launch} {D : va_G} {A : Nat → Prop} {cI cB cZ cJ cN : ClassId} {loc : Nat → Nat} {val : Nat → va_E} (hv : ∀ k, Nat.ble (k + 1) 48 = true → val k = pcell cI cN loc k)  : kM l y_P_clear (Cond.code y_P_clear b_P_clear 1 none :: TT) (rmL 2) D CL (TY cI cB cZ cJ cN) A [.ref (loc 0)] (kd 77) loc val (fun rv d lo va kc ns => rv = none ∧ keepM loc val d lo va ∧ kc = 1 ∧ ns = 12) := by
  refine kM_of (lv0 := [some (.ref (loc 0))]) (own := "ProsePages") (by decide) rfl (List.forall_mem_cons.mpr ⟨rfl, fun _ h => nomatch h⟩) (Nat.le_of_ble_eq_true rfl) rfl (Nat.le_of_ble_eq_true rfl) (fun X hl hX hE hin0 => ?_)
  refine v_aload_n hX d_P_clear_0 rfl rfl ?_
  refine v_get hX 0 (v := .ref (loc 2)) inT4 (kd_b rfl) rfl (hv 0 rfl) rfl 1 (by decide) k_176 rfl rfl d_P_clear_1 ?_
  refine v_get hX 2 (v := .ref (loc 3)) inT2 (kd_b rfl) rfl (hv 2 rfl) rfl 0 (by decide) k_97 rfl rfl d_P_clear_4 ?_
  refine v_iconst (v := 0) hX d_P_clear_7 (by decide) ?_
  refine c_V hX 3 (rest := []) hl (c_R_cut 3 0 (kd_b rfl) (hv 3 rfl) (by decide)) k_208 k_209 k_210 k_3 k_211 rfl q_R_cut ⟨(Nat.le_of_ble_eq_true rfl), (Nat.le_of_ble_eq_true rfl)⟩ (kd_b rfl) rfl (hv 3 rfl) rfl rfl rfl rfl (Nat.le_of_ble_eq_true rfl) d_P_clear_8 ⟨(Nat.le_of_ble_eq_true rfl), (Nat.le_of_ble_eq_true rfl)⟩ (fun rv d2 lo2 va2 kc ns hp => ?_)
  obtain ⟨rfl, rfl, rfl, rfl, rfl, rfl⟩ := hp
  show V X D CL A _ _ _ _ _ _ _ []
  refine v_aload_n hX d_P_clear_11 rfl rfl ?_
  refine v_iconst (v := 0) hX d_P_clear_12 (by decide) ?_
  refine v_putE hX 0 (fs2 := [.ref (loc 1), .ref (loc 2), .ref (loc 47), .ref (loc 47), .int 1, .int 0, .ref (loc 30), .int 0]) inT4 tyX4 tyX4_ok nmX4 (kd_b rfl) rfl (hv 0 rfl) rfl 5 (by decide) k_180 rfl rfl rfl rfl rfl (Nat.le_of_ble_eq_true rfl) d_P_clear_13 rfl ?_
  refine v_aload_n hX d_P_clear_16 rfl rfl ?_
  refine v_new hX 77 (kd 78) (ci := 0) (fs := [.int 0, .int 0, .null, .int 0, .int 0, .int 0, .int 0, .null, .null, .null, .int 0, .int 0]) inT0 tyX0 tyX0_ok k_23 k_119 k_5 rfl (by decide) (Nat.le_of_ble_eq_true rfl) (Nat.le_of_ble_eq_true rfl) d_P_clear_17 (kd_step 77) (kd_self 77) (fun q77 _ => ?_)
  refine v_dup hX d_P_clear_20 rfl ?_
  refine v_iconst (v := 0) hX d_P_clear_21 (by decide) ?_
  refine v_iconst (v := (-1)) hX d_P_clear_22 (by decide) ?_
  refine v_iconst (v := 0) hX d_P_clear_23 (by decide) ?_
  refine v_null hX d_P_clear_24 ?_
  refine v_iconst (v := 0) hX d_P_clear_25 (by decide) ?_
  refine c_I hX (rest := [.ref q77, .ref (loc 0)]) hl (c_N_init0 77 0 (-1) 0 0 (kd_b rfl) rfl) k_120 k_121 k_5 k_122 rfl q_N_init ⟨(Nat.le_of_ble_eq_true rfl), (Nat.le_of_ble_eq_true rfl)⟩ rfl rfl rfl (Nat.le_of_ble_eq_true rfl) d_P_clear_26 ⟨(Nat.le_of_ble_eq_true rfl), (Nat.le_of_ble_eq_true rfl)⟩ (fun rv d2 lo2 va2 kc ns hp => ?_)
  obtain ⟨rfl, rfl, rfl, rfl, rfl, rfl⟩ := hp
  show V X D CL A _ _ _ _ _ _ _ [.ref q77, .ref (loc 0)]
  refine v_putE hX 0 (fs2 := [.ref (loc 1), .ref (loc 2), .ref q77, .ref (loc 47), .int 1, .int 0, .ref (loc 30), .int 0]) inT4 tyX4 tyX4_ok nmX4 (kd_b rfl) rfl rfl rfl 2 (by decide) k_177 rfl rfl rfl rfl rfl (Nat.le_of_ble_eq_true rfl) d_P_clear_29 rfl ?_
  refine v_aload_n hX d_P_clear_32 rfl rfl ?_
  refine v_aload_n hX d_P_clear_33 rfl rfl ?_
  refine v_get hX 0 (v := .ref q77) inT4 (kd_b rfl) rfl rfl rfl 2 (by decide) k_177 rfl rfl d_P_clear_34 ?_
  refine v_putE hX 0 (fs2 := [.ref (loc 1), .ref (loc 2), .ref q77, .ref q77, .int 1, .int 0, .ref (loc 30), .int 0]) inT4 tyX4 tyX4_ok nmX4 (kd_b rfl) rfl rfl rfl 3 (by decide) k_178 rfl rfl rfl rfl rfl (Nat.le_of_ble_eq_true rfl) d_P_clear_37 rfl ?_
  refine v_aload_n hX d_P_clear_40 rfl rfl ?_
  refine v_get hX 0 (v := .ref (loc 1)) inT4 (kd_b rfl) rfl rfl rfl 0 (by decide) k_175 rfl rfl d_P_clear_41 ?_
  refine v_iconst (v := 0) hX d_P_clear_44 (by decide) ?_
  refine v_aload_n hX d_P_clear_45 rfl rfl ?_
  refine v_get hX 0 (v := .ref q77) inT4 (kd_b rfl) rfl rfl rfl 2 (by decide) k_177 rfl rfl d_P_clear_46 ?_
  refine v_astq hX 1 4 77 (kd_b rfl) rfl (hv 1 rfl) rfl (kd_b rfl) rfl rfl rfl (vpb (by decide)) d_P_clear_49 ?_
  refine v_aload_n hX d_P_clear_50 rfl rfl ?_
  refine v_iconst (v := 1) hX d_P_clear_51 (by decide) ?_
  refine v_putE hX 0 (fs2 := [.ref (loc 1), .ref (loc 2), .ref q77, .ref q77, .int 1, .int 0, .ref (loc 30), .int 0]) inT4 tyX4 tyX4_ok nmX4 (kd_b rfl) rfl rfl rfl 4 (by decide) k_179 rfl rfl rfl rfl rfl (Nat.le_of_ble_eq_true rfl) d_P_clear_52 rfl ?_
  refine v_aload_n hX d_P_clear_55 rfl rfl ?_
  refine v_iconst (v := 0) hX d_P_clear_56 (by decide) ?_
  refine v_putE hX 0 (fs2 := [.ref (loc 1), .ref (loc 2), .ref q77, .ref q77, .int 1, .int 0, .ref (loc 30), .int 0]) inT4 tyX4 tyX4_ok nmX4 (kd_b rfl) rfl rfl rfl 7 (by decide) k_182 rfl rfl rfl (by decide) rfl (Nat.le_of_ble_eq_true rfl) d_P_clear_57 rfl ?_
  exact v_vret hX hE d_P_clear_60 (Nat.le_of_ble_eq_true rfl) (Nat.le_of_ble_eq_true rfl) ⟨rfl, (keepM.up (keepM.up (keepM.up (keepM.up (keepM.up (keepM.up (keepM.new (keepM.up keepM.rf _ _ rfl) _ _) _ _ rfl) _ _ rfl) _ _ rfl) _ _ rfl) _ _ rfl) _ _ rfl), rfl, rfl⟩
