set_option maxHeartbeats 4000000 in
set_option maxRecDepth 100000 in
theorem c_M_pages_ok {l : Launch} {D : va_G} {A : Nat → Prop} {cI cB cZ cJ cN : ClassId} {dom : Nat → Prop} (hd : ∀ k, (Nat.ble 48 k && Nat.ble (k + 1) 77) = true → dom k) {loc : Nat → Nat} {val : Nat → va_E} (hm : ∀ k, (Nat.ble 48 k && Nat.ble (k + 1) 76) = true → val k = mcell cI cB cZ loc k) (r c : Int32) (h1 : ¬ r < 5) (h2 : ¬ 40 < r) (h3 : ¬ c < 8) (h4 : c ≤ 60) (h8 : 4 ≤ c) : kM l y_M_pages (Cond.code y_M_pages b_M_pages 6 (some FieldType.int) :: TT) (rmL 4) D CL (TY cI cB cZ cJ cN) A [.ref (loc 48), .int r, .int c] (dom) loc val (fun rv d lo va kc ns => rv = some (.int 1) ∧ (∃ xs9, va 48 = .inr (5, .int 0 :: xs9)) ∧ keepO loc val d lo va ∧ kc = 0 ∧ ns = 0) := by
  refine kM_of (lv0 := [some (.ref (loc 48)), some (.int r), some (.int c), none, none, none]) (own := "ProsePagesModel") (by decide) rfl (List.forall_mem_cons.mpr ⟨rfl, List.forall_mem_cons.mpr ⟨rfl, List.forall_mem_cons.mpr ⟨rfl, fun _ h => nomatch h⟩⟩⟩) (Nat.le_of_ble_eq_true rfl) rfl (Nat.le_of_ble_eq_true rfl) (fun X hl hX hE hin0 => ?_)
  refine v_aload_n hX d_M_pages_0 rfl rfl ?_
  refine v_iload_n hX d_M_pages_1 rfl rfl ?_
  refine v_iconst (v := 5) hX d_M_pages_2 (by decide) ?_
  refine v_icmp_lt hX d_M_pages_3 (tgt := 24) (by decide) (fun c => absurd c (h1)) (fun _ => ?_)
  refine v_iload_n hX d_M_pages_6 rfl rfl ?_
  refine v_bipush (v := 40) hX d_M_pages_7 (by decide) ?_
  refine v_icmp_gt hX d_M_pages_9 (tgt := 24) (by decide) (fun c => absurd c (h2)) (fun _ => ?_)
  refine v_iload_n hX d_M_pages_12 rfl rfl ?_
  refine v_bipush (v := 8) hX d_M_pages_13 (by decide) ?_
  refine v_icmp_lt hX d_M_pages_15 (tgt := 24) (by decide) (fun c => absurd c (h3)) (fun _ => ?_)
  refine v_iload_n hX d_M_pages_18 rfl rfl ?_
  refine v_bipush (v := 60) hX d_M_pages_19 (by decide) ?_
  refine v_icmp_le hX d_M_pages_21 (tgt := 28) (by decide) (fun _ => ?_) (fun c => absurd (h4) c)
  refine v_iconst (v := 0) hX d_M_pages_28 (by decide) ?_
  refine v_putE hX 48 (fs2 := [.int 0, .ref (loc 49), .ref (loc 50), .ref (loc 51), .ref (loc 52), .ref (loc 53), .ref (loc 54), .ref (loc 55), .ref (loc 56), .int 1, .int 0, .int 0, .ref (loc 57), .ref (loc 58), .ref (loc 59), .ref (loc 60), .ref (loc 61), .ref (loc 62), .int 0, .int 0, .int 0, .int 0, .int 0, .int 0, .ref (loc 63), .ref (loc 64), .ref (loc 65), .ref (loc 66), .ref (loc 67), .ref (loc 68), .ref (loc 69), .ref (loc 70), .ref (loc 71), .ref (loc 72), .int 0, .ref (loc 73), .ref (loc 74), .ref (loc 75), .int 0, .int 0, .int 0, .int 0, .int 0, .int 0, .int 0]) inT5 tyX5 tyX5_ok nmX5 (hd 48 rfl) rfl (hm 48 rfl) rfl 0 (by decide) k_585 rfl rfl rfl rfl rfl (Nat.le_of_ble_eq_true rfl) d_M_pages_29 rfl ?_
  refine v_aload_n hX d_M_pages_32 rfl rfl ?_
  refine v_get hX 48 (v := .int 0) inT5 (hd 48 rfl) rfl rfl rfl 0 (by decide) k_585 rfl rfl d_M_pages_33 ?_
  refine v_if_le hX d_M_pages_36 (tgt := 41) (by decide) (fun _ => ?_) (fun c => absurd (by decide) c)
  refine v_aload_n hX d_M_pages_41 rfl rfl ?_
  refine v_get hX 48 (v := .int 0) inT5 (hd 48 rfl) rfl rfl rfl 21 (by decide) k_606 rfl rfl d_M_pages_42 ?_
  refine v_istore_n (lv' := [some (.ref (loc 48)), some (.int r), some (.int c), some (.int 0), none, none]) hX d_M_pages_45 rfl (Nat.le_of_ble_eq_true rfl) rfl ?_
  refine v_aload_n hX d_M_pages_46 rfl rfl ?_
  refine v_iload_n hX d_M_pages_47 rfl rfl ?_
  refine v_putE hX 48 (fs2 := [.int 0, .ref (loc 49), .ref (loc 50), .ref (loc 51), .ref (loc 52), .ref (loc 53), .ref (loc 54), .ref (loc 55), .ref (loc 56), .int 1, .int 0, .int 0, .ref (loc 57), .ref (loc 58), .ref (loc 59), .ref (loc 60), .ref (loc 61), .ref (loc 62), .int 0, .int 0, .int 0, .int c, .int 0, .int 0, .ref (loc 63), .ref (loc 64), .ref (loc 65), .ref (loc 66), .ref (loc 67), .ref (loc 68), .ref (loc 69), .ref (loc 70), .ref (loc 71), .ref (loc 72), .int 0, .ref (loc 73), .ref (loc 74), .ref (loc 75), .int 0, .int 0, .int 0, .int 0, .int 0, .int 0, .int 0]) inT5 tyX5 tyX5_ok nmX5 (hd 48 rfl) rfl rfl rfl 21 (by decide) k_606 rfl rfl rfl rfl rfl (Nat.le_of_ble_eq_true rfl) d_M_pages_48 rfl ?_
  refine v_aload_n hX d_M_pages_51 rfl rfl ?_
  refine v_iconst (v := 1) hX d_M_pages_52 (by decide) ?_
  refine v_putE hX 48 (fs2 := [.int 0, .ref (loc 49), .ref (loc 50), .ref (loc 51), .ref (loc 52), .ref (loc 53), .ref (loc 54), .ref (loc 55), .ref (loc 56), .int 1, .int 0, .int 0, .ref (loc 57), .ref (loc 58), .ref (loc 59), .ref (loc 60), .ref (loc 61), .ref (loc 62), .int 0, .int 0, .int 0, .int c, .int 0, .int 0, .ref (loc 63), .ref (loc 64), .ref (loc 65), .ref (loc 66), .ref (loc 67), .ref (loc 68), .ref (loc 69), .ref (loc 70), .ref (loc 71), .ref (loc 72), .int 0, .ref (loc 73), .ref (loc 74), .ref (loc 75), .int 0, .int 0, .int 0, .int 0, .int 0, .int 0, .int 1]) inT5 tyX5 tyX5_ok nmX5 (hd 48 rfl) rfl rfl rfl 44 (by decide) k_629 rfl rfl rfl (by decide) rfl (Nat.le_of_ble_eq_true rfl) d_M_pages_53 rfl ?_
  refine v_aload_n hX d_M_pages_56 rfl rfl ?_
  refine c_V hX 48 (rest := []) hl (c_M_layOut_a hd c h8 rfl (hm 50 rfl) (hm 49 rfl) (hm 64 rfl) (hm 65 rfl) (hm 66 rfl) (hm 67 rfl) (hm 68 rfl) (hm 69 rfl) (hm 70 rfl) (hm 71 rfl) (hm 72 rfl) ) k_764 k_766 kp_30 k_6 k_767 rfl q_M_layOut ⟨(Nat.le_of_ble_eq_true rfl), (Nat.le_of_ble_eq_true rfl)⟩ (hd 48 rfl) rfl rfl rfl rfl rfl rfl (Nat.le_of_ble_eq_true rfl) d_M_pages_57 ⟨(Nat.le_of_ble_eq_true rfl), (Nat.le_of_ble_eq_true rfl)⟩ (fun rv d2 lo2 va2 kc ns hp => ?_)
  obtain ⟨rfl, rfl, rfl, rfl, rfl, rfl⟩ := hp
  show V X D CL A _ _ _ _ _ _ _ []
  refine v_aload_n hX d_M_pages_60 rfl rfl ?_
  refine v_aload_n hX d_M_pages_61 rfl rfl ?_
  refine v_get hX 48 (v := .int 0) inT5 (hd 48 rfl) rfl rfl rfl 23 (by decide) k_608 rfl rfl d_M_pages_62 ?_
  refine v_sipush (v := 1500) hX d_M_pages_65 (by decide) ?_
  refine v_icmp_le hX d_M_pages_68 (tgt := 75) (by decide) (fun _ => ?_) (fun c => absurd (by decide) c)
  refine v_iconst (v := 0) hX d_M_pages_75 (by decide) ?_
  refine v_putE hX 48 (fs2 := [.int 0, .ref (loc 49), .ref (loc 50), .ref (loc 51), .ref (loc 52), .ref (loc 53), .ref (loc 54), .ref (loc 55), .ref (loc 56), .int 1, .int 0, .int 0, .ref (loc 57), .ref (loc 58), .ref (loc 59), .ref (loc 60), .ref (loc 61), .ref (loc 62), .int 0, .int 0, .int 0, .int c, .int 0, .int 0, .ref (loc 63), .ref (loc 64), .ref (loc 65), .ref (loc 66), .ref (loc 67), .ref (loc 68), .ref (loc 69), .ref (loc 70), .ref (loc 71), .ref (loc 72), .int 0, .ref (loc 73), .ref (loc 74), .ref (loc 75), .int 0, .int 0, .int 0, .int 0, .int (-1), .int 0, .int 1]) inT5 tyX5 tyX5_ok nmX5 (hd 48 rfl) rfl rfl rfl 0 (by decide) k_585 rfl rfl rfl rfl rfl (Nat.le_of_ble_eq_true rfl) d_M_pages_76 rfl ?_
  refine v_aload_n hX d_M_pages_79 rfl rfl ?_
  refine v_get hX 48 (v := .int 0) inT5 (hd 48 rfl) rfl rfl rfl 0 (by decide) k_585 rfl rfl d_M_pages_80 ?_
  refine v_if_le hX d_M_pages_83 (tgt := 93) (by decide) (fun _ => ?_) (fun c => absurd (by decide) c)
  refine v_aload_n hX d_M_pages_93 rfl rfl ?_
  refine v_iconst (v := 0) hX d_M_pages_94 (by decide) ?_
  refine v_putE hX 48 (fs2 := [.int 0, .ref (loc 49), .ref (loc 50), .ref (loc 51), .ref (loc 52), .ref (loc 53), .ref (loc 54), .ref (loc 55), .ref (loc 56), .int 1, .int 0, .int 0, .ref (loc 57), .ref (loc 58), .ref (loc 59), .ref (loc 60), .ref (loc 61), .ref (loc 62), .int 0, .int 0, .int 0, .int c, .int 0, .int 0, .ref (loc 63), .ref (loc 64), .ref (loc 65), .ref (loc 66), .ref (loc 67), .ref (loc 68), .ref (loc 69), .ref (loc 70), .ref (loc 71), .ref (loc 72), .int 0, .ref (loc 73), .ref (loc 74), .ref (loc 75), .int 0, .int 0, .int 0, .int 0, .int (-1), .int 0, .int 0]) inT5 tyX5 tyX5_ok nmX5 (hd 48 rfl) rfl rfl rfl 44 (by decide) k_629 rfl rfl rfl (by decide) rfl (Nat.le_of_ble_eq_true rfl) d_M_pages_95 rfl ?_
  refine v_aload_n hX d_M_pages_98 rfl rfl ?_
  refine c_V hX 48 (rest := []) hl (c_M_layOut_b hd c h8 rfl (hm 50 rfl) (hm 49 rfl) rfl rfl rfl rfl rfl rfl rfl rfl rfl ) k_764 k_766 kp_30 k_6 k_767 rfl q_M_layOut ⟨(Nat.le_of_ble_eq_true rfl), (Nat.le_of_ble_eq_true rfl)⟩ (hd 48 rfl) rfl rfl rfl rfl rfl rfl (Nat.le_of_ble_eq_true rfl) d_M_pages_99 ⟨(Nat.le_of_ble_eq_true rfl), (Nat.le_of_ble_eq_true rfl)⟩ (fun rv d2 lo2 va2 kc ns hp => ?_)
  obtain ⟨rfl, rfl, rfl, rfl, rfl, rfl⟩ := hp
  show V X D CL A _ _ _ _ _ _ _ []
  refine v_aload_n hX d_M_pages_102 rfl rfl ?_
  refine v_aload_n hX d_M_pages_103 rfl rfl ?_
  refine v_get hX 48 (v := .int 0) inT5 (hd 48 rfl) rfl rfl rfl 23 (by decide) k_608 rfl rfl d_M_pages_104 ?_
  refine v_putE hX 48 (fs2 := [.int 0, .ref (loc 49), .ref (loc 50), .ref (loc 51), .ref (loc 52), .ref (loc 53), .ref (loc 54), .ref (loc 55), .ref (loc 56), .int 1, .int 0, .int 0, .ref (loc 57), .ref (loc 58), .ref (loc 59), .ref (loc 60), .ref (loc 61), .ref (loc 62), .int 0, .int 0, .int 0, .int c, .int 0, .int 0, .ref (loc 63), .ref (loc 64), .ref (loc 65), .ref (loc 66), .ref (loc 67), .ref (loc 68), .ref (loc 69), .ref (loc 70), .ref (loc 71), .ref (loc 72), .int 0, .ref (loc 73), .ref (loc 74), .ref (loc 75), .int 0, .int 0, .int 0, .int 0, .int (-1), .int 0, .int 0]) inT5 tyX5 tyX5_ok nmX5 (hd 48 rfl) rfl rfl rfl 18 (by decide) k_603 rfl rfl rfl rfl rfl (Nat.le_of_ble_eq_true rfl) d_M_pages_107 rfl ?_
  refine v_aload_n hX d_M_pages_110 rfl rfl ?_
  refine v_iload_n hX d_M_pages_111 rfl rfl ?_
  refine v_putE hX 48 (fs2 := [.int 0, .ref (loc 49), .ref (loc 50), .ref (loc 51), .ref (loc 52), .ref (loc 53), .ref (loc 54), .ref (loc 55), .ref (loc 56), .int 1, .int 0, .int 0, .ref (loc 57), .ref (loc 58), .ref (loc 59), .ref (loc 60), .ref (loc 61), .ref (loc 62), .int 0, .int 0, .int r, .int c, .int 0, .int 0, .ref (loc 63), .ref (loc 64), .ref (loc 65), .ref (loc 66), .ref (loc 67), .ref (loc 68), .ref (loc 69), .ref (loc 70), .ref (loc 71), .ref (loc 72), .int 0, .ref (loc 73), .ref (loc 74), .ref (loc 75), .int 0, .int 0, .int 0, .int 0, .int (-1), .int 0, .int 0]) inT5 tyX5 tyX5_ok nmX5 (hd 48 rfl) rfl rfl rfl 20 (by decide) k_605 rfl rfl rfl rfl rfl (Nat.le_of_ble_eq_true rfl) d_M_pages_112 rfl ?_
  refine v_aload_n hX d_M_pages_115 rfl rfl ?_
  refine v_aload_n hX d_M_pages_116 rfl rfl ?_
  refine v_get hX 48 (v := .int 1) inT5 (hd 48 rfl) rfl rfl rfl 9 (by decide) k_594 rfl rfl d_M_pages_117 ?_
  refine v_putE hX 48 (fs2 := [.int 0, .ref (loc 49), .ref (loc 50), .ref (loc 51), .ref (loc 52), .ref (loc 53), .ref (loc 54), .ref (loc 55), .ref (loc 56), .int 1, .int 0, .int 0, .ref (loc 57), .ref (loc 58), .ref (loc 59), .ref (loc 60), .ref (loc 61), .ref (loc 62), .int 0, .int 0, .int r, .int c, .int 1, .int 0, .ref (loc 63), .ref (loc 64), .ref (loc 65), .ref (loc 66), .ref (loc 67), .ref (loc 68), .ref (loc 69), .ref (loc 70), .ref (loc 71), .ref (loc 72), .int 0, .ref (loc 73), .ref (loc 74), .ref (loc 75), .int 0, .int 0, .int 0, .int 0, .int (-1), .int 0, .int 0]) inT5 tyX5 tyX5_ok nmX5 (hd 48 rfl) rfl rfl rfl 22 (by decide) k_607 rfl rfl rfl rfl rfl (Nat.le_of_ble_eq_true rfl) d_M_pages_120 rfl ?_
  refine v_aload_n hX d_M_pages_123 rfl rfl ?_
  refine v_aload_n hX d_M_pages_124 rfl rfl ?_
  refine c_V hX 48 (rest := [.ref (loc 48)]) hl (c_M_paginate hd r c rfl ) k_839 k_841 kp_48 k_6 k_842 rfl q_M_paginate ⟨(Nat.le_of_ble_eq_true rfl), (Nat.le_of_ble_eq_true rfl)⟩ (hd 48 rfl) rfl rfl rfl rfl rfl rfl (Nat.le_of_ble_eq_true rfl) d_M_pages_125 ⟨(Nat.le_of_ble_eq_true rfl), (Nat.le_of_ble_eq_true rfl)⟩ (fun rv d2 lo2 va2 kc ns hp => ?_)
  obtain ⟨rfl, rfl, rfl, rfl, rfl, rfl⟩ := hp
  show V X D CL A _ _ _ _ _ _ _ (.int 1 :: [.ref (loc 48)])
  refine v_putE hX 48 (fs2 := [.int 0, .ref (loc 49), .ref (loc 50), .ref (loc 51), .ref (loc 52), .ref (loc 53), .ref (loc 54), .ref (loc 55), .ref (loc 56), .int 1, .int 0, .int 0, .ref (loc 57), .ref (loc 58), .ref (loc 59), .ref (loc 60), .ref (loc 61), .ref (loc 62), .int 0, .int 1, .int r, .int c, .int 1, .int 0, .ref (loc 63), .ref (loc 64), .ref (loc 65), .ref (loc 66), .ref (loc 67), .ref (loc 68), .ref (loc 69), .ref (loc 70), .ref (loc 71), .ref (loc 72), .int 0, .ref (loc 73), .ref (loc 74), .ref (loc 75), .int 0, .int 0, .int 0, .int 0, .int (-1), .int 0, .int 0]) inT5 tyX5 tyX5_ok nmX5 (hd 48 rfl) rfl rfl rfl 19 (by decide) k_604 rfl rfl rfl rfl rfl (Nat.le_of_ble_eq_true rfl) d_M_pages_128 rfl ?_
  refine v_iconst (v := 0) hX d_M_pages_131 (by decide) ?_
  refine v_istore (lv' := [some (.ref (loc 48)), some (.int r), some (.int c), some (.int 0), some (.int 0), none]) hX d_M_pages_132 (Nat.le_of_ble_eq_true rfl) rfl ?_
  refine v_iload hX d_M_pages_134 rfl ?_
  refine v_aload_n hX d_M_pages_136 rfl rfl ?_
  refine v_get hX 48 (v := .int 1) inT5 (hd 48 rfl) rfl rfl rfl 9 (by decide) k_594 rfl rfl d_M_pages_137 ?_
  refine v_icmp_ge hX d_M_pages_140 (tgt := 248) (by decide) (fun c => absurd c (by decide)) (fun _ => ?_)
  refine v_aload_n hX d_M_pages_143 rfl rfl ?_
  refine v_get hX 48 (v := .ref (loc 64)) inT5 (hd 48 rfl) rfl rfl rfl 25 (by decide) k_610 rfl rfl d_M_pages_144 ?_
  refine v_iload hX d_M_pages_147 rfl ?_
  refine v_iald hX 64 0 (v := (-2)) (hd 64 rfl) rfl rfl rfl (vpb (by decide)) (by first | rfl | decide) d_M_pages_149 ?_
  refine v_if_lt hX d_M_pages_150 (tgt := 163) (by decide) (fun _ => ?_) (fun c => absurd (by decide) c)
  refine v_bipush (v := (-2)) hX d_M_pages_163 (by decide) ?_
  refine v_aload_n hX d_M_pages_165 rfl rfl ?_
  refine v_get hX 48 (v := .ref (loc 64)) inT5 (hd 48 rfl) rfl rfl rfl 25 (by decide) k_610 rfl rfl d_M_pages_166 ?_
  refine v_iload hX d_M_pages_169 rfl ?_
  refine v_iald hX 64 0 (v := (-2)) (hd 64 rfl) rfl rfl rfl (vpb (by decide)) (by first | rfl | decide) d_M_pages_171 ?_
  refine v_isubE (v := 0) hX d_M_pages_172 (by decide) ?_
  refine v_istore (lv' := [some (.ref (loc 48)), some (.int r), some (.int c), some (.int 0), some (.int 0), some (.int 0)]) hX d_M_pages_173 (Nat.le_of_ble_eq_true rfl) rfl ?_
  refine v_iload hX d_M_pages_175 rfl ?_
  refine v_aload_n hX d_M_pages_177 rfl rfl ?_
  refine v_get hX 48 (v := .int 0) inT5 (hd 48 rfl) rfl rfl rfl 18 (by decide) k_603 rfl rfl d_M_pages_178 ?_
  refine v_icmp_ge hX d_M_pages_181 (tgt := 210) (by decide) (fun _ => ?_) (fun c => absurd (by decide) c)
  refine v_aload_n hX d_M_pages_210 rfl rfl ?_
  refine v_get hX 48 (v := .ref (loc 63)) inT5 (hd 48 rfl) rfl rfl rfl 24 (by decide) k_609 rfl rfl d_M_pages_211 ?_
  refine v_iload hX d_M_pages_214 rfl ?_
  refine v_iload hX d_M_pages_216 rfl ?_
  refine v_aload_n hX d_M_pages_218 rfl rfl ?_
  refine v_get hX 48 (v := .int 0) inT5 (hd 48 rfl) rfl rfl rfl 18 (by decide) k_603 rfl rfl d_M_pages_219 ?_
  refine v_icmp_ge hX d_M_pages_222 (tgt := 235) (by decide) (fun _ => ?_) (fun c => absurd (by decide) c)
  refine v_aload_n hX d_M_pages_235 rfl rfl ?_
  refine v_get hX 48 (v := .int 1) inT5 (hd 48 rfl) rfl rfl rfl 19 (by decide) k_604 rfl rfl d_M_pages_236 ?_
  refine v_iconst (v := 1) hX d_M_pages_239 (by decide) ?_
  refine v_isubE (v := 0) hX d_M_pages_240 (by decide) ?_
  refine v_iast hX 63 0 (hd 63 rfl) rfl (hm 63 rfl) rfl (vpb (by decide)) d_M_pages_241 ?_
  refine v_iinc (y := 1) (lv' := [some (.ref (loc 48)), some (.int r), some (.int c), some (.int 0), some (.int 1), some (.int 0)]) hX d_M_pages_242 rfl (by decide) rfl ?_
  refine v_goto hX d_M_pages_245 (tgt := 134) (by decide) ?_
  refine v_iload hX d_M_pages_134 rfl ?_
  refine v_aload_n hX d_M_pages_136 rfl rfl ?_
  refine v_get hX 48 (v := .int 1) inT5 (hd 48 rfl) rfl rfl rfl 9 (by decide) k_594 rfl rfl d_M_pages_137 ?_
  refine v_icmp_ge hX d_M_pages_140 (tgt := 248) (by decide) (fun _ => ?_) (fun c => absurd (by decide) c)
  refine v_aload_n hX d_M_pages_248 rfl rfl ?_
  refine v_get hX 48 (v := .int 1) inT5 (hd 48 rfl) rfl rfl rfl 19 (by decide) k_604 rfl rfl d_M_pages_249 ?_
  exact v_iret hX hE d_M_pages_252 (Nat.le_of_ble_eq_true rfl) (Nat.le_of_ble_eq_true rfl) ⟨rfl, ⟨_, rfl⟩, ⟨hd 48 rfl, rfl, hd 76 rfl, rfl, rfl⟩, rfl, rfl⟩
