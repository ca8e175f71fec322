theorem isNum1 {n : Int32} (h : isNum 1 n = 1) : ¬ n < 1 ∧ ¬ 6 < n := by
  unfold isNum at h
  rw [if_pos rfl] at h
  by_cases h1 : n < 1
  · rw [if_pos h1] at h; exact absurd h (by decide)
  · rw [if_neg h1] at h
    by_cases h2 : 6 < n
    · rw [if_pos h2] at h; exact absurd h (by decide)
    · exact ⟨h1, h2⟩
theorem isNum6 {n : Int32} (h : isNum 6 n = 1) : ¬ n < 0 ∧ ¬ 999999999 < n := by
  unfold isNum at h
  rw [if_neg (by decide), if_pos rfl] at h
  by_cases h1 : n < 0
  · rw [if_pos h1] at h; exact absurd h (by decide)
  · rw [if_neg h1] at h
    by_cases h2 : 999999999 < n
    · rw [if_pos h2] at h; exact absurd h (by decide)
    · exact ⟨h1, h2⟩
theorem isNum1b {n : Int32} (h : isNum 1 n = 0) (h1 : ¬ n < 1) : 6 < n := by
  unfold isNum at h
  rw [if_pos rfl, if_neg h1] at h
  by_cases h2 : 6 < n
  · exact h2
  · rw [if_neg h2] at h; exact absurd h (by decide)
theorem isNum6b {n : Int32} (h : isNum 6 n = 0) (h1 : ¬ n < 0) : 999999999 < n := by
  unfold isNum at h
  rw [if_neg (by decide), if_pos rfl, if_neg h1] at h
  by_cases h2 : 999999999 < n
  · exact h2
  · rw [if_neg h2] at h; exact absurd h (by decide)
set_option maxHeartbeats 4000000 in
set_option maxRecDepth 100000 in
theorem c_M_begin_ok0 {l : Launch} {D : va_G} {A : Nat → Prop} {cI cB cZ cJ cN : ClassId} {dom : Nat → Prop} (hd : ∀ k, (Nat.ble 48 k && Nat.ble (k + 1) 77) = true → dom k) {loc : Nat → Nat} {val : Nat → va_E} (hm : ∀ k, (Nat.ble 48 k && Nat.ble (k + 1) 76) = true → val k = mcell cI cB cZ loc k) (n : Int32) (hn : isNum 0 n = 1) : kM l y_M_begin (Cond.code y_M_begin b_M_begin 5 (some FieldType.int) :: TT) (rmL 3) D CL (TY cI cB cZ cJ cN) A [.ref (loc 48), .int 0, .int n] (dom) loc val (fun rv d lo va kc ns => rv = some (.int 1) ∧ (∃ xs9, va 48 = .inr (5, .int 0 :: xs9)) ∧ keepO loc val d lo va ∧ kc = 0 ∧ ns = 0) := by
  refine kM_of (lv0 := [some (.ref (loc 48)), some (.int 0), some (.int n), none, none]) (own := "ProsePagesModel") (by decide) rfl (List.forall_mem_cons.mpr ⟨rfl, List.forall_mem_cons.mpr ⟨rfl, List.forall_mem_cons.mpr ⟨rfl, fun _ h => nomatch h⟩⟩⟩) (Nat.le_of_ble_eq_true rfl) rfl (Nat.le_of_ble_eq_true rfl) (fun X hl hX hE hin0 => ?_)
  refine v_iload_n hX d_M_begin_0 rfl rfl ?_
  refine v_if_lt hX d_M_begin_1 (tgt := 62) (by decide) (fun c => absurd c (by decide)) (fun _ => ?_)
  refine v_iload_n hX d_M_begin_4 rfl rfl ?_
  refine v_bipush (v := 9) hX d_M_begin_5 (by decide) ?_
  refine v_icmp_gt hX d_M_begin_7 (tgt := 62) (by decide) (fun c => absurd c (by decide)) (fun _ => ?_)
  refine v_aload_n hX d_M_begin_10 rfl rfl ?_
  refine v_get hX 48 (v := .ref (loc 49)) inT5 (hd 48 rfl) rfl (hm 48 rfl) rfl 1 (by decide) k_586 rfl rfl d_M_begin_11 ?_
  refine v_aload_n hX d_M_begin_14 rfl rfl ?_
  refine v_get hX 48 (v := .int 0) inT5 (hd 48 rfl) rfl (hm 48 rfl) rfl 11 (by decide) k_596 rfl rfl d_M_begin_15 ?_
  refine v_iald hX 49 0 (v := 11) (hd 49 rfl) rfl (hm 49 rfl) rfl (vpb (by decide)) (by first | rfl | decide) d_M_begin_18 ?_
  refine v_iload_n hX d_M_begin_19 rfl rfl ?_
  refine c_S hX (rest := []) hl (c_M_mayHold 0) k_730 k_731 k_6 k_732 rfl q_M_mayHold ⟨(Nat.le_of_ble_eq_true rfl), (Nat.le_of_ble_eq_true rfl)⟩ rfl rfl rfl (Nat.le_of_ble_eq_true rfl) d_M_begin_20 ⟨(Nat.le_of_ble_eq_true rfl), (Nat.le_of_ble_eq_true rfl)⟩ (fun rv d2 lo2 va2 kc ns hp => ?_)
  obtain ⟨rfl, rfl, rfl, rfl, rfl, rfl⟩ := hp
  show V X D CL A _ _ _ _ _ _ _ (.int (blk 0) :: [])
  refine v_if_eq hX d_M_begin_23 (tgt := 62) (by decide) (fun c => absurd c (by decide)) (fun _ => ?_)
  refine v_iload_n hX d_M_begin_26 rfl rfl ?_
  refine v_iconst (v := 1) hX d_M_begin_27 (by decide) ?_
  refine v_icmp_ne hX d_M_begin_28 (tgt := 42) (by decide) (fun _ => ?_) (fun c => absurd c (by decide))
  refine v_iload_n hX d_M_begin_42 rfl rfl ?_
  refine v_bipush (v := 6) hX d_M_begin_43 (by decide) ?_
  refine v_icmp_ne hX d_M_begin_45 (tgt := 58) (by decide) (fun _ => ?_) (fun c => absurd c (by decide))
  refine v_iconst (v := 1) hX d_M_begin_58 (by decide) ?_
  refine v_goto hX d_M_begin_59 (tgt := 63) (by decide) ?_
  refine v_istore_n (lv' := [some (.ref (loc 48)), some (.int 0), some (.int n), some (.int 1), none]) hX d_M_begin_63 rfl (Nat.le_of_ble_eq_true rfl) rfl ?_
  refine v_aload_n hX d_M_begin_64 rfl rfl ?_
  refine v_aload_n hX d_M_begin_65 rfl rfl ?_
  refine c_V hX 48 (rest := [.ref (loc 48)]) hl (c_M_isFull hd  (hm 48 rfl) (hm 52 rfl) ) k_740 k_742 kp_28 k_6 k_743 rfl q_M_isFull ⟨(Nat.le_of_ble_eq_true rfl), (Nat.le_of_ble_eq_true rfl)⟩ (hd 48 rfl) rfl (hm 48 rfl) rfl rfl rfl rfl (Nat.le_of_ble_eq_true rfl) d_M_begin_66 ⟨(Nat.le_of_ble_eq_true rfl), (Nat.le_of_ble_eq_true rfl)⟩ (fun rv d2 lo2 va2 kc ns hp => ?_)
  obtain ⟨rfl, rfl, rfl, rfl, rfl, rfl⟩ := hp
  show V X D CL A _ _ _ _ _ _ _ (.int 0 :: [.ref (loc 48)])
  refine v_if_eq hX d_M_begin_69 (tgt := 76) (by decide) (fun _ => ?_) (fun c => absurd (by decide) c)
  refine v_iload_n hX d_M_begin_76 rfl rfl ?_
  refine v_if_eq hX d_M_begin_77 (tgt := 84) (by decide) (fun c => absurd c (by decide)) (fun _ => ?_)
  refine v_iconst (v := 0) hX d_M_begin_80 (by decide) ?_
  refine v_goto hX d_M_begin_81 (tgt := 85) (by decide) ?_
  refine v_putE hX 48 (fs2 := [.int 0, .ref (loc 49), .ref (loc 50), .ref (loc 51), .ref (loc 52), .ref (loc 53), .ref (loc 54), .ref (loc 55), .ref (loc 56), .int 1, .int 0, .int 0, .ref (loc 57), .ref (loc 58), .ref (loc 59), .ref (loc 60), .ref (loc 61), .ref (loc 62), .int 0, .int 0, .int 0, .int 0, .int 0, .int 0, .ref (loc 63), .ref (loc 64), .ref (loc 65), .ref (loc 66), .ref (loc 67), .ref (loc 68), .ref (loc 69), .ref (loc 70), .ref (loc 71), .ref (loc 72), .int 0, .ref (loc 73), .ref (loc 74), .ref (loc 75), .int 0, .int 0, .int 0, .int 0, .int 0, .int 0, .int 0]) inT5 tyX5 tyX5_ok nmX5 (hd 48 rfl) rfl (hm 48 rfl) rfl 0 (by decide) k_585 rfl rfl rfl rfl rfl (Nat.le_of_ble_eq_true rfl) d_M_begin_85 rfl ?_
  refine v_aload_n hX d_M_begin_88 rfl rfl ?_
  refine v_get hX 48 (v := .int 0) inT5 (hd 48 rfl) rfl rfl rfl 0 (by decide) k_585 rfl rfl d_M_begin_89 ?_
  refine v_if_le hX d_M_begin_92 (tgt := 97) (by decide) (fun _ => ?_) (fun c => absurd (by decide) c)
  refine v_aload_n hX d_M_begin_97 rfl rfl ?_
  refine v_iload_n hX d_M_begin_98 rfl rfl ?_
  refine v_iload_n hX d_M_begin_99 rfl rfl ?_
  refine v_iconst (v := 1) hX d_M_begin_100 (by decide) ?_
  refine v_icmp_eq hX d_M_begin_101 (tgt := 110) (by decide) (fun c => absurd c (by decide)) (fun _ => ?_)
  refine v_iload_n hX d_M_begin_104 rfl rfl ?_
  refine v_bipush (v := 6) hX d_M_begin_105 (by decide) ?_
  refine v_icmp_ne hX d_M_begin_107 (tgt := 114) (by decide) (fun _ => ?_) (fun c => absurd c (by decide))
  refine v_iconst (v := 0) hX d_M_begin_114 (by decide) ?_
  refine c_V hX 48 (rest := []) hl (c_M_add hd 0 0 rfl (hm 49 rfl) (hm 50 rfl) (hm 51 rfl) (hm 52 rfl) (hm 53 rfl) (hm 54 rfl) (hm 55 rfl) ) k_744 k_746 kp_29 k_6 k_747 rfl q_M_add ⟨(Nat.le_of_ble_eq_true rfl), (Nat.le_of_ble_eq_true rfl)⟩ (hd 48 rfl) rfl rfl rfl rfl rfl rfl (Nat.le_of_ble_eq_true rfl) d_M_begin_115 ⟨(Nat.le_of_ble_eq_true rfl), (Nat.le_of_ble_eq_true rfl)⟩ (fun rv d2 lo2 va2 kc ns hp => ?_)
  obtain ⟨rfl, rfl, rfl, rfl, rfl, rfl⟩ := hp
  show V X D CL A _ _ _ _ _ _ _ (.int 1 :: [])
  refine v_istore (lv' := [some (.ref (loc 48)), some (.int 0), some (.int n), some (.int 1), some (.int 1)]) hX d_M_begin_118 (Nat.le_of_ble_eq_true rfl) rfl ?_
  refine v_iload_n hX d_M_begin_120 rfl rfl ?_
  refine v_iconst (v := 2) hX d_M_begin_121 (by decide) ?_
  refine v_icmp_eq hX d_M_begin_122 (tgt := 137) (by decide) (fun c => absurd c (by decide)) (fun _ => ?_)
  refine v_iload_n hX d_M_begin_125 rfl rfl ?_
  refine v_bipush (v := 9) hX d_M_begin_126 (by decide) ?_
  refine v_icmp_eq hX d_M_begin_128 (tgt := 137) (by decide) (fun c => absurd c (by decide)) (fun _ => ?_)
  refine v_aload_n hX d_M_begin_131 rfl rfl ?_
  refine v_iload hX d_M_begin_132 rfl ?_
  refine v_putE hX 48 (fs2 := [.int 0, .ref (loc 49), .ref (loc 50), .ref (loc 51), .ref (loc 52), .ref (loc 53), .ref (loc 54), .ref (loc 55), .ref (loc 56), .int 2, .int 0, .int 1, .ref (loc 57), .ref (loc 58), .ref (loc 59), .ref (loc 60), .ref (loc 61), .ref (loc 62), .int 0, .int 0, .int 0, .int 0, .int 0, .int 0, .ref (loc 63), .ref (loc 64), .ref (loc 65), .ref (loc 66), .ref (loc 67), .ref (loc 68), .ref (loc 69), .ref (loc 70), .ref (loc 71), .ref (loc 72), .int 0, .ref (loc 73), .ref (loc 74), .ref (loc 75), .int 0, .int 0, .int 0, .int 0, .int 0, .int 0, .int 0]) inT5 tyX5 tyX5_ok nmX5 (hd 48 rfl) rfl rfl rfl 11 (by decide) k_596 rfl rfl rfl rfl rfl (Nat.le_of_ble_eq_true rfl) d_M_begin_134 rfl ?_
  refine v_iload hX d_M_begin_137 rfl ?_
  exact v_iret hX hE d_M_begin_139 (Nat.le_of_ble_eq_true rfl) (Nat.le_of_ble_eq_true rfl) ⟨rfl, ⟨_, rfl⟩, ⟨hd 48 rfl, rfl, hd 76 rfl, rfl, rfl⟩, rfl, rfl⟩
set_option maxHeartbeats 4000000 in
set_option maxRecDepth 100000 in
theorem c_M_begin_ok1 {l : Launch} {D : va_G} {A : Nat → Prop} {cI cB cZ cJ cN : ClassId} {dom : Nat → Prop} (hd : ∀ k, (Nat.ble 48 k && Nat.ble (k + 1) 77) = true → dom k) {loc : Nat → Nat} {val : Nat → va_E} (hm : ∀ k, (Nat.ble 48 k && Nat.ble (k + 1) 76) = true → val k = mcell cI cB cZ loc k) (n : Int32) (hn : isNum 1 n = 1) : kM l y_M_begin (Cond.code y_M_begin b_M_begin 5 (some FieldType.int) :: TT) (rmL 3) D CL (TY cI cB cZ cJ cN) A [.ref (loc 48), .int 1, .int n] (dom) loc val (fun rv d lo va kc ns => rv = some (.int 1) ∧ (∃ xs9, va 48 = .inr (5, .int 0 :: xs9)) ∧ keepO loc val d lo va ∧ kc = 0 ∧ ns = 0) := by
  refine kM_of (lv0 := [some (.ref (loc 48)), some (.int 1), some (.int n), none, none]) (own := "ProsePagesModel") (by decide) rfl (List.forall_mem_cons.mpr ⟨rfl, List.forall_mem_cons.mpr ⟨rfl, List.forall_mem_cons.mpr ⟨rfl, fun _ h => nomatch h⟩⟩⟩) (Nat.le_of_ble_eq_true rfl) rfl (Nat.le_of_ble_eq_true rfl) (fun X hl hX hE hin0 => ?_)
  refine v_iload_n hX d_M_begin_0 rfl rfl ?_
  refine v_if_lt hX d_M_begin_1 (tgt := 62) (by decide) (fun c => absurd c (by decide)) (fun _ => ?_)
  refine v_iload_n hX d_M_begin_4 rfl rfl ?_
  refine v_bipush (v := 9) hX d_M_begin_5 (by decide) ?_
  refine v_icmp_gt hX d_M_begin_7 (tgt := 62) (by decide) (fun c => absurd c (by decide)) (fun _ => ?_)
  refine v_aload_n hX d_M_begin_10 rfl rfl ?_
  refine v_get hX 48 (v := .ref (loc 49)) inT5 (hd 48 rfl) rfl (hm 48 rfl) rfl 1 (by decide) k_586 rfl rfl d_M_begin_11 ?_
  refine v_aload_n hX d_M_begin_14 rfl rfl ?_
  refine v_get hX 48 (v := .int 0) inT5 (hd 48 rfl) rfl (hm 48 rfl) rfl 11 (by decide) k_596 rfl rfl d_M_begin_15 ?_
  refine v_iald hX 49 0 (v := 11) (hd 49 rfl) rfl (hm 49 rfl) rfl (vpb (by decide)) (by first | rfl | decide) d_M_begin_18 ?_
  refine v_iload_n hX d_M_begin_19 rfl rfl ?_
  refine c_S hX (rest := []) hl (c_M_mayHold 1) k_730 k_731 k_6 k_732 rfl q_M_mayHold ⟨(Nat.le_of_ble_eq_true rfl), (Nat.le_of_ble_eq_true rfl)⟩ rfl rfl rfl (Nat.le_of_ble_eq_true rfl) d_M_begin_20 ⟨(Nat.le_of_ble_eq_true rfl), (Nat.le_of_ble_eq_true rfl)⟩ (fun rv d2 lo2 va2 kc ns hp => ?_)
  obtain ⟨rfl, rfl, rfl, rfl, rfl, rfl⟩ := hp
  show V X D CL A _ _ _ _ _ _ _ (.int (blk 1) :: [])
  refine v_if_eq hX d_M_begin_23 (tgt := 62) (by decide) (fun c => absurd c (by decide)) (fun _ => ?_)
  refine v_iload_n hX d_M_begin_26 rfl rfl ?_
  refine v_iconst (v := 1) hX d_M_begin_27 (by decide) ?_
  refine v_icmp_ne hX d_M_begin_28 (tgt := 42) (by decide) (fun c => absurd (by decide) c) (fun _ => ?_)
  refine v_iload_n hX d_M_begin_31 rfl rfl ?_
  refine v_iconst (v := 1) hX d_M_begin_32 (by decide) ?_
  refine v_icmp_lt hX d_M_begin_33 (tgt := 62) (by decide) (fun c => absurd c ((isNum1 hn).1)) (fun _ => ?_)
  refine v_iload_n hX d_M_begin_36 rfl rfl ?_
  refine v_bipush (v := 6) hX d_M_begin_37 (by decide) ?_
  refine v_icmp_gt hX d_M_begin_39 (tgt := 62) (by decide) (fun c => absurd c ((isNum1 hn).2)) (fun _ => ?_)
  refine v_iload_n hX d_M_begin_42 rfl rfl ?_
  refine v_bipush (v := 6) hX d_M_begin_43 (by decide) ?_
  refine v_icmp_ne hX d_M_begin_45 (tgt := 58) (by decide) (fun _ => ?_) (fun c => absurd c (by decide))
  refine v_iconst (v := 1) hX d_M_begin_58 (by decide) ?_
  refine v_goto hX d_M_begin_59 (tgt := 63) (by decide) ?_
  refine v_istore_n (lv' := [some (.ref (loc 48)), some (.int 1), some (.int n), some (.int 1), none]) hX d_M_begin_63 rfl (Nat.le_of_ble_eq_true rfl) rfl ?_
  refine v_aload_n hX d_M_begin_64 rfl rfl ?_
  refine v_aload_n hX d_M_begin_65 rfl rfl ?_
  refine c_V hX 48 (rest := [.ref (loc 48)]) hl (c_M_isFull hd  (hm 48 rfl) (hm 52 rfl) ) k_740 k_742 kp_28 k_6 k_743 rfl q_M_isFull ⟨(Nat.le_of_ble_eq_true rfl), (Nat.le_of_ble_eq_true rfl)⟩ (hd 48 rfl) rfl (hm 48 rfl) rfl rfl rfl rfl (Nat.le_of_ble_eq_true rfl) d_M_begin_66 ⟨(Nat.le_of_ble_eq_true rfl), (Nat.le_of_ble_eq_true rfl)⟩ (fun rv d2 lo2 va2 kc ns hp => ?_)
  obtain ⟨rfl, rfl, rfl, rfl, rfl, rfl⟩ := hp
  show V X D CL A _ _ _ _ _ _ _ (.int 0 :: [.ref (loc 48)])
  refine v_if_eq hX d_M_begin_69 (tgt := 76) (by decide) (fun _ => ?_) (fun c => absurd (by decide) c)
  refine v_iload_n hX d_M_begin_76 rfl rfl ?_
  refine v_if_eq hX d_M_begin_77 (tgt := 84) (by decide) (fun c => absurd c (by decide)) (fun _ => ?_)
  refine v_iconst (v := 0) hX d_M_begin_80 (by decide) ?_
  refine v_goto hX d_M_begin_81 (tgt := 85) (by decide) ?_
  refine v_putE hX 48 (fs2 := [.int 0, .ref (loc 49), .ref (loc 50), .ref (loc 51), .ref (loc 52), .ref (loc 53), .ref (loc 54), .ref (loc 55), .ref (loc 56), .int 1, .int 0, .int 0, .ref (loc 57), .ref (loc 58), .ref (loc 59), .ref (loc 60), .ref (loc 61), .ref (loc 62), .int 0, .int 0, .int 0, .int 0, .int 0, .int 0, .ref (loc 63), .ref (loc 64), .ref (loc 65), .ref (loc 66), .ref (loc 67), .ref (loc 68), .ref (loc 69), .ref (loc 70), .ref (loc 71), .ref (loc 72), .int 0, .ref (loc 73), .ref (loc 74), .ref (loc 75), .int 0, .int 0, .int 0, .int 0, .int 0, .int 0, .int 0]) inT5 tyX5 tyX5_ok nmX5 (hd 48 rfl) rfl (hm 48 rfl) rfl 0 (by decide) k_585 rfl rfl rfl rfl rfl (Nat.le_of_ble_eq_true rfl) d_M_begin_85 rfl ?_
  refine v_aload_n hX d_M_begin_88 rfl rfl ?_
  refine v_get hX 48 (v := .int 0) inT5 (hd 48 rfl) rfl rfl rfl 0 (by decide) k_585 rfl rfl d_M_begin_89 ?_
  refine v_if_le hX d_M_begin_92 (tgt := 97) (by decide) (fun _ => ?_) (fun c => absurd (by decide) c)
  refine v_aload_n hX d_M_begin_97 rfl rfl ?_
  refine v_iload_n hX d_M_begin_98 rfl rfl ?_
  refine v_iload_n hX d_M_begin_99 rfl rfl ?_
  refine v_iconst (v := 1) hX d_M_begin_100 (by decide) ?_
  refine v_icmp_eq hX d_M_begin_101 (tgt := 110) (by decide) (fun _ => ?_) (fun c => absurd (by decide) c)
  refine v_iload_n hX d_M_begin_110 rfl rfl ?_
  refine v_goto hX d_M_begin_111 (tgt := 115) (by decide) ?_
  refine c_V hX 48 (rest := []) hl (c_M_add hd 1 n rfl (hm 49 rfl) (hm 50 rfl) (hm 51 rfl) (hm 52 rfl) (hm 53 rfl) (hm 54 rfl) (hm 55 rfl) ) k_744 k_746 kp_29 k_6 k_747 rfl q_M_add ⟨(Nat.le_of_ble_eq_true rfl), (Nat.le_of_ble_eq_true rfl)⟩ (hd 48 rfl) rfl rfl rfl rfl rfl rfl (Nat.le_of_ble_eq_true rfl) d_M_begin_115 ⟨(Nat.le_of_ble_eq_true rfl), (Nat.le_of_ble_eq_true rfl)⟩ (fun rv d2 lo2 va2 kc ns hp => ?_)
  obtain ⟨rfl, rfl, rfl, rfl, rfl, rfl⟩ := hp
  show V X D CL A _ _ _ _ _ _ _ (.int 1 :: [])
  refine v_istore (lv' := [some (.ref (loc 48)), some (.int 1), some (.int n), some (.int 1), some (.int 1)]) hX d_M_begin_118 (Nat.le_of_ble_eq_true rfl) rfl ?_
  refine v_iload_n hX d_M_begin_120 rfl rfl ?_
  refine v_iconst (v := 2) hX d_M_begin_121 (by decide) ?_
  refine v_icmp_eq hX d_M_begin_122 (tgt := 137) (by decide) (fun c => absurd c (by decide)) (fun _ => ?_)
  refine v_iload_n hX d_M_begin_125 rfl rfl ?_
  refine v_bipush (v := 9) hX d_M_begin_126 (by decide) ?_
  refine v_icmp_eq hX d_M_begin_128 (tgt := 137) (by decide) (fun c => absurd c (by decide)) (fun _ => ?_)
  refine v_aload_n hX d_M_begin_131 rfl rfl ?_
  refine v_iload hX d_M_begin_132 rfl ?_
  refine v_putE hX 48 (fs2 := [.int 0, .ref (loc 49), .ref (loc 50), .ref (loc 51), .ref (loc 52), .ref (loc 53), .ref (loc 54), .ref (loc 55), .ref (loc 56), .int 2, .int 0, .int 1, .ref (loc 57), .ref (loc 58), .ref (loc 59), .ref (loc 60), .ref (loc 61), .ref (loc 62), .int 0, .int 0, .int 0, .int 0, .int 0, .int 0, .ref (loc 63), .ref (loc 64), .ref (loc 65), .ref (loc 66), .ref (loc 67), .ref (loc 68), .ref (loc 69), .ref (loc 70), .ref (loc 71), .ref (loc 72), .int 0, .ref (loc 73), .ref (loc 74), .ref (loc 75), .int 0, .int 0, .int 0, .int 0, .int 0, .int 0, .int 0]) inT5 tyX5 tyX5_ok nmX5 (hd 48 rfl) rfl rfl rfl 11 (by decide) k_596 rfl rfl rfl rfl rfl (Nat.le_of_ble_eq_true rfl) d_M_begin_134 rfl ?_
  refine v_iload hX d_M_begin_137 rfl ?_
  exact v_iret hX hE d_M_begin_139 (Nat.le_of_ble_eq_true rfl) (Nat.le_of_ble_eq_true rfl) ⟨rfl, ⟨_, rfl⟩, ⟨hd 48 rfl, rfl, hd 76 rfl, rfl, rfl⟩, rfl, rfl⟩
set_option maxHeartbeats 4000000 in
set_option maxRecDepth 100000 in
theorem c_M_begin_ok2 {l : Launch} {D : va_G} {A : Nat → Prop} {cI cB cZ cJ cN : ClassId} {dom : Nat → Prop} (hd : ∀ k, (Nat.ble 48 k && Nat.ble (k + 1) 77) = true → dom k) {loc : Nat → Nat} {val : Nat → va_E} (hm : ∀ k, (Nat.ble 48 k && Nat.ble (k + 1) 76) = true → val k = mcell cI cB cZ loc k) (n : Int32) (hn : isNum 2 n = 1) : kM l y_M_begin (Cond.code y_M_begin b_M_begin 5 (some FieldType.int) :: TT) (rmL 3) D CL (TY cI cB cZ cJ cN) A [.ref (loc 48), .int 2, .int n] (dom) loc val (fun rv d lo va kc ns => rv = some (.int 1) ∧ (∃ xs9, va 48 = .inr (5, .int 0 :: xs9)) ∧ keepO loc val d lo va ∧ kc = 0 ∧ ns = 0) := by
  refine kM_of (lv0 := [some (.ref (loc 48)), some (.int 2), some (.int n), none, none]) (own := "ProsePagesModel") (by decide) rfl (List.forall_mem_cons.mpr ⟨rfl, List.forall_mem_cons.mpr ⟨rfl, List.forall_mem_cons.mpr ⟨rfl, fun _ h => nomatch h⟩⟩⟩) (Nat.le_of_ble_eq_true rfl) rfl (Nat.le_of_ble_eq_true rfl) (fun X hl hX hE hin0 => ?_)
  refine v_iload_n hX d_M_begin_0 rfl rfl ?_
  refine v_if_lt hX d_M_begin_1 (tgt := 62) (by decide) (fun c => absurd c (by decide)) (fun _ => ?_)
  refine v_iload_n hX d_M_begin_4 rfl rfl ?_
  refine v_bipush (v := 9) hX d_M_begin_5 (by decide) ?_
  refine v_icmp_gt hX d_M_begin_7 (tgt := 62) (by decide) (fun c => absurd c (by decide)) (fun _ => ?_)
  refine v_aload_n hX d_M_begin_10 rfl rfl ?_
  refine v_get hX 48 (v := .ref (loc 49)) inT5 (hd 48 rfl) rfl (hm 48 rfl) rfl 1 (by decide) k_586 rfl rfl d_M_begin_11 ?_
  refine v_aload_n hX d_M_begin_14 rfl rfl ?_
  refine v_get hX 48 (v := .int 0) inT5 (hd 48 rfl) rfl (hm 48 rfl) rfl 11 (by decide) k_596 rfl rfl d_M_begin_15 ?_
  refine v_iald hX 49 0 (v := 11) (hd 49 rfl) rfl (hm 49 rfl) rfl (vpb (by decide)) (by first | rfl | decide) d_M_begin_18 ?_
  refine v_iload_n hX d_M_begin_19 rfl rfl ?_
  refine c_S hX (rest := []) hl (c_M_mayHold 2) k_730 k_731 k_6 k_732 rfl q_M_mayHold ⟨(Nat.le_of_ble_eq_true rfl), (Nat.le_of_ble_eq_true rfl)⟩ rfl rfl rfl (Nat.le_of_ble_eq_true rfl) d_M_begin_20 ⟨(Nat.le_of_ble_eq_true rfl), (Nat.le_of_ble_eq_true rfl)⟩ (fun rv d2 lo2 va2 kc ns hp => ?_)
  obtain ⟨rfl, rfl, rfl, rfl, rfl, rfl⟩ := hp
  show V X D CL A _ _ _ _ _ _ _ (.int (blk 2) :: [])
  refine v_if_eq hX d_M_begin_23 (tgt := 62) (by decide) (fun c => absurd c (by decide)) (fun _ => ?_)
  refine v_iload_n hX d_M_begin_26 rfl rfl ?_
  refine v_iconst (v := 1) hX d_M_begin_27 (by decide) ?_
  refine v_icmp_ne hX d_M_begin_28 (tgt := 42) (by decide) (fun _ => ?_) (fun c => absurd c (by decide))
  refine v_iload_n hX d_M_begin_42 rfl rfl ?_
  refine v_bipush (v := 6) hX d_M_begin_43 (by decide) ?_
  refine v_icmp_ne hX d_M_begin_45 (tgt := 58) (by decide) (fun _ => ?_) (fun c => absurd c (by decide))
  refine v_iconst (v := 1) hX d_M_begin_58 (by decide) ?_
  refine v_goto hX d_M_begin_59 (tgt := 63) (by decide) ?_
  refine v_istore_n (lv' := [some (.ref (loc 48)), some (.int 2), some (.int n), some (.int 1), none]) hX d_M_begin_63 rfl (Nat.le_of_ble_eq_true rfl) rfl ?_
  refine v_aload_n hX d_M_begin_64 rfl rfl ?_
  refine v_aload_n hX d_M_begin_65 rfl rfl ?_
  refine c_V hX 48 (rest := [.ref (loc 48)]) hl (c_M_isFull hd  (hm 48 rfl) (hm 52 rfl) ) k_740 k_742 kp_28 k_6 k_743 rfl q_M_isFull ⟨(Nat.le_of_ble_eq_true rfl), (Nat.le_of_ble_eq_true rfl)⟩ (hd 48 rfl) rfl (hm 48 rfl) rfl rfl rfl rfl (Nat.le_of_ble_eq_true rfl) d_M_begin_66 ⟨(Nat.le_of_ble_eq_true rfl), (Nat.le_of_ble_eq_true rfl)⟩ (fun rv d2 lo2 va2 kc ns hp => ?_)
  obtain ⟨rfl, rfl, rfl, rfl, rfl, rfl⟩ := hp
  show V X D CL A _ _ _ _ _ _ _ (.int 0 :: [.ref (loc 48)])
  refine v_if_eq hX d_M_begin_69 (tgt := 76) (by decide) (fun _ => ?_) (fun c => absurd (by decide) c)
  refine v_iload_n hX d_M_begin_76 rfl rfl ?_
  refine v_if_eq hX d_M_begin_77 (tgt := 84) (by decide) (fun c => absurd c (by decide)) (fun _ => ?_)
  refine v_iconst (v := 0) hX d_M_begin_80 (by decide) ?_
  refine v_goto hX d_M_begin_81 (tgt := 85) (by decide) ?_
  refine v_putE hX 48 (fs2 := [.int 0, .ref (loc 49), .ref (loc 50), .ref (loc 51), .ref (loc 52), .ref (loc 53), .ref (loc 54), .ref (loc 55), .ref (loc 56), .int 1, .int 0, .int 0, .ref (loc 57), .ref (loc 58), .ref (loc 59), .ref (loc 60), .ref (loc 61), .ref (loc 62), .int 0, .int 0, .int 0, .int 0, .int 0, .int 0, .ref (loc 63), .ref (loc 64), .ref (loc 65), .ref (loc 66), .ref (loc 67), .ref (loc 68), .ref (loc 69), .ref (loc 70), .ref (loc 71), .ref (loc 72), .int 0, .ref (loc 73), .ref (loc 74), .ref (loc 75), .int 0, .int 0, .int 0, .int 0, .int 0, .int 0, .int 0]) inT5 tyX5 tyX5_ok nmX5 (hd 48 rfl) rfl (hm 48 rfl) rfl 0 (by decide) k_585 rfl rfl rfl rfl rfl (Nat.le_of_ble_eq_true rfl) d_M_begin_85 rfl ?_
  refine v_aload_n hX d_M_begin_88 rfl rfl ?_
  refine v_get hX 48 (v := .int 0) inT5 (hd 48 rfl) rfl rfl rfl 0 (by decide) k_585 rfl rfl d_M_begin_89 ?_
  refine v_if_le hX d_M_begin_92 (tgt := 97) (by decide) (fun _ => ?_) (fun c => absurd (by decide) c)
  refine v_aload_n hX d_M_begin_97 rfl rfl ?_
  refine v_iload_n hX d_M_begin_98 rfl rfl ?_
  refine v_iload_n hX d_M_begin_99 rfl rfl ?_
  refine v_iconst (v := 1) hX d_M_begin_100 (by decide) ?_
  refine v_icmp_eq hX d_M_begin_101 (tgt := 110) (by decide) (fun c => absurd c (by decide)) (fun _ => ?_)
  refine v_iload_n hX d_M_begin_104 rfl rfl ?_
  refine v_bipush (v := 6) hX d_M_begin_105 (by decide) ?_
  refine v_icmp_ne hX d_M_begin_107 (tgt := 114) (by decide) (fun _ => ?_) (fun c => absurd c (by decide))
  refine v_iconst (v := 0) hX d_M_begin_114 (by decide) ?_
  refine c_V hX 48 (rest := []) hl (c_M_add hd 2 0 rfl (hm 49 rfl) (hm 50 rfl) (hm 51 rfl) (hm 52 rfl) (hm 53 rfl) (hm 54 rfl) (hm 55 rfl) ) k_744 k_746 kp_29 k_6 k_747 rfl q_M_add ⟨(Nat.le_of_ble_eq_true rfl), (Nat.le_of_ble_eq_true rfl)⟩ (hd 48 rfl) rfl rfl rfl rfl rfl rfl (Nat.le_of_ble_eq_true rfl) d_M_begin_115 ⟨(Nat.le_of_ble_eq_true rfl), (Nat.le_of_ble_eq_true rfl)⟩ (fun rv d2 lo2 va2 kc ns hp => ?_)
  obtain ⟨rfl, rfl, rfl, rfl, rfl, rfl⟩ := hp
  show V X D CL A _ _ _ _ _ _ _ (.int 1 :: [])
  refine v_istore (lv' := [some (.ref (loc 48)), some (.int 2), some (.int n), some (.int 1), some (.int 1)]) hX d_M_begin_118 (Nat.le_of_ble_eq_true rfl) rfl ?_
  refine v_iload_n hX d_M_begin_120 rfl rfl ?_
  refine v_iconst (v := 2) hX d_M_begin_121 (by decide) ?_
  refine v_icmp_eq hX d_M_begin_122 (tgt := 137) (by decide) (fun _ => ?_) (fun c => absurd (by decide) c)
  refine v_iload hX d_M_begin_137 rfl ?_
  exact v_iret hX hE d_M_begin_139 (Nat.le_of_ble_eq_true rfl) (Nat.le_of_ble_eq_true rfl) ⟨rfl, ⟨_, rfl⟩, ⟨hd 48 rfl, rfl, hd 76 rfl, rfl, rfl⟩, rfl, rfl⟩
set_option maxHeartbeats 4000000 in
set_option maxRecDepth 100000 in
theorem c_M_begin_ok3 {l : Launch} {D : va_G} {A : Nat → Prop} {cI cB cZ cJ cN : ClassId} {dom : Nat → Prop} (hd : ∀ k, (Nat.ble 48 k && Nat.ble (k + 1) 77) = true → dom k) {loc : Nat → Nat} {val : Nat → va_E} (hm : ∀ k, (Nat.ble 48 k && Nat.ble (k + 1) 76) = true → val k = mcell cI cB cZ loc k) (n : Int32) (hn : isNum 3 n = 1) : kM l y_M_begin (Cond.code y_M_begin b_M_begin 5 (some FieldType.int) :: TT) (rmL 3) D CL (TY cI cB cZ cJ cN) A [.ref (loc 48), .int 3, .int n] (dom) loc val (fun rv d lo va kc ns => rv = some (.int 1) ∧ (∃ xs9, va 48 = .inr (5, .int 0 :: xs9)) ∧ keepO loc val d lo va ∧ kc = 0 ∧ ns = 0) := by
  refine kM_of (lv0 := [some (.ref (loc 48)), some (.int 3), some (.int n), none, none]) (own := "ProsePagesModel") (by decide) rfl (List.forall_mem_cons.mpr ⟨rfl, List.forall_mem_cons.mpr ⟨rfl, List.forall_mem_cons.mpr ⟨rfl, fun _ h => nomatch h⟩⟩⟩) (Nat.le_of_ble_eq_true rfl) rfl (Nat.le_of_ble_eq_true rfl) (fun X hl hX hE hin0 => ?_)
  refine v_iload_n hX d_M_begin_0 rfl rfl ?_
  refine v_if_lt hX d_M_begin_1 (tgt := 62) (by decide) (fun c => absurd c (by decide)) (fun _ => ?_)
  refine v_iload_n hX d_M_begin_4 rfl rfl ?_
  refine v_bipush (v := 9) hX d_M_begin_5 (by decide) ?_
  refine v_icmp_gt hX d_M_begin_7 (tgt := 62) (by decide) (fun c => absurd c (by decide)) (fun _ => ?_)
  refine v_aload_n hX d_M_begin_10 rfl rfl ?_
  refine v_get hX 48 (v := .ref (loc 49)) inT5 (hd 48 rfl) rfl (hm 48 rfl) rfl 1 (by decide) k_586 rfl rfl d_M_begin_11 ?_
  refine v_aload_n hX d_M_begin_14 rfl rfl ?_
  refine v_get hX 48 (v := .int 0) inT5 (hd 48 rfl) rfl (hm 48 rfl) rfl 11 (by decide) k_596 rfl rfl d_M_begin_15 ?_
  refine v_iald hX 49 0 (v := 11) (hd 49 rfl) rfl (hm 49 rfl) rfl (vpb (by decide)) (by first | rfl | decide) d_M_begin_18 ?_
  refine v_iload_n hX d_M_begin_19 rfl rfl ?_
  refine c_S hX (rest := []) hl (c_M_mayHold 3) k_730 k_731 k_6 k_732 rfl q_M_mayHold ⟨(Nat.le_of_ble_eq_true rfl), (Nat.le_of_ble_eq_true rfl)⟩ rfl rfl rfl (Nat.le_of_ble_eq_true rfl) d_M_begin_20 ⟨(Nat.le_of_ble_eq_true rfl), (Nat.le_of_ble_eq_true rfl)⟩ (fun rv d2 lo2 va2 kc ns hp => ?_)
  obtain ⟨rfl, rfl, rfl, rfl, rfl, rfl⟩ := hp
  show V X D CL A _ _ _ _ _ _ _ (.int (blk 3) :: [])
  refine v_if_eq hX d_M_begin_23 (tgt := 62) (by decide) (fun c => absurd c (by decide)) (fun _ => ?_)
  refine v_iload_n hX d_M_begin_26 rfl rfl ?_
  refine v_iconst (v := 1) hX d_M_begin_27 (by decide) ?_
  refine v_icmp_ne hX d_M_begin_28 (tgt := 42) (by decide) (fun _ => ?_) (fun c => absurd c (by decide))
  refine v_iload_n hX d_M_begin_42 rfl rfl ?_
  refine v_bipush (v := 6) hX d_M_begin_43 (by decide) ?_
  refine v_icmp_ne hX d_M_begin_45 (tgt := 58) (by decide) (fun _ => ?_) (fun c => absurd c (by decide))
  refine v_iconst (v := 1) hX d_M_begin_58 (by decide) ?_
  refine v_goto hX d_M_begin_59 (tgt := 63) (by decide) ?_
  refine v_istore_n (lv' := [some (.ref (loc 48)), some (.int 3), some (.int n), some (.int 1), none]) hX d_M_begin_63 rfl (Nat.le_of_ble_eq_true rfl) rfl ?_
  refine v_aload_n hX d_M_begin_64 rfl rfl ?_
  refine v_aload_n hX d_M_begin_65 rfl rfl ?_
  refine c_V hX 48 (rest := [.ref (loc 48)]) hl (c_M_isFull hd  (hm 48 rfl) (hm 52 rfl) ) k_740 k_742 kp_28 k_6 k_743 rfl q_M_isFull ⟨(Nat.le_of_ble_eq_true rfl), (Nat.le_of_ble_eq_true rfl)⟩ (hd 48 rfl) rfl (hm 48 rfl) rfl rfl rfl rfl (Nat.le_of_ble_eq_true rfl) d_M_begin_66 ⟨(Nat.le_of_ble_eq_true rfl), (Nat.le_of_ble_eq_true rfl)⟩ (fun rv d2 lo2 va2 kc ns hp => ?_)
  obtain ⟨rfl, rfl, rfl, rfl, rfl, rfl⟩ := hp
  show V X D CL A _ _ _ _ _ _ _ (.int 0 :: [.ref (loc 48)])
  refine v_if_eq hX d_M_begin_69 (tgt := 76) (by decide) (fun _ => ?_) (fun c => absurd (by decide) c)
  refine v_iload_n hX d_M_begin_76 rfl rfl ?_
  refine v_if_eq hX d_M_begin_77 (tgt := 84) (by decide) (fun c => absurd c (by decide)) (fun _ => ?_)
  refine v_iconst (v := 0) hX d_M_begin_80 (by decide) ?_
  refine v_goto hX d_M_begin_81 (tgt := 85) (by decide) ?_
  refine v_putE hX 48 (fs2 := [.int 0, .ref (loc 49), .ref (loc 50), .ref (loc 51), .ref (loc 52), .ref (loc 53), .ref (loc 54), .ref (loc 55), .ref (loc 56), .int 1, .int 0, .int 0, .ref (loc 57), .ref (loc 58), .ref (loc 59), .ref (loc 60), .ref (loc 61), .ref (loc 62), .int 0, .int 0, .int 0, .int 0, .int 0, .int 0, .ref (loc 63), .ref (loc 64), .ref (loc 65), .ref (loc 66), .ref (loc 67), .ref (loc 68), .ref (loc 69), .ref (loc 70), .ref (loc 71), .ref (loc 72), .int 0, .ref (loc 73), .ref (loc 74), .ref (loc 75), .int 0, .int 0, .int 0, .int 0, .int 0, .int 0, .int 0]) inT5 tyX5 tyX5_ok nmX5 (hd 48 rfl) rfl (hm 48 rfl) rfl 0 (by decide) k_585 rfl rfl rfl rfl rfl (Nat.le_of_ble_eq_true rfl) d_M_begin_85 rfl ?_
  refine v_aload_n hX d_M_begin_88 rfl rfl ?_
  refine v_get hX 48 (v := .int 0) inT5 (hd 48 rfl) rfl rfl rfl 0 (by decide) k_585 rfl rfl d_M_begin_89 ?_
  refine v_if_le hX d_M_begin_92 (tgt := 97) (by decide) (fun _ => ?_) (fun c => absurd (by decide) c)
  refine v_aload_n hX d_M_begin_97 rfl rfl ?_
  refine v_iload_n hX d_M_begin_98 rfl rfl ?_
  refine v_iload_n hX d_M_begin_99 rfl rfl ?_
  refine v_iconst (v := 1) hX d_M_begin_100 (by decide) ?_
  refine v_icmp_eq hX d_M_begin_101 (tgt := 110) (by decide) (fun c => absurd c (by decide)) (fun _ => ?_)
  refine v_iload_n hX d_M_begin_104 rfl rfl ?_
  refine v_bipush (v := 6) hX d_M_begin_105 (by decide) ?_
  refine v_icmp_ne hX d_M_begin_107 (tgt := 114) (by decide) (fun _ => ?_) (fun c => absurd c (by decide))
  refine v_iconst (v := 0) hX d_M_begin_114 (by decide) ?_
  refine c_V hX 48 (rest := []) hl (c_M_add hd 3 0 rfl (hm 49 rfl) (hm 50 rfl) (hm 51 rfl) (hm 52 rfl) (hm 53 rfl) (hm 54 rfl) (hm 55 rfl) ) k_744 k_746 kp_29 k_6 k_747 rfl q_M_add ⟨(Nat.le_of_ble_eq_true rfl), (Nat.le_of_ble_eq_true rfl)⟩ (hd 48 rfl) rfl rfl rfl rfl rfl rfl (Nat.le_of_ble_eq_true rfl) d_M_begin_115 ⟨(Nat.le_of_ble_eq_true rfl), (Nat.le_of_ble_eq_true rfl)⟩ (fun rv d2 lo2 va2 kc ns hp => ?_)
  obtain ⟨rfl, rfl, rfl, rfl, rfl, rfl⟩ := hp
  show V X D CL A _ _ _ _ _ _ _ (.int 1 :: [])
  refine v_istore (lv' := [some (.ref (loc 48)), some (.int 3), some (.int n), some (.int 1), some (.int 1)]) hX d_M_begin_118 (Nat.le_of_ble_eq_true rfl) rfl ?_
  refine v_iload_n hX d_M_begin_120 rfl rfl ?_
  refine v_iconst (v := 2) hX d_M_begin_121 (by decide) ?_
  refine v_icmp_eq hX d_M_begin_122 (tgt := 137) (by decide) (fun c => absurd c (by decide)) (fun _ => ?_)
  refine v_iload_n hX d_M_begin_125 rfl rfl ?_
  refine v_bipush (v := 9) hX d_M_begin_126 (by decide) ?_
  refine v_icmp_eq hX d_M_begin_128 (tgt := 137) (by decide) (fun c => absurd c (by decide)) (fun _ => ?_)
  refine v_aload_n hX d_M_begin_131 rfl rfl ?_
  refine v_iload hX d_M_begin_132 rfl ?_
  refine v_putE hX 48 (fs2 := [.int 0, .ref (loc 49), .ref (loc 50), .ref (loc 51), .ref (loc 52), .ref (loc 53), .ref (loc 54), .ref (loc 55), .ref (loc 56), .int 2, .int 0, .int 1, .ref (loc 57), .ref (loc 58), .ref (loc 59), .ref (loc 60), .ref (loc 61), .ref (loc 62), .int 0, .int 0, .int 0, .int 0, .int 0, .int 0, .ref (loc 63), .ref (loc 64), .ref (loc 65), .ref (loc 66), .ref (loc 67), .ref (loc 68), .ref (loc 69), .ref (loc 70), .ref (loc 71), .ref (loc 72), .int 0, .ref (loc 73), .ref (loc 74), .ref (loc 75), .int 0, .int 0, .int 0, .int 0, .int 0, .int 0, .int 0]) inT5 tyX5 tyX5_ok nmX5 (hd 48 rfl) rfl rfl rfl 11 (by decide) k_596 rfl rfl rfl rfl rfl (Nat.le_of_ble_eq_true rfl) d_M_begin_134 rfl ?_
  refine v_iload hX d_M_begin_137 rfl ?_
  exact v_iret hX hE d_M_begin_139 (Nat.le_of_ble_eq_true rfl) (Nat.le_of_ble_eq_true rfl) ⟨rfl, ⟨_, rfl⟩, ⟨hd 48 rfl, rfl, hd 76 rfl, rfl, rfl⟩, rfl, rfl⟩
set_option maxHeartbeats 4000000 in
set_option maxRecDepth 100000 in
theorem c_M_begin_ok4 {l : Launch} {D : va_G} {A : Nat → Prop} {cI cB cZ cJ cN : ClassId} {dom : Nat → Prop} (hd : ∀ k, (Nat.ble 48 k && Nat.ble (k + 1) 77) = true → dom k) {loc : Nat → Nat} {val : Nat → va_E} (hm : ∀ k, (Nat.ble 48 k && Nat.ble (k + 1) 76) = true → val k = mcell cI cB cZ loc k) (n : Int32) (hn : isNum 4 n = 1) : kM l y_M_begin (Cond.code y_M_begin b_M_begin 5 (some FieldType.int) :: TT) (rmL 3) D CL (TY cI cB cZ cJ cN) A [.ref (loc 48), .int 4, .int n] (dom) loc val (fun rv d lo va kc ns => rv = some (.int 1) ∧ (∃ xs9, va 48 = .inr (5, .int 0 :: xs9)) ∧ keepO loc val d lo va ∧ kc = 0 ∧ ns = 0) := by
  refine kM_of (lv0 := [some (.ref (loc 48)), some (.int 4), some (.int n), none, none]) (own := "ProsePagesModel") (by decide) rfl (List.forall_mem_cons.mpr ⟨rfl, List.forall_mem_cons.mpr ⟨rfl, List.forall_mem_cons.mpr ⟨rfl, fun _ h => nomatch h⟩⟩⟩) (Nat.le_of_ble_eq_true rfl) rfl (Nat.le_of_ble_eq_true rfl) (fun X hl hX hE hin0 => ?_)
  refine v_iload_n hX d_M_begin_0 rfl rfl ?_
  refine v_if_lt hX d_M_begin_1 (tgt := 62) (by decide) (fun c => absurd c (by decide)) (fun _ => ?_)
  refine v_iload_n hX d_M_begin_4 rfl rfl ?_
  refine v_bipush (v := 9) hX d_M_begin_5 (by decide) ?_
  refine v_icmp_gt hX d_M_begin_7 (tgt := 62) (by decide) (fun c => absurd c (by decide)) (fun _ => ?_)
  refine v_aload_n hX d_M_begin_10 rfl rfl ?_
  refine v_get hX 48 (v := .ref (loc 49)) inT5 (hd 48 rfl) rfl (hm 48 rfl) rfl 1 (by decide) k_586 rfl rfl d_M_begin_11 ?_
  refine v_aload_n hX d_M_begin_14 rfl rfl ?_
  refine v_get hX 48 (v := .int 0) inT5 (hd 48 rfl) rfl (hm 48 rfl) rfl 11 (by decide) k_596 rfl rfl d_M_begin_15 ?_
  refine v_iald hX 49 0 (v := 11) (hd 49 rfl) rfl (hm 49 rfl) rfl (vpb (by decide)) (by first | rfl | decide) d_M_begin_18 ?_
  refine v_iload_n hX d_M_begin_19 rfl rfl ?_
  refine c_S hX (rest := []) hl (c_M_mayHold 4) k_730 k_731 k_6 k_732 rfl q_M_mayHold ⟨(Nat.le_of_ble_eq_true rfl), (Nat.le_of_ble_eq_true rfl)⟩ rfl rfl rfl (Nat.le_of_ble_eq_true rfl) d_M_begin_20 ⟨(Nat.le_of_ble_eq_true rfl), (Nat.le_of_ble_eq_true rfl)⟩ (fun rv d2 lo2 va2 kc ns hp => ?_)
  obtain ⟨rfl, rfl, rfl, rfl, rfl, rfl⟩ := hp
  show V X D CL A _ _ _ _ _ _ _ (.int (blk 4) :: [])
  refine v_if_eq hX d_M_begin_23 (tgt := 62) (by decide) (fun c => absurd c (by decide)) (fun _ => ?_)
  refine v_iload_n hX d_M_begin_26 rfl rfl ?_
  refine v_iconst (v := 1) hX d_M_begin_27 (by decide) ?_
  refine v_icmp_ne hX d_M_begin_28 (tgt := 42) (by decide) (fun _ => ?_) (fun c => absurd c (by decide))
  refine v_iload_n hX d_M_begin_42 rfl rfl ?_
  refine v_bipush (v := 6) hX d_M_begin_43 (by decide) ?_
  refine v_icmp_ne hX d_M_begin_45 (tgt := 58) (by decide) (fun _ => ?_) (fun c => absurd c (by decide))
  refine v_iconst (v := 1) hX d_M_begin_58 (by decide) ?_
  refine v_goto hX d_M_begin_59 (tgt := 63) (by decide) ?_
  refine v_istore_n (lv' := [some (.ref (loc 48)), some (.int 4), some (.int n), some (.int 1), none]) hX d_M_begin_63 rfl (Nat.le_of_ble_eq_true rfl) rfl ?_
  refine v_aload_n hX d_M_begin_64 rfl rfl ?_
  refine v_aload_n hX d_M_begin_65 rfl rfl ?_
  refine c_V hX 48 (rest := [.ref (loc 48)]) hl (c_M_isFull hd  (hm 48 rfl) (hm 52 rfl) ) k_740 k_742 kp_28 k_6 k_743 rfl q_M_isFull ⟨(Nat.le_of_ble_eq_true rfl), (Nat.le_of_ble_eq_true rfl)⟩ (hd 48 rfl) rfl (hm 48 rfl) rfl rfl rfl rfl (Nat.le_of_ble_eq_true rfl) d_M_begin_66 ⟨(Nat.le_of_ble_eq_true rfl), (Nat.le_of_ble_eq_true rfl)⟩ (fun rv d2 lo2 va2 kc ns hp => ?_)
  obtain ⟨rfl, rfl, rfl, rfl, rfl, rfl⟩ := hp
  show V X D CL A _ _ _ _ _ _ _ (.int 0 :: [.ref (loc 48)])
  refine v_if_eq hX d_M_begin_69 (tgt := 76) (by decide) (fun _ => ?_) (fun c => absurd (by decide) c)
  refine v_iload_n hX d_M_begin_76 rfl rfl ?_
  refine v_if_eq hX d_M_begin_77 (tgt := 84) (by decide) (fun c => absurd c (by decide)) (fun _ => ?_)
  refine v_iconst (v := 0) hX d_M_begin_80 (by decide) ?_
  refine v_goto hX d_M_begin_81 (tgt := 85) (by decide) ?_
  refine v_putE hX 48 (fs2 := [.int 0, .ref (loc 49), .ref (loc 50), .ref (loc 51), .ref (loc 52), .ref (loc 53), .ref (loc 54), .ref (loc 55), .ref (loc 56), .int 1, .int 0, .int 0, .ref (loc 57), .ref (loc 58), .ref (loc 59), .ref (loc 60), .ref (loc 61), .ref (loc 62), .int 0, .int 0, .int 0, .int 0, .int 0, .int 0, .ref (loc 63), .ref (loc 64), .ref (loc 65), .ref (loc 66), .ref (loc 67), .ref (loc 68), .ref (loc 69), .ref (loc 70), .ref (loc 71), .ref (loc 72), .int 0, .ref (loc 73), .ref (loc 74), .ref (loc 75), .int 0, .int 0, .int 0, .int 0, .int 0, .int 0, .int 0]) inT5 tyX5 tyX5_ok nmX5 (hd 48 rfl) rfl (hm 48 rfl) rfl 0 (by decide) k_585 rfl rfl rfl rfl rfl (Nat.le_of_ble_eq_true rfl) d_M_begin_85 rfl ?_
  refine v_aload_n hX d_M_begin_88 rfl rfl ?_
  refine v_get hX 48 (v := .int 0) inT5 (hd 48 rfl) rfl rfl rfl 0 (by decide) k_585 rfl rfl d_M_begin_89 ?_
  refine v_if_le hX d_M_begin_92 (tgt := 97) (by decide) (fun _ => ?_) (fun c => absurd (by decide) c)
  refine v_aload_n hX d_M_begin_97 rfl rfl ?_
  refine v_iload_n hX d_M_begin_98 rfl rfl ?_
  refine v_iload_n hX d_M_begin_99 rfl rfl ?_
  refine v_iconst (v := 1) hX d_M_begin_100 (by decide) ?_
  refine v_icmp_eq hX d_M_begin_101 (tgt := 110) (by decide) (fun c => absurd c (by decide)) (fun _ => ?_)
  refine v_iload_n hX d_M_begin_104 rfl rfl ?_
  refine v_bipush (v := 6) hX d_M_begin_105 (by decide) ?_
  refine v_icmp_ne hX d_M_begin_107 (tgt := 114) (by decide) (fun _ => ?_) (fun c => absurd c (by decide))
  refine v_iconst (v := 0) hX d_M_begin_114 (by decide) ?_
  refine c_V hX 48 (rest := []) hl (c_M_add hd 4 0 rfl (hm 49 rfl) (hm 50 rfl) (hm 51 rfl) (hm 52 rfl) (hm 53 rfl) (hm 54 rfl) (hm 55 rfl) ) k_744 k_746 kp_29 k_6 k_747 rfl q_M_add ⟨(Nat.le_of_ble_eq_true rfl), (Nat.le_of_ble_eq_true rfl)⟩ (hd 48 rfl) rfl rfl rfl rfl rfl rfl (Nat.le_of_ble_eq_true rfl) d_M_begin_115 ⟨(Nat.le_of_ble_eq_true rfl), (Nat.le_of_ble_eq_true rfl)⟩ (fun rv d2 lo2 va2 kc ns hp => ?_)
  obtain ⟨rfl, rfl, rfl, rfl, rfl, rfl⟩ := hp
  show V X D CL A _ _ _ _ _ _ _ (.int 1 :: [])
  refine v_istore (lv' := [some (.ref (loc 48)), some (.int 4), some (.int n), some (.int 1), some (.int 1)]) hX d_M_begin_118 (Nat.le_of_ble_eq_true rfl) rfl ?_
  refine v_iload_n hX d_M_begin_120 rfl rfl ?_
  refine v_iconst (v := 2) hX d_M_begin_121 (by decide) ?_
  refine v_icmp_eq hX d_M_begin_122 (tgt := 137) (by decide) (fun c => absurd c (by decide)) (fun _ => ?_)
  refine v_iload_n hX d_M_begin_125 rfl rfl ?_
  refine v_bipush (v := 9) hX d_M_begin_126 (by decide) ?_
  refine v_icmp_eq hX d_M_begin_128 (tgt := 137) (by decide) (fun c => absurd c (by decide)) (fun _ => ?_)
  refine v_aload_n hX d_M_begin_131 rfl rfl ?_
  refine v_iload hX d_M_begin_132 rfl ?_
  refine v_putE hX 48 (fs2 := [.int 0, .ref (loc 49), .ref (loc 50), .ref (loc 51), .ref (loc 52), .ref (loc 53), .ref (loc 54), .ref (loc 55), .ref (loc 56), .int 2, .int 0, .int 1, .ref (loc 57), .ref (loc 58), .ref (loc 59), .ref (loc 60), .ref (loc 61), .ref (loc 62), .int 0, .int 0, .int 0, .int 0, .int 0, .int 0, .ref (loc 63), .ref (loc 64), .ref (loc 65), .ref (loc 66), .ref (loc 67), .ref (loc 68), .ref (loc 69), .ref (loc 70), .ref (loc 71), .ref (loc 72), .int 0, .ref (loc 73), .ref (loc 74), .ref (loc 75), .int 0, .int 0, .int 0, .int 0, .int 0, .int 0, .int 0]) inT5 tyX5 tyX5_ok nmX5 (hd 48 rfl) rfl rfl rfl 11 (by decide) k_596 rfl rfl rfl rfl rfl (Nat.le_of_ble_eq_true rfl) d_M_begin_134 rfl ?_
  refine v_iload hX d_M_begin_137 rfl ?_
  exact v_iret hX hE d_M_begin_139 (Nat.le_of_ble_eq_true rfl) (Nat.le_of_ble_eq_true rfl) ⟨rfl, ⟨_, rfl⟩, ⟨hd 48 rfl, rfl, hd 76 rfl, rfl, rfl⟩, rfl, rfl⟩
set_option maxHeartbeats 4000000 in
set_option maxRecDepth 100000 in
theorem c_M_begin_ok5 {l : Launch} {D : va_G} {A : Nat → Prop} {cI cB cZ cJ cN : ClassId} {dom : Nat → Prop} (hd : ∀ k, (Nat.ble 48 k && Nat.ble (k + 1) 77) = true → dom k) {loc : Nat → Nat} {val : Nat → va_E} (hm : ∀ k, (Nat.ble 48 k && Nat.ble (k + 1) 76) = true → val k = mcell cI cB cZ loc k) (n : Int32) (hn : isNum 5 n = 1) : kM l y_M_begin (Cond.code y_M_begin b_M_begin 5 (some FieldType.int) :: TT) (rmL 3) D CL (TY cI cB cZ cJ cN) A [.ref (loc 48), .int 5, .int n] (dom) loc val (fun rv d lo va kc ns => rv = some (.int 1) ∧ (∃ xs9, va 48 = .inr (5, .int 0 :: xs9)) ∧ keepO loc val d lo va ∧ kc = 0 ∧ ns = 0) := by
  refine kM_of (lv0 := [some (.ref (loc 48)), some (.int 5), some (.int n), none, none]) (own := "ProsePagesModel") (by decide) rfl (List.forall_mem_cons.mpr ⟨rfl, List.forall_mem_cons.mpr ⟨rfl, List.forall_mem_cons.mpr ⟨rfl, fun _ h => nomatch h⟩⟩⟩) (Nat.le_of_ble_eq_true rfl) rfl (Nat.le_of_ble_eq_true rfl) (fun X hl hX hE hin0 => ?_)
  refine v_iload_n hX d_M_begin_0 rfl rfl ?_
  refine v_if_lt hX d_M_begin_1 (tgt := 62) (by decide) (fun c => absurd c (by decide)) (fun _ => ?_)
  refine v_iload_n hX d_M_begin_4 rfl rfl ?_
  refine v_bipush (v := 9) hX d_M_begin_5 (by decide) ?_
  refine v_icmp_gt hX d_M_begin_7 (tgt := 62) (by decide) (fun c => absurd c (by decide)) (fun _ => ?_)
  refine v_aload_n hX d_M_begin_10 rfl rfl ?_
  refine v_get hX 48 (v := .ref (loc 49)) inT5 (hd 48 rfl) rfl (hm 48 rfl) rfl 1 (by decide) k_586 rfl rfl d_M_begin_11 ?_
  refine v_aload_n hX d_M_begin_14 rfl rfl ?_
  refine v_get hX 48 (v := .int 0) inT5 (hd 48 rfl) rfl (hm 48 rfl) rfl 11 (by decide) k_596 rfl rfl d_M_begin_15 ?_
  refine v_iald hX 49 0 (v := 11) (hd 49 rfl) rfl (hm 49 rfl) rfl (vpb (by decide)) (by first | rfl | decide) d_M_begin_18 ?_
  refine v_iload_n hX d_M_begin_19 rfl rfl ?_
  refine c_S hX (rest := []) hl (c_M_mayHold 5) k_730 k_731 k_6 k_732 rfl q_M_mayHold ⟨(Nat.le_of_ble_eq_true rfl), (Nat.le_of_ble_eq_true rfl)⟩ rfl rfl rfl (Nat.le_of_ble_eq_true rfl) d_M_begin_20 ⟨(Nat.le_of_ble_eq_true rfl), (Nat.le_of_ble_eq_true rfl)⟩ (fun rv d2 lo2 va2 kc ns hp => ?_)
  obtain ⟨rfl, rfl, rfl, rfl, rfl, rfl⟩ := hp
  show V X D CL A _ _ _ _ _ _ _ (.int (blk 5) :: [])
  refine v_if_eq hX d_M_begin_23 (tgt := 62) (by decide) (fun c => absurd c (by decide)) (fun _ => ?_)
  refine v_iload_n hX d_M_begin_26 rfl rfl ?_
  refine v_iconst (v := 1) hX d_M_begin_27 (by decide) ?_
  refine v_icmp_ne hX d_M_begin_28 (tgt := 42) (by decide) (fun _ => ?_) (fun c => absurd c (by decide))
  refine v_iload_n hX d_M_begin_42 rfl rfl ?_
  refine v_bipush (v := 6) hX d_M_begin_43 (by decide) ?_
  refine v_icmp_ne hX d_M_begin_45 (tgt := 58) (by decide) (fun _ => ?_) (fun c => absurd c (by decide))
  refine v_iconst (v := 1) hX d_M_begin_58 (by decide) ?_
  refine v_goto hX d_M_begin_59 (tgt := 63) (by decide) ?_
  refine v_istore_n (lv' := [some (.ref (loc 48)), some (.int 5), some (.int n), some (.int 1), none]) hX d_M_begin_63 rfl (Nat.le_of_ble_eq_true rfl) rfl ?_
  refine v_aload_n hX d_M_begin_64 rfl rfl ?_
  refine v_aload_n hX d_M_begin_65 rfl rfl ?_
  refine c_V hX 48 (rest := [.ref (loc 48)]) hl (c_M_isFull hd  (hm 48 rfl) (hm 52 rfl) ) k_740 k_742 kp_28 k_6 k_743 rfl q_M_isFull ⟨(Nat.le_of_ble_eq_true rfl), (Nat.le_of_ble_eq_true rfl)⟩ (hd 48 rfl) rfl (hm 48 rfl) rfl rfl rfl rfl (Nat.le_of_ble_eq_true rfl) d_M_begin_66 ⟨(Nat.le_of_ble_eq_true rfl), (Nat.le_of_ble_eq_true rfl)⟩ (fun rv d2 lo2 va2 kc ns hp => ?_)
  obtain ⟨rfl, rfl, rfl, rfl, rfl, rfl⟩ := hp
  show V X D CL A _ _ _ _ _ _ _ (.int 0 :: [.ref (loc 48)])
  refine v_if_eq hX d_M_begin_69 (tgt := 76) (by decide) (fun _ => ?_) (fun c => absurd (by decide) c)
  refine v_iload_n hX d_M_begin_76 rfl rfl ?_
  refine v_if_eq hX d_M_begin_77 (tgt := 84) (by decide) (fun c => absurd c (by decide)) (fun _ => ?_)
  refine v_iconst (v := 0) hX d_M_begin_80 (by decide) ?_
  refine v_goto hX d_M_begin_81 (tgt := 85) (by decide) ?_
  refine v_putE hX 48 (fs2 := [.int 0, .ref (loc 49), .ref (loc 50), .ref (loc 51), .ref (loc 52), .ref (loc 53), .ref (loc 54), .ref (loc 55), .ref (loc 56), .int 1, .int 0, .int 0, .ref (loc 57), .ref (loc 58), .ref (loc 59), .ref (loc 60), .ref (loc 61), .ref (loc 62), .int 0, .int 0, .int 0, .int 0, .int 0, .int 0, .ref (loc 63), .ref (loc 64), .ref (loc 65), .ref (loc 66), .ref (loc 67), .ref (loc 68), .ref (loc 69), .ref (loc 70), .ref (loc 71), .ref (loc 72), .int 0, .ref (loc 73), .ref (loc 74), .ref (loc 75), .int 0, .int 0, .int 0, .int 0, .int 0, .int 0, .int 0]) inT5 tyX5 tyX5_ok nmX5 (hd 48 rfl) rfl (hm 48 rfl) rfl 0 (by decide) k_585 rfl rfl rfl rfl rfl (Nat.le_of_ble_eq_true rfl) d_M_begin_85 rfl ?_
  refine v_aload_n hX d_M_begin_88 rfl rfl ?_
  refine v_get hX 48 (v := .int 0) inT5 (hd 48 rfl) rfl rfl rfl 0 (by decide) k_585 rfl rfl d_M_begin_89 ?_
  refine v_if_le hX d_M_begin_92 (tgt := 97) (by decide) (fun _ => ?_) (fun c => absurd (by decide) c)
  refine v_aload_n hX d_M_begin_97 rfl rfl ?_
  refine v_iload_n hX d_M_begin_98 rfl rfl ?_
  refine v_iload_n hX d_M_begin_99 rfl rfl ?_
  refine v_iconst (v := 1) hX d_M_begin_100 (by decide) ?_
  refine v_icmp_eq hX d_M_begin_101 (tgt := 110) (by decide) (fun c => absurd c (by decide)) (fun _ => ?_)
  refine v_iload_n hX d_M_begin_104 rfl rfl ?_
  refine v_bipush (v := 6) hX d_M_begin_105 (by decide) ?_
  refine v_icmp_ne hX d_M_begin_107 (tgt := 114) (by decide) (fun _ => ?_) (fun c => absurd c (by decide))
  refine v_iconst (v := 0) hX d_M_begin_114 (by decide) ?_
  refine c_V hX 48 (rest := []) hl (c_M_add hd 5 0 rfl (hm 49 rfl) (hm 50 rfl) (hm 51 rfl) (hm 52 rfl) (hm 53 rfl) (hm 54 rfl) (hm 55 rfl) ) k_744 k_746 kp_29 k_6 k_747 rfl q_M_add ⟨(Nat.le_of_ble_eq_true rfl), (Nat.le_of_ble_eq_true rfl)⟩ (hd 48 rfl) rfl rfl rfl rfl rfl rfl (Nat.le_of_ble_eq_true rfl) d_M_begin_115 ⟨(Nat.le_of_ble_eq_true rfl), (Nat.le_of_ble_eq_true rfl)⟩ (fun rv d2 lo2 va2 kc ns hp => ?_)
  obtain ⟨rfl, rfl, rfl, rfl, rfl, rfl⟩ := hp
  show V X D CL A _ _ _ _ _ _ _ (.int 1 :: [])
  refine v_istore (lv' := [some (.ref (loc 48)), some (.int 5), some (.int n), some (.int 1), some (.int 1)]) hX d_M_begin_118 (Nat.le_of_ble_eq_true rfl) rfl ?_
  refine v_iload_n hX d_M_begin_120 rfl rfl ?_
  refine v_iconst (v := 2) hX d_M_begin_121 (by decide) ?_
  refine v_icmp_eq hX d_M_begin_122 (tgt := 137) (by decide) (fun c => absurd c (by decide)) (fun _ => ?_)
  refine v_iload_n hX d_M_begin_125 rfl rfl ?_
  refine v_bipush (v := 9) hX d_M_begin_126 (by decide) ?_
  refine v_icmp_eq hX d_M_begin_128 (tgt := 137) (by decide) (fun c => absurd c (by decide)) (fun _ => ?_)
  refine v_aload_n hX d_M_begin_131 rfl rfl ?_
  refine v_iload hX d_M_begin_132 rfl ?_
  refine v_putE hX 48 (fs2 := [.int 0, .ref (loc 49), .ref (loc 50), .ref (loc 51), .ref (loc 52), .ref (loc 53), .ref (loc 54), .ref (loc 55), .ref (loc 56), .int 2, .int 0, .int 1, .ref (loc 57), .ref (loc 58), .ref (loc 59), .ref (loc 60), .ref (loc 61), .ref (loc 62), .int 0, .int 0, .int 0, .int 0, .int 0, .int 0, .ref (loc 63), .ref (loc 64), .ref (loc 65), .ref (loc 66), .ref (loc 67), .ref (loc 68), .ref (loc 69), .ref (loc 70), .ref (loc 71), .ref (loc 72), .int 0, .ref (loc 73), .ref (loc 74), .ref (loc 75), .int 0, .int 0, .int 0, .int 0, .int 0, .int 0, .int 0]) inT5 tyX5 tyX5_ok nmX5 (hd 48 rfl) rfl rfl rfl 11 (by decide) k_596 rfl rfl rfl rfl rfl (Nat.le_of_ble_eq_true rfl) d_M_begin_134 rfl ?_
  refine v_iload hX d_M_begin_137 rfl ?_
  exact v_iret hX hE d_M_begin_139 (Nat.le_of_ble_eq_true rfl) (Nat.le_of_ble_eq_true rfl) ⟨rfl, ⟨_, rfl⟩, ⟨hd 48 rfl, rfl, hd 76 rfl, rfl, rfl⟩, rfl, rfl⟩
set_option maxHeartbeats 4000000 in
set_option maxRecDepth 100000 in
theorem c_M_begin_ok6 {l : Launch} {D : va_G} {A : Nat → Prop} {cI cB cZ cJ cN : ClassId} {dom : Nat → Prop} (hd : ∀ k, (Nat.ble 48 k && Nat.ble (k + 1) 77) = true → dom k) {loc : Nat → Nat} {val : Nat → va_E} (hm : ∀ k, (Nat.ble 48 k && Nat.ble (k + 1) 76) = true → val k = mcell cI cB cZ loc k) (n : Int32) (hn : isNum 6 n = 1) : kM l y_M_begin (Cond.code y_M_begin b_M_begin 5 (some FieldType.int) :: TT) (rmL 3) D CL (TY cI cB cZ cJ cN) A [.ref (loc 48), .int 6, .int n] (dom) loc val (fun rv d lo va kc ns => rv = some (.int 1) ∧ (∃ xs9, va 48 = .inr (5, .int 0 :: xs9)) ∧ keepO loc val d lo va ∧ kc = 0 ∧ ns = 0) := by
  refine kM_of (lv0 := [some (.ref (loc 48)), some (.int 6), some (.int n), none, none]) (own := "ProsePagesModel") (by decide) rfl (List.forall_mem_cons.mpr ⟨rfl, List.forall_mem_cons.mpr ⟨rfl, List.forall_mem_cons.mpr ⟨rfl, fun _ h => nomatch h⟩⟩⟩) (Nat.le_of_ble_eq_true rfl) rfl (Nat.le_of_ble_eq_true rfl) (fun X hl hX hE hin0 => ?_)
  refine v_iload_n hX d_M_begin_0 rfl rfl ?_
  refine v_if_lt hX d_M_begin_1 (tgt := 62) (by decide) (fun c => absurd c (by decide)) (fun _ => ?_)
  refine v_iload_n hX d_M_begin_4 rfl rfl ?_
  refine v_bipush (v := 9) hX d_M_begin_5 (by decide) ?_
  refine v_icmp_gt hX d_M_begin_7 (tgt := 62) (by decide) (fun c => absurd c (by decide)) (fun _ => ?_)
  refine v_aload_n hX d_M_begin_10 rfl rfl ?_
  refine v_get hX 48 (v := .ref (loc 49)) inT5 (hd 48 rfl) rfl (hm 48 rfl) rfl 1 (by decide) k_586 rfl rfl d_M_begin_11 ?_
  refine v_aload_n hX d_M_begin_14 rfl rfl ?_
  refine v_get hX 48 (v := .int 0) inT5 (hd 48 rfl) rfl (hm 48 rfl) rfl 11 (by decide) k_596 rfl rfl d_M_begin_15 ?_
  refine v_iald hX 49 0 (v := 11) (hd 49 rfl) rfl (hm 49 rfl) rfl (vpb (by decide)) (by first | rfl | decide) d_M_begin_18 ?_
  refine v_iload_n hX d_M_begin_19 rfl rfl ?_
  refine c_S hX (rest := []) hl (c_M_mayHold 6) k_730 k_731 k_6 k_732 rfl q_M_mayHold ⟨(Nat.le_of_ble_eq_true rfl), (Nat.le_of_ble_eq_true rfl)⟩ rfl rfl rfl (Nat.le_of_ble_eq_true rfl) d_M_begin_20 ⟨(Nat.le_of_ble_eq_true rfl), (Nat.le_of_ble_eq_true rfl)⟩ (fun rv d2 lo2 va2 kc ns hp => ?_)
  obtain ⟨rfl, rfl, rfl, rfl, rfl, rfl⟩ := hp
  show V X D CL A _ _ _ _ _ _ _ (.int (blk 6) :: [])
  refine v_if_eq hX d_M_begin_23 (tgt := 62) (by decide) (fun c => absurd c (by decide)) (fun _ => ?_)
  refine v_iload_n hX d_M_begin_26 rfl rfl ?_
  refine v_iconst (v := 1) hX d_M_begin_27 (by decide) ?_
  refine v_icmp_ne hX d_M_begin_28 (tgt := 42) (by decide) (fun _ => ?_) (fun c => absurd c (by decide))
  refine v_iload_n hX d_M_begin_42 rfl rfl ?_
  refine v_bipush (v := 6) hX d_M_begin_43 (by decide) ?_
  refine v_icmp_ne hX d_M_begin_45 (tgt := 58) (by decide) (fun c => absurd (by decide) c) (fun _ => ?_)
  refine v_iload_n hX d_M_begin_48 rfl rfl ?_
  refine v_if_lt hX d_M_begin_49 (tgt := 62) (by decide) (fun c => absurd c ((isNum6 hn).1)) (fun _ => ?_)
  refine v_iload_n hX d_M_begin_52 rfl rfl ?_
  refine v_ldc (v := 999999999) hX k_739 d_M_begin_53 ?_
  refine v_icmp_gt hX d_M_begin_55 (tgt := 62) (by decide) (fun c => absurd c ((isNum6 hn).2)) (fun _ => ?_)
  refine v_iconst (v := 1) hX d_M_begin_58 (by decide) ?_
  refine v_goto hX d_M_begin_59 (tgt := 63) (by decide) ?_
  refine v_istore_n (lv' := [some (.ref (loc 48)), some (.int 6), some (.int n), some (.int 1), none]) hX d_M_begin_63 rfl (Nat.le_of_ble_eq_true rfl) rfl ?_
  refine v_aload_n hX d_M_begin_64 rfl rfl ?_
  refine v_aload_n hX d_M_begin_65 rfl rfl ?_
  refine c_V hX 48 (rest := [.ref (loc 48)]) hl (c_M_isFull hd  (hm 48 rfl) (hm 52 rfl) ) k_740 k_742 kp_28 k_6 k_743 rfl q_M_isFull ⟨(Nat.le_of_ble_eq_true rfl), (Nat.le_of_ble_eq_true rfl)⟩ (hd 48 rfl) rfl (hm 48 rfl) rfl rfl rfl rfl (Nat.le_of_ble_eq_true rfl) d_M_begin_66 ⟨(Nat.le_of_ble_eq_true rfl), (Nat.le_of_ble_eq_true rfl)⟩ (fun rv d2 lo2 va2 kc ns hp => ?_)
  obtain ⟨rfl, rfl, rfl, rfl, rfl, rfl⟩ := hp
  show V X D CL A _ _ _ _ _ _ _ (.int 0 :: [.ref (loc 48)])
  refine v_if_eq hX d_M_begin_69 (tgt := 76) (by decide) (fun _ => ?_) (fun c => absurd (by decide) c)
  refine v_iload_n hX d_M_begin_76 rfl rfl ?_
  refine v_if_eq hX d_M_begin_77 (tgt := 84) (by decide) (fun c => absurd c (by decide)) (fun _ => ?_)
  refine v_iconst (v := 0) hX d_M_begin_80 (by decide) ?_
  refine v_goto hX d_M_begin_81 (tgt := 85) (by decide) ?_
  refine v_putE hX 48 (fs2 := [.int 0, .ref (loc 49), .ref (loc 50), .ref (loc 51), .ref (loc 52), .ref (loc 53), .ref (loc 54), .ref (loc 55), .ref (loc 56), .int 1, .int 0, .int 0, .ref (loc 57), .ref (loc 58), .ref (loc 59), .ref (loc 60), .ref (loc 61), .ref (loc 62), .int 0, .int 0, .int 0, .int 0, .int 0, .int 0, .ref (loc 63), .ref (loc 64), .ref (loc 65), .ref (loc 66), .ref (loc 67), .ref (loc 68), .ref (loc 69), .ref (loc 70), .ref (loc 71), .ref (loc 72), .int 0, .ref (loc 73), .ref (loc 74), .ref (loc 75), .int 0, .int 0, .int 0, .int 0, .int 0, .int 0, .int 0]) inT5 tyX5 tyX5_ok nmX5 (hd 48 rfl) rfl (hm 48 rfl) rfl 0 (by decide) k_585 rfl rfl rfl rfl rfl (Nat.le_of_ble_eq_true rfl) d_M_begin_85 rfl ?_
  refine v_aload_n hX d_M_begin_88 rfl rfl ?_
  refine v_get hX 48 (v := .int 0) inT5 (hd 48 rfl) rfl rfl rfl 0 (by decide) k_585 rfl rfl d_M_begin_89 ?_
  refine v_if_le hX d_M_begin_92 (tgt := 97) (by decide) (fun _ => ?_) (fun c => absurd (by decide) c)
  refine v_aload_n hX d_M_begin_97 rfl rfl ?_
  refine v_iload_n hX d_M_begin_98 rfl rfl ?_
  refine v_iload_n hX d_M_begin_99 rfl rfl ?_
  refine v_iconst (v := 1) hX d_M_begin_100 (by decide) ?_
  refine v_icmp_eq hX d_M_begin_101 (tgt := 110) (by decide) (fun c => absurd c (by decide)) (fun _ => ?_)
  refine v_iload_n hX d_M_begin_104 rfl rfl ?_
  refine v_bipush (v := 6) hX d_M_begin_105 (by decide) ?_
  refine v_icmp_ne hX d_M_begin_107 (tgt := 114) (by decide) (fun c => absurd (by decide) c) (fun _ => ?_)
  refine v_iload_n hX d_M_begin_110 rfl rfl ?_
  refine v_goto hX d_M_begin_111 (tgt := 115) (by decide) ?_
  refine c_V hX 48 (rest := []) hl (c_M_add hd 6 n rfl (hm 49 rfl) (hm 50 rfl) (hm 51 rfl) (hm 52 rfl) (hm 53 rfl) (hm 54 rfl) (hm 55 rfl) ) k_744 k_746 kp_29 k_6 k_747 rfl q_M_add ⟨(Nat.le_of_ble_eq_true rfl), (Nat.le_of_ble_eq_true rfl)⟩ (hd 48 rfl) rfl rfl rfl rfl rfl rfl (Nat.le_of_ble_eq_true rfl) d_M_begin_115 ⟨(Nat.le_of_ble_eq_true rfl), (Nat.le_of_ble_eq_true rfl)⟩ (fun rv d2 lo2 va2 kc ns hp => ?_)
  obtain ⟨rfl, rfl, rfl, rfl, rfl, rfl⟩ := hp
  show V X D CL A _ _ _ _ _ _ _ (.int 1 :: [])
  refine v_istore (lv' := [some (.ref (loc 48)), some (.int 6), some (.int n), some (.int 1), some (.int 1)]) hX d_M_begin_118 (Nat.le_of_ble_eq_true rfl) rfl ?_
  refine v_iload_n hX d_M_begin_120 rfl rfl ?_
  refine v_iconst (v := 2) hX d_M_begin_121 (by decide) ?_
  refine v_icmp_eq hX d_M_begin_122 (tgt := 137) (by decide) (fun c => absurd c (by decide)) (fun _ => ?_)
  refine v_iload_n hX d_M_begin_125 rfl rfl ?_
  refine v_bipush (v := 9) hX d_M_begin_126 (by decide) ?_
  refine v_icmp_eq hX d_M_begin_128 (tgt := 137) (by decide) (fun c => absurd c (by decide)) (fun _ => ?_)
  refine v_aload_n hX d_M_begin_131 rfl rfl ?_
  refine v_iload hX d_M_begin_132 rfl ?_
  refine v_putE hX 48 (fs2 := [.int 0, .ref (loc 49), .ref (loc 50), .ref (loc 51), .ref (loc 52), .ref (loc 53), .ref (loc 54), .ref (loc 55), .ref (loc 56), .int 2, .int 0, .int 1, .ref (loc 57), .ref (loc 58), .ref (loc 59), .ref (loc 60), .ref (loc 61), .ref (loc 62), .int 0, .int 0, .int 0, .int 0, .int 0, .int 0, .ref (loc 63), .ref (loc 64), .ref (loc 65), .ref (loc 66), .ref (loc 67), .ref (loc 68), .ref (loc 69), .ref (loc 70), .ref (loc 71), .ref (loc 72), .int 0, .ref (loc 73), .ref (loc 74), .ref (loc 75), .int 0, .int 0, .int 0, .int 0, .int 0, .int 0, .int 0]) inT5 tyX5 tyX5_ok nmX5 (hd 48 rfl) rfl rfl rfl 11 (by decide) k_596 rfl rfl rfl rfl rfl (Nat.le_of_ble_eq_true rfl) d_M_begin_134 rfl ?_
  refine v_iload hX d_M_begin_137 rfl ?_
  exact v_iret hX hE d_M_begin_139 (Nat.le_of_ble_eq_true rfl) (Nat.le_of_ble_eq_true rfl) ⟨rfl, ⟨_, rfl⟩, ⟨hd 48 rfl, rfl, hd 76 rfl, rfl, rfl⟩, rfl, rfl⟩
set_option maxHeartbeats 4000000 in
set_option maxRecDepth 100000 in
theorem c_M_begin_bad7 {l : Launch} {D : va_G} {A : Nat → Prop} {cI cB cZ cJ cN : ClassId} {dom : Nat → Prop} (hd : ∀ k, (Nat.ble 48 k && Nat.ble (k + 1) 77) = true → dom k) {loc : Nat → Nat} {val : Nat → va_E} (hm : ∀ k, (Nat.ble 48 k && Nat.ble (k + 1) 76) = true → val k = mcell cI cB cZ loc k) (n : Int32) : kM l y_M_begin (Cond.code y_M_begin b_M_begin 5 (some FieldType.int) :: TT) (rmL 3) D CL (TY cI cB cZ cJ cN) A [.ref (loc 48), .int 7, .int n] (dom) loc val (fun rv d lo va kc ns => rv = some (.int 0) ∧ (∃ xs9, va 48 = .inr (5, .int 2 :: xs9)) ∧ keepO loc val d lo va ∧ kc = 0 ∧ ns = 0) := by
  refine kM_of (lv0 := [some (.ref (loc 48)), some (.int 7), some (.int n), none, none]) (own := "ProsePagesModel") (by decide) rfl (List.forall_mem_cons.mpr ⟨rfl, List.forall_mem_cons.mpr ⟨rfl, List.forall_mem_cons.mpr ⟨rfl, fun _ h => nomatch h⟩⟩⟩) (Nat.le_of_ble_eq_true rfl) rfl (Nat.le_of_ble_eq_true rfl) (fun X hl hX hE hin0 => ?_)
  refine v_iload_n hX d_M_begin_0 rfl rfl ?_
  refine v_if_lt hX d_M_begin_1 (tgt := 62) (by decide) (fun c => absurd c (by decide)) (fun _ => ?_)
  refine v_iload_n hX d_M_begin_4 rfl rfl ?_
  refine v_bipush (v := 9) hX d_M_begin_5 (by decide) ?_
  refine v_icmp_gt hX d_M_begin_7 (tgt := 62) (by decide) (fun c => absurd c (by decide)) (fun _ => ?_)
  refine v_aload_n hX d_M_begin_10 rfl rfl ?_
  refine v_get hX 48 (v := .ref (loc 49)) inT5 (hd 48 rfl) rfl (hm 48 rfl) rfl 1 (by decide) k_586 rfl rfl d_M_begin_11 ?_
  refine v_aload_n hX d_M_begin_14 rfl rfl ?_
  refine v_get hX 48 (v := .int 0) inT5 (hd 48 rfl) rfl (hm 48 rfl) rfl 11 (by decide) k_596 rfl rfl d_M_begin_15 ?_
  refine v_iald hX 49 0 (v := 11) (hd 49 rfl) rfl (hm 49 rfl) rfl (vpb (by decide)) (by first | rfl | decide) d_M_begin_18 ?_
  refine v_iload_n hX d_M_begin_19 rfl rfl ?_
  refine c_S hX (rest := []) hl (c_M_mayHold 7) k_730 k_731 k_6 k_732 rfl q_M_mayHold ⟨(Nat.le_of_ble_eq_true rfl), (Nat.le_of_ble_eq_true rfl)⟩ rfl rfl rfl (Nat.le_of_ble_eq_true rfl) d_M_begin_20 ⟨(Nat.le_of_ble_eq_true rfl), (Nat.le_of_ble_eq_true rfl)⟩ (fun rv d2 lo2 va2 kc ns hp => ?_)
  obtain ⟨rfl, rfl, rfl, rfl, rfl, rfl⟩ := hp
  show V X D CL A _ _ _ _ _ _ _ (.int (blk 7) :: [])
  refine v_if_eq hX d_M_begin_23 (tgt := 62) (by decide) (fun _ => ?_) (fun c => absurd (by decide) c)
  refine v_iconst (v := 0) hX d_M_begin_62 (by decide) ?_
  refine v_istore_n (lv' := [some (.ref (loc 48)), some (.int 7), some (.int n), some (.int 0), none]) hX d_M_begin_63 rfl (Nat.le_of_ble_eq_true rfl) rfl ?_
  refine v_aload_n hX d_M_begin_64 rfl rfl ?_
  refine v_aload_n hX d_M_begin_65 rfl rfl ?_
  refine c_V hX 48 (rest := [.ref (loc 48)]) hl (c_M_isFull hd  (hm 48 rfl) (hm 52 rfl) ) k_740 k_742 kp_28 k_6 k_743 rfl q_M_isFull ⟨(Nat.le_of_ble_eq_true rfl), (Nat.le_of_ble_eq_true rfl)⟩ (hd 48 rfl) rfl (hm 48 rfl) rfl rfl rfl rfl (Nat.le_of_ble_eq_true rfl) d_M_begin_66 ⟨(Nat.le_of_ble_eq_true rfl), (Nat.le_of_ble_eq_true rfl)⟩ (fun rv d2 lo2 va2 kc ns hp => ?_)
  obtain ⟨rfl, rfl, rfl, rfl, rfl, rfl⟩ := hp
  show V X D CL A _ _ _ _ _ _ _ (.int 0 :: [.ref (loc 48)])
  refine v_if_eq hX d_M_begin_69 (tgt := 76) (by decide) (fun _ => ?_) (fun c => absurd (by decide) c)
  refine v_iload_n hX d_M_begin_76 rfl rfl ?_
  refine v_if_eq hX d_M_begin_77 (tgt := 84) (by decide) (fun _ => ?_) (fun c => absurd (by decide) c)
  refine v_iconst (v := 2) hX d_M_begin_84 (by decide) ?_
  refine v_putE hX 48 (fs2 := [.int 2, .ref (loc 49), .ref (loc 50), .ref (loc 51), .ref (loc 52), .ref (loc 53), .ref (loc 54), .ref (loc 55), .ref (loc 56), .int 1, .int 0, .int 0, .ref (loc 57), .ref (loc 58), .ref (loc 59), .ref (loc 60), .ref (loc 61), .ref (loc 62), .int 0, .int 0, .int 0, .int 0, .int 0, .int 0, .ref (loc 63), .ref (loc 64), .ref (loc 65), .ref (loc 66), .ref (loc 67), .ref (loc 68), .ref (loc 69), .ref (loc 70), .ref (loc 71), .ref (loc 72), .int 0, .ref (loc 73), .ref (loc 74), .ref (loc 75), .int 0, .int 0, .int 0, .int 0, .int 0, .int 0, .int 0]) inT5 tyX5 tyX5_ok nmX5 (hd 48 rfl) rfl (hm 48 rfl) rfl 0 (by decide) k_585 rfl rfl rfl rfl rfl (Nat.le_of_ble_eq_true rfl) d_M_begin_85 rfl ?_
  refine v_aload_n hX d_M_begin_88 rfl rfl ?_
  refine v_get hX 48 (v := .int 2) inT5 (hd 48 rfl) rfl rfl rfl 0 (by decide) k_585 rfl rfl d_M_begin_89 ?_
  refine v_if_le hX d_M_begin_92 (tgt := 97) (by decide) (fun c => absurd c (by decide)) (fun _ => ?_)
  refine v_iconst (v := 0) hX d_M_begin_95 (by decide) ?_
  exact v_iret hX hE d_M_begin_96 (Nat.le_of_ble_eq_true rfl) (Nat.le_of_ble_eq_true rfl) ⟨rfl, ⟨_, rfl⟩, ⟨hd 48 rfl, rfl, hd 76 rfl, rfl, rfl⟩, rfl, rfl⟩
set_option maxHeartbeats 4000000 in
set_option maxRecDepth 100000 in
theorem c_M_begin_bad8 {l : Launch} {D : va_G} {A : Nat → Prop} {cI cB cZ cJ cN : ClassId} {dom : Nat → Prop} (hd : ∀ k, (Nat.ble 48 k && Nat.ble (k + 1) 77) = true → dom k) {loc : Nat → Nat} {val : Nat → va_E} (hm : ∀ k, (Nat.ble 48 k && Nat.ble (k + 1) 76) = true → val k = mcell cI cB cZ loc k) (n : Int32) : kM l y_M_begin (Cond.code y_M_begin b_M_begin 5 (some FieldType.int) :: TT) (rmL 3) D CL (TY cI cB cZ cJ cN) A [.ref (loc 48), .int 8, .int n] (dom) loc val (fun rv d lo va kc ns => rv = some (.int 0) ∧ (∃ xs9, va 48 = .inr (5, .int 2 :: xs9)) ∧ keepO loc val d lo va ∧ kc = 0 ∧ ns = 0) := by
  refine kM_of (lv0 := [some (.ref (loc 48)), some (.int 8), some (.int n), none, none]) (own := "ProsePagesModel") (by decide) rfl (List.forall_mem_cons.mpr ⟨rfl, List.forall_mem_cons.mpr ⟨rfl, List.forall_mem_cons.mpr ⟨rfl, fun _ h => nomatch h⟩⟩⟩) (Nat.le_of_ble_eq_true rfl) rfl (Nat.le_of_ble_eq_true rfl) (fun X hl hX hE hin0 => ?_)
  refine v_iload_n hX d_M_begin_0 rfl rfl ?_
  refine v_if_lt hX d_M_begin_1 (tgt := 62) (by decide) (fun c => absurd c (by decide)) (fun _ => ?_)
  refine v_iload_n hX d_M_begin_4 rfl rfl ?_
  refine v_bipush (v := 9) hX d_M_begin_5 (by decide) ?_
  refine v_icmp_gt hX d_M_begin_7 (tgt := 62) (by decide) (fun c => absurd c (by decide)) (fun _ => ?_)
  refine v_aload_n hX d_M_begin_10 rfl rfl ?_
  refine v_get hX 48 (v := .ref (loc 49)) inT5 (hd 48 rfl) rfl (hm 48 rfl) rfl 1 (by decide) k_586 rfl rfl d_M_begin_11 ?_
  refine v_aload_n hX d_M_begin_14 rfl rfl ?_
  refine v_get hX 48 (v := .int 0) inT5 (hd 48 rfl) rfl (hm 48 rfl) rfl 11 (by decide) k_596 rfl rfl d_M_begin_15 ?_
  refine v_iald hX 49 0 (v := 11) (hd 49 rfl) rfl (hm 49 rfl) rfl (vpb (by decide)) (by first | rfl | decide) d_M_begin_18 ?_
  refine v_iload_n hX d_M_begin_19 rfl rfl ?_
  refine c_S hX (rest := []) hl (c_M_mayHold 8) k_730 k_731 k_6 k_732 rfl q_M_mayHold ⟨(Nat.le_of_ble_eq_true rfl), (Nat.le_of_ble_eq_true rfl)⟩ rfl rfl rfl (Nat.le_of_ble_eq_true rfl) d_M_begin_20 ⟨(Nat.le_of_ble_eq_true rfl), (Nat.le_of_ble_eq_true rfl)⟩ (fun rv d2 lo2 va2 kc ns hp => ?_)
  obtain ⟨rfl, rfl, rfl, rfl, rfl, rfl⟩ := hp
  show V X D CL A _ _ _ _ _ _ _ (.int (blk 8) :: [])
  refine v_if_eq hX d_M_begin_23 (tgt := 62) (by decide) (fun _ => ?_) (fun c => absurd (by decide) c)
  refine v_iconst (v := 0) hX d_M_begin_62 (by decide) ?_
  refine v_istore_n (lv' := [some (.ref (loc 48)), some (.int 8), some (.int n), some (.int 0), none]) hX d_M_begin_63 rfl (Nat.le_of_ble_eq_true rfl) rfl ?_
  refine v_aload_n hX d_M_begin_64 rfl rfl ?_
  refine v_aload_n hX d_M_begin_65 rfl rfl ?_
  refine c_V hX 48 (rest := [.ref (loc 48)]) hl (c_M_isFull hd  (hm 48 rfl) (hm 52 rfl) ) k_740 k_742 kp_28 k_6 k_743 rfl q_M_isFull ⟨(Nat.le_of_ble_eq_true rfl), (Nat.le_of_ble_eq_true rfl)⟩ (hd 48 rfl) rfl (hm 48 rfl) rfl rfl rfl rfl (Nat.le_of_ble_eq_true rfl) d_M_begin_66 ⟨(Nat.le_of_ble_eq_true rfl), (Nat.le_of_ble_eq_true rfl)⟩ (fun rv d2 lo2 va2 kc ns hp => ?_)
  obtain ⟨rfl, rfl, rfl, rfl, rfl, rfl⟩ := hp
  show V X D CL A _ _ _ _ _ _ _ (.int 0 :: [.ref (loc 48)])
  refine v_if_eq hX d_M_begin_69 (tgt := 76) (by decide) (fun _ => ?_) (fun c => absurd (by decide) c)
  refine v_iload_n hX d_M_begin_76 rfl rfl ?_
  refine v_if_eq hX d_M_begin_77 (tgt := 84) (by decide) (fun _ => ?_) (fun c => absurd (by decide) c)
  refine v_iconst (v := 2) hX d_M_begin_84 (by decide) ?_
  refine v_putE hX 48 (fs2 := [.int 2, .ref (loc 49), .ref (loc 50), .ref (loc 51), .ref (loc 52), .ref (loc 53), .ref (loc 54), .ref (loc 55), .ref (loc 56), .int 1, .int 0, .int 0, .ref (loc 57), .ref (loc 58), .ref (loc 59), .ref (loc 60), .ref (loc 61), .ref (loc 62), .int 0, .int 0, .int 0, .int 0, .int 0, .int 0, .ref (loc 63), .ref (loc 64), .ref (loc 65), .ref (loc 66), .ref (loc 67), .ref (loc 68), .ref (loc 69), .ref (loc 70), .ref (loc 71), .ref (loc 72), .int 0, .ref (loc 73), .ref (loc 74), .ref (loc 75), .int 0, .int 0, .int 0, .int 0, .int 0, .int 0, .int 0]) inT5 tyX5 tyX5_ok nmX5 (hd 48 rfl) rfl (hm 48 rfl) rfl 0 (by decide) k_585 rfl rfl rfl rfl rfl (Nat.le_of_ble_eq_true rfl) d_M_begin_85 rfl ?_
  refine v_aload_n hX d_M_begin_88 rfl rfl ?_
  refine v_get hX 48 (v := .int 2) inT5 (hd 48 rfl) rfl rfl rfl 0 (by decide) k_585 rfl rfl d_M_begin_89 ?_
  refine v_if_le hX d_M_begin_92 (tgt := 97) (by decide) (fun c => absurd c (by decide)) (fun _ => ?_)
  refine v_iconst (v := 0) hX d_M_begin_95 (by decide) ?_
  exact v_iret hX hE d_M_begin_96 (Nat.le_of_ble_eq_true rfl) (Nat.le_of_ble_eq_true rfl) ⟨rfl, ⟨_, rfl⟩, ⟨hd 48 rfl, rfl, hd 76 rfl, rfl, rfl⟩, rfl, rfl⟩
set_option maxHeartbeats 4000000 in
set_option maxRecDepth 100000 in
theorem c_M_begin_bad9 {l : Launch} {D : va_G} {A : Nat → Prop} {cI cB cZ cJ cN : ClassId} {dom : Nat → Prop} (hd : ∀ k, (Nat.ble 48 k && Nat.ble (k + 1) 77) = true → dom k) {loc : Nat → Nat} {val : Nat → va_E} (hm : ∀ k, (Nat.ble 48 k && Nat.ble (k + 1) 76) = true → val k = mcell cI cB cZ loc k) (n : Int32) : kM l y_M_begin (Cond.code y_M_begin b_M_begin 5 (some FieldType.int) :: TT) (rmL 3) D CL (TY cI cB cZ cJ cN) A [.ref (loc 48), .int 9, .int n] (dom) loc val (fun rv d lo va kc ns => rv = some (.int 0) ∧ (∃ xs9, va 48 = .inr (5, .int 2 :: xs9)) ∧ keepO loc val d lo va ∧ kc = 0 ∧ ns = 0) := by
  refine kM_of (lv0 := [some (.ref (loc 48)), some (.int 9), some (.int n), none, none]) (own := "ProsePagesModel") (by decide) rfl (List.forall_mem_cons.mpr ⟨rfl, List.forall_mem_cons.mpr ⟨rfl, List.forall_mem_cons.mpr ⟨rfl, fun _ h => nomatch h⟩⟩⟩) (Nat.le_of_ble_eq_true rfl) rfl (Nat.le_of_ble_eq_true rfl) (fun X hl hX hE hin0 => ?_)
  refine v_iload_n hX d_M_begin_0 rfl rfl ?_
  refine v_if_lt hX d_M_begin_1 (tgt := 62) (by decide) (fun c => absurd c (by decide)) (fun _ => ?_)
  refine v_iload_n hX d_M_begin_4 rfl rfl ?_
  refine v_bipush (v := 9) hX d_M_begin_5 (by decide) ?_
  refine v_icmp_gt hX d_M_begin_7 (tgt := 62) (by decide) (fun c => absurd c (by decide)) (fun _ => ?_)
  refine v_aload_n hX d_M_begin_10 rfl rfl ?_
  refine v_get hX 48 (v := .ref (loc 49)) inT5 (hd 48 rfl) rfl (hm 48 rfl) rfl 1 (by decide) k_586 rfl rfl d_M_begin_11 ?_
  refine v_aload_n hX d_M_begin_14 rfl rfl ?_
  refine v_get hX 48 (v := .int 0) inT5 (hd 48 rfl) rfl (hm 48 rfl) rfl 11 (by decide) k_596 rfl rfl d_M_begin_15 ?_
  refine v_iald hX 49 0 (v := 11) (hd 49 rfl) rfl (hm 49 rfl) rfl (vpb (by decide)) (by first | rfl | decide) d_M_begin_18 ?_
  refine v_iload_n hX d_M_begin_19 rfl rfl ?_
  refine c_S hX (rest := []) hl (c_M_mayHold 9) k_730 k_731 k_6 k_732 rfl q_M_mayHold ⟨(Nat.le_of_ble_eq_true rfl), (Nat.le_of_ble_eq_true rfl)⟩ rfl rfl rfl (Nat.le_of_ble_eq_true rfl) d_M_begin_20 ⟨(Nat.le_of_ble_eq_true rfl), (Nat.le_of_ble_eq_true rfl)⟩ (fun rv d2 lo2 va2 kc ns hp => ?_)
  obtain ⟨rfl, rfl, rfl, rfl, rfl, rfl⟩ := hp
  show V X D CL A _ _ _ _ _ _ _ (.int (blk 9) :: [])
  refine v_if_eq hX d_M_begin_23 (tgt := 62) (by decide) (fun _ => ?_) (fun c => absurd (by decide) c)
  refine v_iconst (v := 0) hX d_M_begin_62 (by decide) ?_
  refine v_istore_n (lv' := [some (.ref (loc 48)), some (.int 9), some (.int n), some (.int 0), none]) hX d_M_begin_63 rfl (Nat.le_of_ble_eq_true rfl) rfl ?_
  refine v_aload_n hX d_M_begin_64 rfl rfl ?_
  refine v_aload_n hX d_M_begin_65 rfl rfl ?_
  refine c_V hX 48 (rest := [.ref (loc 48)]) hl (c_M_isFull hd  (hm 48 rfl) (hm 52 rfl) ) k_740 k_742 kp_28 k_6 k_743 rfl q_M_isFull ⟨(Nat.le_of_ble_eq_true rfl), (Nat.le_of_ble_eq_true rfl)⟩ (hd 48 rfl) rfl (hm 48 rfl) rfl rfl rfl rfl (Nat.le_of_ble_eq_true rfl) d_M_begin_66 ⟨(Nat.le_of_ble_eq_true rfl), (Nat.le_of_ble_eq_true rfl)⟩ (fun rv d2 lo2 va2 kc ns hp => ?_)
  obtain ⟨rfl, rfl, rfl, rfl, rfl, rfl⟩ := hp
  show V X D CL A _ _ _ _ _ _ _ (.int 0 :: [.ref (loc 48)])
  refine v_if_eq hX d_M_begin_69 (tgt := 76) (by decide) (fun _ => ?_) (fun c => absurd (by decide) c)
  refine v_iload_n hX d_M_begin_76 rfl rfl ?_
  refine v_if_eq hX d_M_begin_77 (tgt := 84) (by decide) (fun _ => ?_) (fun c => absurd (by decide) c)
  refine v_iconst (v := 2) hX d_M_begin_84 (by decide) ?_
  refine v_putE hX 48 (fs2 := [.int 2, .ref (loc 49), .ref (loc 50), .ref (loc 51), .ref (loc 52), .ref (loc 53), .ref (loc 54), .ref (loc 55), .ref (loc 56), .int 1, .int 0, .int 0, .ref (loc 57), .ref (loc 58), .ref (loc 59), .ref (loc 60), .ref (loc 61), .ref (loc 62), .int 0, .int 0, .int 0, .int 0, .int 0, .int 0, .ref (loc 63), .ref (loc 64), .ref (loc 65), .ref (loc 66), .ref (loc 67), .ref (loc 68), .ref (loc 69), .ref (loc 70), .ref (loc 71), .ref (loc 72), .int 0, .ref (loc 73), .ref (loc 74), .ref (loc 75), .int 0, .int 0, .int 0, .int 0, .int 0, .int 0, .int 0]) inT5 tyX5 tyX5_ok nmX5 (hd 48 rfl) rfl (hm 48 rfl) rfl 0 (by decide) k_585 rfl rfl rfl rfl rfl (Nat.le_of_ble_eq_true rfl) d_M_begin_85 rfl ?_
  refine v_aload_n hX d_M_begin_88 rfl rfl ?_
  refine v_get hX 48 (v := .int 2) inT5 (hd 48 rfl) rfl rfl rfl 0 (by decide) k_585 rfl rfl d_M_begin_89 ?_
  refine v_if_le hX d_M_begin_92 (tgt := 97) (by decide) (fun c => absurd c (by decide)) (fun _ => ?_)
  refine v_iconst (v := 0) hX d_M_begin_95 (by decide) ?_
  exact v_iret hX hE d_M_begin_96 (Nat.le_of_ble_eq_true rfl) (Nat.le_of_ble_eq_true rfl) ⟨rfl, ⟨_, rfl⟩, ⟨hd 48 rfl, rfl, hd 76 rfl, rfl, rfl⟩, rfl, rfl⟩
set_option maxHeartbeats 4000000 in
set_option maxRecDepth 100000 in
theorem c_M_begin_bad1 {l : Launch} {D : va_G} {A : Nat → Prop} {cI cB cZ cJ cN : ClassId} {dom : Nat → Prop} (hd : ∀ k, (Nat.ble 48 k && Nat.ble (k + 1) 77) = true → dom k) {loc : Nat → Nat} {val : Nat → va_E} (hm : ∀ k, (Nat.ble 48 k && Nat.ble (k + 1) 76) = true → val k = mcell cI cB cZ loc k) (n : Int32) (hn : isNum 1 n = 0) : kM l y_M_begin (Cond.code y_M_begin b_M_begin 5 (some FieldType.int) :: TT) (rmL 3) D CL (TY cI cB cZ cJ cN) A [.ref (loc 48), .int 1, .int n] (dom) loc val (fun rv d lo va kc ns => rv = some (.int 0) ∧ (∃ xs9, va 48 = .inr (5, .int 2 :: xs9)) ∧ keepO loc val d lo va ∧ kc = 0 ∧ ns = 0) := by
  refine kM_of (lv0 := [some (.ref (loc 48)), some (.int 1), some (.int n), none, none]) (own := "ProsePagesModel") (by decide) rfl (List.forall_mem_cons.mpr ⟨rfl, List.forall_mem_cons.mpr ⟨rfl, List.forall_mem_cons.mpr ⟨rfl, fun _ h => nomatch h⟩⟩⟩) (Nat.le_of_ble_eq_true rfl) rfl (Nat.le_of_ble_eq_true rfl) (fun X hl hX hE hin0 => ?_)
  refine v_iload_n hX d_M_begin_0 rfl rfl ?_
  refine v_if_lt hX d_M_begin_1 (tgt := 62) (by decide) (fun c => absurd c (by decide)) (fun _ => ?_)
  refine v_iload_n hX d_M_begin_4 rfl rfl ?_
  refine v_bipush (v := 9) hX d_M_begin_5 (by decide) ?_
  refine v_icmp_gt hX d_M_begin_7 (tgt := 62) (by decide) (fun c => absurd c (by decide)) (fun _ => ?_)
  refine v_aload_n hX d_M_begin_10 rfl rfl ?_
  refine v_get hX 48 (v := .ref (loc 49)) inT5 (hd 48 rfl) rfl (hm 48 rfl) rfl 1 (by decide) k_586 rfl rfl d_M_begin_11 ?_
  refine v_aload_n hX d_M_begin_14 rfl rfl ?_
  refine v_get hX 48 (v := .int 0) inT5 (hd 48 rfl) rfl (hm 48 rfl) rfl 11 (by decide) k_596 rfl rfl d_M_begin_15 ?_
  refine v_iald hX 49 0 (v := 11) (hd 49 rfl) rfl (hm 49 rfl) rfl (vpb (by decide)) (by first | rfl | decide) d_M_begin_18 ?_
  refine v_iload_n hX d_M_begin_19 rfl rfl ?_
  refine c_S hX (rest := []) hl (c_M_mayHold 1) k_730 k_731 k_6 k_732 rfl q_M_mayHold ⟨(Nat.le_of_ble_eq_true rfl), (Nat.le_of_ble_eq_true rfl)⟩ rfl rfl rfl (Nat.le_of_ble_eq_true rfl) d_M_begin_20 ⟨(Nat.le_of_ble_eq_true rfl), (Nat.le_of_ble_eq_true rfl)⟩ (fun rv d2 lo2 va2 kc ns hp => ?_)
  obtain ⟨rfl, rfl, rfl, rfl, rfl, rfl⟩ := hp
  show V X D CL A _ _ _ _ _ _ _ (.int (blk 1) :: [])
  refine v_if_eq hX d_M_begin_23 (tgt := 62) (by decide) (fun c => absurd c (by decide)) (fun _ => ?_)
  refine v_iload_n hX d_M_begin_26 rfl rfl ?_
  refine v_iconst (v := 1) hX d_M_begin_27 (by decide) ?_
  refine v_icmp_ne hX d_M_begin_28 (tgt := 42) (by decide) (fun c => absurd (by decide) c) (fun _ => ?_)
  refine v_iload_n hX d_M_begin_31 rfl rfl ?_
  refine v_iconst (v := 1) hX d_M_begin_32 (by decide) ?_
  refine v_icmp_lt hX d_M_begin_33 (tgt := 62) (by decide) (fun c33 => ?_) (fun c33 => ?_)
  · refine v_iconst (v := 0) hX d_M_begin_62 (by decide) ?_
    refine v_istore_n (lv' := [some (.ref (loc 48)), some (.int 1), some (.int n), some (.int 0), none]) hX d_M_begin_63 rfl (Nat.le_of_ble_eq_true rfl) rfl ?_
    refine v_aload_n hX d_M_begin_64 rfl rfl ?_
    refine v_aload_n hX d_M_begin_65 rfl rfl ?_
    refine c_V hX 48 (rest := [.ref (loc 48)]) hl (c_M_isFull hd  (hm 48 rfl) (hm 52 rfl) ) k_740 k_742 kp_28 k_6 k_743 rfl q_M_isFull ⟨(Nat.le_of_ble_eq_true rfl), (Nat.le_of_ble_eq_true rfl)⟩ (hd 48 rfl) rfl (hm 48 rfl) rfl rfl rfl rfl (Nat.le_of_ble_eq_true rfl) d_M_begin_66 ⟨(Nat.le_of_ble_eq_true rfl), (Nat.le_of_ble_eq_true rfl)⟩ (fun rv d2 lo2 va2 kc ns hp => ?_)
    obtain ⟨rfl, rfl, rfl, rfl, rfl, rfl⟩ := hp
    show V X D CL A _ _ _ _ _ _ _ (.int 0 :: [.ref (loc 48)])
    refine v_if_eq hX d_M_begin_69 (tgt := 76) (by decide) (fun _ => ?_) (fun c => absurd (by decide) c)
    refine v_iload_n hX d_M_begin_76 rfl rfl ?_
    refine v_if_eq hX d_M_begin_77 (tgt := 84) (by decide) (fun _ => ?_) (fun c => absurd (by decide) c)
    refine v_iconst (v := 2) hX d_M_begin_84 (by decide) ?_
    refine v_putE hX 48 (fs2 := [.int 2, .ref (loc 49), .ref (loc 50), .ref (loc 51), .ref (loc 52), .ref (loc 53), .ref (loc 54), .ref (loc 55), .ref (loc 56), .int 1, .int 0, .int 0, .ref (loc 57), .ref (loc 58), .ref (loc 59), .ref (loc 60), .ref (loc 61), .ref (loc 62), .int 0, .int 0, .int 0, .int 0, .int 0, .int 0, .ref (loc 63), .ref (loc 64), .ref (loc 65), .ref (loc 66), .ref (loc 67), .ref (loc 68), .ref (loc 69), .ref (loc 70), .ref (loc 71), .ref (loc 72), .int 0, .ref (loc 73), .ref (loc 74), .ref (loc 75), .int 0, .int 0, .int 0, .int 0, .int 0, .int 0, .int 0]) inT5 tyX5 tyX5_ok nmX5 (hd 48 rfl) rfl (hm 48 rfl) rfl 0 (by decide) k_585 rfl rfl rfl rfl rfl (Nat.le_of_ble_eq_true rfl) d_M_begin_85 rfl ?_
    refine v_aload_n hX d_M_begin_88 rfl rfl ?_
    refine v_get hX 48 (v := .int 2) inT5 (hd 48 rfl) rfl rfl rfl 0 (by decide) k_585 rfl rfl d_M_begin_89 ?_
    refine v_if_le hX d_M_begin_92 (tgt := 97) (by decide) (fun c => absurd c (by decide)) (fun _ => ?_)
    refine v_iconst (v := 0) hX d_M_begin_95 (by decide) ?_
    exact v_iret hX hE d_M_begin_96 (Nat.le_of_ble_eq_true rfl) (Nat.le_of_ble_eq_true rfl) ⟨rfl, ⟨_, rfl⟩, ⟨hd 48 rfl, rfl, hd 76 rfl, rfl, rfl⟩, rfl, rfl⟩
  · refine v_iload_n hX d_M_begin_36 rfl rfl ?_
    refine v_bipush (v := 6) hX d_M_begin_37 (by decide) ?_
    refine v_icmp_gt hX d_M_begin_39 (tgt := 62) (by decide) (fun _ => ?_) (fun c => absurd (isNum1b hn c33) c)
    refine v_iconst (v := 0) hX d_M_begin_62 (by decide) ?_
    refine v_istore_n (lv' := [some (.ref (loc 48)), some (.int 1), some (.int n), some (.int 0), none]) hX d_M_begin_63 rfl (Nat.le_of_ble_eq_true rfl) rfl ?_
    refine v_aload_n hX d_M_begin_64 rfl rfl ?_
    refine v_aload_n hX d_M_begin_65 rfl rfl ?_
    refine c_V hX 48 (rest := [.ref (loc 48)]) hl (c_M_isFull hd  (hm 48 rfl) (hm 52 rfl) ) k_740 k_742 kp_28 k_6 k_743 rfl q_M_isFull ⟨(Nat.le_of_ble_eq_true rfl), (Nat.le_of_ble_eq_true rfl)⟩ (hd 48 rfl) rfl (hm 48 rfl) rfl rfl rfl rfl (Nat.le_of_ble_eq_true rfl) d_M_begin_66 ⟨(Nat.le_of_ble_eq_true rfl), (Nat.le_of_ble_eq_true rfl)⟩ (fun rv d2 lo2 va2 kc ns hp => ?_)
    obtain ⟨rfl, rfl, rfl, rfl, rfl, rfl⟩ := hp
    show V X D CL A _ _ _ _ _ _ _ (.int 0 :: [.ref (loc 48)])
    refine v_if_eq hX d_M_begin_69 (tgt := 76) (by decide) (fun _ => ?_) (fun c => absurd (by decide) c)
    refine v_iload_n hX d_M_begin_76 rfl rfl ?_
    refine v_if_eq hX d_M_begin_77 (tgt := 84) (by decide) (fun _ => ?_) (fun c => absurd (by decide) c)
    refine v_iconst (v := 2) hX d_M_begin_84 (by decide) ?_
    refine v_putE hX 48 (fs2 := [.int 2, .ref (loc 49), .ref (loc 50), .ref (loc 51), .ref (loc 52), .ref (loc 53), .ref (loc 54), .ref (loc 55), .ref (loc 56), .int 1, .int 0, .int 0, .ref (loc 57), .ref (loc 58), .ref (loc 59), .ref (loc 60), .ref (loc 61), .ref (loc 62), .int 0, .int 0, .int 0, .int 0, .int 0, .int 0, .ref (loc 63), .ref (loc 64), .ref (loc 65), .ref (loc 66), .ref (loc 67), .ref (loc 68), .ref (loc 69), .ref (loc 70), .ref (loc 71), .ref (loc 72), .int 0, .ref (loc 73), .ref (loc 74), .ref (loc 75), .int 0, .int 0, .int 0, .int 0, .int 0, .int 0, .int 0]) inT5 tyX5 tyX5_ok nmX5 (hd 48 rfl) rfl (hm 48 rfl) rfl 0 (by decide) k_585 rfl rfl rfl rfl rfl (Nat.le_of_ble_eq_true rfl) d_M_begin_85 rfl ?_
    refine v_aload_n hX d_M_begin_88 rfl rfl ?_
    refine v_get hX 48 (v := .int 2) inT5 (hd 48 rfl) rfl rfl rfl 0 (by decide) k_585 rfl rfl d_M_begin_89 ?_
    refine v_if_le hX d_M_begin_92 (tgt := 97) (by decide) (fun c => absurd c (by decide)) (fun _ => ?_)
    refine v_iconst (v := 0) hX d_M_begin_95 (by decide) ?_
    exact v_iret hX hE d_M_begin_96 (Nat.le_of_ble_eq_true rfl) (Nat.le_of_ble_eq_true rfl) ⟨rfl, ⟨_, rfl⟩, ⟨hd 48 rfl, rfl, hd 76 rfl, rfl, rfl⟩, rfl, rfl⟩
set_option maxHeartbeats 4000000 in
set_option maxRecDepth 100000 in
theorem c_M_begin_bad6 {l : Launch} {D : va_G} {A : Nat → Prop} {cI cB cZ cJ cN : ClassId} {dom : Nat → Prop} (hd : ∀ k, (Nat.ble 48 k && Nat.ble (k + 1) 77) = true → dom k) {loc : Nat → Nat} {val : Nat → va_E} (hm : ∀ k, (Nat.ble 48 k && Nat.ble (k + 1) 76) = true → val k = mcell cI cB cZ loc k) (n : Int32) (hn : isNum 6 n = 0) : kM l y_M_begin (Cond.code y_M_begin b_M_begin 5 (some FieldType.int) :: TT) (rmL 3) D CL (TY cI cB cZ cJ cN) A [.ref (loc 48), .int 6, .int n] (dom) loc val (fun rv d lo va kc ns => rv = some (.int 0) ∧ (∃ xs9, va 48 = .inr (5, .int 2 :: xs9)) ∧ keepO loc val d lo va ∧ kc = 0 ∧ ns = 0) := by
  refine kM_of (lv0 := [some (.ref (loc 48)), some (.int 6), some (.int n), none, none]) (own := "ProsePagesModel") (by decide) rfl (List.forall_mem_cons.mpr ⟨rfl, List.forall_mem_cons.mpr ⟨rfl, List.forall_mem_cons.mpr ⟨rfl, fun _ h => nomatch h⟩⟩⟩) (Nat.le_of_ble_eq_true rfl) rfl (Nat.le_of_ble_eq_true rfl) (fun X hl hX hE hin0 => ?_)
  refine v_iload_n hX d_M_begin_0 rfl rfl ?_
  refine v_if_lt hX d_M_begin_1 (tgt := 62) (by decide) (fun c => absurd c (by decide)) (fun _ => ?_)
  refine v_iload_n hX d_M_begin_4 rfl rfl ?_
  refine v_bipush (v := 9) hX d_M_begin_5 (by decide) ?_
  refine v_icmp_gt hX d_M_begin_7 (tgt := 62) (by decide) (fun c => absurd c (by decide)) (fun _ => ?_)
  refine v_aload_n hX d_M_begin_10 rfl rfl ?_
  refine v_get hX 48 (v := .ref (loc 49)) inT5 (hd 48 rfl) rfl (hm 48 rfl) rfl 1 (by decide) k_586 rfl rfl d_M_begin_11 ?_
  refine v_aload_n hX d_M_begin_14 rfl rfl ?_
  refine v_get hX 48 (v := .int 0) inT5 (hd 48 rfl) rfl (hm 48 rfl) rfl 11 (by decide) k_596 rfl rfl d_M_begin_15 ?_
  refine v_iald hX 49 0 (v := 11) (hd 49 rfl) rfl (hm 49 rfl) rfl (vpb (by decide)) (by first | rfl | decide) d_M_begin_18 ?_
  refine v_iload_n hX d_M_begin_19 rfl rfl ?_
  refine c_S hX (rest := []) hl (c_M_mayHold 6) k_730 k_731 k_6 k_732 rfl q_M_mayHold ⟨(Nat.le_of_ble_eq_true rfl), (Nat.le_of_ble_eq_true rfl)⟩ rfl rfl rfl (Nat.le_of_ble_eq_true rfl) d_M_begin_20 ⟨(Nat.le_of_ble_eq_true rfl), (Nat.le_of_ble_eq_true rfl)⟩ (fun rv d2 lo2 va2 kc ns hp => ?_)
  obtain ⟨rfl, rfl, rfl, rfl, rfl, rfl⟩ := hp
  show V X D CL A _ _ _ _ _ _ _ (.int (blk 6) :: [])
  refine v_if_eq hX d_M_begin_23 (tgt := 62) (by decide) (fun c => absurd c (by decide)) (fun _ => ?_)
  refine v_iload_n hX d_M_begin_26 rfl rfl ?_
  refine v_iconst (v := 1) hX d_M_begin_27 (by decide) ?_
  refine v_icmp_ne hX d_M_begin_28 (tgt := 42) (by decide) (fun _ => ?_) (fun c => absurd c (by decide))
  refine v_iload_n hX d_M_begin_42 rfl rfl ?_
  refine v_bipush (v := 6) hX d_M_begin_43 (by decide) ?_
  refine v_icmp_ne hX d_M_begin_45 (tgt := 58) (by decide) (fun c => absurd (by decide) c) (fun _ => ?_)
  refine v_iload_n hX d_M_begin_48 rfl rfl ?_
  refine v_if_lt hX d_M_begin_49 (tgt := 62) (by decide) (fun c49 => ?_) (fun c49 => ?_)
  · refine v_iconst (v := 0) hX d_M_begin_62 (by decide) ?_
    refine v_istore_n (lv' := [some (.ref (loc 48)), some (.int 6), some (.int n), some (.int 0), none]) hX d_M_begin_63 rfl (Nat.le_of_ble_eq_true rfl) rfl ?_
    refine v_aload_n hX d_M_begin_64 rfl rfl ?_
    refine v_aload_n hX d_M_begin_65 rfl rfl ?_
    refine c_V hX 48 (rest := [.ref (loc 48)]) hl (c_M_isFull hd  (hm 48 rfl) (hm 52 rfl) ) k_740 k_742 kp_28 k_6 k_743 rfl q_M_isFull ⟨(Nat.le_of_ble_eq_true rfl), (Nat.le_of_ble_eq_true rfl)⟩ (hd 48 rfl) rfl (hm 48 rfl) rfl rfl rfl rfl (Nat.le_of_ble_eq_true rfl) d_M_begin_66 ⟨(Nat.le_of_ble_eq_true rfl), (Nat.le_of_ble_eq_true rfl)⟩ (fun rv d2 lo2 va2 kc ns hp => ?_)
    obtain ⟨rfl, rfl, rfl, rfl, rfl, rfl⟩ := hp
    show V X D CL A _ _ _ _ _ _ _ (.int 0 :: [.ref (loc 48)])
    refine v_if_eq hX d_M_begin_69 (tgt := 76) (by decide) (fun _ => ?_) (fun c => absurd (by decide) c)
    refine v_iload_n hX d_M_begin_76 rfl rfl ?_
    refine v_if_eq hX d_M_begin_77 (tgt := 84) (by decide) (fun _ => ?_) (fun c => absurd (by decide) c)
    refine v_iconst (v := 2) hX d_M_begin_84 (by decide) ?_
    refine v_putE hX 48 (fs2 := [.int 2, .ref (loc 49), .ref (loc 50), .ref (loc 51), .ref (loc 52), .ref (loc 53), .ref (loc 54), .ref (loc 55), .ref (loc 56), .int 1, .int 0, .int 0, .ref (loc 57), .ref (loc 58), .ref (loc 59), .ref (loc 60), .ref (loc 61), .ref (loc 62), .int 0, .int 0, .int 0, .int 0, .int 0, .int 0, .ref (loc 63), .ref (loc 64), .ref (loc 65), .ref (loc 66), .ref (loc 67), .ref (loc 68), .ref (loc 69), .ref (loc 70), .ref (loc 71), .ref (loc 72), .int 0, .ref (loc 73), .ref (loc 74), .ref (loc 75), .int 0, .int 0, .int 0, .int 0, .int 0, .int 0, .int 0]) inT5 tyX5 tyX5_ok nmX5 (hd 48 rfl) rfl (hm 48 rfl) rfl 0 (by decide) k_585 rfl rfl rfl rfl rfl (Nat.le_of_ble_eq_true rfl) d_M_begin_85 rfl ?_
    refine v_aload_n hX d_M_begin_88 rfl rfl ?_
    refine v_get hX 48 (v := .int 2) inT5 (hd 48 rfl) rfl rfl rfl 0 (by decide) k_585 rfl rfl d_M_begin_89 ?_
    refine v_if_le hX d_M_begin_92 (tgt := 97) (by decide) (fun c => absurd c (by decide)) (fun _ => ?_)
    refine v_iconst (v := 0) hX d_M_begin_95 (by decide) ?_
    exact v_iret hX hE d_M_begin_96 (Nat.le_of_ble_eq_true rfl) (Nat.le_of_ble_eq_true rfl) ⟨rfl, ⟨_, rfl⟩, ⟨hd 48 rfl, rfl, hd 76 rfl, rfl, rfl⟩, rfl, rfl⟩
  · refine v_iload_n hX d_M_begin_52 rfl rfl ?_
    refine v_ldc (v := 999999999) hX k_739 d_M_begin_53 ?_
    refine v_icmp_gt hX d_M_begin_55 (tgt := 62) (by decide) (fun _ => ?_) (fun c => absurd (isNum6b hn c49) c)
    refine v_iconst (v := 0) hX d_M_begin_62 (by decide) ?_
    refine v_istore_n (lv' := [some (.ref (loc 48)), some (.int 6), some (.int n), some (.int 0), none]) hX d_M_begin_63 rfl (Nat.le_of_ble_eq_true rfl) rfl ?_
    refine v_aload_n hX d_M_begin_64 rfl rfl ?_
    refine v_aload_n hX d_M_begin_65 rfl rfl ?_
    refine c_V hX 48 (rest := [.ref (loc 48)]) hl (c_M_isFull hd  (hm 48 rfl) (hm 52 rfl) ) k_740 k_742 kp_28 k_6 k_743 rfl q_M_isFull ⟨(Nat.le_of_ble_eq_true rfl), (Nat.le_of_ble_eq_true rfl)⟩ (hd 48 rfl) rfl (hm 48 rfl) rfl rfl rfl rfl (Nat.le_of_ble_eq_true rfl) d_M_begin_66 ⟨(Nat.le_of_ble_eq_true rfl), (Nat.le_of_ble_eq_true rfl)⟩ (fun rv d2 lo2 va2 kc ns hp => ?_)
    obtain ⟨rfl, rfl, rfl, rfl, rfl, rfl⟩ := hp
    show V X D CL A _ _ _ _ _ _ _ (.int 0 :: [.ref (loc 48)])
    refine v_if_eq hX d_M_begin_69 (tgt := 76) (by decide) (fun _ => ?_) (fun c => absurd (by decide) c)
    refine v_iload_n hX d_M_begin_76 rfl rfl ?_
    refine v_if_eq hX d_M_begin_77 (tgt := 84) (by decide) (fun _ => ?_) (fun c => absurd (by decide) c)
    refine v_iconst (v := 2) hX d_M_begin_84 (by decide) ?_
    refine v_putE hX 48 (fs2 := [.int 2, .ref (loc 49), .ref (loc 50), .ref (loc 51), .ref (loc 52), .ref (loc 53), .ref (loc 54), .ref (loc 55), .ref (loc 56), .int 1, .int 0, .int 0, .ref (loc 57), .ref (loc 58), .ref (loc 59), .ref (loc 60), .ref (loc 61), .ref (loc 62), .int 0, .int 0, .int 0, .int 0, .int 0, .int 0, .ref (loc 63), .ref (loc 64), .ref (loc 65), .ref (loc 66), .ref (loc 67), .ref (loc 68), .ref (loc 69), .ref (loc 70), .ref (loc 71), .ref (loc 72), .int 0, .ref (loc 73), .ref (loc 74), .ref (loc 75), .int 0, .int 0, .int 0, .int 0, .int 0, .int 0, .int 0]) inT5 tyX5 tyX5_ok nmX5 (hd 48 rfl) rfl (hm 48 rfl) rfl 0 (by decide) k_585 rfl rfl rfl rfl rfl (Nat.le_of_ble_eq_true rfl) d_M_begin_85 rfl ?_
    refine v_aload_n hX d_M_begin_88 rfl rfl ?_
    refine v_get hX 48 (v := .int 2) inT5 (hd 48 rfl) rfl rfl rfl 0 (by decide) k_585 rfl rfl d_M_begin_89 ?_
    refine v_if_le hX d_M_begin_92 (tgt := 97) (by decide) (fun c => absurd c (by decide)) (fun _ => ?_)
    refine v_iconst (v := 0) hX d_M_begin_95 (by decide) ?_
    exact v_iret hX hE d_M_begin_96 (Nat.le_of_ble_eq_true rfl) (Nat.le_of_ble_eq_true rfl) ⟨rfl, ⟨_, rfl⟩, ⟨hd 48 rfl, rfl, hd 76 rfl, rfl, rfl⟩, rfl, rfl⟩
set_option maxHeartbeats 4000000 in
set_option maxRecDepth 100000 in
theorem c_M_begin_badlt {l : Launch} {D : va_G} {A : Nat → Prop} {cI cB cZ cJ cN : ClassId} {dom : Nat → Prop} (hd : ∀ k, (Nat.ble 48 k && Nat.ble (k + 1) 77) = true → dom k) {loc : Nat → Nat} {val : Nat → va_E} (hm : ∀ k, (Nat.ble 48 k && Nat.ble (k + 1) 76) = true → val k = mcell cI cB cZ loc k) (k n : Int32) (hk : k < 0) : kM l y_M_begin (Cond.code y_M_begin b_M_begin 5 (some FieldType.int) :: TT) (rmL 3) D CL (TY cI cB cZ cJ cN) A [.ref (loc 48), .int k, .int n] (dom) loc val (fun rv d lo va kc ns => rv = some (.int 0) ∧ (∃ xs9, va 48 = .inr (5, .int 2 :: xs9)) ∧ keepO loc val d lo va ∧ kc = 0 ∧ ns = 0) := by
  refine kM_of (lv0 := [some (.ref (loc 48)), some (.int k), some (.int n), none, none]) (own := "ProsePagesModel") (by decide) rfl (List.forall_mem_cons.mpr ⟨rfl, List.forall_mem_cons.mpr ⟨rfl, List.forall_mem_cons.mpr ⟨rfl, fun _ h => nomatch h⟩⟩⟩) (Nat.le_of_ble_eq_true rfl) rfl (Nat.le_of_ble_eq_true rfl) (fun X hl hX hE hin0 => ?_)
  refine v_iload_n hX d_M_begin_0 rfl rfl ?_
  refine v_if_lt hX d_M_begin_1 (tgt := 62) (by decide) (fun _ => ?_) (fun c => absurd (hk) c)
  refine v_iconst (v := 0) hX d_M_begin_62 (by decide) ?_
  refine v_istore_n (lv' := [some (.ref (loc 48)), some (.int k), some (.int n), some (.int 0), none]) hX d_M_begin_63 rfl (Nat.le_of_ble_eq_true rfl) rfl ?_
  refine v_aload_n hX d_M_begin_64 rfl rfl ?_
  refine v_aload_n hX d_M_begin_65 rfl rfl ?_
  refine c_V hX 48 (rest := [.ref (loc 48)]) hl (c_M_isFull hd  (hm 48 rfl) (hm 52 rfl) ) k_740 k_742 kp_28 k_6 k_743 rfl q_M_isFull ⟨(Nat.le_of_ble_eq_true rfl), (Nat.le_of_ble_eq_true rfl)⟩ (hd 48 rfl) rfl (hm 48 rfl) rfl rfl rfl rfl (Nat.le_of_ble_eq_true rfl) d_M_begin_66 ⟨(Nat.le_of_ble_eq_true rfl), (Nat.le_of_ble_eq_true rfl)⟩ (fun rv d2 lo2 va2 kc ns hp => ?_)
  obtain ⟨rfl, rfl, rfl, rfl, rfl, rfl⟩ := hp
  show V X D CL A _ _ _ _ _ _ _ (.int 0 :: [.ref (loc 48)])
  refine v_if_eq hX d_M_begin_69 (tgt := 76) (by decide) (fun _ => ?_) (fun c => absurd (by decide) c)
  refine v_iload_n hX d_M_begin_76 rfl rfl ?_
  refine v_if_eq hX d_M_begin_77 (tgt := 84) (by decide) (fun _ => ?_) (fun c => absurd (by decide) c)
  refine v_iconst (v := 2) hX d_M_begin_84 (by decide) ?_
  refine v_putE hX 48 (fs2 := [.int 2, .ref (loc 49), .ref (loc 50), .ref (loc 51), .ref (loc 52), .ref (loc 53), .ref (loc 54), .ref (loc 55), .ref (loc 56), .int 1, .int 0, .int 0, .ref (loc 57), .ref (loc 58), .ref (loc 59), .ref (loc 60), .ref (loc 61), .ref (loc 62), .int 0, .int 0, .int 0, .int 0, .int 0, .int 0, .ref (loc 63), .ref (loc 64), .ref (loc 65), .ref (loc 66), .ref (loc 67), .ref (loc 68), .ref (loc 69), .ref (loc 70), .ref (loc 71), .ref (loc 72), .int 0, .ref (loc 73), .ref (loc 74), .ref (loc 75), .int 0, .int 0, .int 0, .int 0, .int 0, .int 0, .int 0]) inT5 tyX5 tyX5_ok nmX5 (hd 48 rfl) rfl (hm 48 rfl) rfl 0 (by decide) k_585 rfl rfl rfl rfl rfl (Nat.le_of_ble_eq_true rfl) d_M_begin_85 rfl ?_
  refine v_aload_n hX d_M_begin_88 rfl rfl ?_
  refine v_get hX 48 (v := .int 2) inT5 (hd 48 rfl) rfl rfl rfl 0 (by decide) k_585 rfl rfl d_M_begin_89 ?_
  refine v_if_le hX d_M_begin_92 (tgt := 97) (by decide) (fun c => absurd c (by decide)) (fun _ => ?_)
  refine v_iconst (v := 0) hX d_M_begin_95 (by decide) ?_
  exact v_iret hX hE d_M_begin_96 (Nat.le_of_ble_eq_true rfl) (Nat.le_of_ble_eq_true rfl) ⟨rfl, ⟨_, rfl⟩, ⟨hd 48 rfl, rfl, hd 76 rfl, rfl, rfl⟩, rfl, rfl⟩
set_option maxHeartbeats 4000000 in
set_option maxRecDepth 100000 in
theorem c_M_begin_badgt {l : Launch} {D : va_G} {A : Nat → Prop} {cI cB cZ cJ cN : ClassId} {dom : Nat → Prop} (hd : ∀ k, (Nat.ble 48 k && Nat.ble (k + 1) 77) = true → dom k) {loc : Nat → Nat} {val : Nat → va_E} (hm : ∀ k, (Nat.ble 48 k && Nat.ble (k + 1) 76) = true → val k = mcell cI cB cZ loc k) (k n : Int32) (hk0 : ¬ k < 0) (hk : 9 < k) : kM l y_M_begin (Cond.code y_M_begin b_M_begin 5 (some FieldType.int) :: TT) (rmL 3) D CL (TY cI cB cZ cJ cN) A [.ref (loc 48), .int k, .int n] (dom) loc val (fun rv d lo va kc ns => rv = some (.int 0) ∧ (∃ xs9, va 48 = .inr (5, .int 2 :: xs9)) ∧ keepO loc val d lo va ∧ kc = 0 ∧ ns = 0) := by
  refine kM_of (lv0 := [some (.ref (loc 48)), some (.int k), some (.int n), none, none]) (own := "ProsePagesModel") (by decide) rfl (List.forall_mem_cons.mpr ⟨rfl, List.forall_mem_cons.mpr ⟨rfl, List.forall_mem_cons.mpr ⟨rfl, fun _ h => nomatch h⟩⟩⟩) (Nat.le_of_ble_eq_true rfl) rfl (Nat.le_of_ble_eq_true rfl) (fun X hl hX hE hin0 => ?_)
  refine v_iload_n hX d_M_begin_0 rfl rfl ?_
  refine v_if_lt hX d_M_begin_1 (tgt := 62) (by decide) (fun c => absurd c (hk0)) (fun _ => ?_)
  refine v_iload_n hX d_M_begin_4 rfl rfl ?_
  refine v_bipush (v := 9) hX d_M_begin_5 (by decide) ?_
  refine v_icmp_gt hX d_M_begin_7 (tgt := 62) (by decide) (fun _ => ?_) (fun c => absurd (hk) c)
  refine v_iconst (v := 0) hX d_M_begin_62 (by decide) ?_
  refine v_istore_n (lv' := [some (.ref (loc 48)), some (.int k), some (.int n), some (.int 0), none]) hX d_M_begin_63 rfl (Nat.le_of_ble_eq_true rfl) rfl ?_
  refine v_aload_n hX d_M_begin_64 rfl rfl ?_
  refine v_aload_n hX d_M_begin_65 rfl rfl ?_
  refine c_V hX 48 (rest := [.ref (loc 48)]) hl (c_M_isFull hd  (hm 48 rfl) (hm 52 rfl) ) k_740 k_742 kp_28 k_6 k_743 rfl q_M_isFull ⟨(Nat.le_of_ble_eq_true rfl), (Nat.le_of_ble_eq_true rfl)⟩ (hd 48 rfl) rfl (hm 48 rfl) rfl rfl rfl rfl (Nat.le_of_ble_eq_true rfl) d_M_begin_66 ⟨(Nat.le_of_ble_eq_true rfl), (Nat.le_of_ble_eq_true rfl)⟩ (fun rv d2 lo2 va2 kc ns hp => ?_)
  obtain ⟨rfl, rfl, rfl, rfl, rfl, rfl⟩ := hp
  show V X D CL A _ _ _ _ _ _ _ (.int 0 :: [.ref (loc 48)])
  refine v_if_eq hX d_M_begin_69 (tgt := 76) (by decide) (fun _ => ?_) (fun c => absurd (by decide) c)
  refine v_iload_n hX d_M_begin_76 rfl rfl ?_
  refine v_if_eq hX d_M_begin_77 (tgt := 84) (by decide) (fun _ => ?_) (fun c => absurd (by decide) c)
  refine v_iconst (v := 2) hX d_M_begin_84 (by decide) ?_
  refine v_putE hX 48 (fs2 := [.int 2, .ref (loc 49), .ref (loc 50), .ref (loc 51), .ref (loc 52), .ref (loc 53), .ref (loc 54), .ref (loc 55), .ref (loc 56), .int 1, .int 0, .int 0, .ref (loc 57), .ref (loc 58), .ref (loc 59), .ref (loc 60), .ref (loc 61), .ref (loc 62), .int 0, .int 0, .int 0, .int 0, .int 0, .int 0, .ref (loc 63), .ref (loc 64), .ref (loc 65), .ref (loc 66), .ref (loc 67), .ref (loc 68), .ref (loc 69), .ref (loc 70), .ref (loc 71), .ref (loc 72), .int 0, .ref (loc 73), .ref (loc 74), .ref (loc 75), .int 0, .int 0, .int 0, .int 0, .int 0, .int 0, .int 0]) inT5 tyX5 tyX5_ok nmX5 (hd 48 rfl) rfl (hm 48 rfl) rfl 0 (by decide) k_585 rfl rfl rfl rfl rfl (Nat.le_of_ble_eq_true rfl) d_M_begin_85 rfl ?_
  refine v_aload_n hX d_M_begin_88 rfl rfl ?_
  refine v_get hX 48 (v := .int 2) inT5 (hd 48 rfl) rfl rfl rfl 0 (by decide) k_585 rfl rfl d_M_begin_89 ?_
  refine v_if_le hX d_M_begin_92 (tgt := 97) (by decide) (fun c => absurd c (by decide)) (fun _ => ?_)
  refine v_iconst (v := 0) hX d_M_begin_95 (by decide) ?_
  exact v_iret hX hE d_M_begin_96 (Nat.le_of_ble_eq_true rfl) (Nat.le_of_ble_eq_true rfl) ⟨rfl, ⟨_, rfl⟩, ⟨hd 48 rfl, rfl, hd 76 rfl, rfl, rfl⟩, rfl, rfl⟩
set_option maxHeartbeats 4000000 in
set_option maxRecDepth 100000 in
theorem c_M_say {l : Launch} {D : va_G} {A : Nat → Prop} {cI cB cZ cJ cN : ClassId} {dom : Nat → Prop} (hd : ∀ k, (Nat.ble 48 k && Nat.ble (k + 1) 77) = true → dom k) {loc : Nat → Nat} {val : Nat → va_E} (hm : ∀ k, (Nat.ble 48 k && Nat.ble (k + 1) 76) = true → val k = mcell cI cB cZ loc k) (a b c d0 n : Int32) : kM l y_M_say (Cond.code y_M_say b_M_say 9 (some FieldType.int) :: TT) (rmL 3) D CL (TY cI cB cZ cJ cN) A [.ref (loc 48), .int a, .int b, .int c, .int d0, .int n] (dom) loc val (fun rv d lo va kc ns => rv = some (.int 0) ∧ (∃ xs9, va 48 = .inr (5, .int 1 :: xs9)) ∧ keepO loc val d lo va ∧ kc = 0 ∧ ns = 0) := by
  refine kM_of (lv0 := [some (.ref (loc 48)), some (.int a), some (.int b), some (.int c), some (.int d0), some (.int n), none, none, none]) (own := "ProsePagesModel") (by decide) rfl (List.forall_mem_cons.mpr ⟨rfl, List.forall_mem_cons.mpr ⟨rfl, List.forall_mem_cons.mpr ⟨rfl, List.forall_mem_cons.mpr ⟨rfl, List.forall_mem_cons.mpr ⟨rfl, List.forall_mem_cons.mpr ⟨rfl, fun _ h => nomatch h⟩⟩⟩⟩⟩⟩) (Nat.le_of_ble_eq_true rfl) rfl (Nat.le_of_ble_eq_true rfl) (fun X hl hX hE hin0 => ?_)
  refine v_aload_n hX d_M_say_0 rfl rfl ?_
  refine v_get hX 48 (v := .ref (loc 55)) inT5 (hd 48 rfl) rfl (hm 48 rfl) rfl 7 (by decide) k_592 rfl rfl d_M_say_1 ?_
  refine v_aload_n hX d_M_say_4 rfl rfl ?_
  refine v_get hX 48 (v := .int 0) inT5 (hd 48 rfl) rfl (hm 48 rfl) rfl 11 (by decide) k_596 rfl rfl d_M_say_5 ?_
  refine v_iald hX 55 0 (v := (-1)) (hd 55 rfl) rfl (hm 55 rfl) rfl (vpb (by decide)) (by first | rfl | decide) d_M_say_8 ?_
  refine v_iconst (v := (-1)) hX d_M_say_9 (by decide) ?_
  refine v_icmp_eq hX d_M_say_10 (tgt := 32) (by decide) (fun _ => ?_) (fun c => absurd (by decide) c)
  refine v_iconst (v := 1) hX d_M_say_32 (by decide) ?_
  refine v_goto hX d_M_say_33 (tgt := 37) (by decide) ?_
  refine v_istore (lv' := [some (.ref (loc 48)), some (.int a), some (.int b), some (.int c), some (.int d0), some (.int n), some (.int 1), none, none]) hX d_M_say_37 (Nat.le_of_ble_eq_true rfl) rfl ?_
  refine v_aload_n hX d_M_say_39 rfl rfl ?_
  refine v_iload hX d_M_say_40 rfl ?_
  refine v_iconst (v := 1) hX d_M_say_42 (by decide) ?_
  refine v_icmp_lt hX d_M_say_43 (tgt := 69) (by decide) (fun c43 => ?_) (fun c43 => ?_)
  · refine v_iconst (v := 1) hX d_M_say_69 (by decide) ?_
    refine v_goto hX d_M_say_70 (tgt := 103) (by decide) ?_
    refine v_putE hX 48 (fs2 := [.int 1, .ref (loc 49), .ref (loc 50), .ref (loc 51), .ref (loc 52), .ref (loc 53), .ref (loc 54), .ref (loc 55), .ref (loc 56), .int 1, .int 0, .int 0, .ref (loc 57), .ref (loc 58), .ref (loc 59), .ref (loc 60), .ref (loc 61), .ref (loc 62), .int 0, .int 0, .int 0, .int 0, .int 0, .int 0, .ref (loc 63), .ref (loc 64), .ref (loc 65), .ref (loc 66), .ref (loc 67), .ref (loc 68), .ref (loc 69), .ref (loc 70), .ref (loc 71), .ref (loc 72), .int 0, .ref (loc 73), .ref (loc 74), .ref (loc 75), .int 0, .int 0, .int 0, .int 0, .int 0, .int 0, .int 0]) inT5 tyX5 tyX5_ok nmX5 (hd 48 rfl) rfl (hm 48 rfl) rfl 0 (by decide) k_585 rfl rfl rfl rfl rfl (Nat.le_of_ble_eq_true rfl) d_M_say_103 rfl ?_
    refine v_aload_n hX d_M_say_106 rfl rfl ?_
    refine v_get hX 48 (v := .int 1) inT5 (hd 48 rfl) rfl rfl rfl 0 (by decide) k_585 rfl rfl d_M_say_107 ?_
    refine v_if_le hX d_M_say_110 (tgt := 115) (by decide) (fun c => absurd c (by decide)) (fun _ => ?_)
    refine v_iconst (v := 0) hX d_M_say_113 (by decide) ?_
    exact v_iret hX hE d_M_say_114 (Nat.le_of_ble_eq_true rfl) (Nat.le_of_ble_eq_true rfl) ⟨rfl, ⟨_, rfl⟩, ⟨hd 48 rfl, rfl, hd 76 rfl, rfl, rfl⟩, rfl, rfl⟩
  · refine v_iload hX d_M_say_46 rfl ?_
    refine v_iconst (v := 4) hX d_M_say_48 (by decide) ?_
    refine v_icmp_gt hX d_M_say_49 (tgt := 69) (by decide) (fun c49 => ?_) (fun c49 => ?_)
    · refine v_iconst (v := 1) hX d_M_say_69 (by decide) ?_
      refine v_goto hX d_M_say_70 (tgt := 103) (by decide) ?_
      refine v_putE hX 48 (fs2 := [.int 1, .ref (loc 49), .ref (loc 50), .ref (loc 51), .ref (loc 52), .ref (loc 53), .ref (loc 54), .ref (loc 55), .ref (loc 56), .int 1, .int 0, .int 0, .ref (loc 57), .ref (loc 58), .ref (loc 59), .ref (loc 60), .ref (loc 61), .ref (loc 62), .int 0, .int 0, .int 0, .int 0, .int 0, .int 0, .ref (loc 63), .ref (loc 64), .ref (loc 65), .ref (loc 66), .ref (loc 67), .ref (loc 68), .ref (loc 69), .ref (loc 70), .ref (loc 71), .ref (loc 72), .int 0, .ref (loc 73), .ref (loc 74), .ref (loc 75), .int 0, .int 0, .int 0, .int 0, .int 0, .int 0, .int 0]) inT5 tyX5 tyX5_ok nmX5 (hd 48 rfl) rfl (hm 48 rfl) rfl 0 (by decide) k_585 rfl rfl rfl rfl rfl (Nat.le_of_ble_eq_true rfl) d_M_say_103 rfl ?_
      refine v_aload_n hX d_M_say_106 rfl rfl ?_
      refine v_get hX 48 (v := .int 1) inT5 (hd 48 rfl) rfl rfl rfl 0 (by decide) k_585 rfl rfl d_M_say_107 ?_
      refine v_if_le hX d_M_say_110 (tgt := 115) (by decide) (fun c => absurd c (by decide)) (fun _ => ?_)
      refine v_iconst (v := 0) hX d_M_say_113 (by decide) ?_
      exact v_iret hX hE d_M_say_114 (Nat.le_of_ble_eq_true rfl) (Nat.le_of_ble_eq_true rfl) ⟨rfl, ⟨_, rfl⟩, ⟨hd 48 rfl, rfl, hd 76 rfl, rfl, rfl⟩, rfl, rfl⟩
    · refine v_aload_n hX d_M_say_52 rfl rfl ?_
      refine v_get hX 48 (v := .ref (loc 49)) inT5 (hd 48 rfl) rfl (hm 48 rfl) rfl 1 (by decide) k_586 rfl rfl d_M_say_53 ?_
      refine v_aload_n hX d_M_say_56 rfl rfl ?_
      refine v_get hX 48 (v := .int 0) inT5 (hd 48 rfl) rfl (hm 48 rfl) rfl 11 (by decide) k_596 rfl rfl d_M_say_57 ?_
      refine v_iald hX 49 0 (v := 11) (hd 49 rfl) rfl (hm 49 rfl) rfl (vpb (by decide)) (by first | rfl | decide) d_M_say_60 ?_
      refine v_bipush (v := 10) hX d_M_say_61 (by decide) ?_
      refine c_S hX (rest := [.ref (loc 48)]) hl (c_M_mayHold 10) k_730 k_731 k_6 k_732 rfl q_M_mayHold ⟨(Nat.le_of_ble_eq_true rfl), (Nat.le_of_ble_eq_true rfl)⟩ rfl rfl rfl (Nat.le_of_ble_eq_true rfl) d_M_say_63 ⟨(Nat.le_of_ble_eq_true rfl), (Nat.le_of_ble_eq_true rfl)⟩ (fun rv d2 lo2 va2 kc ns hp => ?_)
      obtain ⟨rfl, rfl, rfl, rfl, rfl, rfl⟩ := hp
      show V X D CL A _ _ _ _ _ _ _ (.int (blk 10) :: [.ref (loc 48)])
      refine v_if_ne hX d_M_say_66 (tgt := 73) (by decide) (fun c => absurd (by decide) c) (fun _ => ?_)
      refine v_iconst (v := 1) hX d_M_say_69 (by decide) ?_
      refine v_goto hX d_M_say_70 (tgt := 103) (by decide) ?_
      refine v_putE hX 48 (fs2 := [.int 1, .ref (loc 49), .ref (loc 50), .ref (loc 51), .ref (loc 52), .ref (loc 53), .ref (loc 54), .ref (loc 55), .ref (loc 56), .int 1, .int 0, .int 0, .ref (loc 57), .ref (loc 58), .ref (loc 59), .ref (loc 60), .ref (loc 61), .ref (loc 62), .int 0, .int 0, .int 0, .int 0, .int 0, .int 0, .ref (loc 63), .ref (loc 64), .ref (loc 65), .ref (loc 66), .ref (loc 67), .ref (loc 68), .ref (loc 69), .ref (loc 70), .ref (loc 71), .ref (loc 72), .int 0, .ref (loc 73), .ref (loc 74), .ref (loc 75), .int 0, .int 0, .int 0, .int 0, .int 0, .int 0, .int 0]) inT5 tyX5 tyX5_ok nmX5 (hd 48 rfl) rfl (hm 48 rfl) rfl 0 (by decide) k_585 rfl rfl rfl rfl rfl (Nat.le_of_ble_eq_true rfl) d_M_say_103 rfl ?_
      refine v_aload_n hX d_M_say_106 rfl rfl ?_
      refine v_get hX 48 (v := .int 1) inT5 (hd 48 rfl) rfl rfl rfl 0 (by decide) k_585 rfl rfl d_M_say_107 ?_
      refine v_if_le hX d_M_say_110 (tgt := 115) (by decide) (fun c => absurd c (by decide)) (fun _ => ?_)
      refine v_iconst (v := 0) hX d_M_say_113 (by decide) ?_
      exact v_iret hX hE d_M_say_114 (Nat.le_of_ble_eq_true rfl) (Nat.le_of_ble_eq_true rfl) ⟨rfl, ⟨_, rfl⟩, ⟨hd 48 rfl, rfl, hd 76 rfl, rfl, rfl⟩, rfl, rfl⟩
