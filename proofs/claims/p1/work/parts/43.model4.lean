theorem pgbad {r c : Int32} (hb : r < 5 ∨ 40 < r ∨ c < 8 ∨ 60 < c) (h1 : ¬ r < 5) (h2 : ¬ 40 < r) (h3 : ¬ c < 8) : ¬ c ≤ 60 := by
  rcases hb with h | h | h | h
  · exact absurd h h1
  · exact absurd h h2
  · exact absurd h h3
  · exact Int32.not_le.mpr h
set_option maxHeartbeats 4000000 in
set_option maxRecDepth 100000 in
theorem c_M_pages_bad {l : Launch} {D : va_G} {A : Nat → Prop} {cI cB cZ cJ cN : ClassId} {dom : Nat → Prop} (hd : ∀ k, (Nat.ble 48 k && Nat.ble (k + 1) 77) = true → dom k) {loc : Nat → Nat} {val : Nat → va_E} (hm : ∀ k, (Nat.ble 48 k && Nat.ble (k + 1) 76) = true → val k = mcell cI cB cZ loc k) (r c : Int32) (hb : r < 5 ∨ 40 < r ∨ c < 8 ∨ 60 < c) : kM l y_M_pages (Cond.code y_M_pages b_M_pages 6 (some FieldType.int) :: TT) (rmL 2) D CL (TY cI cB cZ cJ cN) A [.ref (loc 48), .int r, .int c] (dom) loc val (fun rv d lo va kc ns => rv = some (.int 0) ∧ (∃ xs9, va 48 = .inr (5, .int 1 :: xs9)) ∧ keepO loc val d lo va ∧ kc = 0 ∧ ns = 0) := by
  refine kM_of (lv0 := [some (.ref (loc 48)), some (.int r), some (.int c), none, none, none]) (own := "ProsePagesModel") (by decide) rfl (List.forall_mem_cons.mpr ⟨rfl, List.forall_mem_cons.mpr ⟨rfl, List.forall_mem_cons.mpr ⟨rfl, fun _ h => nomatch h⟩⟩⟩) (Nat.le_of_ble_eq_true rfl) rfl (Nat.le_of_ble_eq_true rfl) (fun X hl hX hE hin0 => ?_)
  refine v_aload_n hX d_M_pages_0 rfl rfl ?_
  refine v_iload_n hX d_M_pages_1 rfl rfl ?_
  refine v_iconst (v := 5) hX d_M_pages_2 (by decide) ?_
  refine v_icmp_lt hX d_M_pages_3 (tgt := 24) (by decide) (fun c3 => ?_) (fun c3 => ?_)
  · refine v_iconst (v := 1) hX d_M_pages_24 (by decide) ?_
    refine v_goto hX d_M_pages_25 (tgt := 29) (by decide) ?_
    refine v_putE hX 48 (fs2 := [.int 1, .ref (loc 49), .ref (loc 50), .ref (loc 51), .ref (loc 52), .ref (loc 53), .ref (loc 54), .ref (loc 55), .ref (loc 56), .int 1, .int 0, .int 0, .ref (loc 57), .ref (loc 58), .ref (loc 59), .ref (loc 60), .ref (loc 61), .ref (loc 62), .int 0, .int 0, .int 0, .int 0, .int 0, .int 0, .ref (loc 63), .ref (loc 64), .ref (loc 65), .ref (loc 66), .ref (loc 67), .ref (loc 68), .ref (loc 69), .ref (loc 70), .ref (loc 71), .ref (loc 72), .int 0, .ref (loc 73), .ref (loc 74), .ref (loc 75), .int 0, .int 0, .int 0, .int 0, .int 0, .int 0, .int 0]) inT5 tyX5 tyX5_ok nmX5 (hd 48 rfl) rfl (hm 48 rfl) rfl 0 (by decide) k_585 rfl rfl rfl rfl rfl (Nat.le_of_ble_eq_true rfl) d_M_pages_29 rfl ?_
    refine v_aload_n hX d_M_pages_32 rfl rfl ?_
    refine v_get hX 48 (v := .int 1) inT5 (hd 48 rfl) rfl rfl rfl 0 (by decide) k_585 rfl rfl d_M_pages_33 ?_
    refine v_if_le hX d_M_pages_36 (tgt := 41) (by decide) (fun c => absurd c (by decide)) (fun _ => ?_)
    refine v_iconst (v := 0) hX d_M_pages_39 (by decide) ?_
    exact v_iret hX hE d_M_pages_40 (Nat.le_of_ble_eq_true rfl) (Nat.le_of_ble_eq_true rfl) ⟨rfl, ⟨_, rfl⟩, ⟨hd 48 rfl, rfl, hd 76 rfl, rfl, rfl⟩, rfl, rfl⟩
  · refine v_iload_n hX d_M_pages_6 rfl rfl ?_
    refine v_bipush (v := 40) hX d_M_pages_7 (by decide) ?_
    refine v_icmp_gt hX d_M_pages_9 (tgt := 24) (by decide) (fun c9 => ?_) (fun c9 => ?_)
    · refine v_iconst (v := 1) hX d_M_pages_24 (by decide) ?_
      refine v_goto hX d_M_pages_25 (tgt := 29) (by decide) ?_
      refine v_putE hX 48 (fs2 := [.int 1, .ref (loc 49), .ref (loc 50), .ref (loc 51), .ref (loc 52), .ref (loc 53), .ref (loc 54), .ref (loc 55), .ref (loc 56), .int 1, .int 0, .int 0, .ref (loc 57), .ref (loc 58), .ref (loc 59), .ref (loc 60), .ref (loc 61), .ref (loc 62), .int 0, .int 0, .int 0, .int 0, .int 0, .int 0, .ref (loc 63), .ref (loc 64), .ref (loc 65), .ref (loc 66), .ref (loc 67), .ref (loc 68), .ref (loc 69), .ref (loc 70), .ref (loc 71), .ref (loc 72), .int 0, .ref (loc 73), .ref (loc 74), .ref (loc 75), .int 0, .int 0, .int 0, .int 0, .int 0, .int 0, .int 0]) inT5 tyX5 tyX5_ok nmX5 (hd 48 rfl) rfl (hm 48 rfl) rfl 0 (by decide) k_585 rfl rfl rfl rfl rfl (Nat.le_of_ble_eq_true rfl) d_M_pages_29 rfl ?_
      refine v_aload_n hX d_M_pages_32 rfl rfl ?_
      refine v_get hX 48 (v := .int 1) inT5 (hd 48 rfl) rfl rfl rfl 0 (by decide) k_585 rfl rfl d_M_pages_33 ?_
      refine v_if_le hX d_M_pages_36 (tgt := 41) (by decide) (fun c => absurd c (by decide)) (fun _ => ?_)
      refine v_iconst (v := 0) hX d_M_pages_39 (by decide) ?_
      exact v_iret hX hE d_M_pages_40 (Nat.le_of_ble_eq_true rfl) (Nat.le_of_ble_eq_true rfl) ⟨rfl, ⟨_, rfl⟩, ⟨hd 48 rfl, rfl, hd 76 rfl, rfl, rfl⟩, rfl, rfl⟩
    · refine v_iload_n hX d_M_pages_12 rfl rfl ?_
      refine v_bipush (v := 8) hX d_M_pages_13 (by decide) ?_
      refine v_icmp_lt hX d_M_pages_15 (tgt := 24) (by decide) (fun c15 => ?_) (fun c15 => ?_)
      · refine v_iconst (v := 1) hX d_M_pages_24 (by decide) ?_
        refine v_goto hX d_M_pages_25 (tgt := 29) (by decide) ?_
        refine v_putE hX 48 (fs2 := [.int 1, .ref (loc 49), .ref (loc 50), .ref (loc 51), .ref (loc 52), .ref (loc 53), .ref (loc 54), .ref (loc 55), .ref (loc 56), .int 1, .int 0, .int 0, .ref (loc 57), .ref (loc 58), .ref (loc 59), .ref (loc 60), .ref (loc 61), .ref (loc 62), .int 0, .int 0, .int 0, .int 0, .int 0, .int 0, .ref (loc 63), .ref (loc 64), .ref (loc 65), .ref (loc 66), .ref (loc 67), .ref (loc 68), .ref (loc 69), .ref (loc 70), .ref (loc 71), .ref (loc 72), .int 0, .ref (loc 73), .ref (loc 74), .ref (loc 75), .int 0, .int 0, .int 0, .int 0, .int 0, .int 0, .int 0]) inT5 tyX5 tyX5_ok nmX5 (hd 48 rfl) rfl (hm 48 rfl) rfl 0 (by decide) k_585 rfl rfl rfl rfl rfl (Nat.le_of_ble_eq_true rfl) d_M_pages_29 rfl ?_
        refine v_aload_n hX d_M_pages_32 rfl rfl ?_
        refine v_get hX 48 (v := .int 1) inT5 (hd 48 rfl) rfl rfl rfl 0 (by decide) k_585 rfl rfl d_M_pages_33 ?_
        refine v_if_le hX d_M_pages_36 (tgt := 41) (by decide) (fun c => absurd c (by decide)) (fun _ => ?_)
        refine v_iconst (v := 0) hX d_M_pages_39 (by decide) ?_
        exact v_iret hX hE d_M_pages_40 (Nat.le_of_ble_eq_true rfl) (Nat.le_of_ble_eq_true rfl) ⟨rfl, ⟨_, rfl⟩, ⟨hd 48 rfl, rfl, hd 76 rfl, rfl, rfl⟩, rfl, rfl⟩
      · refine v_iload_n hX d_M_pages_18 rfl rfl ?_
        refine v_bipush (v := 60) hX d_M_pages_19 (by decide) ?_
        refine v_icmp_le hX d_M_pages_21 (tgt := 28) (by decide) (fun c => absurd c (pgbad hb c3 c9 c15)) (fun _ => ?_)
        refine v_iconst (v := 1) hX d_M_pages_24 (by decide) ?_
        refine v_goto hX d_M_pages_25 (tgt := 29) (by decide) ?_
        refine v_putE hX 48 (fs2 := [.int 1, .ref (loc 49), .ref (loc 50), .ref (loc 51), .ref (loc 52), .ref (loc 53), .ref (loc 54), .ref (loc 55), .ref (loc 56), .int 1, .int 0, .int 0, .ref (loc 57), .ref (loc 58), .ref (loc 59), .ref (loc 60), .ref (loc 61), .ref (loc 62), .int 0, .int 0, .int 0, .int 0, .int 0, .int 0, .ref (loc 63), .ref (loc 64), .ref (loc 65), .ref (loc 66), .ref (loc 67), .ref (loc 68), .ref (loc 69), .ref (loc 70), .ref (loc 71), .ref (loc 72), .int 0, .ref (loc 73), .ref (loc 74), .ref (loc 75), .int 0, .int 0, .int 0, .int 0, .int 0, .int 0, .int 0]) inT5 tyX5 tyX5_ok nmX5 (hd 48 rfl) rfl (hm 48 rfl) rfl 0 (by decide) k_585 rfl rfl rfl rfl rfl (Nat.le_of_ble_eq_true rfl) d_M_pages_29 rfl ?_
        refine v_aload_n hX d_M_pages_32 rfl rfl ?_
        refine v_get hX 48 (v := .int 1) inT5 (hd 48 rfl) rfl rfl rfl 0 (by decide) k_585 rfl rfl d_M_pages_33 ?_
        refine v_if_le hX d_M_pages_36 (tgt := 41) (by decide) (fun c => absurd c (by decide)) (fun _ => ?_)
        refine v_iconst (v := 0) hX d_M_pages_39 (by decide) ?_
        exact v_iret hX hE d_M_pages_40 (Nat.le_of_ble_eq_true rfl) (Nat.le_of_ble_eq_true rfl) ⟨rfl, ⟨_, rfl⟩, ⟨hd 48 rfl, rfl, hd 76 rfl, rfl, rfl⟩, rfl, rfl⟩
set_option maxHeartbeats 4000000 in
set_option maxRecDepth 100000 in
theorem c_M_hold_a {l : Launch} {D : va_G} {A : Nat → Prop} {cI cB cZ cJ cN : ClassId} {loc : Nat → Nat} {val : Nat → va_E} {dom : Nat → Prop} (hd : ∀ k, (Nat.ble 48 k && Nat.ble (k + 1) 77) = true → dom k) (c : Int32) (h8 : 4 ≤ c) (h48 : val 48 = .inr (5, [.int 0, .ref (loc 49), .ref (loc 50), .ref (loc 51), .ref (loc 52), .ref (loc 53), .ref (loc 54), .ref (loc 55), .ref (loc 56), .int 1, .int 0, .int 0, .ref (loc 57), .ref (loc 58), .ref (loc 59), .ref (loc 60), .ref (loc 61), .ref (loc 62), .int 0, .int 0, .int 0, .int c, .int 0, .int 0, .ref (loc 63), .ref (loc 64), .ref (loc 65), .ref (loc 66), .ref (loc 67), .ref (loc 68), .ref (loc 69), .ref (loc 70), .ref (loc 71), .ref (loc 72), .int 0, .ref (loc 73), .ref (loc 74), .ref (loc 75), .int 0, .int 0, .int 0, .int 0, .int (-1), .int 0, .int 1])) (h65 : val 65 = .inl (cI, 14, .inl (fun _ => 0))) (h66 : val 66 = .inl (cI, 14, .inl (fun _ => 0))) (h67 : val 67 = .inl (cI, 14, .inl (fun _ => 0))) (h68 : val 68 = .inl (cI, 14, .inl (fun _ => 0))) (h69 : val 69 = .inl (cZ, 14, .inl (fun _ => 0))) (h70 : val 70 = .inl (cZ, 14, .inl (fun _ => 0))) (h71 : val 71 = .inl (cZ, 14, .inl (fun _ => 0))) (h72 : val 72 = .inl (cZ, 14, .inl (fun _ => 0)))  : kM l y_M_hold (Cond.code y_M_hold b_M_hold 6 none :: TT) (rmL 1) D CL (TY cI cB cZ cJ cN) A [.ref (loc 48), .int 11, .int c, .int (-1), .int 1] (dom) loc val (fun rv d lo va kc ns => rv = none ∧ dom = d ∧ loc = lo ∧ va_up (va_up (va_up (va_up (va_up (va_up (va_up (va_up (va_up (val) 65 (.inl (cI, 14, .inl (upd (fun _ => 0) (Int32.toNatClampNeg 0) 11)))) 66 (.inl (cI, 14, .inl (upd (fun _ => 0) (Int32.toNatClampNeg 0) c)))) 67 (.inl (cI, 14, .inl (upd (fun _ => 0) (Int32.toNatClampNeg 0) (-1))))) 68 (.inl (cI, 14, .inl (upd (fun _ => 0) (Int32.toNatClampNeg 0) (-1))))) 69 (.inl (cZ, 14, .inl (upd (fun _ => 0) (Int32.toNatClampNeg 0) (vp_nar .boolean 0))))) 70 (.inl (cZ, 14, .inl (upd (fun _ => 0) (Int32.toNatClampNeg 0) (vp_nar .boolean 1))))) 71 (.inl (cZ, 14, .inl (upd (fun _ => 0) (Int32.toNatClampNeg 0) (vp_nar .boolean 0))))) 72 (.inl (cZ, 14, .inl (upd (fun _ => 0) (Int32.toNatClampNeg 0) (vp_nar .boolean 0))))) 48 (.inr (5, [.int 0, .ref (loc 49), .ref (loc 50), .ref (loc 51), .ref (loc 52), .ref (loc 53), .ref (loc 54), .ref (loc 55), .ref (loc 56), .int 1, .int 0, .int 0, .ref (loc 57), .ref (loc 58), .ref (loc 59), .ref (loc 60), .ref (loc 61), .ref (loc 62), .int 0, .int 0, .int 0, .int c, .int 0, .int 0, .ref (loc 63), .ref (loc 64), .ref (loc 65), .ref (loc 66), .ref (loc 67), .ref (loc 68), .ref (loc 69), .ref (loc 70), .ref (loc 71), .ref (loc 72), .int 1, .ref (loc 73), .ref (loc 74), .ref (loc 75), .int 0, .int 0, .int 0, .int 0, .int (-1), .int 0, .int 1])) = va ∧ kc = 0 ∧ ns = 0) := by
  refine kM_of (lv0 := [some (.ref (loc 48)), some (.int 11), some (.int c), some (.int (-1)), some (.int 1), none]) (own := "ProsePagesModel") (by decide) rfl (List.forall_mem_cons.mpr ⟨rfl, List.forall_mem_cons.mpr ⟨rfl, List.forall_mem_cons.mpr ⟨rfl, List.forall_mem_cons.mpr ⟨rfl, List.forall_mem_cons.mpr ⟨rfl, fun _ h => nomatch h⟩⟩⟩⟩⟩) (Nat.le_of_ble_eq_true rfl) rfl (Nat.le_of_ble_eq_true rfl) (fun X hl hX hE hin0 => ?_)
  refine v_aload_n hX d_M_hold_0 rfl rfl ?_
  refine v_get hX 48 (v := .int 0) inT5 (hd 48 rfl) rfl h48 rfl 34 (by decide) k_619 rfl rfl d_M_hold_1 ?_
  refine v_if_le hX d_M_hold_4 (tgt := 19) (by decide) (fun _ => ?_) (fun c => absurd (by decide) c)
  refine v_aload_n hX d_M_hold_19 rfl rfl ?_
  refine v_get hX 48 (v := .int 0) inT5 (hd 48 rfl) rfl h48 rfl 34 (by decide) k_619 rfl rfl d_M_hold_20 ?_
  refine v_istore (lv' := [some (.ref (loc 48)), some (.int 11), some (.int c), some (.int (-1)), some (.int 1), some (.int 0)]) hX d_M_hold_23 (Nat.le_of_ble_eq_true rfl) rfl ?_
  refine v_aload_n hX d_M_hold_25 rfl rfl ?_
  refine v_get hX 48 (v := .ref (loc 65)) inT5 (hd 48 rfl) rfl h48 rfl 26 (by decide) k_611 rfl rfl d_M_hold_26 ?_
  refine v_iload hX d_M_hold_29 rfl ?_
  refine v_iload_n hX d_M_hold_31 rfl rfl ?_
  refine v_iast hX 65 0 (hd 65 rfl) rfl h65 rfl (vpb (by decide)) d_M_hold_32 ?_
  refine v_aload_n hX d_M_hold_33 rfl rfl ?_
  refine v_get hX 48 (v := .ref (loc 66)) inT5 (hd 48 rfl) rfl h48 rfl 27 (by decide) k_612 rfl rfl d_M_hold_34 ?_
  refine v_iload hX d_M_hold_37 rfl ?_
  refine v_iload_n hX d_M_hold_39 rfl rfl ?_
  refine v_iconst (v := 4) hX d_M_hold_40 (by decide) ?_
  refine v_icmp_ge hX d_M_hold_41 (tgt := 48) (by decide) (fun _ => ?_) (fun c => absurd (h8) c)
  refine v_iload_n hX d_M_hold_48 rfl rfl ?_
  refine v_iast hX 66 0 (hd 66 rfl) rfl h66 rfl (vpb (by decide)) d_M_hold_49 ?_
  refine v_aload_n hX d_M_hold_50 rfl rfl ?_
  refine v_get hX 48 (v := .ref (loc 67)) inT5 (hd 48 rfl) rfl h48 rfl 28 (by decide) k_613 rfl rfl d_M_hold_51 ?_
  refine v_iload hX d_M_hold_54 rfl ?_
  refine v_iload_n hX d_M_hold_56 rfl rfl ?_
  refine v_iast hX 67 0 (hd 67 rfl) rfl h67 rfl (vpb (by decide)) d_M_hold_57 ?_
  refine v_aload_n hX d_M_hold_58 rfl rfl ?_
  refine v_get hX 48 (v := .ref (loc 68)) inT5 (hd 48 rfl) rfl h48 rfl 29 (by decide) k_614 rfl rfl d_M_hold_59 ?_
  refine v_iload hX d_M_hold_62 rfl ?_
  refine v_iload_n hX d_M_hold_64 rfl rfl ?_
  refine v_iast hX 68 0 (hd 68 rfl) rfl h68 rfl (vpb (by decide)) d_M_hold_65 ?_
  refine v_aload_n hX d_M_hold_66 rfl rfl ?_
  refine v_get hX 48 (v := .ref (loc 69)) inT5 (hd 48 rfl) rfl h48 rfl 30 (by decide) k_615 rfl rfl d_M_hold_67 ?_
  refine v_iload hX d_M_hold_70 rfl ?_
  refine v_iload_n hX d_M_hold_72 rfl rfl ?_
  refine v_bipush (v := 7) hX d_M_hold_73 (by decide) ?_
  refine v_icmp_ne hX d_M_hold_75 (tgt := 82) (by decide) (fun _ => ?_) (fun c => absurd c (by decide))
  refine v_iconst (v := 0) hX d_M_hold_82 (by decide) ?_
  refine v_zast hX 69 2 (hd 69 rfl) rfl h69 rfl (vpb (by decide)) d_M_hold_83 ?_
  refine v_aload_n hX d_M_hold_84 rfl rfl ?_
  refine v_get hX 48 (v := .ref (loc 70)) inT5 (hd 48 rfl) rfl h48 rfl 31 (by decide) k_616 rfl rfl d_M_hold_85 ?_
  refine v_iload hX d_M_hold_88 rfl ?_
  refine v_iload hX d_M_hold_90 rfl ?_
  refine v_zast hX 70 2 (hd 70 rfl) rfl h70 rfl (vpb (by decide)) d_M_hold_92 ?_
  refine v_aload_n hX d_M_hold_93 rfl rfl ?_
  refine v_get hX 48 (v := .ref (loc 71)) inT5 (hd 48 rfl) rfl h48 rfl 32 (by decide) k_617 rfl rfl d_M_hold_94 ?_
  refine v_iload hX d_M_hold_97 rfl ?_
  refine v_iconst (v := 0) hX d_M_hold_99 (by decide) ?_
  refine v_zast hX 71 2 (hd 71 rfl) rfl h71 rfl (vpb (by decide)) d_M_hold_100 ?_
  refine v_aload_n hX d_M_hold_101 rfl rfl ?_
  refine v_get hX 48 (v := .ref (loc 72)) inT5 (hd 48 rfl) rfl h48 rfl 33 (by decide) k_618 rfl rfl d_M_hold_102 ?_
  refine v_iload hX d_M_hold_105 rfl ?_
  refine v_iconst (v := 0) hX d_M_hold_107 (by decide) ?_
  refine v_zast hX 72 2 (hd 72 rfl) rfl h72 rfl (vpb (by decide)) d_M_hold_108 ?_
  refine v_aload_n hX d_M_hold_109 rfl rfl ?_
  refine v_dup hX d_M_hold_110 rfl ?_
  refine v_get hX 48 (v := .int 0) inT5 (hd 48 rfl) rfl h48 rfl 34 (by decide) k_619 rfl rfl d_M_hold_111 ?_
  refine v_iconst (v := 1) hX d_M_hold_114 (by decide) ?_
  refine v_iaddE (v := 1) hX d_M_hold_115 (by decide) ?_
  refine v_putE hX 48 (fs2 := [.int 0, .ref (loc 49), .ref (loc 50), .ref (loc 51), .ref (loc 52), .ref (loc 53), .ref (loc 54), .ref (loc 55), .ref (loc 56), .int 1, .int 0, .int 0, .ref (loc 57), .ref (loc 58), .ref (loc 59), .ref (loc 60), .ref (loc 61), .ref (loc 62), .int 0, .int 0, .int 0, .int c, .int 0, .int 0, .ref (loc 63), .ref (loc 64), .ref (loc 65), .ref (loc 66), .ref (loc 67), .ref (loc 68), .ref (loc 69), .ref (loc 70), .ref (loc 71), .ref (loc 72), .int 1, .ref (loc 73), .ref (loc 74), .ref (loc 75), .int 0, .int 0, .int 0, .int 0, .int (-1), .int 0, .int 1]) inT5 tyX5 tyX5_ok nmX5 (hd 48 rfl) rfl h48 rfl 34 (by decide) k_619 rfl rfl rfl rfl rfl (Nat.le_of_ble_eq_true rfl) d_M_hold_116 rfl ?_
  exact v_vret hX hE d_M_hold_119 (Nat.le_of_ble_eq_true rfl) (Nat.le_of_ble_eq_true rfl) ⟨rfl, rfl, rfl, rfl, rfl, rfl⟩
set_option maxHeartbeats 4000000 in
set_option maxRecDepth 100000 in
theorem c_M_beginNode_a {l : Launch} {D : va_G} {A : Nat → Prop} {cI cB cZ cJ cN : ClassId} {loc : Nat → Nat} {val : Nat → va_E} {dom : Nat → Prop} (hd : ∀ k, (Nat.ble 48 k && Nat.ble (k + 1) 77) = true → dom k) (c : Int32) (h8 : 4 ≤ c) (h48 : val 48 = .inr (5, [.int 0, .ref (loc 49), .ref (loc 50), .ref (loc 51), .ref (loc 52), .ref (loc 53), .ref (loc 54), .ref (loc 55), .ref (loc 56), .int 1, .int 0, .int 0, .ref (loc 57), .ref (loc 58), .ref (loc 59), .ref (loc 60), .ref (loc 61), .ref (loc 62), .int 0, .int 0, .int 0, .int c, .int 0, .int 0, .ref (loc 63), .ref (loc 64), .ref (loc 65), .ref (loc 66), .ref (loc 67), .ref (loc 68), .ref (loc 69), .ref (loc 70), .ref (loc 71), .ref (loc 72), .int 0, .ref (loc 73), .ref (loc 74), .ref (loc 75), .int 0, .int 0, .int 0, .int 0, .int (-1), .int 0, .int 1])) (h49 : val 49 = .inl (cI, 300, .inl (upd (fun _ => 0) (Int32.toNatClampNeg 0) 11))) (h64 : val 64 = .inl (cI, 300, .inl (fun _ => 0))) (h65 : val 65 = .inl (cI, 14, .inl (fun _ => 0))) (h66 : val 66 = .inl (cI, 14, .inl (fun _ => 0))) (h67 : val 67 = .inl (cI, 14, .inl (fun _ => 0))) (h68 : val 68 = .inl (cI, 14, .inl (fun _ => 0))) (h69 : val 69 = .inl (cZ, 14, .inl (fun _ => 0))) (h70 : val 70 = .inl (cZ, 14, .inl (fun _ => 0))) (h71 : val 71 = .inl (cZ, 14, .inl (fun _ => 0))) (h72 : val 72 = .inl (cZ, 14, .inl (fun _ => 0)))  : kM l y_M_beginNode (Cond.code y_M_beginNode b_M_beginNode 7 none :: TT) (rmL 2) D CL (TY cI cB cZ cJ cN) A [.ref (loc 48), .int 0] (dom) loc val (fun rv d lo va kc ns => rv = none ∧ dom = d ∧ loc = lo ∧ va_up (va_up (va_up (va_up (va_up (va_up (va_up (va_up (va_up (va_up (val) 64 (.inl (cI, 300, .inl (upd (fun _ => 0) (Int32.toNatClampNeg 0) (-2))))) 65 (.inl (cI, 14, .inl (upd (fun _ => 0) (Int32.toNatClampNeg 0) 11)))) 66 (.inl (cI, 14, .inl (upd (fun _ => 0) (Int32.toNatClampNeg 0) c)))) 67 (.inl (cI, 14, .inl (upd (fun _ => 0) (Int32.toNatClampNeg 0) (-1))))) 68 (.inl (cI, 14, .inl (upd (fun _ => 0) (Int32.toNatClampNeg 0) (-1))))) 69 (.inl (cZ, 14, .inl (upd (fun _ => 0) (Int32.toNatClampNeg 0) (vp_nar .boolean 0))))) 70 (.inl (cZ, 14, .inl (upd (fun _ => 0) (Int32.toNatClampNeg 0) (vp_nar .boolean 1))))) 71 (.inl (cZ, 14, .inl (upd (fun _ => 0) (Int32.toNatClampNeg 0) (vp_nar .boolean 0))))) 72 (.inl (cZ, 14, .inl (upd (fun _ => 0) (Int32.toNatClampNeg 0) (vp_nar .boolean 0))))) 48 (.inr (5, [.int 0, .ref (loc 49), .ref (loc 50), .ref (loc 51), .ref (loc 52), .ref (loc 53), .ref (loc 54), .ref (loc 55), .ref (loc 56), .int 1, .int 0, .int 0, .ref (loc 57), .ref (loc 58), .ref (loc 59), .ref (loc 60), .ref (loc 61), .ref (loc 62), .int 0, .int 0, .int 0, .int c, .int 0, .int 0, .ref (loc 63), .ref (loc 64), .ref (loc 65), .ref (loc 66), .ref (loc 67), .ref (loc 68), .ref (loc 69), .ref (loc 70), .ref (loc 71), .ref (loc 72), .int 1, .ref (loc 73), .ref (loc 74), .ref (loc 75), .int 0, .int 0, .int 0, .int 0, .int (-1), .int 0, .int 1])) = va ∧ kc = 0 ∧ ns = 0) := by
  refine kM_of (lv0 := [some (.ref (loc 48)), some (.int 0), none, none, none, none, none]) (own := "ProsePagesModel") (by decide) rfl (List.forall_mem_cons.mpr ⟨rfl, List.forall_mem_cons.mpr ⟨rfl, fun _ h => nomatch h⟩⟩) (Nat.le_of_ble_eq_true rfl) rfl (Nat.le_of_ble_eq_true rfl) (fun X hl hX hE hin0 => ?_)
  refine v_aload_n hX d_M_beginNode_0 rfl rfl ?_
  refine v_get hX 48 (v := .ref (loc 49)) inT5 (hd 48 rfl) rfl h48 rfl 1 (by decide) k_586 rfl rfl d_M_beginNode_1 ?_
  refine v_iload_n hX d_M_beginNode_4 rfl rfl ?_
  refine v_iald hX 49 0 (v := 11) (hd 49 rfl) rfl h49 rfl (vpb (by decide)) (by first | rfl | decide) d_M_beginNode_5 ?_
  refine v_istore_n (lv' := [some (.ref (loc 48)), some (.int 0), some (.int 11), none, none, none, none]) hX d_M_beginNode_6 rfl (Nat.le_of_ble_eq_true rfl) rfl ?_
  refine v_iload_n hX d_M_beginNode_7 rfl rfl ?_
  refine c_S hX (rest := []) hl (c_M_isBlock 11) k_733 k_734 k_6 k_735 rfl q_M_isBlock ⟨(Nat.le_of_ble_eq_true rfl), (Nat.le_of_ble_eq_true rfl)⟩ rfl rfl rfl (Nat.le_of_ble_eq_true rfl) d_M_beginNode_8 ⟨(Nat.le_of_ble_eq_true rfl), (Nat.le_of_ble_eq_true rfl)⟩ (fun rv d2 lo2 va2 kc ns hp => ?_)
  obtain ⟨rfl, rfl, rfl, rfl, rfl, rfl⟩ := hp
  show V X D CL A _ _ _ _ _ _ _ (.int (blk 11) :: [])
  refine v_if_eq hX d_M_beginNode_11 (tgt := 25) (by decide) (fun _ => ?_) (fun c => absurd (by decide) c)
  refine v_iload_n hX d_M_beginNode_25 rfl rfl ?_
  refine c_S hX (rest := []) hl (c_M_isInline 11) k_736 k_737 k_6 k_738 rfl q_M_isInline ⟨(Nat.le_of_ble_eq_true rfl), (Nat.le_of_ble_eq_true rfl)⟩ rfl rfl rfl (Nat.le_of_ble_eq_true rfl) d_M_beginNode_26 ⟨(Nat.le_of_ble_eq_true rfl), (Nat.le_of_ble_eq_true rfl)⟩ (fun rv d2 lo2 va2 kc ns hp => ?_)
  obtain ⟨rfl, rfl, rfl, rfl, rfl, rfl⟩ := hp
  show V X D CL A _ _ _ _ _ _ _ (.int (inl 11) :: [])
  refine v_if_eq hX d_M_beginNode_29 (tgt := 82) (by decide) (fun _ => ?_) (fun c => absurd (by decide) c)
  refine v_aload_n hX d_M_beginNode_82 rfl rfl ?_
  refine v_get hX 48 (v := .int 0) inT5 (hd 48 rfl) rfl h48 rfl 34 (by decide) k_619 rfl rfl d_M_beginNode_83 ?_
  refine v_if_le hX d_M_beginNode_86 (tgt := 103) (by decide) (fun _ => ?_) (fun c => absurd (by decide) c)
  refine v_aload_n hX d_M_beginNode_103 rfl rfl ?_
  refine v_get hX 48 (v := .int c) inT5 (hd 48 rfl) rfl h48 rfl 21 (by decide) k_606 rfl rfl d_M_beginNode_104 ?_
  refine v_istore_n (lv' := [some (.ref (loc 48)), some (.int 0), some (.int 11), some (.int c), none, none, none]) hX d_M_beginNode_107 rfl (Nat.le_of_ble_eq_true rfl) rfl ?_
  refine v_iload_n hX d_M_beginNode_108 rfl rfl ?_
  refine v_bipush (v := 10) hX d_M_beginNode_109 (by decide) ?_
  refine v_icmp_ne hX d_M_beginNode_111 (tgt := 133) (by decide) (fun _ => ?_) (fun c => absurd c (by decide))
  refine v_iconst (v := 0) hX d_M_beginNode_133 (by decide) ?_
  refine v_istore (lv' := [some (.ref (loc 48)), some (.int 0), some (.int 11), some (.int c), some (.int 0), none, none]) hX d_M_beginNode_134 (Nat.le_of_ble_eq_true rfl) rfl ?_
  refine v_aload_n hX d_M_beginNode_136 rfl rfl ?_
  refine v_get hX 48 (v := .ref (loc 64)) inT5 (hd 48 rfl) rfl h48 rfl 25 (by decide) k_610 rfl rfl d_M_beginNode_137 ?_
  refine v_iload_n hX d_M_beginNode_140 rfl rfl ?_
  refine v_iload_n hX d_M_beginNode_141 rfl rfl ?_
  refine c_S hX (rest := [.int 0, .ref (loc 64)]) hl (c_M_isInline 11) k_736 k_737 k_6 k_738 rfl q_M_isInline ⟨(Nat.le_of_ble_eq_true rfl), (Nat.le_of_ble_eq_true rfl)⟩ rfl rfl rfl (Nat.le_of_ble_eq_true rfl) d_M_beginNode_142 ⟨(Nat.le_of_ble_eq_true rfl), (Nat.le_of_ble_eq_true rfl)⟩ (fun rv d2 lo2 va2 kc ns hp => ?_)
  obtain ⟨rfl, rfl, rfl, rfl, rfl, rfl⟩ := hp
  show V X D CL A _ _ _ _ _ _ _ (.int (inl 11) :: [.int 0, .ref (loc 64)])
  refine v_if_eq hX d_M_beginNode_145 (tgt := 174) (by decide) (fun _ => ?_) (fun c => absurd (by decide) c)
  refine v_bipush (v := (-2)) hX d_M_beginNode_174 (by decide) ?_
  refine v_aload_n hX d_M_beginNode_176 rfl rfl ?_
  refine v_get hX 48 (v := .int 0) inT5 (hd 48 rfl) rfl h48 rfl 23 (by decide) k_608 rfl rfl d_M_beginNode_177 ?_
  refine v_isubE (v := (-2)) hX d_M_beginNode_180 (by decide) ?_
  refine v_iast hX 64 0 (hd 64 rfl) rfl h64 rfl (vpb (by decide)) d_M_beginNode_181 ?_
  refine v_iload_n hX d_M_beginNode_182 rfl rfl ?_
  refine v_tableIn hX d_M_beginNode_183 (tgt := 244) (by decide) (by decide) (off := 61) (by decide) (by decide) ?_
  refine v_aload_n hX d_M_beginNode_244 rfl rfl ?_
  refine v_bipush (v := 11) hX d_M_beginNode_245 (by decide) ?_
  refine v_aload_n hX d_M_beginNode_247 rfl rfl ?_
  refine v_get hX 48 (v := .int c) inT5 (hd 48 rfl) rfl h48 rfl 21 (by decide) k_606 rfl rfl d_M_beginNode_248 ?_
  refine v_iconst (v := (-1)) hX d_M_beginNode_251 (by decide) ?_
  refine v_iconst (v := 1) hX d_M_beginNode_252 (by decide) ?_
  refine c_V hX 48 (rest := []) hl (c_M_hold_a hd c h8 h48 h65 h66 h67 h68 h69 h70 h71 h72 ) k_815 k_817 kp_42 k_6 k_818 rfl q_M_hold ⟨(Nat.le_of_ble_eq_true rfl), (Nat.le_of_ble_eq_true rfl)⟩ (hd 48 rfl) rfl h48 rfl rfl rfl rfl (Nat.le_of_ble_eq_true rfl) d_M_beginNode_253 ⟨(Nat.le_of_ble_eq_true rfl), (Nat.le_of_ble_eq_true rfl)⟩ (fun rv d2 lo2 va2 kc ns hp => ?_)
  obtain ⟨rfl, rfl, rfl, rfl, rfl, rfl⟩ := hp
  show V X D CL A _ _ _ _ _ _ _ []
  refine v_goto hX d_M_beginNode_256 (tgt := 538) (by decide) ?_
  exact v_vret hX hE d_M_beginNode_538 (Nat.le_of_ble_eq_true rfl) (Nat.le_of_ble_eq_true rfl) ⟨rfl, rfl, rfl, rfl, rfl, rfl⟩
set_option maxHeartbeats 4000000 in
set_option maxRecDepth 100000 in
theorem c_M_endNode_a {l : Launch} {D : va_G} {A : Nat → Prop} {cI cB cZ cJ cN : ClassId} {loc : Nat → Nat} {val : Nat → va_E} {dom : Nat → Prop} (hd : ∀ k, (Nat.ble 48 k && Nat.ble (k + 1) 77) = true → dom k) (c : Int32) (h48 : val 48 = .inr (5, [.int 0, .ref (loc 49), .ref (loc 50), .ref (loc 51), .ref (loc 52), .ref (loc 53), .ref (loc 54), .ref (loc 55), .ref (loc 56), .int 1, .int 0, .int 0, .ref (loc 57), .ref (loc 58), .ref (loc 59), .ref (loc 60), .ref (loc 61), .ref (loc 62), .int 0, .int 0, .int 0, .int c, .int 0, .int 0, .ref (loc 63), .ref (loc 64), .ref (loc 65), .ref (loc 66), .ref (loc 67), .ref (loc 68), .ref (loc 69), .ref (loc 70), .ref (loc 71), .ref (loc 72), .int 1, .ref (loc 73), .ref (loc 74), .ref (loc 75), .int 0, .int 0, .int 0, .int 0, .int (-1), .int 0, .int 1])) (h49 : val 49 = .inl (cI, 300, .inl (upd (fun _ => 0) (Int32.toNatClampNeg 0) 11)))  : kM l y_M_endNode (Cond.code y_M_endNode b_M_endNode 3 none :: TT) (rmL 1) D CL (TY cI cB cZ cJ cN) A [.ref (loc 48), .int 0] (dom) loc val (fun rv d lo va kc ns => rv = none ∧ dom = d ∧ loc = lo ∧ va_up (val) 48 (.inr (5, [.int 0, .ref (loc 49), .ref (loc 50), .ref (loc 51), .ref (loc 52), .ref (loc 53), .ref (loc 54), .ref (loc 55), .ref (loc 56), .int 1, .int 0, .int 0, .ref (loc 57), .ref (loc 58), .ref (loc 59), .ref (loc 60), .ref (loc 61), .ref (loc 62), .int 0, .int 0, .int 0, .int c, .int 0, .int 0, .ref (loc 63), .ref (loc 64), .ref (loc 65), .ref (loc 66), .ref (loc 67), .ref (loc 68), .ref (loc 69), .ref (loc 70), .ref (loc 71), .ref (loc 72), .int 0, .ref (loc 73), .ref (loc 74), .ref (loc 75), .int 0, .int 0, .int 0, .int 0, .int (-1), .int 0, .int 1])) = va ∧ kc = 0 ∧ ns = 0) := by
  refine kM_of (lv0 := [some (.ref (loc 48)), some (.int 0), none]) (own := "ProsePagesModel") (by decide) rfl (List.forall_mem_cons.mpr ⟨rfl, List.forall_mem_cons.mpr ⟨rfl, fun _ h => nomatch h⟩⟩) (Nat.le_of_ble_eq_true rfl) rfl (Nat.le_of_ble_eq_true rfl) (fun X hl hX hE hin0 => ?_)
  refine v_aload_n hX d_M_endNode_0 rfl rfl ?_
  refine v_get hX 48 (v := .ref (loc 49)) inT5 (hd 48 rfl) rfl h48 rfl 1 (by decide) k_586 rfl rfl d_M_endNode_1 ?_
  refine v_iload_n hX d_M_endNode_4 rfl rfl ?_
  refine v_iald hX 49 0 (v := 11) (hd 49 rfl) rfl h49 rfl (vpb (by decide)) (by first | rfl | decide) d_M_endNode_5 ?_
  refine v_istore_n (lv' := [some (.ref (loc 48)), some (.int 0), some (.int 11)]) hX d_M_endNode_6 rfl (Nat.le_of_ble_eq_true rfl) rfl ?_
  refine v_iload_n hX d_M_endNode_7 rfl rfl ?_
  refine v_if_eq hX d_M_endNode_8 (tgt := 16) (by decide) (fun c => absurd c (by decide)) (fun _ => ?_)
  refine v_iload_n hX d_M_endNode_11 rfl rfl ?_
  refine v_iconst (v := 1) hX d_M_endNode_12 (by decide) ?_
  refine v_icmp_ne hX d_M_endNode_13 (tgt := 57) (by decide) (fun _ => ?_) (fun c => absurd c (by decide))
  refine v_iload_n hX d_M_endNode_57 rfl rfl ?_
  refine v_bipush (v := 7) hX d_M_endNode_58 (by decide) ?_
  refine v_icmp_ne hX d_M_endNode_60 (tgt := 103) (by decide) (fun _ => ?_) (fun c => absurd c (by decide))
  refine v_iload_n hX d_M_endNode_103 rfl rfl ?_
  refine v_bipush (v := 11) hX d_M_endNode_104 (by decide) ?_
  refine v_icmp_eq hX d_M_endNode_106 (tgt := 120) (by decide) (fun _ => ?_) (fun c => absurd (by decide) c)
  refine v_aload_n hX d_M_endNode_120 rfl rfl ?_
  refine v_dup hX d_M_endNode_121 rfl ?_
  refine v_get hX 48 (v := .int 1) inT5 (hd 48 rfl) rfl h48 rfl 34 (by decide) k_619 rfl rfl d_M_endNode_122 ?_
  refine v_iconst (v := 1) hX d_M_endNode_125 (by decide) ?_
  refine v_isubE (v := 0) hX d_M_endNode_126 (by decide) ?_
  refine v_putE hX 48 (fs2 := [.int 0, .ref (loc 49), .ref (loc 50), .ref (loc 51), .ref (loc 52), .ref (loc 53), .ref (loc 54), .ref (loc 55), .ref (loc 56), .int 1, .int 0, .int 0, .ref (loc 57), .ref (loc 58), .ref (loc 59), .ref (loc 60), .ref (loc 61), .ref (loc 62), .int 0, .int 0, .int 0, .int c, .int 0, .int 0, .ref (loc 63), .ref (loc 64), .ref (loc 65), .ref (loc 66), .ref (loc 67), .ref (loc 68), .ref (loc 69), .ref (loc 70), .ref (loc 71), .ref (loc 72), .int 0, .ref (loc 73), .ref (loc 74), .ref (loc 75), .int 0, .int 0, .int 0, .int 0, .int (-1), .int 0, .int 1]) inT5 tyX5 tyX5_ok nmX5 (hd 48 rfl) rfl h48 rfl 34 (by decide) k_619 rfl rfl rfl rfl rfl (Nat.le_of_ble_eq_true rfl) d_M_endNode_127 rfl ?_
  exact v_vret hX hE d_M_endNode_130 (Nat.le_of_ble_eq_true rfl) (Nat.le_of_ble_eq_true rfl) ⟨rfl, rfl, rfl, rfl, rfl, rfl⟩
set_option maxHeartbeats 4000000 in
set_option maxRecDepth 100000 in
theorem c_M_layOut_a {l : Launch} {D : va_G} {A : Nat → Prop} {cI cB cZ cJ cN : ClassId} {loc : Nat → Nat} {val : Nat → va_E} {dom : Nat → Prop} (hd : ∀ k, (Nat.ble 48 k && Nat.ble (k + 1) 77) = true → dom k) (c : Int32) (h8 : 4 ≤ c) (h48 : val 48 = .inr (5, [.int 0, .ref (loc 49), .ref (loc 50), .ref (loc 51), .ref (loc 52), .ref (loc 53), .ref (loc 54), .ref (loc 55), .ref (loc 56), .int 1, .int 0, .int 0, .ref (loc 57), .ref (loc 58), .ref (loc 59), .ref (loc 60), .ref (loc 61), .ref (loc 62), .int 0, .int 0, .int 0, .int c, .int 0, .int 0, .ref (loc 63), .ref (loc 64), .ref (loc 65), .ref (loc 66), .ref (loc 67), .ref (loc 68), .ref (loc 69), .ref (loc 70), .ref (loc 71), .ref (loc 72), .int 0, .ref (loc 73), .ref (loc 74), .ref (loc 75), .int 0, .int 0, .int 0, .int 0, .int 0, .int 0, .int 1])) (h50 : val 50 = .inl (cI, 300, .inl (upd (fun _ => 0) (Int32.toNatClampNeg 0) (-1)))) (h49 : val 49 = .inl (cI, 300, .inl (upd (fun _ => 0) (Int32.toNatClampNeg 0) 11))) (h64 : val 64 = .inl (cI, 300, .inl (fun _ => 0))) (h65 : val 65 = .inl (cI, 14, .inl (fun _ => 0))) (h66 : val 66 = .inl (cI, 14, .inl (fun _ => 0))) (h67 : val 67 = .inl (cI, 14, .inl (fun _ => 0))) (h68 : val 68 = .inl (cI, 14, .inl (fun _ => 0))) (h69 : val 69 = .inl (cZ, 14, .inl (fun _ => 0))) (h70 : val 70 = .inl (cZ, 14, .inl (fun _ => 0))) (h71 : val 71 = .inl (cZ, 14, .inl (fun _ => 0))) (h72 : val 72 = .inl (cZ, 14, .inl (fun _ => 0)))  : kM l y_M_layOut (Cond.code y_M_layOut b_M_layOut 4 none :: TT) (rmL 3) D CL (TY cI cB cZ cJ cN) A [.ref (loc 48)] (dom) loc val (fun rv d lo va kc ns => rv = none ∧ dom = d ∧ loc = lo ∧ va_up (va_up (va_up (va_up (va_up (va_up (va_up (va_up (va_up (va_up (va_up (va_up (va_up (va_up (va_up (va_up (va_up (val) 48 (.inr (5, [.int 0, .ref (loc 49), .ref (loc 50), .ref (loc 51), .ref (loc 52), .ref (loc 53), .ref (loc 54), .ref (loc 55), .ref (loc 56), .int 1, .int 0, .int 0, .ref (loc 57), .ref (loc 58), .ref (loc 59), .ref (loc 60), .ref (loc 61), .ref (loc 62), .int 0, .int 0, .int 0, .int c, .int 0, .int 0, .ref (loc 63), .ref (loc 64), .ref (loc 65), .ref (loc 66), .ref (loc 67), .ref (loc 68), .ref (loc 69), .ref (loc 70), .ref (loc 71), .ref (loc 72), .int 0, .ref (loc 73), .ref (loc 74), .ref (loc 75), .int 0, .int 0, .int 0, .int 0, .int 0, .int 0, .int 1]))) 48 (.inr (5, [.int 0, .ref (loc 49), .ref (loc 50), .ref (loc 51), .ref (loc 52), .ref (loc 53), .ref (loc 54), .ref (loc 55), .ref (loc 56), .int 1, .int 0, .int 0, .ref (loc 57), .ref (loc 58), .ref (loc 59), .ref (loc 60), .ref (loc 61), .ref (loc 62), .int 0, .int 0, .int 0, .int c, .int 0, .int 0, .ref (loc 63), .ref (loc 64), .ref (loc 65), .ref (loc 66), .ref (loc 67), .ref (loc 68), .ref (loc 69), .ref (loc 70), .ref (loc 71), .ref (loc 72), .int 0, .ref (loc 73), .ref (loc 74), .ref (loc 75), .int 0, .int 0, .int 0, .int 0, .int 0, .int 0, .int 1]))) 48 (.inr (5, [.int 0, .ref (loc 49), .ref (loc 50), .ref (loc 51), .ref (loc 52), .ref (loc 53), .ref (loc 54), .ref (loc 55), .ref (loc 56), .int 1, .int 0, .int 0, .ref (loc 57), .ref (loc 58), .ref (loc 59), .ref (loc 60), .ref (loc 61), .ref (loc 62), .int 0, .int 0, .int 0, .int c, .int 0, .int 0, .ref (loc 63), .ref (loc 64), .ref (loc 65), .ref (loc 66), .ref (loc 67), .ref (loc 68), .ref (loc 69), .ref (loc 70), .ref (loc 71), .ref (loc 72), .int 0, .ref (loc 73), .ref (loc 74), .ref (loc 75), .int 0, .int 0, .int 0, .int 0, .int 0, .int 0, .int 1]))) 48 (.inr (5, [.int 0, .ref (loc 49), .ref (loc 50), .ref (loc 51), .ref (loc 52), .ref (loc 53), .ref (loc 54), .ref (loc 55), .ref (loc 56), .int 1, .int 0, .int 0, .ref (loc 57), .ref (loc 58), .ref (loc 59), .ref (loc 60), .ref (loc 61), .ref (loc 62), .int 0, .int 0, .int 0, .int c, .int 0, .int 0, .ref (loc 63), .ref (loc 64), .ref (loc 65), .ref (loc 66), .ref (loc 67), .ref (loc 68), .ref (loc 69), .ref (loc 70), .ref (loc 71), .ref (loc 72), .int 0, .ref (loc 73), .ref (loc 74), .ref (loc 75), .int 0, .int 0, .int 0, .int 0, .int (-1), .int 0, .int 1]))) 48 (.inr (5, [.int 0, .ref (loc 49), .ref (loc 50), .ref (loc 51), .ref (loc 52), .ref (loc 53), .ref (loc 54), .ref (loc 55), .ref (loc 56), .int 1, .int 0, .int 0, .ref (loc 57), .ref (loc 58), .ref (loc 59), .ref (loc 60), .ref (loc 61), .ref (loc 62), .int 0, .int 0, .int 0, .int c, .int 0, .int 0, .ref (loc 63), .ref (loc 64), .ref (loc 65), .ref (loc 66), .ref (loc 67), .ref (loc 68), .ref (loc 69), .ref (loc 70), .ref (loc 71), .ref (loc 72), .int 0, .ref (loc 73), .ref (loc 74), .ref (loc 75), .int 0, .int 0, .int 0, .int 0, .int (-1), .int 0, .int 1]))) 48 (.inr (5, [.int 0, .ref (loc 49), .ref (loc 50), .ref (loc 51), .ref (loc 52), .ref (loc 53), .ref (loc 54), .ref (loc 55), .ref (loc 56), .int 1, .int 0, .int 0, .ref (loc 57), .ref (loc 58), .ref (loc 59), .ref (loc 60), .ref (loc 61), .ref (loc 62), .int 0, .int 0, .int 0, .int c, .int 0, .int 0, .ref (loc 63), .ref (loc 64), .ref (loc 65), .ref (loc 66), .ref (loc 67), .ref (loc 68), .ref (loc 69), .ref (loc 70), .ref (loc 71), .ref (loc 72), .int 0, .ref (loc 73), .ref (loc 74), .ref (loc 75), .int 0, .int 0, .int 0, .int 0, .int (-1), .int 0, .int 1]))) 64 (.inl (cI, 300, .inl (upd (fun _ => 0) (Int32.toNatClampNeg 0) (-2))))) 65 (.inl (cI, 14, .inl (upd (fun _ => 0) (Int32.toNatClampNeg 0) 11)))) 66 (.inl (cI, 14, .inl (upd (fun _ => 0) (Int32.toNatClampNeg 0) c)))) 67 (.inl (cI, 14, .inl (upd (fun _ => 0) (Int32.toNatClampNeg 0) (-1))))) 68 (.inl (cI, 14, .inl (upd (fun _ => 0) (Int32.toNatClampNeg 0) (-1))))) 69 (.inl (cZ, 14, .inl (upd (fun _ => 0) (Int32.toNatClampNeg 0) (vp_nar .boolean 0))))) 70 (.inl (cZ, 14, .inl (upd (fun _ => 0) (Int32.toNatClampNeg 0) (vp_nar .boolean 1))))) 71 (.inl (cZ, 14, .inl (upd (fun _ => 0) (Int32.toNatClampNeg 0) (vp_nar .boolean 0))))) 72 (.inl (cZ, 14, .inl (upd (fun _ => 0) (Int32.toNatClampNeg 0) (vp_nar .boolean 0))))) 48 (.inr (5, [.int 0, .ref (loc 49), .ref (loc 50), .ref (loc 51), .ref (loc 52), .ref (loc 53), .ref (loc 54), .ref (loc 55), .ref (loc 56), .int 1, .int 0, .int 0, .ref (loc 57), .ref (loc 58), .ref (loc 59), .ref (loc 60), .ref (loc 61), .ref (loc 62), .int 0, .int 0, .int 0, .int c, .int 0, .int 0, .ref (loc 63), .ref (loc 64), .ref (loc 65), .ref (loc 66), .ref (loc 67), .ref (loc 68), .ref (loc 69), .ref (loc 70), .ref (loc 71), .ref (loc 72), .int 1, .ref (loc 73), .ref (loc 74), .ref (loc 75), .int 0, .int 0, .int 0, .int 0, .int (-1), .int 0, .int 1]))) 48 (.inr (5, [.int 0, .ref (loc 49), .ref (loc 50), .ref (loc 51), .ref (loc 52), .ref (loc 53), .ref (loc 54), .ref (loc 55), .ref (loc 56), .int 1, .int 0, .int 0, .ref (loc 57), .ref (loc 58), .ref (loc 59), .ref (loc 60), .ref (loc 61), .ref (loc 62), .int 0, .int 0, .int 0, .int c, .int 0, .int 0, .ref (loc 63), .ref (loc 64), .ref (loc 65), .ref (loc 66), .ref (loc 67), .ref (loc 68), .ref (loc 69), .ref (loc 70), .ref (loc 71), .ref (loc 72), .int 0, .ref (loc 73), .ref (loc 74), .ref (loc 75), .int 0, .int 0, .int 0, .int 0, .int (-1), .int 0, .int 1])) = va ∧ kc = 0 ∧ ns = 0) := by
  refine kM_of (lv0 := [some (.ref (loc 48)), none, none, none]) (own := "ProsePagesModel") (by decide) rfl (List.forall_mem_cons.mpr ⟨rfl, fun _ h => nomatch h⟩) (Nat.le_of_ble_eq_true rfl) rfl (Nat.le_of_ble_eq_true rfl) (fun X hl hX hE hin0 => ?_)
  refine v_aload_n hX d_M_layOut_0 rfl rfl ?_
  refine v_iconst (v := 0) hX d_M_layOut_1 (by decide) ?_
  refine v_putE hX 48 (fs2 := [.int 0, .ref (loc 49), .ref (loc 50), .ref (loc 51), .ref (loc 52), .ref (loc 53), .ref (loc 54), .ref (loc 55), .ref (loc 56), .int 1, .int 0, .int 0, .ref (loc 57), .ref (loc 58), .ref (loc 59), .ref (loc 60), .ref (loc 61), .ref (loc 62), .int 0, .int 0, .int 0, .int c, .int 0, .int 0, .ref (loc 63), .ref (loc 64), .ref (loc 65), .ref (loc 66), .ref (loc 67), .ref (loc 68), .ref (loc 69), .ref (loc 70), .ref (loc 71), .ref (loc 72), .int 0, .ref (loc 73), .ref (loc 74), .ref (loc 75), .int 0, .int 0, .int 0, .int 0, .int 0, .int 0, .int 1]) inT5 tyX5 tyX5_ok nmX5 (hd 48 rfl) rfl h48 rfl 23 (by decide) k_608 rfl rfl rfl rfl rfl (Nat.le_of_ble_eq_true rfl) d_M_layOut_2 rfl ?_
  refine v_aload_n hX d_M_layOut_5 rfl rfl ?_
  refine v_iconst (v := 0) hX d_M_layOut_6 (by decide) ?_
  refine v_putE hX 48 (fs2 := [.int 0, .ref (loc 49), .ref (loc 50), .ref (loc 51), .ref (loc 52), .ref (loc 53), .ref (loc 54), .ref (loc 55), .ref (loc 56), .int 1, .int 0, .int 0, .ref (loc 57), .ref (loc 58), .ref (loc 59), .ref (loc 60), .ref (loc 61), .ref (loc 62), .int 0, .int 0, .int 0, .int c, .int 0, .int 0, .ref (loc 63), .ref (loc 64), .ref (loc 65), .ref (loc 66), .ref (loc 67), .ref (loc 68), .ref (loc 69), .ref (loc 70), .ref (loc 71), .ref (loc 72), .int 0, .ref (loc 73), .ref (loc 74), .ref (loc 75), .int 0, .int 0, .int 0, .int 0, .int 0, .int 0, .int 1]) inT5 tyX5 tyX5_ok nmX5 (hd 48 rfl) rfl rfl rfl 34 (by decide) k_619 rfl rfl rfl rfl rfl (Nat.le_of_ble_eq_true rfl) d_M_layOut_7 rfl ?_
  refine v_aload_n hX d_M_layOut_10 rfl rfl ?_
  refine v_iconst (v := 0) hX d_M_layOut_11 (by decide) ?_
  refine v_putE hX 48 (fs2 := [.int 0, .ref (loc 49), .ref (loc 50), .ref (loc 51), .ref (loc 52), .ref (loc 53), .ref (loc 54), .ref (loc 55), .ref (loc 56), .int 1, .int 0, .int 0, .ref (loc 57), .ref (loc 58), .ref (loc 59), .ref (loc 60), .ref (loc 61), .ref (loc 62), .int 0, .int 0, .int 0, .int c, .int 0, .int 0, .ref (loc 63), .ref (loc 64), .ref (loc 65), .ref (loc 66), .ref (loc 67), .ref (loc 68), .ref (loc 69), .ref (loc 70), .ref (loc 71), .ref (loc 72), .int 0, .ref (loc 73), .ref (loc 74), .ref (loc 75), .int 0, .int 0, .int 0, .int 0, .int 0, .int 0, .int 1]) inT5 tyX5 tyX5_ok nmX5 (hd 48 rfl) rfl rfl rfl 43 (by decide) k_628 rfl rfl rfl (by decide) rfl (Nat.le_of_ble_eq_true rfl) d_M_layOut_12 rfl ?_
  refine v_aload_n hX d_M_layOut_15 rfl rfl ?_
  refine v_iconst (v := (-1)) hX d_M_layOut_16 (by decide) ?_
  refine v_putE hX 48 (fs2 := [.int 0, .ref (loc 49), .ref (loc 50), .ref (loc 51), .ref (loc 52), .ref (loc 53), .ref (loc 54), .ref (loc 55), .ref (loc 56), .int 1, .int 0, .int 0, .ref (loc 57), .ref (loc 58), .ref (loc 59), .ref (loc 60), .ref (loc 61), .ref (loc 62), .int 0, .int 0, .int 0, .int c, .int 0, .int 0, .ref (loc 63), .ref (loc 64), .ref (loc 65), .ref (loc 66), .ref (loc 67), .ref (loc 68), .ref (loc 69), .ref (loc 70), .ref (loc 71), .ref (loc 72), .int 0, .ref (loc 73), .ref (loc 74), .ref (loc 75), .int 0, .int 0, .int 0, .int 0, .int (-1), .int 0, .int 1]) inT5 tyX5 tyX5_ok nmX5 (hd 48 rfl) rfl rfl rfl 42 (by decide) k_627 rfl rfl rfl rfl rfl (Nat.le_of_ble_eq_true rfl) d_M_layOut_17 rfl ?_
  refine v_aload_n hX d_M_layOut_20 rfl rfl ?_
  refine v_iconst (v := 0) hX d_M_layOut_21 (by decide) ?_
  refine v_putE hX 48 (fs2 := [.int 0, .ref (loc 49), .ref (loc 50), .ref (loc 51), .ref (loc 52), .ref (loc 53), .ref (loc 54), .ref (loc 55), .ref (loc 56), .int 1, .int 0, .int 0, .ref (loc 57), .ref (loc 58), .ref (loc 59), .ref (loc 60), .ref (loc 61), .ref (loc 62), .int 0, .int 0, .int 0, .int c, .int 0, .int 0, .ref (loc 63), .ref (loc 64), .ref (loc 65), .ref (loc 66), .ref (loc 67), .ref (loc 68), .ref (loc 69), .ref (loc 70), .ref (loc 71), .ref (loc 72), .int 0, .ref (loc 73), .ref (loc 74), .ref (loc 75), .int 0, .int 0, .int 0, .int 0, .int (-1), .int 0, .int 1]) inT5 tyX5 tyX5_ok nmX5 (hd 48 rfl) rfl rfl rfl 38 (by decide) k_623 rfl rfl rfl rfl rfl (Nat.le_of_ble_eq_true rfl) d_M_layOut_22 rfl ?_
  refine v_aload_n hX d_M_layOut_25 rfl rfl ?_
  refine v_iconst (v := 0) hX d_M_layOut_26 (by decide) ?_
  refine v_putE hX 48 (fs2 := [.int 0, .ref (loc 49), .ref (loc 50), .ref (loc 51), .ref (loc 52), .ref (loc 53), .ref (loc 54), .ref (loc 55), .ref (loc 56), .int 1, .int 0, .int 0, .ref (loc 57), .ref (loc 58), .ref (loc 59), .ref (loc 60), .ref (loc 61), .ref (loc 62), .int 0, .int 0, .int 0, .int c, .int 0, .int 0, .ref (loc 63), .ref (loc 64), .ref (loc 65), .ref (loc 66), .ref (loc 67), .ref (loc 68), .ref (loc 69), .ref (loc 70), .ref (loc 71), .ref (loc 72), .int 0, .ref (loc 73), .ref (loc 74), .ref (loc 75), .int 0, .int 0, .int 0, .int 0, .int (-1), .int 0, .int 1]) inT5 tyX5 tyX5_ok nmX5 (hd 48 rfl) rfl rfl rfl 39 (by decide) k_624 rfl rfl rfl rfl rfl (Nat.le_of_ble_eq_true rfl) d_M_layOut_27 rfl ?_
  refine v_iconst (v := (-1)) hX d_M_layOut_30 (by decide) ?_
  refine v_istore_n (lv' := [some (.ref (loc 48)), some (.int (-1)), none, none]) hX d_M_layOut_31 rfl (Nat.le_of_ble_eq_true rfl) rfl ?_
  refine v_iconst (v := 0) hX d_M_layOut_32 (by decide) ?_
  refine v_istore_n (lv' := [some (.ref (loc 48)), some (.int (-1)), some (.int 0), none]) hX d_M_layOut_33 rfl (Nat.le_of_ble_eq_true rfl) rfl ?_
  refine v_iload_n hX d_M_layOut_34 rfl rfl ?_
  refine v_aload_n hX d_M_layOut_35 rfl rfl ?_
  refine v_get hX 48 (v := .int 1) inT5 (hd 48 rfl) rfl rfl rfl 9 (by decide) k_594 rfl rfl d_M_layOut_36 ?_
  refine v_icmp_gt hX d_M_layOut_39 (tgt := 115) (by decide) (fun c => absurd c (by decide)) (fun _ => ?_)
  refine v_aload_n hX d_M_layOut_42 rfl rfl ?_
  refine v_get hX 48 (v := .int 0) inT5 (hd 48 rfl) rfl rfl rfl 23 (by decide) k_608 rfl rfl d_M_layOut_43 ?_
  refine v_sipush (v := 1500) hX d_M_layOut_46 (by decide) ?_
  refine v_icmp_gt hX d_M_layOut_49 (tgt := 115) (by decide) (fun c => absurd c (by decide)) (fun _ => ?_)
  refine v_iload_n hX d_M_layOut_52 rfl rfl ?_
  refine v_aload_n hX d_M_layOut_53 rfl rfl ?_
  refine v_get hX 48 (v := .int 1) inT5 (hd 48 rfl) rfl rfl rfl 9 (by decide) k_594 rfl rfl d_M_layOut_54 ?_
  refine v_icmp_ge hX d_M_layOut_57 (tgt := 69) (by decide) (fun c => absurd c (by decide)) (fun _ => ?_)
  refine v_aload_n hX d_M_layOut_60 rfl rfl ?_
  refine v_get hX 48 (v := .ref (loc 50)) inT5 (hd 48 rfl) rfl rfl rfl 2 (by decide) k_587 rfl rfl d_M_layOut_61 ?_
  refine v_iload_n hX d_M_layOut_64 rfl rfl ?_
  refine v_iald hX 50 0 (v := (-1)) (hd 50 rfl) rfl h50 rfl (vpb (by decide)) (by first | rfl | decide) d_M_layOut_65 ?_
  refine v_goto hX d_M_layOut_66 (tgt := 70) (by decide) ?_
  refine v_istore_n (lv' := [some (.ref (loc 48)), some (.int (-1)), some (.int 0), some (.int (-1))]) hX d_M_layOut_70 rfl (Nat.le_of_ble_eq_true rfl) rfl ?_
  refine v_iload_n hX d_M_layOut_71 rfl rfl ?_
  refine v_iload_n hX d_M_layOut_72 rfl rfl ?_
  refine v_icmp_eq hX d_M_layOut_73 (tgt := 91) (by decide) (fun _ => ?_) (fun c => absurd (by decide) c)
  refine v_iload_n hX d_M_layOut_91 rfl rfl ?_
  refine v_aload_n hX d_M_layOut_92 rfl rfl ?_
  refine v_get hX 48 (v := .int 1) inT5 (hd 48 rfl) rfl rfl rfl 9 (by decide) k_594 rfl rfl d_M_layOut_93 ?_
  refine v_icmp_ne hX d_M_layOut_96 (tgt := 102) (by decide) (fun _ => ?_) (fun c => absurd c (by decide))
  refine v_aload_n hX d_M_layOut_102 rfl rfl ?_
  refine v_iload_n hX d_M_layOut_103 rfl rfl ?_
  refine c_V hX 48 (rest := []) hl (c_M_beginNode_a hd c h8 rfl h49 h64 h65 h66 h67 h68 h69 h70 h71 h72 ) k_807 k_809 kp_40 k_6 k_810 rfl q_M_beginNode ⟨(Nat.le_of_ble_eq_true rfl), (Nat.le_of_ble_eq_true rfl)⟩ (hd 48 rfl) rfl rfl rfl rfl rfl rfl (Nat.le_of_ble_eq_true rfl) d_M_layOut_104 ⟨(Nat.le_of_ble_eq_true rfl), (Nat.le_of_ble_eq_true rfl)⟩ (fun rv d2 lo2 va2 kc ns hp => ?_)
  obtain ⟨rfl, rfl, rfl, rfl, rfl, rfl⟩ := hp
  show V X D CL A _ _ _ _ _ _ _ []
  refine v_iload_n hX d_M_layOut_107 rfl rfl ?_
  refine v_istore_n (lv' := [some (.ref (loc 48)), some (.int 0), some (.int 0), some (.int (-1))]) hX d_M_layOut_108 rfl (Nat.le_of_ble_eq_true rfl) rfl ?_
  refine v_iinc (y := 1) (lv' := [some (.ref (loc 48)), some (.int 0), some (.int 1), some (.int (-1))]) hX d_M_layOut_109 rfl (by decide) rfl ?_
  refine v_goto hX d_M_layOut_112 (tgt := 34) (by decide) ?_
  refine v_iload_n hX d_M_layOut_34 rfl rfl ?_
  refine v_aload_n hX d_M_layOut_35 rfl rfl ?_
  refine v_get hX 48 (v := .int 1) inT5 (hd 48 rfl) rfl rfl rfl 9 (by decide) k_594 rfl rfl d_M_layOut_36 ?_
  refine v_icmp_gt hX d_M_layOut_39 (tgt := 115) (by decide) (fun c => absurd c (by decide)) (fun _ => ?_)
  refine v_aload_n hX d_M_layOut_42 rfl rfl ?_
  refine v_get hX 48 (v := .int 0) inT5 (hd 48 rfl) rfl rfl rfl 23 (by decide) k_608 rfl rfl d_M_layOut_43 ?_
  refine v_sipush (v := 1500) hX d_M_layOut_46 (by decide) ?_
  refine v_icmp_gt hX d_M_layOut_49 (tgt := 115) (by decide) (fun c => absurd c (by decide)) (fun _ => ?_)
  refine v_iload_n hX d_M_layOut_52 rfl rfl ?_
  refine v_aload_n hX d_M_layOut_53 rfl rfl ?_
  refine v_get hX 48 (v := .int 1) inT5 (hd 48 rfl) rfl rfl rfl 9 (by decide) k_594 rfl rfl d_M_layOut_54 ?_
  refine v_icmp_ge hX d_M_layOut_57 (tgt := 69) (by decide) (fun _ => ?_) (fun c => absurd (by decide) c)
  refine v_iconst (v := (-1)) hX d_M_layOut_69 (by decide) ?_
  refine v_istore_n (lv' := [some (.ref (loc 48)), some (.int 0), some (.int 1), some (.int (-1))]) hX d_M_layOut_70 rfl (Nat.le_of_ble_eq_true rfl) rfl ?_
  refine v_iload_n hX d_M_layOut_71 rfl rfl ?_
  refine v_iload_n hX d_M_layOut_72 rfl rfl ?_
  refine v_icmp_eq hX d_M_layOut_73 (tgt := 91) (by decide) (fun c => absurd c (by decide)) (fun _ => ?_)
  refine v_aload_n hX d_M_layOut_76 rfl rfl ?_
  refine v_iload_n hX d_M_layOut_77 rfl rfl ?_
  refine c_V hX 48 (rest := []) hl (c_M_endNode_a hd c rfl h49 ) k_768 k_770 kp_31 k_6 k_771 rfl q_M_endNode ⟨(Nat.le_of_ble_eq_true rfl), (Nat.le_of_ble_eq_true rfl)⟩ (hd 48 rfl) rfl rfl rfl rfl rfl rfl (Nat.le_of_ble_eq_true rfl) d_M_layOut_78 ⟨(Nat.le_of_ble_eq_true rfl), (Nat.le_of_ble_eq_true rfl)⟩ (fun rv d2 lo2 va2 kc ns hp => ?_)
  obtain ⟨rfl, rfl, rfl, rfl, rfl, rfl⟩ := hp
  show V X D CL A _ _ _ _ _ _ _ []
  refine v_aload_n hX d_M_layOut_81 rfl rfl ?_
  refine v_get hX 48 (v := .ref (loc 50)) inT5 (hd 48 rfl) rfl rfl rfl 2 (by decide) k_587 rfl rfl d_M_layOut_82 ?_
  refine v_iload_n hX d_M_layOut_85 rfl rfl ?_
  refine v_iald hX 50 0 (v := (-1)) (hd 50 rfl) rfl h50 rfl (vpb (by decide)) (by first | rfl | decide) d_M_layOut_86 ?_
  refine v_istore_n (lv' := [some (.ref (loc 48)), some (.int (-1)), some (.int 1), some (.int (-1))]) hX d_M_layOut_87 rfl (Nat.le_of_ble_eq_true rfl) rfl ?_
  refine v_goto hX d_M_layOut_88 (tgt := 71) (by decide) ?_
  refine v_iload_n hX d_M_layOut_71 rfl rfl ?_
  refine v_iload_n hX d_M_layOut_72 rfl rfl ?_
  refine v_icmp_eq hX d_M_layOut_73 (tgt := 91) (by decide) (fun _ => ?_) (fun c => absurd (by decide) c)
  refine v_iload_n hX d_M_layOut_91 rfl rfl ?_
  refine v_aload_n hX d_M_layOut_92 rfl rfl ?_
  refine v_get hX 48 (v := .int 1) inT5 (hd 48 rfl) rfl rfl rfl 9 (by decide) k_594 rfl rfl d_M_layOut_93 ?_
  refine v_icmp_ne hX d_M_layOut_96 (tgt := 102) (by decide) (fun c => absurd (by decide) c) (fun _ => ?_)
  refine v_goto hX d_M_layOut_99 (tgt := 109) (by decide) ?_
  refine v_iinc (y := 2) (lv' := [some (.ref (loc 48)), some (.int (-1)), some (.int 2), some (.int (-1))]) hX d_M_layOut_109 rfl (by decide) rfl ?_
  refine v_goto hX d_M_layOut_112 (tgt := 34) (by decide) ?_
  refine v_iload_n hX d_M_layOut_34 rfl rfl ?_
  refine v_aload_n hX d_M_layOut_35 rfl rfl ?_
  refine v_get hX 48 (v := .int 1) inT5 (hd 48 rfl) rfl rfl rfl 9 (by decide) k_594 rfl rfl d_M_layOut_36 ?_
  refine v_icmp_gt hX d_M_layOut_39 (tgt := 115) (by decide) (fun _ => ?_) (fun c => absurd (by decide) c)
  exact v_vret hX hE d_M_layOut_115 (Nat.le_of_ble_eq_true rfl) (Nat.le_of_ble_eq_true rfl) ⟨rfl, rfl, rfl, rfl, rfl, rfl⟩
set_option maxHeartbeats 4000000 in
set_option maxRecDepth 100000 in
theorem c_M_hold_b {l : Launch} {D : va_G} {A : Nat → Prop} {cI cB cZ cJ cN : ClassId} {loc : Nat → Nat} {val : Nat → va_E} {dom : Nat → Prop} (hd : ∀ k, (Nat.ble 48 k && Nat.ble (k + 1) 77) = true → dom k) (c : Int32) (h8 : 4 ≤ c) (h48 : val 48 = .inr (5, [.int 0, .ref (loc 49), .ref (loc 50), .ref (loc 51), .ref (loc 52), .ref (loc 53), .ref (loc 54), .ref (loc 55), .ref (loc 56), .int 1, .int 0, .int 0, .ref (loc 57), .ref (loc 58), .ref (loc 59), .ref (loc 60), .ref (loc 61), .ref (loc 62), .int 0, .int 0, .int 0, .int c, .int 0, .int 0, .ref (loc 63), .ref (loc 64), .ref (loc 65), .ref (loc 66), .ref (loc 67), .ref (loc 68), .ref (loc 69), .ref (loc 70), .ref (loc 71), .ref (loc 72), .int 0, .ref (loc 73), .ref (loc 74), .ref (loc 75), .int 0, .int 0, .int 0, .int 0, .int (-1), .int 0, .int 0])) (h65 : val 65 = .inl (cI, 14, .inl (upd (fun _ => 0) (Int32.toNatClampNeg 0) 11))) (h66 : val 66 = .inl (cI, 14, .inl (upd (fun _ => 0) (Int32.toNatClampNeg 0) c))) (h67 : val 67 = .inl (cI, 14, .inl (upd (fun _ => 0) (Int32.toNatClampNeg 0) (-1)))) (h68 : val 68 = .inl (cI, 14, .inl (upd (fun _ => 0) (Int32.toNatClampNeg 0) (-1)))) (h69 : val 69 = .inl (cZ, 14, .inl (upd (fun _ => 0) (Int32.toNatClampNeg 0) (vp_nar .boolean 0)))) (h70 : val 70 = .inl (cZ, 14, .inl (upd (fun _ => 0) (Int32.toNatClampNeg 0) (vp_nar .boolean 1)))) (h71 : val 71 = .inl (cZ, 14, .inl (upd (fun _ => 0) (Int32.toNatClampNeg 0) (vp_nar .boolean 0)))) (h72 : val 72 = .inl (cZ, 14, .inl (upd (fun _ => 0) (Int32.toNatClampNeg 0) (vp_nar .boolean 0))))  : kM l y_M_hold (Cond.code y_M_hold b_M_hold 6 none :: TT) (rmL 1) D CL (TY cI cB cZ cJ cN) A [.ref (loc 48), .int 11, .int c, .int (-1), .int 1] (dom) loc val (fun rv d lo va kc ns => rv = none ∧ dom = d ∧ loc = lo ∧ va_up (va_up (va_up (va_up (va_up (va_up (va_up (va_up (va_up (val) 65 (.inl (cI, 14, .inl (upd (upd (fun _ => 0) (Int32.toNatClampNeg 0) 11) (Int32.toNatClampNeg 0) 11)))) 66 (.inl (cI, 14, .inl (upd (upd (fun _ => 0) (Int32.toNatClampNeg 0) c) (Int32.toNatClampNeg 0) c)))) 67 (.inl (cI, 14, .inl (upd (upd (fun _ => 0) (Int32.toNatClampNeg 0) (-1)) (Int32.toNatClampNeg 0) (-1))))) 68 (.inl (cI, 14, .inl (upd (upd (fun _ => 0) (Int32.toNatClampNeg 0) (-1)) (Int32.toNatClampNeg 0) (-1))))) 69 (.inl (cZ, 14, .inl (upd (upd (fun _ => 0) (Int32.toNatClampNeg 0) (vp_nar .boolean 0)) (Int32.toNatClampNeg 0) (vp_nar .boolean 0))))) 70 (.inl (cZ, 14, .inl (upd (upd (fun _ => 0) (Int32.toNatClampNeg 0) (vp_nar .boolean 1)) (Int32.toNatClampNeg 0) (vp_nar .boolean 1))))) 71 (.inl (cZ, 14, .inl (upd (upd (fun _ => 0) (Int32.toNatClampNeg 0) (vp_nar .boolean 0)) (Int32.toNatClampNeg 0) (vp_nar .boolean 0))))) 72 (.inl (cZ, 14, .inl (upd (upd (fun _ => 0) (Int32.toNatClampNeg 0) (vp_nar .boolean 0)) (Int32.toNatClampNeg 0) (vp_nar .boolean 0))))) 48 (.inr (5, [.int 0, .ref (loc 49), .ref (loc 50), .ref (loc 51), .ref (loc 52), .ref (loc 53), .ref (loc 54), .ref (loc 55), .ref (loc 56), .int 1, .int 0, .int 0, .ref (loc 57), .ref (loc 58), .ref (loc 59), .ref (loc 60), .ref (loc 61), .ref (loc 62), .int 0, .int 0, .int 0, .int c, .int 0, .int 0, .ref (loc 63), .ref (loc 64), .ref (loc 65), .ref (loc 66), .ref (loc 67), .ref (loc 68), .ref (loc 69), .ref (loc 70), .ref (loc 71), .ref (loc 72), .int 1, .ref (loc 73), .ref (loc 74), .ref (loc 75), .int 0, .int 0, .int 0, .int 0, .int (-1), .int 0, .int 0])) = va ∧ kc = 0 ∧ ns = 0) := by
  refine kM_of (lv0 := [some (.ref (loc 48)), some (.int 11), some (.int c), some (.int (-1)), some (.int 1), none]) (own := "ProsePagesModel") (by decide) rfl (List.forall_mem_cons.mpr ⟨rfl, List.forall_mem_cons.mpr ⟨rfl, List.forall_mem_cons.mpr ⟨rfl, List.forall_mem_cons.mpr ⟨rfl, List.forall_mem_cons.mpr ⟨rfl, fun _ h => nomatch h⟩⟩⟩⟩⟩) (Nat.le_of_ble_eq_true rfl) rfl (Nat.le_of_ble_eq_true rfl) (fun X hl hX hE hin0 => ?_)
  refine v_aload_n hX d_M_hold_0 rfl rfl ?_
  refine v_get hX 48 (v := .int 0) inT5 (hd 48 rfl) rfl h48 rfl 34 (by decide) k_619 rfl rfl d_M_hold_1 ?_
  refine v_if_le hX d_M_hold_4 (tgt := 19) (by decide) (fun _ => ?_) (fun c => absurd (by decide) c)
  refine v_aload_n hX d_M_hold_19 rfl rfl ?_
  refine v_get hX 48 (v := .int 0) inT5 (hd 48 rfl) rfl h48 rfl 34 (by decide) k_619 rfl rfl d_M_hold_20 ?_
  refine v_istore (lv' := [some (.ref (loc 48)), some (.int 11), some (.int c), some (.int (-1)), some (.int 1), some (.int 0)]) hX d_M_hold_23 (Nat.le_of_ble_eq_true rfl) rfl ?_
  refine v_aload_n hX d_M_hold_25 rfl rfl ?_
  refine v_get hX 48 (v := .ref (loc 65)) inT5 (hd 48 rfl) rfl h48 rfl 26 (by decide) k_611 rfl rfl d_M_hold_26 ?_
  refine v_iload hX d_M_hold_29 rfl ?_
  refine v_iload_n hX d_M_hold_31 rfl rfl ?_
  refine v_iast hX 65 0 (hd 65 rfl) rfl h65 rfl (vpb (by decide)) d_M_hold_32 ?_
  refine v_aload_n hX d_M_hold_33 rfl rfl ?_
  refine v_get hX 48 (v := .ref (loc 66)) inT5 (hd 48 rfl) rfl h48 rfl 27 (by decide) k_612 rfl rfl d_M_hold_34 ?_
  refine v_iload hX d_M_hold_37 rfl ?_
  refine v_iload_n hX d_M_hold_39 rfl rfl ?_
  refine v_iconst (v := 4) hX d_M_hold_40 (by decide) ?_
  refine v_icmp_ge hX d_M_hold_41 (tgt := 48) (by decide) (fun _ => ?_) (fun c => absurd (h8) c)
  refine v_iload_n hX d_M_hold_48 rfl rfl ?_
  refine v_iast hX 66 0 (hd 66 rfl) rfl h66 rfl (vpb (by decide)) d_M_hold_49 ?_
  refine v_aload_n hX d_M_hold_50 rfl rfl ?_
  refine v_get hX 48 (v := .ref (loc 67)) inT5 (hd 48 rfl) rfl h48 rfl 28 (by decide) k_613 rfl rfl d_M_hold_51 ?_
  refine v_iload hX d_M_hold_54 rfl ?_
  refine v_iload_n hX d_M_hold_56 rfl rfl ?_
  refine v_iast hX 67 0 (hd 67 rfl) rfl h67 rfl (vpb (by decide)) d_M_hold_57 ?_
  refine v_aload_n hX d_M_hold_58 rfl rfl ?_
  refine v_get hX 48 (v := .ref (loc 68)) inT5 (hd 48 rfl) rfl h48 rfl 29 (by decide) k_614 rfl rfl d_M_hold_59 ?_
  refine v_iload hX d_M_hold_62 rfl ?_
  refine v_iload_n hX d_M_hold_64 rfl rfl ?_
  refine v_iast hX 68 0 (hd 68 rfl) rfl h68 rfl (vpb (by decide)) d_M_hold_65 ?_
  refine v_aload_n hX d_M_hold_66 rfl rfl ?_
  refine v_get hX 48 (v := .ref (loc 69)) inT5 (hd 48 rfl) rfl h48 rfl 30 (by decide) k_615 rfl rfl d_M_hold_67 ?_
  refine v_iload hX d_M_hold_70 rfl ?_
  refine v_iload_n hX d_M_hold_72 rfl rfl ?_
  refine v_bipush (v := 7) hX d_M_hold_73 (by decide) ?_
  refine v_icmp_ne hX d_M_hold_75 (tgt := 82) (by decide) (fun _ => ?_) (fun c => absurd c (by decide))
  refine v_iconst (v := 0) hX d_M_hold_82 (by decide) ?_
  refine v_zast hX 69 2 (hd 69 rfl) rfl h69 rfl (vpb (by decide)) d_M_hold_83 ?_
  refine v_aload_n hX d_M_hold_84 rfl rfl ?_
  refine v_get hX 48 (v := .ref (loc 70)) inT5 (hd 48 rfl) rfl h48 rfl 31 (by decide) k_616 rfl rfl d_M_hold_85 ?_
  refine v_iload hX d_M_hold_88 rfl ?_
  refine v_iload hX d_M_hold_90 rfl ?_
  refine v_zast hX 70 2 (hd 70 rfl) rfl h70 rfl (vpb (by decide)) d_M_hold_92 ?_
  refine v_aload_n hX d_M_hold_93 rfl rfl ?_
  refine v_get hX 48 (v := .ref (loc 71)) inT5 (hd 48 rfl) rfl h48 rfl 32 (by decide) k_617 rfl rfl d_M_hold_94 ?_
  refine v_iload hX d_M_hold_97 rfl ?_
  refine v_iconst (v := 0) hX d_M_hold_99 (by decide) ?_
  refine v_zast hX 71 2 (hd 71 rfl) rfl h71 rfl (vpb (by decide)) d_M_hold_100 ?_
  refine v_aload_n hX d_M_hold_101 rfl rfl ?_
  refine v_get hX 48 (v := .ref (loc 72)) inT5 (hd 48 rfl) rfl h48 rfl 33 (by decide) k_618 rfl rfl d_M_hold_102 ?_
  refine v_iload hX d_M_hold_105 rfl ?_
  refine v_iconst (v := 0) hX d_M_hold_107 (by decide) ?_
  refine v_zast hX 72 2 (hd 72 rfl) rfl h72 rfl (vpb (by decide)) d_M_hold_108 ?_
  refine v_aload_n hX d_M_hold_109 rfl rfl ?_
  refine v_dup hX d_M_hold_110 rfl ?_
  refine v_get hX 48 (v := .int 0) inT5 (hd 48 rfl) rfl h48 rfl 34 (by decide) k_619 rfl rfl d_M_hold_111 ?_
  refine v_iconst (v := 1) hX d_M_hold_114 (by decide) ?_
  refine v_iaddE (v := 1) hX d_M_hold_115 (by decide) ?_
  refine v_putE hX 48 (fs2 := [.int 0, .ref (loc 49), .ref (loc 50), .ref (loc 51), .ref (loc 52), .ref (loc 53), .ref (loc 54), .ref (loc 55), .ref (loc 56), .int 1, .int 0, .int 0, .ref (loc 57), .ref (loc 58), .ref (loc 59), .ref (loc 60), .ref (loc 61), .ref (loc 62), .int 0, .int 0, .int 0, .int c, .int 0, .int 0, .ref (loc 63), .ref (loc 64), .ref (loc 65), .ref (loc 66), .ref (loc 67), .ref (loc 68), .ref (loc 69), .ref (loc 70), .ref (loc 71), .ref (loc 72), .int 1, .ref (loc 73), .ref (loc 74), .ref (loc 75), .int 0, .int 0, .int 0, .int 0, .int (-1), .int 0, .int 0]) inT5 tyX5 tyX5_ok nmX5 (hd 48 rfl) rfl h48 rfl 34 (by decide) k_619 rfl rfl rfl rfl rfl (Nat.le_of_ble_eq_true rfl) d_M_hold_116 rfl ?_
  exact v_vret hX hE d_M_hold_119 (Nat.le_of_ble_eq_true rfl) (Nat.le_of_ble_eq_true rfl) ⟨rfl, rfl, rfl, rfl, rfl, rfl⟩
set_option maxHeartbeats 4000000 in
set_option maxRecDepth 100000 in
theorem c_M_beginNode_b {l : Launch} {D : va_G} {A : Nat → Prop} {cI cB cZ cJ cN : ClassId} {loc : Nat → Nat} {val : Nat → va_E} {dom : Nat → Prop} (hd : ∀ k, (Nat.ble 48 k && Nat.ble (k + 1) 77) = true → dom k) (c : Int32) (h8 : 4 ≤ c) (h48 : val 48 = .inr (5, [.int 0, .ref (loc 49), .ref (loc 50), .ref (loc 51), .ref (loc 52), .ref (loc 53), .ref (loc 54), .ref (loc 55), .ref (loc 56), .int 1, .int 0, .int 0, .ref (loc 57), .ref (loc 58), .ref (loc 59), .ref (loc 60), .ref (loc 61), .ref (loc 62), .int 0, .int 0, .int 0, .int c, .int 0, .int 0, .ref (loc 63), .ref (loc 64), .ref (loc 65), .ref (loc 66), .ref (loc 67), .ref (loc 68), .ref (loc 69), .ref (loc 70), .ref (loc 71), .ref (loc 72), .int 0, .ref (loc 73), .ref (loc 74), .ref (loc 75), .int 0, .int 0, .int 0, .int 0, .int (-1), .int 0, .int 0])) (h49 : val 49 = .inl (cI, 300, .inl (upd (fun _ => 0) (Int32.toNatClampNeg 0) 11))) (h64 : val 64 = .inl (cI, 300, .inl (upd (fun _ => 0) (Int32.toNatClampNeg 0) (-2)))) (h65 : val 65 = .inl (cI, 14, .inl (upd (fun _ => 0) (Int32.toNatClampNeg 0) 11))) (h66 : val 66 = .inl (cI, 14, .inl (upd (fun _ => 0) (Int32.toNatClampNeg 0) c))) (h67 : val 67 = .inl (cI, 14, .inl (upd (fun _ => 0) (Int32.toNatClampNeg 0) (-1)))) (h68 : val 68 = .inl (cI, 14, .inl (upd (fun _ => 0) (Int32.toNatClampNeg 0) (-1)))) (h69 : val 69 = .inl (cZ, 14, .inl (upd (fun _ => 0) (Int32.toNatClampNeg 0) (vp_nar .boolean 0)))) (h70 : val 70 = .inl (cZ, 14, .inl (upd (fun _ => 0) (Int32.toNatClampNeg 0) (vp_nar .boolean 1)))) (h71 : val 71 = .inl (cZ, 14, .inl (upd (fun _ => 0) (Int32.toNatClampNeg 0) (vp_nar .boolean 0)))) (h72 : val 72 = .inl (cZ, 14, .inl (upd (fun _ => 0) (Int32.toNatClampNeg 0) (vp_nar .boolean 0))))  : kM l y_M_beginNode (Cond.code y_M_beginNode b_M_beginNode 7 none :: TT) (rmL 2) D CL (TY cI cB cZ cJ cN) A [.ref (loc 48), .int 0] (dom) loc val (fun rv d lo va kc ns => rv = none ∧ dom = d ∧ loc = lo ∧ va_up (va_up (va_up (va_up (va_up (va_up (va_up (va_up (va_up (va_up (val) 64 (.inl (cI, 300, .inl (upd (upd (fun _ => 0) (Int32.toNatClampNeg 0) (-2)) (Int32.toNatClampNeg 0) (-2))))) 65 (.inl (cI, 14, .inl (upd (upd (fun _ => 0) (Int32.toNatClampNeg 0) 11) (Int32.toNatClampNeg 0) 11)))) 66 (.inl (cI, 14, .inl (upd (upd (fun _ => 0) (Int32.toNatClampNeg 0) c) (Int32.toNatClampNeg 0) c)))) 67 (.inl (cI, 14, .inl (upd (upd (fun _ => 0) (Int32.toNatClampNeg 0) (-1)) (Int32.toNatClampNeg 0) (-1))))) 68 (.inl (cI, 14, .inl (upd (upd (fun _ => 0) (Int32.toNatClampNeg 0) (-1)) (Int32.toNatClampNeg 0) (-1))))) 69 (.inl (cZ, 14, .inl (upd (upd (fun _ => 0) (Int32.toNatClampNeg 0) (vp_nar .boolean 0)) (Int32.toNatClampNeg 0) (vp_nar .boolean 0))))) 70 (.inl (cZ, 14, .inl (upd (upd (fun _ => 0) (Int32.toNatClampNeg 0) (vp_nar .boolean 1)) (Int32.toNatClampNeg 0) (vp_nar .boolean 1))))) 71 (.inl (cZ, 14, .inl (upd (upd (fun _ => 0) (Int32.toNatClampNeg 0) (vp_nar .boolean 0)) (Int32.toNatClampNeg 0) (vp_nar .boolean 0))))) 72 (.inl (cZ, 14, .inl (upd (upd (fun _ => 0) (Int32.toNatClampNeg 0) (vp_nar .boolean 0)) (Int32.toNatClampNeg 0) (vp_nar .boolean 0))))) 48 (.inr (5, [.int 0, .ref (loc 49), .ref (loc 50), .ref (loc 51), .ref (loc 52), .ref (loc 53), .ref (loc 54), .ref (loc 55), .ref (loc 56), .int 1, .int 0, .int 0, .ref (loc 57), .ref (loc 58), .ref (loc 59), .ref (loc 60), .ref (loc 61), .ref (loc 62), .int 0, .int 0, .int 0, .int c, .int 0, .int 0, .ref (loc 63), .ref (loc 64), .ref (loc 65), .ref (loc 66), .ref (loc 67), .ref (loc 68), .ref (loc 69), .ref (loc 70), .ref (loc 71), .ref (loc 72), .int 1, .ref (loc 73), .ref (loc 74), .ref (loc 75), .int 0, .int 0, .int 0, .int 0, .int (-1), .int 0, .int 0])) = va ∧ kc = 0 ∧ ns = 0) := by
  refine kM_of (lv0 := [some (.ref (loc 48)), some (.int 0), none, none, none, none, none]) (own := "ProsePagesModel") (by decide) rfl (List.forall_mem_cons.mpr ⟨rfl, List.forall_mem_cons.mpr ⟨rfl, fun _ h => nomatch h⟩⟩) (Nat.le_of_ble_eq_true rfl) rfl (Nat.le_of_ble_eq_true rfl) (fun X hl hX hE hin0 => ?_)
  refine v_aload_n hX d_M_beginNode_0 rfl rfl ?_
  refine v_get hX 48 (v := .ref (loc 49)) inT5 (hd 48 rfl) rfl h48 rfl 1 (by decide) k_586 rfl rfl d_M_beginNode_1 ?_
  refine v_iload_n hX d_M_beginNode_4 rfl rfl ?_
  refine v_iald hX 49 0 (v := 11) (hd 49 rfl) rfl h49 rfl (vpb (by decide)) (by first | rfl | decide) d_M_beginNode_5 ?_
  refine v_istore_n (lv' := [some (.ref (loc 48)), some (.int 0), some (.int 11), none, none, none, none]) hX d_M_beginNode_6 rfl (Nat.le_of_ble_eq_true rfl) rfl ?_
  refine v_iload_n hX d_M_beginNode_7 rfl rfl ?_
  refine c_S hX (rest := []) hl (c_M_isBlock 11) k_733 k_734 k_6 k_735 rfl q_M_isBlock ⟨(Nat.le_of_ble_eq_true rfl), (Nat.le_of_ble_eq_true rfl)⟩ rfl rfl rfl (Nat.le_of_ble_eq_true rfl) d_M_beginNode_8 ⟨(Nat.le_of_ble_eq_true rfl), (Nat.le_of_ble_eq_true rfl)⟩ (fun rv d2 lo2 va2 kc ns hp => ?_)
  obtain ⟨rfl, rfl, rfl, rfl, rfl, rfl⟩ := hp
  show V X D CL A _ _ _ _ _ _ _ (.int (blk 11) :: [])
  refine v_if_eq hX d_M_beginNode_11 (tgt := 25) (by decide) (fun _ => ?_) (fun c => absurd (by decide) c)
  refine v_iload_n hX d_M_beginNode_25 rfl rfl ?_
  refine c_S hX (rest := []) hl (c_M_isInline 11) k_736 k_737 k_6 k_738 rfl q_M_isInline ⟨(Nat.le_of_ble_eq_true rfl), (Nat.le_of_ble_eq_true rfl)⟩ rfl rfl rfl (Nat.le_of_ble_eq_true rfl) d_M_beginNode_26 ⟨(Nat.le_of_ble_eq_true rfl), (Nat.le_of_ble_eq_true rfl)⟩ (fun rv d2 lo2 va2 kc ns hp => ?_)
  obtain ⟨rfl, rfl, rfl, rfl, rfl, rfl⟩ := hp
  show V X D CL A _ _ _ _ _ _ _ (.int (inl 11) :: [])
  refine v_if_eq hX d_M_beginNode_29 (tgt := 82) (by decide) (fun _ => ?_) (fun c => absurd (by decide) c)
  refine v_aload_n hX d_M_beginNode_82 rfl rfl ?_
  refine v_get hX 48 (v := .int 0) inT5 (hd 48 rfl) rfl h48 rfl 34 (by decide) k_619 rfl rfl d_M_beginNode_83 ?_
  refine v_if_le hX d_M_beginNode_86 (tgt := 103) (by decide) (fun _ => ?_) (fun c => absurd (by decide) c)
  refine v_aload_n hX d_M_beginNode_103 rfl rfl ?_
  refine v_get hX 48 (v := .int c) inT5 (hd 48 rfl) rfl h48 rfl 21 (by decide) k_606 rfl rfl d_M_beginNode_104 ?_
  refine v_istore_n (lv' := [some (.ref (loc 48)), some (.int 0), some (.int 11), some (.int c), none, none, none]) hX d_M_beginNode_107 rfl (Nat.le_of_ble_eq_true rfl) rfl ?_
  refine v_iload_n hX d_M_beginNode_108 rfl rfl ?_
  refine v_bipush (v := 10) hX d_M_beginNode_109 (by decide) ?_
  refine v_icmp_ne hX d_M_beginNode_111 (tgt := 133) (by decide) (fun _ => ?_) (fun c => absurd c (by decide))
  refine v_iconst (v := 0) hX d_M_beginNode_133 (by decide) ?_
  refine v_istore (lv' := [some (.ref (loc 48)), some (.int 0), some (.int 11), some (.int c), some (.int 0), none, none]) hX d_M_beginNode_134 (Nat.le_of_ble_eq_true rfl) rfl ?_
  refine v_aload_n hX d_M_beginNode_136 rfl rfl ?_
  refine v_get hX 48 (v := .ref (loc 64)) inT5 (hd 48 rfl) rfl h48 rfl 25 (by decide) k_610 rfl rfl d_M_beginNode_137 ?_
  refine v_iload_n hX d_M_beginNode_140 rfl rfl ?_
  refine v_iload_n hX d_M_beginNode_141 rfl rfl ?_
  refine c_S hX (rest := [.int 0, .ref (loc 64)]) hl (c_M_isInline 11) k_736 k_737 k_6 k_738 rfl q_M_isInline ⟨(Nat.le_of_ble_eq_true rfl), (Nat.le_of_ble_eq_true rfl)⟩ rfl rfl rfl (Nat.le_of_ble_eq_true rfl) d_M_beginNode_142 ⟨(Nat.le_of_ble_eq_true rfl), (Nat.le_of_ble_eq_true rfl)⟩ (fun rv d2 lo2 va2 kc ns hp => ?_)
  obtain ⟨rfl, rfl, rfl, rfl, rfl, rfl⟩ := hp
  show V X D CL A _ _ _ _ _ _ _ (.int (inl 11) :: [.int 0, .ref (loc 64)])
  refine v_if_eq hX d_M_beginNode_145 (tgt := 174) (by decide) (fun _ => ?_) (fun c => absurd (by decide) c)
  refine v_bipush (v := (-2)) hX d_M_beginNode_174 (by decide) ?_
  refine v_aload_n hX d_M_beginNode_176 rfl rfl ?_
  refine v_get hX 48 (v := .int 0) inT5 (hd 48 rfl) rfl h48 rfl 23 (by decide) k_608 rfl rfl d_M_beginNode_177 ?_
  refine v_isubE (v := (-2)) hX d_M_beginNode_180 (by decide) ?_
  refine v_iast hX 64 0 (hd 64 rfl) rfl h64 rfl (vpb (by decide)) d_M_beginNode_181 ?_
  refine v_iload_n hX d_M_beginNode_182 rfl rfl ?_
  refine v_tableIn hX d_M_beginNode_183 (tgt := 244) (by decide) (by decide) (off := 61) (by decide) (by decide) ?_
  refine v_aload_n hX d_M_beginNode_244 rfl rfl ?_
  refine v_bipush (v := 11) hX d_M_beginNode_245 (by decide) ?_
  refine v_aload_n hX d_M_beginNode_247 rfl rfl ?_
  refine v_get hX 48 (v := .int c) inT5 (hd 48 rfl) rfl h48 rfl 21 (by decide) k_606 rfl rfl d_M_beginNode_248 ?_
  refine v_iconst (v := (-1)) hX d_M_beginNode_251 (by decide) ?_
  refine v_iconst (v := 1) hX d_M_beginNode_252 (by decide) ?_
  refine c_V hX 48 (rest := []) hl (c_M_hold_b hd c h8 h48 h65 h66 h67 h68 h69 h70 h71 h72 ) k_815 k_817 kp_42 k_6 k_818 rfl q_M_hold ⟨(Nat.le_of_ble_eq_true rfl), (Nat.le_of_ble_eq_true rfl)⟩ (hd 48 rfl) rfl h48 rfl rfl rfl rfl (Nat.le_of_ble_eq_true rfl) d_M_beginNode_253 ⟨(Nat.le_of_ble_eq_true rfl), (Nat.le_of_ble_eq_true rfl)⟩ (fun rv d2 lo2 va2 kc ns hp => ?_)
  obtain ⟨rfl, rfl, rfl, rfl, rfl, rfl⟩ := hp
  show V X D CL A _ _ _ _ _ _ _ []
  refine v_goto hX d_M_beginNode_256 (tgt := 538) (by decide) ?_
  exact v_vret hX hE d_M_beginNode_538 (Nat.le_of_ble_eq_true rfl) (Nat.le_of_ble_eq_true rfl) ⟨rfl, rfl, rfl, rfl, rfl, rfl⟩
set_option maxHeartbeats 4000000 in
set_option maxRecDepth 100000 in
theorem c_M_endNode_b {l : Launch} {D : va_G} {A : Nat → Prop} {cI cB cZ cJ cN : ClassId} {loc : Nat → Nat} {val : Nat → va_E} {dom : Nat → Prop} (hd : ∀ k, (Nat.ble 48 k && Nat.ble (k + 1) 77) = true → dom k) (c : Int32) (h48 : val 48 = .inr (5, [.int 0, .ref (loc 49), .ref (loc 50), .ref (loc 51), .ref (loc 52), .ref (loc 53), .ref (loc 54), .ref (loc 55), .ref (loc 56), .int 1, .int 0, .int 0, .ref (loc 57), .ref (loc 58), .ref (loc 59), .ref (loc 60), .ref (loc 61), .ref (loc 62), .int 0, .int 0, .int 0, .int c, .int 0, .int 0, .ref (loc 63), .ref (loc 64), .ref (loc 65), .ref (loc 66), .ref (loc 67), .ref (loc 68), .ref (loc 69), .ref (loc 70), .ref (loc 71), .ref (loc 72), .int 1, .ref (loc 73), .ref (loc 74), .ref (loc 75), .int 0, .int 0, .int 0, .int 0, .int (-1), .int 0, .int 0])) (h49 : val 49 = .inl (cI, 300, .inl (upd (fun _ => 0) (Int32.toNatClampNeg 0) 11)))  : kM l y_M_endNode (Cond.code y_M_endNode b_M_endNode 3 none :: TT) (rmL 1) D CL (TY cI cB cZ cJ cN) A [.ref (loc 48), .int 0] (dom) loc val (fun rv d lo va kc ns => rv = none ∧ dom = d ∧ loc = lo ∧ va_up (val) 48 (.inr (5, [.int 0, .ref (loc 49), .ref (loc 50), .ref (loc 51), .ref (loc 52), .ref (loc 53), .ref (loc 54), .ref (loc 55), .ref (loc 56), .int 1, .int 0, .int 0, .ref (loc 57), .ref (loc 58), .ref (loc 59), .ref (loc 60), .ref (loc 61), .ref (loc 62), .int 0, .int 0, .int 0, .int c, .int 0, .int 0, .ref (loc 63), .ref (loc 64), .ref (loc 65), .ref (loc 66), .ref (loc 67), .ref (loc 68), .ref (loc 69), .ref (loc 70), .ref (loc 71), .ref (loc 72), .int 0, .ref (loc 73), .ref (loc 74), .ref (loc 75), .int 0, .int 0, .int 0, .int 0, .int (-1), .int 0, .int 0])) = va ∧ kc = 0 ∧ ns = 0) := by
  refine kM_of (lv0 := [some (.ref (loc 48)), some (.int 0), none]) (own := "ProsePagesModel") (by decide) rfl (List.forall_mem_cons.mpr ⟨rfl, List.forall_mem_cons.mpr ⟨rfl, fun _ h => nomatch h⟩⟩) (Nat.le_of_ble_eq_true rfl) rfl (Nat.le_of_ble_eq_true rfl) (fun X hl hX hE hin0 => ?_)
  refine v_aload_n hX d_M_endNode_0 rfl rfl ?_
  refine v_get hX 48 (v := .ref (loc 49)) inT5 (hd 48 rfl) rfl h48 rfl 1 (by decide) k_586 rfl rfl d_M_endNode_1 ?_
  refine v_iload_n hX d_M_endNode_4 rfl rfl ?_
  refine v_iald hX 49 0 (v := 11) (hd 49 rfl) rfl h49 rfl (vpb (by decide)) (by first | rfl | decide) d_M_endNode_5 ?_
  refine v_istore_n (lv' := [some (.ref (loc 48)), some (.int 0), some (.int 11)]) hX d_M_endNode_6 rfl (Nat.le_of_ble_eq_true rfl) rfl ?_
  refine v_iload_n hX d_M_endNode_7 rfl rfl ?_
  refine v_if_eq hX d_M_endNode_8 (tgt := 16) (by decide) (fun c => absurd c (by decide)) (fun _ => ?_)
  refine v_iload_n hX d_M_endNode_11 rfl rfl ?_
  refine v_iconst (v := 1) hX d_M_endNode_12 (by decide) ?_
  refine v_icmp_ne hX d_M_endNode_13 (tgt := 57) (by decide) (fun _ => ?_) (fun c => absurd c (by decide))
  refine v_iload_n hX d_M_endNode_57 rfl rfl ?_
  refine v_bipush (v := 7) hX d_M_endNode_58 (by decide) ?_
  refine v_icmp_ne hX d_M_endNode_60 (tgt := 103) (by decide) (fun _ => ?_) (fun c => absurd c (by decide))
  refine v_iload_n hX d_M_endNode_103 rfl rfl ?_
  refine v_bipush (v := 11) hX d_M_endNode_104 (by decide) ?_
  refine v_icmp_eq hX d_M_endNode_106 (tgt := 120) (by decide) (fun _ => ?_) (fun c => absurd (by decide) c)
  refine v_aload_n hX d_M_endNode_120 rfl rfl ?_
  refine v_dup hX d_M_endNode_121 rfl ?_
  refine v_get hX 48 (v := .int 1) inT5 (hd 48 rfl) rfl h48 rfl 34 (by decide) k_619 rfl rfl d_M_endNode_122 ?_
  refine v_iconst (v := 1) hX d_M_endNode_125 (by decide) ?_
  refine v_isubE (v := 0) hX d_M_endNode_126 (by decide) ?_
  refine v_putE hX 48 (fs2 := [.int 0, .ref (loc 49), .ref (loc 50), .ref (loc 51), .ref (loc 52), .ref (loc 53), .ref (loc 54), .ref (loc 55), .ref (loc 56), .int 1, .int 0, .int 0, .ref (loc 57), .ref (loc 58), .ref (loc 59), .ref (loc 60), .ref (loc 61), .ref (loc 62), .int 0, .int 0, .int 0, .int c, .int 0, .int 0, .ref (loc 63), .ref (loc 64), .ref (loc 65), .ref (loc 66), .ref (loc 67), .ref (loc 68), .ref (loc 69), .ref (loc 70), .ref (loc 71), .ref (loc 72), .int 0, .ref (loc 73), .ref (loc 74), .ref (loc 75), .int 0, .int 0, .int 0, .int 0, .int (-1), .int 0, .int 0]) inT5 tyX5 tyX5_ok nmX5 (hd 48 rfl) rfl h48 rfl 34 (by decide) k_619 rfl rfl rfl rfl rfl (Nat.le_of_ble_eq_true rfl) d_M_endNode_127 rfl ?_
  exact v_vret hX hE d_M_endNode_130 (Nat.le_of_ble_eq_true rfl) (Nat.le_of_ble_eq_true rfl) ⟨rfl, rfl, rfl, rfl, rfl, rfl⟩
set_option maxHeartbeats 4000000 in
set_option maxRecDepth 100000 in
theorem c_M_layOut_b {l : Launch} {D : va_G} {A : Nat → Prop} {cI cB cZ cJ cN : ClassId} {loc : Nat → Nat} {val : Nat → va_E} {dom : Nat → Prop} (hd : ∀ k, (Nat.ble 48 k && Nat.ble (k + 1) 77) = true → dom k) (c : Int32) (h8 : 4 ≤ c) (h48 : val 48 = .inr (5, [.int 0, .ref (loc 49), .ref (loc 50), .ref (loc 51), .ref (loc 52), .ref (loc 53), .ref (loc 54), .ref (loc 55), .ref (loc 56), .int 1, .int 0, .int 0, .ref (loc 57), .ref (loc 58), .ref (loc 59), .ref (loc 60), .ref (loc 61), .ref (loc 62), .int 0, .int 0, .int 0, .int c, .int 0, .int 0, .ref (loc 63), .ref (loc 64), .ref (loc 65), .ref (loc 66), .ref (loc 67), .ref (loc 68), .ref (loc 69), .ref (loc 70), .ref (loc 71), .ref (loc 72), .int 0, .ref (loc 73), .ref (loc 74), .ref (loc 75), .int 0, .int 0, .int 0, .int 0, .int (-1), .int 0, .int 0])) (h50 : val 50 = .inl (cI, 300, .inl (upd (fun _ => 0) (Int32.toNatClampNeg 0) (-1)))) (h49 : val 49 = .inl (cI, 300, .inl (upd (fun _ => 0) (Int32.toNatClampNeg 0) 11))) (h64 : val 64 = .inl (cI, 300, .inl (upd (fun _ => 0) (Int32.toNatClampNeg 0) (-2)))) (h65 : val 65 = .inl (cI, 14, .inl (upd (fun _ => 0) (Int32.toNatClampNeg 0) 11))) (h66 : val 66 = .inl (cI, 14, .inl (upd (fun _ => 0) (Int32.toNatClampNeg 0) c))) (h67 : val 67 = .inl (cI, 14, .inl (upd (fun _ => 0) (Int32.toNatClampNeg 0) (-1)))) (h68 : val 68 = .inl (cI, 14, .inl (upd (fun _ => 0) (Int32.toNatClampNeg 0) (-1)))) (h69 : val 69 = .inl (cZ, 14, .inl (upd (fun _ => 0) (Int32.toNatClampNeg 0) (vp_nar .boolean 0)))) (h70 : val 70 = .inl (cZ, 14, .inl (upd (fun _ => 0) (Int32.toNatClampNeg 0) (vp_nar .boolean 1)))) (h71 : val 71 = .inl (cZ, 14, .inl (upd (fun _ => 0) (Int32.toNatClampNeg 0) (vp_nar .boolean 0)))) (h72 : val 72 = .inl (cZ, 14, .inl (upd (fun _ => 0) (Int32.toNatClampNeg 0) (vp_nar .boolean 0))))  : kM l y_M_layOut (Cond.code y_M_layOut b_M_layOut 4 none :: TT) (rmL 3) D CL (TY cI cB cZ cJ cN) A [.ref (loc 48)] (dom) loc val (fun rv d lo va kc ns => rv = none ∧ dom = d ∧ loc = lo ∧ va_up (va_up (va_up (va_up (va_up (va_up (va_up (va_up (va_up (va_up (va_up (va_up (va_up (va_up (va_up (va_up (va_up (val) 48 (.inr (5, [.int 0, .ref (loc 49), .ref (loc 50), .ref (loc 51), .ref (loc 52), .ref (loc 53), .ref (loc 54), .ref (loc 55), .ref (loc 56), .int 1, .int 0, .int 0, .ref (loc 57), .ref (loc 58), .ref (loc 59), .ref (loc 60), .ref (loc 61), .ref (loc 62), .int 0, .int 0, .int 0, .int c, .int 0, .int 0, .ref (loc 63), .ref (loc 64), .ref (loc 65), .ref (loc 66), .ref (loc 67), .ref (loc 68), .ref (loc 69), .ref (loc 70), .ref (loc 71), .ref (loc 72), .int 0, .ref (loc 73), .ref (loc 74), .ref (loc 75), .int 0, .int 0, .int 0, .int 0, .int (-1), .int 0, .int 0]))) 48 (.inr (5, [.int 0, .ref (loc 49), .ref (loc 50), .ref (loc 51), .ref (loc 52), .ref (loc 53), .ref (loc 54), .ref (loc 55), .ref (loc 56), .int 1, .int 0, .int 0, .ref (loc 57), .ref (loc 58), .ref (loc 59), .ref (loc 60), .ref (loc 61), .ref (loc 62), .int 0, .int 0, .int 0, .int c, .int 0, .int 0, .ref (loc 63), .ref (loc 64), .ref (loc 65), .ref (loc 66), .ref (loc 67), .ref (loc 68), .ref (loc 69), .ref (loc 70), .ref (loc 71), .ref (loc 72), .int 0, .ref (loc 73), .ref (loc 74), .ref (loc 75), .int 0, .int 0, .int 0, .int 0, .int (-1), .int 0, .int 0]))) 48 (.inr (5, [.int 0, .ref (loc 49), .ref (loc 50), .ref (loc 51), .ref (loc 52), .ref (loc 53), .ref (loc 54), .ref (loc 55), .ref (loc 56), .int 1, .int 0, .int 0, .ref (loc 57), .ref (loc 58), .ref (loc 59), .ref (loc 60), .ref (loc 61), .ref (loc 62), .int 0, .int 0, .int 0, .int c, .int 0, .int 0, .ref (loc 63), .ref (loc 64), .ref (loc 65), .ref (loc 66), .ref (loc 67), .ref (loc 68), .ref (loc 69), .ref (loc 70), .ref (loc 71), .ref (loc 72), .int 0, .ref (loc 73), .ref (loc 74), .ref (loc 75), .int 0, .int 0, .int 0, .int 0, .int (-1), .int 0, .int 0]))) 48 (.inr (5, [.int 0, .ref (loc 49), .ref (loc 50), .ref (loc 51), .ref (loc 52), .ref (loc 53), .ref (loc 54), .ref (loc 55), .ref (loc 56), .int 1, .int 0, .int 0, .ref (loc 57), .ref (loc 58), .ref (loc 59), .ref (loc 60), .ref (loc 61), .ref (loc 62), .int 0, .int 0, .int 0, .int c, .int 0, .int 0, .ref (loc 63), .ref (loc 64), .ref (loc 65), .ref (loc 66), .ref (loc 67), .ref (loc 68), .ref (loc 69), .ref (loc 70), .ref (loc 71), .ref (loc 72), .int 0, .ref (loc 73), .ref (loc 74), .ref (loc 75), .int 0, .int 0, .int 0, .int 0, .int (-1), .int 0, .int 0]))) 48 (.inr (5, [.int 0, .ref (loc 49), .ref (loc 50), .ref (loc 51), .ref (loc 52), .ref (loc 53), .ref (loc 54), .ref (loc 55), .ref (loc 56), .int 1, .int 0, .int 0, .ref (loc 57), .ref (loc 58), .ref (loc 59), .ref (loc 60), .ref (loc 61), .ref (loc 62), .int 0, .int 0, .int 0, .int c, .int 0, .int 0, .ref (loc 63), .ref (loc 64), .ref (loc 65), .ref (loc 66), .ref (loc 67), .ref (loc 68), .ref (loc 69), .ref (loc 70), .ref (loc 71), .ref (loc 72), .int 0, .ref (loc 73), .ref (loc 74), .ref (loc 75), .int 0, .int 0, .int 0, .int 0, .int (-1), .int 0, .int 0]))) 48 (.inr (5, [.int 0, .ref (loc 49), .ref (loc 50), .ref (loc 51), .ref (loc 52), .ref (loc 53), .ref (loc 54), .ref (loc 55), .ref (loc 56), .int 1, .int 0, .int 0, .ref (loc 57), .ref (loc 58), .ref (loc 59), .ref (loc 60), .ref (loc 61), .ref (loc 62), .int 0, .int 0, .int 0, .int c, .int 0, .int 0, .ref (loc 63), .ref (loc 64), .ref (loc 65), .ref (loc 66), .ref (loc 67), .ref (loc 68), .ref (loc 69), .ref (loc 70), .ref (loc 71), .ref (loc 72), .int 0, .ref (loc 73), .ref (loc 74), .ref (loc 75), .int 0, .int 0, .int 0, .int 0, .int (-1), .int 0, .int 0]))) 64 (.inl (cI, 300, .inl (upd (upd (fun _ => 0) (Int32.toNatClampNeg 0) (-2)) (Int32.toNatClampNeg 0) (-2))))) 65 (.inl (cI, 14, .inl (upd (upd (fun _ => 0) (Int32.toNatClampNeg 0) 11) (Int32.toNatClampNeg 0) 11)))) 66 (.inl (cI, 14, .inl (upd (upd (fun _ => 0) (Int32.toNatClampNeg 0) c) (Int32.toNatClampNeg 0) c)))) 67 (.inl (cI, 14, .inl (upd (upd (fun _ => 0) (Int32.toNatClampNeg 0) (-1)) (Int32.toNatClampNeg 0) (-1))))) 68 (.inl (cI, 14, .inl (upd (upd (fun _ => 0) (Int32.toNatClampNeg 0) (-1)) (Int32.toNatClampNeg 0) (-1))))) 69 (.inl (cZ, 14, .inl (upd (upd (fun _ => 0) (Int32.toNatClampNeg 0) (vp_nar .boolean 0)) (Int32.toNatClampNeg 0) (vp_nar .boolean 0))))) 70 (.inl (cZ, 14, .inl (upd (upd (fun _ => 0) (Int32.toNatClampNeg 0) (vp_nar .boolean 1)) (Int32.toNatClampNeg 0) (vp_nar .boolean 1))))) 71 (.inl (cZ, 14, .inl (upd (upd (fun _ => 0) (Int32.toNatClampNeg 0) (vp_nar .boolean 0)) (Int32.toNatClampNeg 0) (vp_nar .boolean 0))))) 72 (.inl (cZ, 14, .inl (upd (upd (fun _ => 0) (Int32.toNatClampNeg 0) (vp_nar .boolean 0)) (Int32.toNatClampNeg 0) (vp_nar .boolean 0))))) 48 (.inr (5, [.int 0, .ref (loc 49), .ref (loc 50), .ref (loc 51), .ref (loc 52), .ref (loc 53), .ref (loc 54), .ref (loc 55), .ref (loc 56), .int 1, .int 0, .int 0, .ref (loc 57), .ref (loc 58), .ref (loc 59), .ref (loc 60), .ref (loc 61), .ref (loc 62), .int 0, .int 0, .int 0, .int c, .int 0, .int 0, .ref (loc 63), .ref (loc 64), .ref (loc 65), .ref (loc 66), .ref (loc 67), .ref (loc 68), .ref (loc 69), .ref (loc 70), .ref (loc 71), .ref (loc 72), .int 1, .ref (loc 73), .ref (loc 74), .ref (loc 75), .int 0, .int 0, .int 0, .int 0, .int (-1), .int 0, .int 0]))) 48 (.inr (5, [.int 0, .ref (loc 49), .ref (loc 50), .ref (loc 51), .ref (loc 52), .ref (loc 53), .ref (loc 54), .ref (loc 55), .ref (loc 56), .int 1, .int 0, .int 0, .ref (loc 57), .ref (loc 58), .ref (loc 59), .ref (loc 60), .ref (loc 61), .ref (loc 62), .int 0, .int 0, .int 0, .int c, .int 0, .int 0, .ref (loc 63), .ref (loc 64), .ref (loc 65), .ref (loc 66), .ref (loc 67), .ref (loc 68), .ref (loc 69), .ref (loc 70), .ref (loc 71), .ref (loc 72), .int 0, .ref (loc 73), .ref (loc 74), .ref (loc 75), .int 0, .int 0, .int 0, .int 0, .int (-1), .int 0, .int 0])) = va ∧ kc = 0 ∧ ns = 0) := by
  refine kM_of (lv0 := [some (.ref (loc 48)), none, none, none]) (own := "ProsePagesModel") (by decide) rfl (List.forall_mem_cons.mpr ⟨rfl, fun _ h => nomatch h⟩) (Nat.le_of_ble_eq_true rfl) rfl (Nat.le_of_ble_eq_true rfl) (fun X hl hX hE hin0 => ?_)
  refine v_aload_n hX d_M_layOut_0 rfl rfl ?_
  refine v_iconst (v := 0) hX d_M_layOut_1 (by decide) ?_
  refine v_putE hX 48 (fs2 := [.int 0, .ref (loc 49), .ref (loc 50), .ref (loc 51), .ref (loc 52), .ref (loc 53), .ref (loc 54), .ref (loc 55), .ref (loc 56), .int 1, .int 0, .int 0, .ref (loc 57), .ref (loc 58), .ref (loc 59), .ref (loc 60), .ref (loc 61), .ref (loc 62), .int 0, .int 0, .int 0, .int c, .int 0, .int 0, .ref (loc 63), .ref (loc 64), .ref (loc 65), .ref (loc 66), .ref (loc 67), .ref (loc 68), .ref (loc 69), .ref (loc 70), .ref (loc 71), .ref (loc 72), .int 0, .ref (loc 73), .ref (loc 74), .ref (loc 75), .int 0, .int 0, .int 0, .int 0, .int (-1), .int 0, .int 0]) inT5 tyX5 tyX5_ok nmX5 (hd 48 rfl) rfl h48 rfl 23 (by decide) k_608 rfl rfl rfl rfl rfl (Nat.le_of_ble_eq_true rfl) d_M_layOut_2 rfl ?_
  refine v_aload_n hX d_M_layOut_5 rfl rfl ?_
  refine v_iconst (v := 0) hX d_M_layOut_6 (by decide) ?_
  refine v_putE hX 48 (fs2 := [.int 0, .ref (loc 49), .ref (loc 50), .ref (loc 51), .ref (loc 52), .ref (loc 53), .ref (loc 54), .ref (loc 55), .ref (loc 56), .int 1, .int 0, .int 0, .ref (loc 57), .ref (loc 58), .ref (loc 59), .ref (loc 60), .ref (loc 61), .ref (loc 62), .int 0, .int 0, .int 0, .int c, .int 0, .int 0, .ref (loc 63), .ref (loc 64), .ref (loc 65), .ref (loc 66), .ref (loc 67), .ref (loc 68), .ref (loc 69), .ref (loc 70), .ref (loc 71), .ref (loc 72), .int 0, .ref (loc 73), .ref (loc 74), .ref (loc 75), .int 0, .int 0, .int 0, .int 0, .int (-1), .int 0, .int 0]) inT5 tyX5 tyX5_ok nmX5 (hd 48 rfl) rfl rfl rfl 34 (by decide) k_619 rfl rfl rfl rfl rfl (Nat.le_of_ble_eq_true rfl) d_M_layOut_7 rfl ?_
  refine v_aload_n hX d_M_layOut_10 rfl rfl ?_
  refine v_iconst (v := 0) hX d_M_layOut_11 (by decide) ?_
  refine v_putE hX 48 (fs2 := [.int 0, .ref (loc 49), .ref (loc 50), .ref (loc 51), .ref (loc 52), .ref (loc 53), .ref (loc 54), .ref (loc 55), .ref (loc 56), .int 1, .int 0, .int 0, .ref (loc 57), .ref (loc 58), .ref (loc 59), .ref (loc 60), .ref (loc 61), .ref (loc 62), .int 0, .int 0, .int 0, .int c, .int 0, .int 0, .ref (loc 63), .ref (loc 64), .ref (loc 65), .ref (loc 66), .ref (loc 67), .ref (loc 68), .ref (loc 69), .ref (loc 70), .ref (loc 71), .ref (loc 72), .int 0, .ref (loc 73), .ref (loc 74), .ref (loc 75), .int 0, .int 0, .int 0, .int 0, .int (-1), .int 0, .int 0]) inT5 tyX5 tyX5_ok nmX5 (hd 48 rfl) rfl rfl rfl 43 (by decide) k_628 rfl rfl rfl (by decide) rfl (Nat.le_of_ble_eq_true rfl) d_M_layOut_12 rfl ?_
  refine v_aload_n hX d_M_layOut_15 rfl rfl ?_
  refine v_iconst (v := (-1)) hX d_M_layOut_16 (by decide) ?_
  refine v_putE hX 48 (fs2 := [.int 0, .ref (loc 49), .ref (loc 50), .ref (loc 51), .ref (loc 52), .ref (loc 53), .ref (loc 54), .ref (loc 55), .ref (loc 56), .int 1, .int 0, .int 0, .ref (loc 57), .ref (loc 58), .ref (loc 59), .ref (loc 60), .ref (loc 61), .ref (loc 62), .int 0, .int 0, .int 0, .int c, .int 0, .int 0, .ref (loc 63), .ref (loc 64), .ref (loc 65), .ref (loc 66), .ref (loc 67), .ref (loc 68), .ref (loc 69), .ref (loc 70), .ref (loc 71), .ref (loc 72), .int 0, .ref (loc 73), .ref (loc 74), .ref (loc 75), .int 0, .int 0, .int 0, .int 0, .int (-1), .int 0, .int 0]) inT5 tyX5 tyX5_ok nmX5 (hd 48 rfl) rfl rfl rfl 42 (by decide) k_627 rfl rfl rfl rfl rfl (Nat.le_of_ble_eq_true rfl) d_M_layOut_17 rfl ?_
  refine v_aload_n hX d_M_layOut_20 rfl rfl ?_
  refine v_iconst (v := 0) hX d_M_layOut_21 (by decide) ?_
  refine v_putE hX 48 (fs2 := [.int 0, .ref (loc 49), .ref (loc 50), .ref (loc 51), .ref (loc 52), .ref (loc 53), .ref (loc 54), .ref (loc 55), .ref (loc 56), .int 1, .int 0, .int 0, .ref (loc 57), .ref (loc 58), .ref (loc 59), .ref (loc 60), .ref (loc 61), .ref (loc 62), .int 0, .int 0, .int 0, .int c, .int 0, .int 0, .ref (loc 63), .ref (loc 64), .ref (loc 65), .ref (loc 66), .ref (loc 67), .ref (loc 68), .ref (loc 69), .ref (loc 70), .ref (loc 71), .ref (loc 72), .int 0, .ref (loc 73), .ref (loc 74), .ref (loc 75), .int 0, .int 0, .int 0, .int 0, .int (-1), .int 0, .int 0]) inT5 tyX5 tyX5_ok nmX5 (hd 48 rfl) rfl rfl rfl 38 (by decide) k_623 rfl rfl rfl rfl rfl (Nat.le_of_ble_eq_true rfl) d_M_layOut_22 rfl ?_
  refine v_aload_n hX d_M_layOut_25 rfl rfl ?_
  refine v_iconst (v := 0) hX d_M_layOut_26 (by decide) ?_
  refine v_putE hX 48 (fs2 := [.int 0, .ref (loc 49), .ref (loc 50), .ref (loc 51), .ref (loc 52), .ref (loc 53), .ref (loc 54), .ref (loc 55), .ref (loc 56), .int 1, .int 0, .int 0, .ref (loc 57), .ref (loc 58), .ref (loc 59), .ref (loc 60), .ref (loc 61), .ref (loc 62), .int 0, .int 0, .int 0, .int c, .int 0, .int 0, .ref (loc 63), .ref (loc 64), .ref (loc 65), .ref (loc 66), .ref (loc 67), .ref (loc 68), .ref (loc 69), .ref (loc 70), .ref (loc 71), .ref (loc 72), .int 0, .ref (loc 73), .ref (loc 74), .ref (loc 75), .int 0, .int 0, .int 0, .int 0, .int (-1), .int 0, .int 0]) inT5 tyX5 tyX5_ok nmX5 (hd 48 rfl) rfl rfl rfl 39 (by decide) k_624 rfl rfl rfl rfl rfl (Nat.le_of_ble_eq_true rfl) d_M_layOut_27 rfl ?_
  refine v_iconst (v := (-1)) hX d_M_layOut_30 (by decide) ?_
  refine v_istore_n (lv' := [some (.ref (loc 48)), some (.int (-1)), none, none]) hX d_M_layOut_31 rfl (Nat.le_of_ble_eq_true rfl) rfl ?_
  refine v_iconst (v := 0) hX d_M_layOut_32 (by decide) ?_
  refine v_istore_n (lv' := [some (.ref (loc 48)), some (.int (-1)), some (.int 0), none]) hX d_M_layOut_33 rfl (Nat.le_of_ble_eq_true rfl) rfl ?_
  refine v_iload_n hX d_M_layOut_34 rfl rfl ?_
  refine v_aload_n hX d_M_layOut_35 rfl rfl ?_
  refine v_get hX 48 (v := .int 1) inT5 (hd 48 rfl) rfl rfl rfl 9 (by decide) k_594 rfl rfl d_M_layOut_36 ?_
  refine v_icmp_gt hX d_M_layOut_39 (tgt := 115) (by decide) (fun c => absurd c (by decide)) (fun _ => ?_)
  refine v_aload_n hX d_M_layOut_42 rfl rfl ?_
  refine v_get hX 48 (v := .int 0) inT5 (hd 48 rfl) rfl rfl rfl 23 (by decide) k_608 rfl rfl d_M_layOut_43 ?_
  refine v_sipush (v := 1500) hX d_M_layOut_46 (by decide) ?_
  refine v_icmp_gt hX d_M_layOut_49 (tgt := 115) (by decide) (fun c => absurd c (by decide)) (fun _ => ?_)
  refine v_iload_n hX d_M_layOut_52 rfl rfl ?_
  refine v_aload_n hX d_M_layOut_53 rfl rfl ?_
  refine v_get hX 48 (v := .int 1) inT5 (hd 48 rfl) rfl rfl rfl 9 (by decide) k_594 rfl rfl d_M_layOut_54 ?_
  refine v_icmp_ge hX d_M_layOut_57 (tgt := 69) (by decide) (fun c => absurd c (by decide)) (fun _ => ?_)
  refine v_aload_n hX d_M_layOut_60 rfl rfl ?_
  refine v_get hX 48 (v := .ref (loc 50)) inT5 (hd 48 rfl) rfl rfl rfl 2 (by decide) k_587 rfl rfl d_M_layOut_61 ?_
  refine v_iload_n hX d_M_layOut_64 rfl rfl ?_
  refine v_iald hX 50 0 (v := (-1)) (hd 50 rfl) rfl h50 rfl (vpb (by decide)) (by first | rfl | decide) d_M_layOut_65 ?_
  refine v_goto hX d_M_layOut_66 (tgt := 70) (by decide) ?_
  refine v_istore_n (lv' := [some (.ref (loc 48)), some (.int (-1)), some (.int 0), some (.int (-1))]) hX d_M_layOut_70 rfl (Nat.le_of_ble_eq_true rfl) rfl ?_
  refine v_iload_n hX d_M_layOut_71 rfl rfl ?_
  refine v_iload_n hX d_M_layOut_72 rfl rfl ?_
  refine v_icmp_eq hX d_M_layOut_73 (tgt := 91) (by decide) (fun _ => ?_) (fun c => absurd (by decide) c)
  refine v_iload_n hX d_M_layOut_91 rfl rfl ?_
  refine v_aload_n hX d_M_layOut_92 rfl rfl ?_
  refine v_get hX 48 (v := .int 1) inT5 (hd 48 rfl) rfl rfl rfl 9 (by decide) k_594 rfl rfl d_M_layOut_93 ?_
  refine v_icmp_ne hX d_M_layOut_96 (tgt := 102) (by decide) (fun _ => ?_) (fun c => absurd c (by decide))
  refine v_aload_n hX d_M_layOut_102 rfl rfl ?_
  refine v_iload_n hX d_M_layOut_103 rfl rfl ?_
  refine c_V hX 48 (rest := []) hl (c_M_beginNode_b hd c h8 rfl h49 h64 h65 h66 h67 h68 h69 h70 h71 h72 ) k_807 k_809 kp_40 k_6 k_810 rfl q_M_beginNode ⟨(Nat.le_of_ble_eq_true rfl), (Nat.le_of_ble_eq_true rfl)⟩ (hd 48 rfl) rfl rfl rfl rfl rfl rfl (Nat.le_of_ble_eq_true rfl) d_M_layOut_104 ⟨(Nat.le_of_ble_eq_true rfl), (Nat.le_of_ble_eq_true rfl)⟩ (fun rv d2 lo2 va2 kc ns hp => ?_)
  obtain ⟨rfl, rfl, rfl, rfl, rfl, rfl⟩ := hp
  show V X D CL A _ _ _ _ _ _ _ []
  refine v_iload_n hX d_M_layOut_107 rfl rfl ?_
  refine v_istore_n (lv' := [some (.ref (loc 48)), some (.int 0), some (.int 0), some (.int (-1))]) hX d_M_layOut_108 rfl (Nat.le_of_ble_eq_true rfl) rfl ?_
  refine v_iinc (y := 1) (lv' := [some (.ref (loc 48)), some (.int 0), some (.int 1), some (.int (-1))]) hX d_M_layOut_109 rfl (by decide) rfl ?_
  refine v_goto hX d_M_layOut_112 (tgt := 34) (by decide) ?_
  refine v_iload_n hX d_M_layOut_34 rfl rfl ?_
  refine v_aload_n hX d_M_layOut_35 rfl rfl ?_
  refine v_get hX 48 (v := .int 1) inT5 (hd 48 rfl) rfl rfl rfl 9 (by decide) k_594 rfl rfl d_M_layOut_36 ?_
  refine v_icmp_gt hX d_M_layOut_39 (tgt := 115) (by decide) (fun c => absurd c (by decide)) (fun _ => ?_)
  refine v_aload_n hX d_M_layOut_42 rfl rfl ?_
  refine v_get hX 48 (v := .int 0) inT5 (hd 48 rfl) rfl rfl rfl 23 (by decide) k_608 rfl rfl d_M_layOut_43 ?_
  refine v_sipush (v := 1500) hX d_M_layOut_46 (by decide) ?_
  refine v_icmp_gt hX d_M_layOut_49 (tgt := 115) (by decide) (fun c => absurd c (by decide)) (fun _ => ?_)
  refine v_iload_n hX d_M_layOut_52 rfl rfl ?_
  refine v_aload_n hX d_M_layOut_53 rfl rfl ?_
  refine v_get hX 48 (v := .int 1) inT5 (hd 48 rfl) rfl rfl rfl 9 (by decide) k_594 rfl rfl d_M_layOut_54 ?_
  refine v_icmp_ge hX d_M_layOut_57 (tgt := 69) (by decide) (fun _ => ?_) (fun c => absurd (by decide) c)
  refine v_iconst (v := (-1)) hX d_M_layOut_69 (by decide) ?_
  refine v_istore_n (lv' := [some (.ref (loc 48)), some (.int 0), some (.int 1), some (.int (-1))]) hX d_M_layOut_70 rfl (Nat.le_of_ble_eq_true rfl) rfl ?_
  refine v_iload_n hX d_M_layOut_71 rfl rfl ?_
  refine v_iload_n hX d_M_layOut_72 rfl rfl ?_
  refine v_icmp_eq hX d_M_layOut_73 (tgt := 91) (by decide) (fun c => absurd c (by decide)) (fun _ => ?_)
  refine v_aload_n hX d_M_layOut_76 rfl rfl ?_
  refine v_iload_n hX d_M_layOut_77 rfl rfl ?_
  refine c_V hX 48 (rest := []) hl (c_M_endNode_b hd c rfl h49 ) k_768 k_770 kp_31 k_6 k_771 rfl q_M_endNode ⟨(Nat.le_of_ble_eq_true rfl), (Nat.le_of_ble_eq_true rfl)⟩ (hd 48 rfl) rfl rfl rfl rfl rfl rfl (Nat.le_of_ble_eq_true rfl) d_M_layOut_78 ⟨(Nat.le_of_ble_eq_true rfl), (Nat.le_of_ble_eq_true rfl)⟩ (fun rv d2 lo2 va2 kc ns hp => ?_)
  obtain ⟨rfl, rfl, rfl, rfl, rfl, rfl⟩ := hp
  show V X D CL A _ _ _ _ _ _ _ []
  refine v_aload_n hX d_M_layOut_81 rfl rfl ?_
  refine v_get hX 48 (v := .ref (loc 50)) inT5 (hd 48 rfl) rfl rfl rfl 2 (by decide) k_587 rfl rfl d_M_layOut_82 ?_
  refine v_iload_n hX d_M_layOut_85 rfl rfl ?_
  refine v_iald hX 50 0 (v := (-1)) (hd 50 rfl) rfl h50 rfl (vpb (by decide)) (by first | rfl | decide) d_M_layOut_86 ?_
  refine v_istore_n (lv' := [some (.ref (loc 48)), some (.int (-1)), some (.int 1), some (.int (-1))]) hX d_M_layOut_87 rfl (Nat.le_of_ble_eq_true rfl) rfl ?_
  refine v_goto hX d_M_layOut_88 (tgt := 71) (by decide) ?_
  refine v_iload_n hX d_M_layOut_71 rfl rfl ?_
  refine v_iload_n hX d_M_layOut_72 rfl rfl ?_
  refine v_icmp_eq hX d_M_layOut_73 (tgt := 91) (by decide) (fun _ => ?_) (fun c => absurd (by decide) c)
  refine v_iload_n hX d_M_layOut_91 rfl rfl ?_
  refine v_aload_n hX d_M_layOut_92 rfl rfl ?_
  refine v_get hX 48 (v := .int 1) inT5 (hd 48 rfl) rfl rfl rfl 9 (by decide) k_594 rfl rfl d_M_layOut_93 ?_
  refine v_icmp_ne hX d_M_layOut_96 (tgt := 102) (by decide) (fun c => absurd (by decide) c) (fun _ => ?_)
  refine v_goto hX d_M_layOut_99 (tgt := 109) (by decide) ?_
  refine v_iinc (y := 2) (lv' := [some (.ref (loc 48)), some (.int (-1)), some (.int 2), some (.int (-1))]) hX d_M_layOut_109 rfl (by decide) rfl ?_
  refine v_goto hX d_M_layOut_112 (tgt := 34) (by decide) ?_
  refine v_iload_n hX d_M_layOut_34 rfl rfl ?_
  refine v_aload_n hX d_M_layOut_35 rfl rfl ?_
  refine v_get hX 48 (v := .int 1) inT5 (hd 48 rfl) rfl rfl rfl 9 (by decide) k_594 rfl rfl d_M_layOut_36 ?_
  refine v_icmp_gt hX d_M_layOut_39 (tgt := 115) (by decide) (fun _ => ?_) (fun c => absurd (by decide) c)
  exact v_vret hX hE d_M_layOut_115 (Nat.le_of_ble_eq_true rfl) (Nat.le_of_ble_eq_true rfl) ⟨rfl, rfl, rfl, rfl, rfl, rfl⟩
set_option maxHeartbeats 4000000 in
set_option maxRecDepth 100000 in
theorem c_M_paginate {l : Launch} {D : va_G} {A : Nat → Prop} {cI cB cZ cJ cN : ClassId} {loc : Nat → Nat} {val : Nat → va_E} {dom : Nat → Prop} (hd : ∀ k, (Nat.ble 48 k && Nat.ble (k + 1) 77) = true → dom k) (r c : Int32) (h48 : val 48 = .inr (5, [.int 0, .ref (loc 49), .ref (loc 50), .ref (loc 51), .ref (loc 52), .ref (loc 53), .ref (loc 54), .ref (loc 55), .ref (loc 56), .int 1, .int 0, .int 0, .ref (loc 57), .ref (loc 58), .ref (loc 59), .ref (loc 60), .ref (loc 61), .ref (loc 62), .int 0, .int 0, .int r, .int c, .int 1, .int 0, .ref (loc 63), .ref (loc 64), .ref (loc 65), .ref (loc 66), .ref (loc 67), .ref (loc 68), .ref (loc 69), .ref (loc 70), .ref (loc 71), .ref (loc 72), .int 0, .ref (loc 73), .ref (loc 74), .ref (loc 75), .int 0, .int 0, .int 0, .int 0, .int (-1), .int 0, .int 0]))  : kM l y_M_paginate (Cond.code y_M_paginate b_M_paginate 7 (some FieldType.int) :: TT) (rmL 1) D CL (TY cI cB cZ cJ cN) A [.ref (loc 48)] (dom) loc val (fun rv d lo va kc ns => rv = some (.int 1) ∧ dom = d ∧ loc = lo ∧ val = va ∧ kc = 0 ∧ ns = 0) := by
  refine kM_of (lv0 := [some (.ref (loc 48)), none, none, none, none, none, none]) (own := "ProsePagesModel") (by decide) rfl (List.forall_mem_cons.mpr ⟨rfl, fun _ h => nomatch h⟩) (Nat.le_of_ble_eq_true rfl) rfl (Nat.le_of_ble_eq_true rfl) (fun X hl hX hE hin0 => ?_)
  refine v_iconst (v := 0) hX d_M_paginate_0 (by decide) ?_
  refine v_istore_n (lv' := [some (.ref (loc 48)), some (.int 0), none, none, none, none, none]) hX d_M_paginate_1 rfl (Nat.le_of_ble_eq_true rfl) rfl ?_
  refine v_iconst (v := 0) hX d_M_paginate_2 (by decide) ?_
  refine v_istore_n (lv' := [some (.ref (loc 48)), some (.int 0), some (.int 0), none, none, none, none]) hX d_M_paginate_3 rfl (Nat.le_of_ble_eq_true rfl) rfl ?_
  refine v_iconst (v := 0) hX d_M_paginate_4 (by decide) ?_
  refine v_istore_n (lv' := [some (.ref (loc 48)), some (.int 0), some (.int 0), some (.int 0), none, none, none]) hX d_M_paginate_5 rfl (Nat.le_of_ble_eq_true rfl) rfl ?_
  refine v_iconst (v := 0) hX d_M_paginate_6 (by decide) ?_
  refine v_istore (lv' := [some (.ref (loc 48)), some (.int 0), some (.int 0), some (.int 0), some (.int 0), none, none]) hX d_M_paginate_7 (Nat.le_of_ble_eq_true rfl) rfl ?_
  refine v_iload hX d_M_paginate_9 rfl ?_
  refine v_aload_n hX d_M_paginate_11 rfl rfl ?_
  refine v_get hX 48 (v := .int 0) inT5 (hd 48 rfl) rfl h48 rfl 18 (by decide) k_603 rfl rfl d_M_paginate_12 ?_
  refine v_icmp_ge hX d_M_paginate_15 (tgt := 189) (by decide) (fun _ => ?_) (fun c => absurd (by decide) c)
  refine v_iload_n hX d_M_paginate_189 rfl rfl ?_
  refine v_if_eq hX d_M_paginate_190 (tgt := 207) (by decide) (fun _ => ?_) (fun c => absurd (by decide) c)
  refine v_iconst (v := 1) hX d_M_paginate_207 (by decide) ?_
  exact v_iret hX hE d_M_paginate_208 (Nat.le_of_ble_eq_true rfl) (Nat.le_of_ble_eq_true rfl) ⟨rfl, rfl, rfl, rfl, rfl, rfl⟩
