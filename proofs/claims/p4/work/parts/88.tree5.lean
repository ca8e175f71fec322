theorem k_objc : Cond.code objectInit ⟨#[0xb1]⟩ 1 none ∈ TT := TT_in 71 (by decide +kernel) (by decide +kernel)
set_option maxHeartbeats 4000000 in
set_option maxRecDepth 100000 in
theorem c_N_init0 {l : Launch} {D : va_G} {A : Nat → Prop} {cI cB cZ cJ cN : ClassId} {dom : Nat → Prop} {loc : Nat → Nat} {val : Nat → va_E} (j : Nat) (nu ki v0 fr : Int32) (hj : dom j) (hv : val j = .inr (0, [.int 0, .int 0, .null, .int 0, .int 0, .int 0, .int 0, .null, .null, .null, .int 0, .int 0])) : kM l y_N_init (Cond.code y_N_init b_N_init 6 none :: TT) (rmL 1) D CL (TY cI cB cZ cJ cN) A [.ref (loc j), .int nu, .int ki, .int v0, .null, .int fr] (dom) loc val (fun rv d lo va kc ns => rv = none ∧ dom = d ∧ loc = lo ∧ va_up val j (.inr (0, [.int nu, .int ki, .null, .int 1, .int fr, .int fr, .int v0, .null, .null, .null, .int 0, .int (-1)])) = va ∧ kc = 0 ∧ ns = 0) := by
  refine kM_of (lv0 := [some (.ref (loc j)), some (.int nu), some (.int ki), some (.int v0), some (.null), some (.int fr)]) (own := "ProsePages$Node") (by decide) rfl (List.forall_mem_cons.mpr ⟨rfl, List.forall_mem_cons.mpr ⟨rfl, List.forall_mem_cons.mpr ⟨rfl, List.forall_mem_cons.mpr ⟨rfl, List.forall_mem_cons.mpr ⟨rfl, List.forall_mem_cons.mpr ⟨rfl, fun _ h => nomatch h⟩⟩⟩⟩⟩⟩) (Nat.le_of_ble_eq_true rfl) rfl (Nat.le_of_ble_eq_true rfl) (fun X hl hX hE hin0 => ?_)
  refine v_aload_n hX d_N_init_0 rfl rfl ?_
  refine v_objInit hX ml_N_3 im_O_init k_objc ⟨by decide, by decide⟩ rfl (Nat.le_of_ble_eq_true rfl) d_N_init_1 ?_
  refine v_aload_n hX d_N_init_4 rfl rfl ?_
  refine v_iconst (v := (-1)) hX d_N_init_5 (by decide) ?_
  refine v_putE hX j (fs2 := [.int 0, .int 0, .null, .int 0, .int 0, .int 0, .int 0, .null, .null, .null, .int 0, .int (-1)]) inT0 tyX0 tyX0_ok nmX0 hj rfl hv rfl 11 (by decide) fl_N_9 rfl rfl rfl rfl rfl (Nat.le_of_ble_eq_true rfl) d_N_init_6 rfl ?_
  refine v_aload_n hX d_N_init_9 rfl rfl ?_
  refine v_iload_n hX d_N_init_10 rfl rfl ?_
  refine v_putFE hX j (fs2 := [.int nu, .int 0, .null, .int 0, .int 0, .int 0, .int 0, .null, .null, .null, .int 0, .int (-1)]) inT0 tyX0 tyX0_ok nmX0 hin0 hj rfl kup_self rfl 0 (by decide) fl_N_15 rfl rfl rfl rfl rfl (Nat.le_of_ble_eq_true rfl) d_N_init_11 rfl ?_
  refine v_aload_n hX d_N_init_14 rfl rfl ?_
  refine v_iload_n hX d_N_init_15 rfl rfl ?_
  refine v_putFE hX j (fs2 := [.int nu, .int ki, .null, .int 0, .int 0, .int 0, .int 0, .null, .null, .null, .int 0, .int (-1)]) inT0 tyX0 tyX0_ok nmX0 hin0 hj rfl kup_self rfl 1 (by decide) fl_N_18 rfl rfl rfl rfl rfl (Nat.le_of_ble_eq_true rfl) d_N_init_16 rfl ?_
  refine v_aload_n hX d_N_init_19 rfl rfl ?_
  refine v_iload_n hX d_N_init_20 rfl rfl ?_
  refine v_putE hX j (fs2 := [.int nu, .int ki, .null, .int 0, .int 0, .int 0, .int v0, .null, .null, .null, .int 0, .int (-1)]) inT0 tyX0 tyX0_ok nmX0 hj rfl kup_self rfl 6 (by decide) fl_N_21 rfl rfl rfl rfl rfl (Nat.le_of_ble_eq_true rfl) d_N_init_21 rfl ?_
  refine v_aload_n hX d_N_init_24 rfl rfl ?_
  refine v_aloadQ hX none d_N_init_25 rfl ?_
  refine v_putFE hX j (fs2 := [.int nu, .int ki, .null, .int 0, .int 0, .int 0, .int v0, .null, .null, .null, .int 0, .int (-1)]) inT0 tyX0 tyX0_ok nmX0 hin0 hj rfl kup_self rfl 2 (by decide) fl_N_24 rfl rfl rfl rfl rfl (Nat.le_of_ble_eq_true rfl) d_N_init_27 rfl ?_
  refine v_aload_n hX d_N_init_30 rfl rfl ?_
  refine v_aloadQ hX none d_N_init_31 rfl ?_
  refine v_ifnonnull hX none d_N_init_33 (tgt := 40) (by decide) (fun _ h => nomatch h) (fun _ => ?_)
  refine v_iconst (v := 1) hX d_N_init_36 (by decide) ?_
  refine v_goto hX d_N_init_37 (tgt := 47) (by decide) ?_
  refine v_putFE hX j (fs2 := [.int nu, .int ki, .null, .int 1, .int 0, .int 0, .int v0, .null, .null, .null, .int 0, .int (-1)]) inT0 tyX0 tyX0_ok nmX0 hin0 hj rfl kup_self rfl 3 (by decide) fl_N_28 rfl rfl rfl rfl rfl (Nat.le_of_ble_eq_true rfl) d_N_init_47 rfl ?_
  refine v_aload_n hX d_N_init_50 rfl rfl ?_
  refine v_iload hX d_N_init_51 rfl ?_
  refine v_putFE hX j (fs2 := [.int nu, .int ki, .null, .int 1, .int fr, .int 0, .int v0, .null, .null, .null, .int 0, .int (-1)]) inT0 tyX0 tyX0_ok nmX0 hin0 hj rfl kup_self rfl 4 (by decide) fl_N_31 rfl rfl rfl rfl rfl (Nat.le_of_ble_eq_true rfl) d_N_init_53 rfl ?_
  refine v_aload_n hX d_N_init_56 rfl rfl ?_
  refine v_iload hX d_N_init_57 rfl ?_
  refine v_putE hX j (fs2 := [.int nu, .int ki, .null, .int 1, .int fr, .int fr, .int v0, .null, .null, .null, .int 0, .int (-1)]) inT0 tyX0 tyX0_ok nmX0 hj rfl kup_self rfl 5 (by decide) fl_N_34 rfl rfl rfl rfl rfl (Nat.le_of_ble_eq_true rfl) d_N_init_59 rfl ?_
  exact v_vret hX hE d_N_init_62 (Nat.le_of_ble_eq_true rfl) (Nat.le_of_ble_eq_true rfl) ⟨rfl, rfl, rfl, by simp only [kup_up], rfl, rfl⟩
set_option maxHeartbeats 4000000 in
set_option maxRecDepth 100000 in
theorem c_N_init1 {l : Launch} {D : va_G} {A : Nat → Prop} {cI cB cZ cJ cN : ClassId} {dom : Nat → Prop} {loc : Nat → Nat} {val : Nat → va_E} (j h : Nat) (nu ki v0 fr dp : Int32) {x0 x1 x2 : Value} {xs9 : List Value} (hne : j ≠ h) (hj : dom j) (hh : dom h) (hv : val j = .inr (0, [.int 0, .int 0, .null, .int 0, .int 0, .int 0, .int 0, .null, .null, .null, .int 0, .int 0])) (hvh : val h = .inr (0, x0 :: x1 :: x2 :: .int dp :: xs9)) : kM l y_N_init (Cond.code y_N_init b_N_init 6 none :: TT) (rmL 1) D CL (TY cI cB cZ cJ cN) A [.ref (loc j), .int nu, .int ki, .int v0, .ref (loc h), .int fr] (dom) loc val (fun rv d lo va kc ns => rv = none ∧ dom = d ∧ loc = lo ∧ va_up val j (.inr (0, [.int nu, .int ki, .ref (loc h), .int (dp + 1), .int fr, .int fr, .int v0, .null, .null, .null, .int 0, .int (-1)])) = va ∧ kc = 0 ∧ ns = 0) := by
  refine kM_of (lv0 := [some (.ref (loc j)), some (.int nu), some (.int ki), some (.int v0), some (.ref (loc h)), some (.int fr)]) (own := "ProsePages$Node") (by decide) rfl (List.forall_mem_cons.mpr ⟨rfl, List.forall_mem_cons.mpr ⟨rfl, List.forall_mem_cons.mpr ⟨rfl, List.forall_mem_cons.mpr ⟨rfl, List.forall_mem_cons.mpr ⟨rfl, List.forall_mem_cons.mpr ⟨rfl, fun _ h => nomatch h⟩⟩⟩⟩⟩⟩) (Nat.le_of_ble_eq_true rfl) rfl (Nat.le_of_ble_eq_true rfl) (fun X hl hX hE hin0 => ?_)
  refine v_aload_n hX d_N_init_0 rfl rfl ?_
  refine v_objInit hX ml_N_3 im_O_init k_objc ⟨by decide, by decide⟩ rfl (Nat.le_of_ble_eq_true rfl) d_N_init_1 ?_
  refine v_aload_n hX d_N_init_4 rfl rfl ?_
  refine v_iconst (v := (-1)) hX d_N_init_5 (by decide) ?_
  refine v_putE hX j (fs2 := [.int 0, .int 0, .null, .int 0, .int 0, .int 0, .int 0, .null, .null, .null, .int 0, .int (-1)]) inT0 tyX0 tyX0_ok nmX0 hj rfl hv rfl 11 (by decide) fl_N_9 rfl rfl rfl rfl rfl (Nat.le_of_ble_eq_true rfl) d_N_init_6 rfl ?_
  refine v_aload_n hX d_N_init_9 rfl rfl ?_
  refine v_iload_n hX d_N_init_10 rfl rfl ?_
  refine v_putFE hX j (fs2 := [.int nu, .int 0, .null, .int 0, .int 0, .int 0, .int 0, .null, .null, .null, .int 0, .int (-1)]) inT0 tyX0 tyX0_ok nmX0 hin0 hj rfl kup_self rfl 0 (by decide) fl_N_15 rfl rfl rfl rfl rfl (Nat.le_of_ble_eq_true rfl) d_N_init_11 rfl ?_
  refine v_aload_n hX d_N_init_14 rfl rfl ?_
  refine v_iload_n hX d_N_init_15 rfl rfl ?_
  refine v_putFE hX j (fs2 := [.int nu, .int ki, .null, .int 0, .int 0, .int 0, .int 0, .null, .null, .null, .int 0, .int (-1)]) inT0 tyX0 tyX0_ok nmX0 hin0 hj rfl kup_self rfl 1 (by decide) fl_N_18 rfl rfl rfl rfl rfl (Nat.le_of_ble_eq_true rfl) d_N_init_16 rfl ?_
  refine v_aload_n hX d_N_init_19 rfl rfl ?_
  refine v_iload_n hX d_N_init_20 rfl rfl ?_
  refine v_putE hX j (fs2 := [.int nu, .int ki, .null, .int 0, .int 0, .int 0, .int v0, .null, .null, .null, .int 0, .int (-1)]) inT0 tyX0 tyX0_ok nmX0 hj rfl kup_self rfl 6 (by decide) fl_N_21 rfl rfl rfl rfl rfl (Nat.le_of_ble_eq_true rfl) d_N_init_21 rfl ?_
  refine v_aload_n hX d_N_init_24 rfl rfl ?_
  refine v_aload hX d_N_init_25 rfl ?_
  refine v_putFE hX j (fs2 := [.int nu, .int ki, .ref (loc h), .int 0, .int 0, .int 0, .int v0, .null, .null, .null, .int 0, .int (-1)]) inT0 tyX0 tyX0_ok nmX0 hin0 hj rfl kup_self rfl 2 (by decide) fl_N_24 rfl rfl rfl rfl rfl (Nat.le_of_ble_eq_true rfl) d_N_init_27 rfl ?_
  refine v_aload_n hX d_N_init_30 rfl rfl ?_
  refine v_aload hX d_N_init_31 rfl ?_
  refine v_ifnonnull hX (some (loc h)) d_N_init_33 (tgt := 40) (by decide) (fun _ _ => ?_) (fun h => nomatch h)
  refine v_aload hX d_N_init_40 rfl ?_
  refine v_get hX h (v := .int dp) inT0 hh rfl (kup_ne (Ne.symm hne) (kup_ne (Ne.symm hne) (kup_ne (Ne.symm hne) (kup_ne (Ne.symm hne) (kup_ne (Ne.symm hne) hvh))))) rfl 3 (by decide) fl_N_28 rfl rfl d_N_init_42 ?_
  refine v_iconst (v := 1) hX d_N_init_45 (by decide) ?_
  refine v_iadd hX d_N_init_46 ?_
  refine v_putFE hX j (fs2 := [.int nu, .int ki, .ref (loc h), .int (dp + 1), .int 0, .int 0, .int v0, .null, .null, .null, .int 0, .int (-1)]) inT0 tyX0 tyX0_ok nmX0 hin0 hj rfl kup_self rfl 3 (by decide) fl_N_28 rfl rfl rfl rfl rfl (Nat.le_of_ble_eq_true rfl) d_N_init_47 rfl ?_
  refine v_aload_n hX d_N_init_50 rfl rfl ?_
  refine v_iload hX d_N_init_51 rfl ?_
  refine v_putFE hX j (fs2 := [.int nu, .int ki, .ref (loc h), .int (dp + 1), .int fr, .int 0, .int v0, .null, .null, .null, .int 0, .int (-1)]) inT0 tyX0 tyX0_ok nmX0 hin0 hj rfl kup_self rfl 4 (by decide) fl_N_31 rfl rfl rfl rfl rfl (Nat.le_of_ble_eq_true rfl) d_N_init_53 rfl ?_
  refine v_aload_n hX d_N_init_56 rfl rfl ?_
  refine v_iload hX d_N_init_57 rfl ?_
  refine v_putE hX j (fs2 := [.int nu, .int ki, .ref (loc h), .int (dp + 1), .int fr, .int fr, .int v0, .null, .null, .null, .int 0, .int (-1)]) inT0 tyX0 tyX0_ok nmX0 hj rfl kup_self rfl 5 (by decide) fl_N_34 rfl rfl rfl rfl rfl (Nat.le_of_ble_eq_true rfl) d_N_init_59 rfl ?_
  exact v_vret hX hE d_N_init_62 (Nat.le_of_ble_eq_true rfl) (Nat.le_of_ble_eq_true rfl) ⟨rfl, rfl, rfl, by simp only [kup_up], rfl, rfl⟩
