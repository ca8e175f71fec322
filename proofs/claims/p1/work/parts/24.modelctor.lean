def mlist (cI cB cZ : ClassId) (loc : Nat → Nat) : List va_E := [
  .inr (5, [.int 0, .ref (loc 49), .ref (loc 50), .ref (loc 51), .ref (loc 52), .ref (loc 53), .ref (loc 54), .ref (loc 55), .ref (loc 56), .int 1, .int 0, .int 0, .ref (loc 57), .ref (loc 58), .ref (loc 59), .ref (loc 60), .ref (loc 61), .ref (loc 62), .int 0, .int 0, .int 0, .int 0, .int 0, .int 0, .ref (loc 63), .ref (loc 64), .ref (loc 65), .ref (loc 66), .ref (loc 67), .ref (loc 68), .ref (loc 69), .ref (loc 70), .ref (loc 71), .ref (loc 72), .int 0, .ref (loc 73), .ref (loc 74), .ref (loc 75), .int 0, .int 0, .int 0, .int 0, .int 0, .int 0, .int 0]),
  .inl (cI, 300, .inl (upd (fun _ => 0) (Int32.toNatClampNeg 0) 11)),
  .inl (cI, 300, .inl (upd (fun _ => 0) (Int32.toNatClampNeg 0) (-1))),
  .inl (cI, 300, .inl (upd (fun _ => 0) (Int32.toNatClampNeg 0) 0)),
  .inl (cI, 300, .inl (upd (fun _ => 0) (Int32.toNatClampNeg 0) 1)),
  .inl (cI, 300, .inl (fun _ => 0)),
  .inl (cI, 300, .inl (upd (fun _ => 0) (Int32.toNatClampNeg 0) 0)),
  .inl (cI, 300, .inl (upd (fun _ => 0) (Int32.toNatClampNeg 0) (-1))),
  .inl (cB, 4000, .inl (fun _ => 0)),
  .inl (cI, 1501, .inl (fun _ => 0)),
  .inl (cI, 1501, .inl (fun _ => 0)),
  .inl (cI, 1501, .inl (fun _ => 0)),
  .inl (cI, 1501, .inl (fun _ => 0)),
  .inl (cZ, 1501, .inl (fun _ => 0)),
  .inl (cB, 90060, .inl (fun _ => 0)),
  .inl (cI, 300, .inl (fun _ => 0)),
  .inl (cI, 300, .inl (fun _ => 0)),
  .inl (cI, 14, .inl (fun _ => 0)),
  .inl (cI, 14, .inl (fun _ => 0)),
  .inl (cI, 14, .inl (fun _ => 0)),
  .inl (cI, 14, .inl (fun _ => 0)),
  .inl (cZ, 14, .inl (fun _ => 0)),
  .inl (cZ, 14, .inl (fun _ => 0)),
  .inl (cZ, 14, .inl (fun _ => 0)),
  .inl (cZ, 14, .inl (fun _ => 0)),
  .inl (cI, 4010, .inl (fun _ => 0)),
  .inl (cI, 4010, .inl (fun _ => 0)),
  .inl (cI, 4300, .inl (fun _ => 0))]
def mcell (cI cB cZ : ClassId) (loc : Nat → Nat) (k : Nat) : va_E := (mlist cI cB cZ loc).getD (k - 48) (.inr (0, []))
set_option maxHeartbeats 4000000 in
set_option maxRecDepth 100000 in
/-- empty() in the constructor -/
theorem c_M_empty0 {l : Launch} {D : va_G} {A : Nat → Prop} {cI cB cZ cJ cN : ClassId} {loc : Nat → Nat} {val : Nat → va_E} (h48 : val 48 = .inr (5, [.int 0, .ref (loc 49), .ref (loc 50), .ref (loc 51), .ref (loc 52), .ref (loc 53), .ref (loc 54), .ref (loc 55), .ref (loc 56), .int 0, .int 0, .int 0, .ref (loc 57), .ref (loc 58), .ref (loc 59), .ref (loc 60), .ref (loc 61), .ref (loc 62), .int 0, .int 0, .int 0, .int 0, .int 0, .int 0, .ref (loc 63), .ref (loc 64), .ref (loc 65), .ref (loc 66), .ref (loc 67), .ref (loc 68), .ref (loc 69), .ref (loc 70), .ref (loc 71), .ref (loc 72), .int 0, .ref (loc 73), .ref (loc 74), .ref (loc 75), .int 0, .int 0, .int 0, .int 0, .int 0, .int 0, .int 0])) (h49 : val 49 = .inl (cI, 300, .inl (fun _ => 0))) (h50 : val 50 = .inl (cI, 300, .inl (fun _ => 0))) (h51 : val 51 = .inl (cI, 300, .inl (fun _ => 0))) (h52 : val 52 = .inl (cI, 300, .inl (fun _ => 0))) (h54 : val 54 = .inl (cI, 300, .inl (fun _ => 0))) (h55 : val 55 = .inl (cI, 300, .inl (fun _ => 0))) : kM l y_M_empty (Cond.code y_M_empty b_M_empty 1 none :: TT) (rmL 1) D CL (TY cI cB cZ cJ cN) A [.ref (loc 48)] (kd 76) loc val (fun rv d lo va kc ns => rv = none ∧ kd 76 = d ∧ loc = lo ∧ va_up (va_up (va_up (va_up (va_up (va_up (va_up (va_up (va_up (va_up (va_up (va_up (va_up (va_up (val) 49 (.inl (cI, 300, .inl (upd (fun _ => 0) (Int32.toNatClampNeg 0) 11)))) 50 (.inl (cI, 300, .inl (upd (fun _ => 0) (Int32.toNatClampNeg 0) (-1))))) 52 (.inl (cI, 300, .inl (upd (fun _ => 0) (Int32.toNatClampNeg 0) 1)))) 55 (.inl (cI, 300, .inl (upd (fun _ => 0) (Int32.toNatClampNeg 0) (-1))))) 51 (.inl (cI, 300, .inl (upd (fun _ => 0) (Int32.toNatClampNeg 0) 0)))) 54 (.inl (cI, 300, .inl (upd (fun _ => 0) (Int32.toNatClampNeg 0) 0)))) 48 (.inr (5, [.int 0, .ref (loc 49), .ref (loc 50), .ref (loc 51), .ref (loc 52), .ref (loc 53), .ref (loc 54), .ref (loc 55), .ref (loc 56), .int 1, .int 0, .int 0, .ref (loc 57), .ref (loc 58), .ref (loc 59), .ref (loc 60), .ref (loc 61), .ref (loc 62), .int 0, .int 0, .int 0, .int 0, .int 0, .int 0, .ref (loc 63), .ref (loc 64), .ref (loc 65), .ref (loc 66), .ref (loc 67), .ref (loc 68), .ref (loc 69), .ref (loc 70), .ref (loc 71), .ref (loc 72), .int 0, .ref (loc 73), .ref (loc 74), .ref (loc 75), .int 0, .int 0, .int 0, .int 0, .int 0, .int 0, .int 0]))) 48 (.inr (5, [.int 0, .ref (loc 49), .ref (loc 50), .ref (loc 51), .ref (loc 52), .ref (loc 53), .ref (loc 54), .ref (loc 55), .ref (loc 56), .int 1, .int 0, .int 0, .ref (loc 57), .ref (loc 58), .ref (loc 59), .ref (loc 60), .ref (loc 61), .ref (loc 62), .int 0, .int 0, .int 0, .int 0, .int 0, .int 0, .ref (loc 63), .ref (loc 64), .ref (loc 65), .ref (loc 66), .ref (loc 67), .ref (loc 68), .ref (loc 69), .ref (loc 70), .ref (loc 71), .ref (loc 72), .int 0, .ref (loc 73), .ref (loc 74), .ref (loc 75), .int 0, .int 0, .int 0, .int 0, .int 0, .int 0, .int 0]))) 48 (.inr (5, [.int 0, .ref (loc 49), .ref (loc 50), .ref (loc 51), .ref (loc 52), .ref (loc 53), .ref (loc 54), .ref (loc 55), .ref (loc 56), .int 1, .int 0, .int 0, .ref (loc 57), .ref (loc 58), .ref (loc 59), .ref (loc 60), .ref (loc 61), .ref (loc 62), .int 0, .int 0, .int 0, .int 0, .int 0, .int 0, .ref (loc 63), .ref (loc 64), .ref (loc 65), .ref (loc 66), .ref (loc 67), .ref (loc 68), .ref (loc 69), .ref (loc 70), .ref (loc 71), .ref (loc 72), .int 0, .ref (loc 73), .ref (loc 74), .ref (loc 75), .int 0, .int 0, .int 0, .int 0, .int 0, .int 0, .int 0]))) 48 (.inr (5, [.int 0, .ref (loc 49), .ref (loc 50), .ref (loc 51), .ref (loc 52), .ref (loc 53), .ref (loc 54), .ref (loc 55), .ref (loc 56), .int 1, .int 0, .int 0, .ref (loc 57), .ref (loc 58), .ref (loc 59), .ref (loc 60), .ref (loc 61), .ref (loc 62), .int 0, .int 0, .int 0, .int 0, .int 0, .int 0, .ref (loc 63), .ref (loc 64), .ref (loc 65), .ref (loc 66), .ref (loc 67), .ref (loc 68), .ref (loc 69), .ref (loc 70), .ref (loc 71), .ref (loc 72), .int 0, .ref (loc 73), .ref (loc 74), .ref (loc 75), .int 0, .int 0, .int 0, .int 0, .int 0, .int 0, .int 0]))) 48 (.inr (5, [.int 0, .ref (loc 49), .ref (loc 50), .ref (loc 51), .ref (loc 52), .ref (loc 53), .ref (loc 54), .ref (loc 55), .ref (loc 56), .int 1, .int 0, .int 0, .ref (loc 57), .ref (loc 58), .ref (loc 59), .ref (loc 60), .ref (loc 61), .ref (loc 62), .int 0, .int 0, .int 0, .int 0, .int 0, .int 0, .ref (loc 63), .ref (loc 64), .ref (loc 65), .ref (loc 66), .ref (loc 67), .ref (loc 68), .ref (loc 69), .ref (loc 70), .ref (loc 71), .ref (loc 72), .int 0, .ref (loc 73), .ref (loc 74), .ref (loc 75), .int 0, .int 0, .int 0, .int 0, .int 0, .int 0, .int 0]))) 48 (.inr (5, [.int 0, .ref (loc 49), .ref (loc 50), .ref (loc 51), .ref (loc 52), .ref (loc 53), .ref (loc 54), .ref (loc 55), .ref (loc 56), .int 1, .int 0, .int 0, .ref (loc 57), .ref (loc 58), .ref (loc 59), .ref (loc 60), .ref (loc 61), .ref (loc 62), .int 0, .int 0, .int 0, .int 0, .int 0, .int 0, .ref (loc 63), .ref (loc 64), .ref (loc 65), .ref (loc 66), .ref (loc 67), .ref (loc 68), .ref (loc 69), .ref (loc 70), .ref (loc 71), .ref (loc 72), .int 0, .ref (loc 73), .ref (loc 74), .ref (loc 75), .int 0, .int 0, .int 0, .int 0, .int 0, .int 0, .int 0]))) 48 (.inr (5, [.int 0, .ref (loc 49), .ref (loc 50), .ref (loc 51), .ref (loc 52), .ref (loc 53), .ref (loc 54), .ref (loc 55), .ref (loc 56), .int 1, .int 0, .int 0, .ref (loc 57), .ref (loc 58), .ref (loc 59), .ref (loc 60), .ref (loc 61), .ref (loc 62), .int 0, .int 0, .int 0, .int 0, .int 0, .int 0, .ref (loc 63), .ref (loc 64), .ref (loc 65), .ref (loc 66), .ref (loc 67), .ref (loc 68), .ref (loc 69), .ref (loc 70), .ref (loc 71), .ref (loc 72), .int 0, .ref (loc 73), .ref (loc 74), .ref (loc 75), .int 0, .int 0, .int 0, .int 0, .int 0, .int 0, .int 0]))) 48 (.inr (5, [.int 0, .ref (loc 49), .ref (loc 50), .ref (loc 51), .ref (loc 52), .ref (loc 53), .ref (loc 54), .ref (loc 55), .ref (loc 56), .int 1, .int 0, .int 0, .ref (loc 57), .ref (loc 58), .ref (loc 59), .ref (loc 60), .ref (loc 61), .ref (loc 62), .int 0, .int 0, .int 0, .int 0, .int 0, .int 0, .ref (loc 63), .ref (loc 64), .ref (loc 65), .ref (loc 66), .ref (loc 67), .ref (loc 68), .ref (loc 69), .ref (loc 70), .ref (loc 71), .ref (loc 72), .int 0, .ref (loc 73), .ref (loc 74), .ref (loc 75), .int 0, .int 0, .int 0, .int 0, .int 0, .int 0, .int 0])) = va ∧ kc = 0 ∧ ns = 0) := by
  refine kM_of (lv0 := [some (.ref (loc 48))]) (own := "ProsePagesModel") (by decide) rfl (List.forall_mem_cons.mpr ⟨rfl, fun _ h => nomatch h⟩) (Nat.le_of_ble_eq_true rfl) rfl (Nat.le_of_ble_eq_true rfl) (fun X hl hX hE hin0 => ?_)
  refine v_aload_n hX d_M_empty_0 rfl rfl ?_
  refine v_get hX 48 (v := .ref (loc 49)) inT5 (kd_b rfl) rfl h48 rfl 1 (by decide) k_586 rfl rfl d_M_empty_1 ?_
  refine v_iconst (v := 0) hX d_M_empty_4 (by decide) ?_
  refine v_bipush (v := 11) hX d_M_empty_5 (by decide) ?_
  refine v_iast hX 49 0 (kd_b rfl) rfl h49 rfl (vpb (by decide)) d_M_empty_7 ?_
  refine v_aload_n hX d_M_empty_8 rfl rfl ?_
  refine v_get hX 48 (v := .ref (loc 50)) inT5 (kd_b rfl) rfl h48 rfl 2 (by decide) k_587 rfl rfl d_M_empty_9 ?_
  refine v_iconst (v := 0) hX d_M_empty_12 (by decide) ?_
  refine v_iconst (v := (-1)) hX d_M_empty_13 (by decide) ?_
  refine v_iast hX 50 0 (kd_b rfl) rfl h50 rfl (vpb (by decide)) d_M_empty_14 ?_
  refine v_aload_n hX d_M_empty_15 rfl rfl ?_
  refine v_get hX 48 (v := .ref (loc 52)) inT5 (kd_b rfl) rfl h48 rfl 4 (by decide) k_589 rfl rfl d_M_empty_16 ?_
  refine v_iconst (v := 0) hX d_M_empty_19 (by decide) ?_
  refine v_iconst (v := 1) hX d_M_empty_20 (by decide) ?_
  refine v_iast hX 52 0 (kd_b rfl) rfl h52 rfl (vpb (by decide)) d_M_empty_21 ?_
  refine v_aload_n hX d_M_empty_22 rfl rfl ?_
  refine v_get hX 48 (v := .ref (loc 55)) inT5 (kd_b rfl) rfl h48 rfl 7 (by decide) k_592 rfl rfl d_M_empty_23 ?_
  refine v_iconst (v := 0) hX d_M_empty_26 (by decide) ?_
  refine v_iconst (v := (-1)) hX d_M_empty_27 (by decide) ?_
  refine v_iast hX 55 0 (kd_b rfl) rfl h55 rfl (vpb (by decide)) d_M_empty_28 ?_
  refine v_aload_n hX d_M_empty_29 rfl rfl ?_
  refine v_get hX 48 (v := .ref (loc 51)) inT5 (kd_b rfl) rfl h48 rfl 3 (by decide) k_588 rfl rfl d_M_empty_30 ?_
  refine v_iconst (v := 0) hX d_M_empty_33 (by decide) ?_
  refine v_iconst (v := 0) hX d_M_empty_34 (by decide) ?_
  refine v_iast hX 51 0 (kd_b rfl) rfl h51 rfl (vpb (by decide)) d_M_empty_35 ?_
  refine v_aload_n hX d_M_empty_36 rfl rfl ?_
  refine v_get hX 48 (v := .ref (loc 54)) inT5 (kd_b rfl) rfl h48 rfl 6 (by decide) k_591 rfl rfl d_M_empty_37 ?_
  refine v_iconst (v := 0) hX d_M_empty_40 (by decide) ?_
  refine v_iconst (v := 0) hX d_M_empty_41 (by decide) ?_
  refine v_iast hX 54 0 (kd_b rfl) rfl h54 rfl (vpb (by decide)) d_M_empty_42 ?_
  refine v_aload_n hX d_M_empty_43 rfl rfl ?_
  refine v_iconst (v := 1) hX d_M_empty_44 (by decide) ?_
  refine v_putE hX 48 (fs2 := [.int 0, .ref (loc 49), .ref (loc 50), .ref (loc 51), .ref (loc 52), .ref (loc 53), .ref (loc 54), .ref (loc 55), .ref (loc 56), .int 1, .int 0, .int 0, .ref (loc 57), .ref (loc 58), .ref (loc 59), .ref (loc 60), .ref (loc 61), .ref (loc 62), .int 0, .int 0, .int 0, .int 0, .int 0, .int 0, .ref (loc 63), .ref (loc 64), .ref (loc 65), .ref (loc 66), .ref (loc 67), .ref (loc 68), .ref (loc 69), .ref (loc 70), .ref (loc 71), .ref (loc 72), .int 0, .ref (loc 73), .ref (loc 74), .ref (loc 75), .int 0, .int 0, .int 0, .int 0, .int 0, .int 0, .int 0]) inT5 tyX5 tyX5_ok nmX5 (kd_b rfl) rfl h48 rfl 9 (by decide) k_594 rfl rfl rfl rfl rfl (Nat.le_of_ble_eq_true rfl) d_M_empty_45 rfl ?_
  refine v_aload_n hX d_M_empty_48 rfl rfl ?_
  refine v_iconst (v := 0) hX d_M_empty_49 (by decide) ?_
  refine v_putE hX 48 (fs2 := [.int 0, .ref (loc 49), .ref (loc 50), .ref (loc 51), .ref (loc 52), .ref (loc 53), .ref (loc 54), .ref (loc 55), .ref (loc 56), .int 1, .int 0, .int 0, .ref (loc 57), .ref (loc 58), .ref (loc 59), .ref (loc 60), .ref (loc 61), .ref (loc 62), .int 0, .int 0, .int 0, .int 0, .int 0, .int 0, .ref (loc 63), .ref (loc 64), .ref (loc 65), .ref (loc 66), .ref (loc 67), .ref (loc 68), .ref (loc 69), .ref (loc 70), .ref (loc 71), .ref (loc 72), .int 0, .ref (loc 73), .ref (loc 74), .ref (loc 75), .int 0, .int 0, .int 0, .int 0, .int 0, .int 0, .int 0]) inT5 tyX5 tyX5_ok nmX5 (kd_b rfl) rfl rfl rfl 10 (by decide) k_595 rfl rfl rfl rfl rfl (Nat.le_of_ble_eq_true rfl) d_M_empty_50 rfl ?_
  refine v_aload_n hX d_M_empty_53 rfl rfl ?_
  refine v_iconst (v := 0) hX d_M_empty_54 (by decide) ?_
  refine v_putE hX 48 (fs2 := [.int 0, .ref (loc 49), .ref (loc 50), .ref (loc 51), .ref (loc 52), .ref (loc 53), .ref (loc 54), .ref (loc 55), .ref (loc 56), .int 1, .int 0, .int 0, .ref (loc 57), .ref (loc 58), .ref (loc 59), .ref (loc 60), .ref (loc 61), .ref (loc 62), .int 0, .int 0, .int 0, .int 0, .int 0, .int 0, .ref (loc 63), .ref (loc 64), .ref (loc 65), .ref (loc 66), .ref (loc 67), .ref (loc 68), .ref (loc 69), .ref (loc 70), .ref (loc 71), .ref (loc 72), .int 0, .ref (loc 73), .ref (loc 74), .ref (loc 75), .int 0, .int 0, .int 0, .int 0, .int 0, .int 0, .int 0]) inT5 tyX5 tyX5_ok nmX5 (kd_b rfl) rfl rfl rfl 11 (by decide) k_596 rfl rfl rfl rfl rfl (Nat.le_of_ble_eq_true rfl) d_M_empty_55 rfl ?_
  refine v_aload_n hX d_M_empty_58 rfl rfl ?_
  refine v_iconst (v := 0) hX d_M_empty_59 (by decide) ?_
  refine v_putE hX 48 (fs2 := [.int 0, .ref (loc 49), .ref (loc 50), .ref (loc 51), .ref (loc 52), .ref (loc 53), .ref (loc 54), .ref (loc 55), .ref (loc 56), .int 1, .int 0, .int 0, .ref (loc 57), .ref (loc 58), .ref (loc 59), .ref (loc 60), .ref (loc 61), .ref (loc 62), .int 0, .int 0, .int 0, .int 0, .int 0, .int 0, .ref (loc 63), .ref (loc 64), .ref (loc 65), .ref (loc 66), .ref (loc 67), .ref (loc 68), .ref (loc 69), .ref (loc 70), .ref (loc 71), .ref (loc 72), .int 0, .ref (loc 73), .ref (loc 74), .ref (loc 75), .int 0, .int 0, .int 0, .int 0, .int 0, .int 0, .int 0]) inT5 tyX5 tyX5_ok nmX5 (kd_b rfl) rfl rfl rfl 19 (by decide) k_604 rfl rfl rfl rfl rfl (Nat.le_of_ble_eq_true rfl) d_M_empty_60 rfl ?_
  refine v_aload_n hX d_M_empty_63 rfl rfl ?_
  refine v_iconst (v := 0) hX d_M_empty_64 (by decide) ?_
  refine v_putE hX 48 (fs2 := [.int 0, .ref (loc 49), .ref (loc 50), .ref (loc 51), .ref (loc 52), .ref (loc 53), .ref (loc 54), .ref (loc 55), .ref (loc 56), .int 1, .int 0, .int 0, .ref (loc 57), .ref (loc 58), .ref (loc 59), .ref (loc 60), .ref (loc 61), .ref (loc 62), .int 0, .int 0, .int 0, .int 0, .int 0, .int 0, .ref (loc 63), .ref (loc 64), .ref (loc 65), .ref (loc 66), .ref (loc 67), .ref (loc 68), .ref (loc 69), .ref (loc 70), .ref (loc 71), .ref (loc 72), .int 0, .ref (loc 73), .ref (loc 74), .ref (loc 75), .int 0, .int 0, .int 0, .int 0, .int 0, .int 0, .int 0]) inT5 tyX5 tyX5_ok nmX5 (kd_b rfl) rfl rfl rfl 18 (by decide) k_603 rfl rfl rfl rfl rfl (Nat.le_of_ble_eq_true rfl) d_M_empty_65 rfl ?_
  refine v_aload_n hX d_M_empty_68 rfl rfl ?_
  refine v_iconst (v := 0) hX d_M_empty_69 (by decide) ?_
  refine v_putE hX 48 (fs2 := [.int 0, .ref (loc 49), .ref (loc 50), .ref (loc 51), .ref (loc 52), .ref (loc 53), .ref (loc 54), .ref (loc 55), .ref (loc 56), .int 1, .int 0, .int 0, .ref (loc 57), .ref (loc 58), .ref (loc 59), .ref (loc 60), .ref (loc 61), .ref (loc 62), .int 0, .int 0, .int 0, .int 0, .int 0, .int 0, .ref (loc 63), .ref (loc 64), .ref (loc 65), .ref (loc 66), .ref (loc 67), .ref (loc 68), .ref (loc 69), .ref (loc 70), .ref (loc 71), .ref (loc 72), .int 0, .ref (loc 73), .ref (loc 74), .ref (loc 75), .int 0, .int 0, .int 0, .int 0, .int 0, .int 0, .int 0]) inT5 tyX5 tyX5_ok nmX5 (kd_b rfl) rfl rfl rfl 20 (by decide) k_605 rfl rfl rfl rfl rfl (Nat.le_of_ble_eq_true rfl) d_M_empty_70 rfl ?_
  refine v_aload_n hX d_M_empty_73 rfl rfl ?_
  refine v_iconst (v := 0) hX d_M_empty_74 (by decide) ?_
  refine v_putE hX 48 (fs2 := [.int 0, .ref (loc 49), .ref (loc 50), .ref (loc 51), .ref (loc 52), .ref (loc 53), .ref (loc 54), .ref (loc 55), .ref (loc 56), .int 1, .int 0, .int 0, .ref (loc 57), .ref (loc 58), .ref (loc 59), .ref (loc 60), .ref (loc 61), .ref (loc 62), .int 0, .int 0, .int 0, .int 0, .int 0, .int 0, .ref (loc 63), .ref (loc 64), .ref (loc 65), .ref (loc 66), .ref (loc 67), .ref (loc 68), .ref (loc 69), .ref (loc 70), .ref (loc 71), .ref (loc 72), .int 0, .ref (loc 73), .ref (loc 74), .ref (loc 75), .int 0, .int 0, .int 0, .int 0, .int 0, .int 0, .int 0]) inT5 tyX5 tyX5_ok nmX5 (kd_b rfl) rfl rfl rfl 21 (by decide) k_606 rfl rfl rfl rfl rfl (Nat.le_of_ble_eq_true rfl) d_M_empty_75 rfl ?_
  refine v_aload_n hX d_M_empty_78 rfl rfl ?_
  refine v_iconst (v := 0) hX d_M_empty_79 (by decide) ?_
  refine v_putE hX 48 (fs2 := [.int 0, .ref (loc 49), .ref (loc 50), .ref (loc 51), .ref (loc 52), .ref (loc 53), .ref (loc 54), .ref (loc 55), .ref (loc 56), .int 1, .int 0, .int 0, .ref (loc 57), .ref (loc 58), .ref (loc 59), .ref (loc 60), .ref (loc 61), .ref (loc 62), .int 0, .int 0, .int 0, .int 0, .int 0, .int 0, .ref (loc 63), .ref (loc 64), .ref (loc 65), .ref (loc 66), .ref (loc 67), .ref (loc 68), .ref (loc 69), .ref (loc 70), .ref (loc 71), .ref (loc 72), .int 0, .ref (loc 73), .ref (loc 74), .ref (loc 75), .int 0, .int 0, .int 0, .int 0, .int 0, .int 0, .int 0]) inT5 tyX5 tyX5_ok nmX5 (kd_b rfl) rfl rfl rfl 22 (by decide) k_607 rfl rfl rfl rfl rfl (Nat.le_of_ble_eq_true rfl) d_M_empty_80 rfl ?_
  exact v_vret hX hE d_M_empty_83 (Nat.le_of_ble_eq_true rfl) (Nat.le_of_ble_eq_true rfl) ⟨rfl, rfl, rfl, rfl, rfl, rfl⟩
set_option maxHeartbeats 4000000 in
set_option maxRecDepth 100000 in
theorem c_M_init {l : Launch} {D : va_G} {A : Nat → Prop} {cI cB cZ cJ cN : ClassId} {loc : Nat → Nat} {val : Nat → va_E} (hv : val 48 = .inr (5, [.int 0, .null, .null, .null, .null, .null, .null, .null, .null, .int 0, .int 0, .int 0, .null, .null, .null, .null, .null, .null, .int 0, .int 0, .int 0, .int 0, .int 0, .int 0, .null, .null, .null, .null, .null, .null, .null, .null, .null, .null, .int 0, .null, .null, .null, .int 0, .int 0, .int 0, .int 0, .int 0, .int 0, .int 0])) : kM l y_M_init (Cond.code y_M_init b_M_init 1 none :: TT) (rmL 2) D CL (TY cI cB cZ cJ cN) A [.ref (loc 48)] (kd 49) loc val (fun rv d lo va kc ns => rv = none ∧ d = kd 76 ∧ lo 48 = loc 48 ∧ (∀ k, Nat.ble (k + 1) 48 = true → lo k = loc k ∧ va k = val k) ∧ (∀ k, (Nat.ble 48 k && Nat.ble (k + 1) 76) = true → va k = mcell cI cB cZ lo k) ∧ kc = 27 ∧ ns = 116697) := by
  refine kM_of (lv0 := [some (.ref (loc 48))]) (own := "ProsePagesModel") (by decide) rfl (List.forall_mem_cons.mpr ⟨rfl, fun _ h => nomatch h⟩) (Nat.le_of_ble_eq_true rfl) rfl (Nat.le_of_ble_eq_true rfl) (fun X hl hX hE hin0 => ?_)
  refine v_aload_n hX d_M_init_0 rfl rfl ?_
  refine v_objInit hX k_579 k_21 k_objc ⟨by decide, by decide⟩ rfl (Nat.le_of_ble_eq_true rfl) d_M_init_1 ?_
  refine v_aload_n hX d_M_init_4 rfl rfl ?_
  refine v_sipush (v := 300) hX d_M_init_5 (by decide) ?_
  refine v_newp hX 49 0 (kd 50) (N := 300) (ty := .int) (300, .inl (fun _ => 0)) rfl (fun _ => rfl) (fun _ h => h) k_44 rfl (by decide) (by decide) (Nat.le_of_ble_eq_true rfl) (Nat.le_of_ble_eq_true rfl) (Nat.le_of_ble_eq_true rfl) d_M_init_8 (kd_step 49) (kd_self 49) (fun q49 => ?_)
  refine v_putFE hX 48 (fs2 := [.int 0, .ref q49, .null, .null, .null, .null, .null, .null, .null, .int 0, .int 0, .int 0, .null, .null, .null, .null, .null, .null, .int 0, .int 0, .int 0, .int 0, .int 0, .int 0, .null, .null, .null, .null, .null, .null, .null, .null, .null, .null, .int 0, .null, .null, .null, .int 0, .int 0, .int 0, .int 0, .int 0, .int 0, .int 0]) inT5 tyX5 tyX5_ok nmX5 hin0 (kd_b rfl) rfl hv rfl 1 (by decide) k_586 rfl rfl rfl rfl rfl (Nat.le_of_ble_eq_true rfl) d_M_init_10 rfl ?_
  refine v_aload_n hX d_M_init_13 rfl rfl ?_
  refine v_sipush (v := 300) hX d_M_init_14 (by decide) ?_
  refine v_newp hX 50 0 (kd 51) (N := 300) (ty := .int) (300, .inl (fun _ => 0)) rfl (fun _ => rfl) (fun _ h => h) k_44 rfl (by decide) (by decide) (Nat.le_of_ble_eq_true rfl) (Nat.le_of_ble_eq_true rfl) (Nat.le_of_ble_eq_true rfl) d_M_init_17 (kd_step 50) (kd_self 50) (fun q50 => ?_)
  refine v_putFE hX 48 (fs2 := [.int 0, .ref q49, .ref q50, .null, .null, .null, .null, .null, .null, .int 0, .int 0, .int 0, .null, .null, .null, .null, .null, .null, .int 0, .int 0, .int 0, .int 0, .int 0, .int 0, .null, .null, .null, .null, .null, .null, .null, .null, .null, .null, .int 0, .null, .null, .null, .int 0, .int 0, .int 0, .int 0, .int 0, .int 0, .int 0]) inT5 tyX5 tyX5_ok nmX5 hin0 (kd_b rfl) rfl rfl rfl 2 (by decide) k_587 rfl rfl rfl rfl rfl (Nat.le_of_ble_eq_true rfl) d_M_init_19 rfl ?_
  refine v_aload_n hX d_M_init_22 rfl rfl ?_
  refine v_sipush (v := 300) hX d_M_init_23 (by decide) ?_
  refine v_newp hX 51 0 (kd 52) (N := 300) (ty := .int) (300, .inl (fun _ => 0)) rfl (fun _ => rfl) (fun _ h => h) k_44 rfl (by decide) (by decide) (Nat.le_of_ble_eq_true rfl) (Nat.le_of_ble_eq_true rfl) (Nat.le_of_ble_eq_true rfl) d_M_init_26 (kd_step 51) (kd_self 51) (fun q51 => ?_)
  refine v_putFE hX 48 (fs2 := [.int 0, .ref q49, .ref q50, .ref q51, .null, .null, .null, .null, .null, .int 0, .int 0, .int 0, .null, .null, .null, .null, .null, .null, .int 0, .int 0, .int 0, .int 0, .int 0, .int 0, .null, .null, .null, .null, .null, .null, .null, .null, .null, .null, .int 0, .null, .null, .null, .int 0, .int 0, .int 0, .int 0, .int 0, .int 0, .int 0]) inT5 tyX5 tyX5_ok nmX5 hin0 (kd_b rfl) rfl rfl rfl 3 (by decide) k_588 rfl rfl rfl rfl rfl (Nat.le_of_ble_eq_true rfl) d_M_init_28 rfl ?_
  refine v_aload_n hX d_M_init_31 rfl rfl ?_
  refine v_sipush (v := 300) hX d_M_init_32 (by decide) ?_
  refine v_newp hX 52 0 (kd 53) (N := 300) (ty := .int) (300, .inl (fun _ => 0)) rfl (fun _ => rfl) (fun _ h => h) k_44 rfl (by decide) (by decide) (Nat.le_of_ble_eq_true rfl) (Nat.le_of_ble_eq_true rfl) (Nat.le_of_ble_eq_true rfl) d_M_init_35 (kd_step 52) (kd_self 52) (fun q52 => ?_)
  refine v_putFE hX 48 (fs2 := [.int 0, .ref q49, .ref q50, .ref q51, .ref q52, .null, .null, .null, .null, .int 0, .int 0, .int 0, .null, .null, .null, .null, .null, .null, .int 0, .int 0, .int 0, .int 0, .int 0, .int 0, .null, .null, .null, .null, .null, .null, .null, .null, .null, .null, .int 0, .null, .null, .null, .int 0, .int 0, .int 0, .int 0, .int 0, .int 0, .int 0]) inT5 tyX5 tyX5_ok nmX5 hin0 (kd_b rfl) rfl rfl rfl 4 (by decide) k_589 rfl rfl rfl rfl rfl (Nat.le_of_ble_eq_true rfl) d_M_init_37 rfl ?_
  refine v_aload_n hX d_M_init_40 rfl rfl ?_
  refine v_sipush (v := 300) hX d_M_init_41 (by decide) ?_
  refine v_newp hX 53 0 (kd 54) (N := 300) (ty := .int) (300, .inl (fun _ => 0)) rfl (fun _ => rfl) (fun _ h => h) k_44 rfl (by decide) (by decide) (Nat.le_of_ble_eq_true rfl) (Nat.le_of_ble_eq_true rfl) (Nat.le_of_ble_eq_true rfl) d_M_init_44 (kd_step 53) (kd_self 53) (fun q53 => ?_)
  refine v_putFE hX 48 (fs2 := [.int 0, .ref q49, .ref q50, .ref q51, .ref q52, .ref q53, .null, .null, .null, .int 0, .int 0, .int 0, .null, .null, .null, .null, .null, .null, .int 0, .int 0, .int 0, .int 0, .int 0, .int 0, .null, .null, .null, .null, .null, .null, .null, .null, .null, .null, .int 0, .null, .null, .null, .int 0, .int 0, .int 0, .int 0, .int 0, .int 0, .int 0]) inT5 tyX5 tyX5_ok nmX5 hin0 (kd_b rfl) rfl rfl rfl 5 (by decide) k_590 rfl rfl rfl rfl rfl (Nat.le_of_ble_eq_true rfl) d_M_init_46 rfl ?_
  refine v_aload_n hX d_M_init_49 rfl rfl ?_
  refine v_sipush (v := 300) hX d_M_init_50 (by decide) ?_
  refine v_newp hX 54 0 (kd 55) (N := 300) (ty := .int) (300, .inl (fun _ => 0)) rfl (fun _ => rfl) (fun _ h => h) k_44 rfl (by decide) (by decide) (Nat.le_of_ble_eq_true rfl) (Nat.le_of_ble_eq_true rfl) (Nat.le_of_ble_eq_true rfl) d_M_init_53 (kd_step 54) (kd_self 54) (fun q54 => ?_)
  refine v_putFE hX 48 (fs2 := [.int 0, .ref q49, .ref q50, .ref q51, .ref q52, .ref q53, .ref q54, .null, .null, .int 0, .int 0, .int 0, .null, .null, .null, .null, .null, .null, .int 0, .int 0, .int 0, .int 0, .int 0, .int 0, .null, .null, .null, .null, .null, .null, .null, .null, .null, .null, .int 0, .null, .null, .null, .int 0, .int 0, .int 0, .int 0, .int 0, .int 0, .int 0]) inT5 tyX5 tyX5_ok nmX5 hin0 (kd_b rfl) rfl rfl rfl 6 (by decide) k_591 rfl rfl rfl rfl rfl (Nat.le_of_ble_eq_true rfl) d_M_init_55 rfl ?_
  refine v_aload_n hX d_M_init_58 rfl rfl ?_
  refine v_sipush (v := 300) hX d_M_init_59 (by decide) ?_
  refine v_newp hX 55 0 (kd 56) (N := 300) (ty := .int) (300, .inl (fun _ => 0)) rfl (fun _ => rfl) (fun _ h => h) k_44 rfl (by decide) (by decide) (Nat.le_of_ble_eq_true rfl) (Nat.le_of_ble_eq_true rfl) (Nat.le_of_ble_eq_true rfl) d_M_init_62 (kd_step 55) (kd_self 55) (fun q55 => ?_)
  refine v_putFE hX 48 (fs2 := [.int 0, .ref q49, .ref q50, .ref q51, .ref q52, .ref q53, .ref q54, .ref q55, .null, .int 0, .int 0, .int 0, .null, .null, .null, .null, .null, .null, .int 0, .int 0, .int 0, .int 0, .int 0, .int 0, .null, .null, .null, .null, .null, .null, .null, .null, .null, .null, .int 0, .null, .null, .null, .int 0, .int 0, .int 0, .int 0, .int 0, .int 0, .int 0]) inT5 tyX5 tyX5_ok nmX5 hin0 (kd_b rfl) rfl rfl rfl 7 (by decide) k_592 rfl rfl rfl rfl rfl (Nat.le_of_ble_eq_true rfl) d_M_init_64 rfl ?_
  refine v_aload_n hX d_M_init_67 rfl rfl ?_
  refine v_sipush (v := 4000) hX d_M_init_68 (by decide) ?_
  refine v_newp hX 56 1 (kd 57) (N := 4000) (ty := .byte) (4000, .inl (fun _ => 0)) rfl (fun _ => rfl) (fun _ h => h) k_341 rfl (by decide) (by decide) (Nat.le_of_ble_eq_true rfl) (Nat.le_of_ble_eq_true rfl) (Nat.le_of_ble_eq_true rfl) d_M_init_71 (kd_step 56) (kd_self 56) (fun q56 => ?_)
  refine v_putFE hX 48 (fs2 := [.int 0, .ref q49, .ref q50, .ref q51, .ref q52, .ref q53, .ref q54, .ref q55, .ref q56, .int 0, .int 0, .int 0, .null, .null, .null, .null, .null, .null, .int 0, .int 0, .int 0, .int 0, .int 0, .int 0, .null, .null, .null, .null, .null, .null, .null, .null, .null, .null, .int 0, .null, .null, .null, .int 0, .int 0, .int 0, .int 0, .int 0, .int 0, .int 0]) inT5 tyX5 tyX5_ok nmX5 hin0 (kd_b rfl) rfl rfl rfl 8 (by decide) k_593 rfl rfl rfl rfl rfl (Nat.le_of_ble_eq_true rfl) d_M_init_73 rfl ?_
  refine v_aload_n hX d_M_init_76 rfl rfl ?_
  refine v_sipush (v := 1501) hX d_M_init_77 (by decide) ?_
  refine v_newp hX 57 0 (kd 58) (N := 1501) (ty := .int) (1501, .inl (fun _ => 0)) rfl (fun _ => rfl) (fun _ h => h) k_44 rfl (by decide) (by decide) (Nat.le_of_ble_eq_true rfl) (Nat.le_of_ble_eq_true rfl) (Nat.le_of_ble_eq_true rfl) d_M_init_80 (kd_step 57) (kd_self 57) (fun q57 => ?_)
  refine v_putFE hX 48 (fs2 := [.int 0, .ref q49, .ref q50, .ref q51, .ref q52, .ref q53, .ref q54, .ref q55, .ref q56, .int 0, .int 0, .int 0, .ref q57, .null, .null, .null, .null, .null, .int 0, .int 0, .int 0, .int 0, .int 0, .int 0, .null, .null, .null, .null, .null, .null, .null, .null, .null, .null, .int 0, .null, .null, .null, .int 0, .int 0, .int 0, .int 0, .int 0, .int 0, .int 0]) inT5 tyX5 tyX5_ok nmX5 hin0 (kd_b rfl) rfl rfl rfl 12 (by decide) k_597 rfl rfl rfl rfl rfl (Nat.le_of_ble_eq_true rfl) d_M_init_82 rfl ?_
  refine v_aload_n hX d_M_init_85 rfl rfl ?_
  refine v_sipush (v := 1501) hX d_M_init_86 (by decide) ?_
  refine v_newp hX 58 0 (kd 59) (N := 1501) (ty := .int) (1501, .inl (fun _ => 0)) rfl (fun _ => rfl) (fun _ h => h) k_44 rfl (by decide) (by decide) (Nat.le_of_ble_eq_true rfl) (Nat.le_of_ble_eq_true rfl) (Nat.le_of_ble_eq_true rfl) d_M_init_89 (kd_step 58) (kd_self 58) (fun q58 => ?_)
  refine v_putFE hX 48 (fs2 := [.int 0, .ref q49, .ref q50, .ref q51, .ref q52, .ref q53, .ref q54, .ref q55, .ref q56, .int 0, .int 0, .int 0, .ref q57, .ref q58, .null, .null, .null, .null, .int 0, .int 0, .int 0, .int 0, .int 0, .int 0, .null, .null, .null, .null, .null, .null, .null, .null, .null, .null, .int 0, .null, .null, .null, .int 0, .int 0, .int 0, .int 0, .int 0, .int 0, .int 0]) inT5 tyX5 tyX5_ok nmX5 hin0 (kd_b rfl) rfl rfl rfl 13 (by decide) k_598 rfl rfl rfl rfl rfl (Nat.le_of_ble_eq_true rfl) d_M_init_91 rfl ?_
  refine v_aload_n hX d_M_init_94 rfl rfl ?_
  refine v_sipush (v := 1501) hX d_M_init_95 (by decide) ?_
  refine v_newp hX 59 0 (kd 60) (N := 1501) (ty := .int) (1501, .inl (fun _ => 0)) rfl (fun _ => rfl) (fun _ h => h) k_44 rfl (by decide) (by decide) (Nat.le_of_ble_eq_true rfl) (Nat.le_of_ble_eq_true rfl) (Nat.le_of_ble_eq_true rfl) d_M_init_98 (kd_step 59) (kd_self 59) (fun q59 => ?_)
  refine v_putFE hX 48 (fs2 := [.int 0, .ref q49, .ref q50, .ref q51, .ref q52, .ref q53, .ref q54, .ref q55, .ref q56, .int 0, .int 0, .int 0, .ref q57, .ref q58, .ref q59, .null, .null, .null, .int 0, .int 0, .int 0, .int 0, .int 0, .int 0, .null, .null, .null, .null, .null, .null, .null, .null, .null, .null, .int 0, .null, .null, .null, .int 0, .int 0, .int 0, .int 0, .int 0, .int 0, .int 0]) inT5 tyX5 tyX5_ok nmX5 hin0 (kd_b rfl) rfl rfl rfl 14 (by decide) k_599 rfl rfl rfl rfl rfl (Nat.le_of_ble_eq_true rfl) d_M_init_100 rfl ?_
  refine v_aload_n hX d_M_init_103 rfl rfl ?_
  refine v_sipush (v := 1501) hX d_M_init_104 (by decide) ?_
  refine v_newp hX 60 0 (kd 61) (N := 1501) (ty := .int) (1501, .inl (fun _ => 0)) rfl (fun _ => rfl) (fun _ h => h) k_44 rfl (by decide) (by decide) (Nat.le_of_ble_eq_true rfl) (Nat.le_of_ble_eq_true rfl) (Nat.le_of_ble_eq_true rfl) d_M_init_107 (kd_step 60) (kd_self 60) (fun q60 => ?_)
  refine v_putFE hX 48 (fs2 := [.int 0, .ref q49, .ref q50, .ref q51, .ref q52, .ref q53, .ref q54, .ref q55, .ref q56, .int 0, .int 0, .int 0, .ref q57, .ref q58, .ref q59, .ref q60, .null, .null, .int 0, .int 0, .int 0, .int 0, .int 0, .int 0, .null, .null, .null, .null, .null, .null, .null, .null, .null, .null, .int 0, .null, .null, .null, .int 0, .int 0, .int 0, .int 0, .int 0, .int 0, .int 0]) inT5 tyX5 tyX5_ok nmX5 hin0 (kd_b rfl) rfl rfl rfl 15 (by decide) k_600 rfl rfl rfl rfl rfl (Nat.le_of_ble_eq_true rfl) d_M_init_109 rfl ?_
  refine v_aload_n hX d_M_init_112 rfl rfl ?_
  refine v_sipush (v := 1501) hX d_M_init_113 (by decide) ?_
  refine v_newp hX 61 2 (kd 62) (N := 1501) (ty := .boolean) (1501, .inl (fun _ => 0)) rfl (fun _ => rfl) (fun _ h => h) k_721 rfl (by decide) (by decide) (Nat.le_of_ble_eq_true rfl) (Nat.le_of_ble_eq_true rfl) (Nat.le_of_ble_eq_true rfl) d_M_init_116 (kd_step 61) (kd_self 61) (fun q61 => ?_)
  refine v_putFE hX 48 (fs2 := [.int 0, .ref q49, .ref q50, .ref q51, .ref q52, .ref q53, .ref q54, .ref q55, .ref q56, .int 0, .int 0, .int 0, .ref q57, .ref q58, .ref q59, .ref q60, .ref q61, .null, .int 0, .int 0, .int 0, .int 0, .int 0, .int 0, .null, .null, .null, .null, .null, .null, .null, .null, .null, .null, .int 0, .null, .null, .null, .int 0, .int 0, .int 0, .int 0, .int 0, .int 0, .int 0]) inT5 tyX5 tyX5_ok nmX5 hin0 (kd_b rfl) rfl rfl rfl 16 (by decide) k_601 rfl rfl rfl rfl rfl (Nat.le_of_ble_eq_true rfl) d_M_init_118 rfl ?_
  refine v_aload_n hX d_M_init_121 rfl rfl ?_
  refine v_ldc (v := 90060) hX k_580 d_M_init_122 ?_
  refine v_newp hX 62 1 (kd 63) (N := 90060) (ty := .byte) (90060, .inl (fun _ => 0)) rfl (fun _ => rfl) (fun _ h => h) k_341 rfl (by decide) (by decide) (Nat.le_of_ble_eq_true rfl) (Nat.le_of_ble_eq_true rfl) (Nat.le_of_ble_eq_true rfl) d_M_init_124 (kd_step 62) (kd_self 62) (fun q62 => ?_)
  refine v_putFE hX 48 (fs2 := [.int 0, .ref q49, .ref q50, .ref q51, .ref q52, .ref q53, .ref q54, .ref q55, .ref q56, .int 0, .int 0, .int 0, .ref q57, .ref q58, .ref q59, .ref q60, .ref q61, .ref q62, .int 0, .int 0, .int 0, .int 0, .int 0, .int 0, .null, .null, .null, .null, .null, .null, .null, .null, .null, .null, .int 0, .null, .null, .null, .int 0, .int 0, .int 0, .int 0, .int 0, .int 0, .int 0]) inT5 tyX5 tyX5_ok nmX5 hin0 (kd_b rfl) rfl rfl rfl 17 (by decide) k_602 rfl rfl rfl rfl rfl (Nat.le_of_ble_eq_true rfl) d_M_init_126 rfl ?_
  refine v_aload_n hX d_M_init_129 rfl rfl ?_
  refine v_sipush (v := 300) hX d_M_init_130 (by decide) ?_
  refine v_newp hX 63 0 (kd 64) (N := 300) (ty := .int) (300, .inl (fun _ => 0)) rfl (fun _ => rfl) (fun _ h => h) k_44 rfl (by decide) (by decide) (Nat.le_of_ble_eq_true rfl) (Nat.le_of_ble_eq_true rfl) (Nat.le_of_ble_eq_true rfl) d_M_init_133 (kd_step 63) (kd_self 63) (fun q63 => ?_)
  refine v_putFE hX 48 (fs2 := [.int 0, .ref q49, .ref q50, .ref q51, .ref q52, .ref q53, .ref q54, .ref q55, .ref q56, .int 0, .int 0, .int 0, .ref q57, .ref q58, .ref q59, .ref q60, .ref q61, .ref q62, .int 0, .int 0, .int 0, .int 0, .int 0, .int 0, .ref q63, .null, .null, .null, .null, .null, .null, .null, .null, .null, .int 0, .null, .null, .null, .int 0, .int 0, .int 0, .int 0, .int 0, .int 0, .int 0]) inT5 tyX5 tyX5_ok nmX5 hin0 (kd_b rfl) rfl rfl rfl 24 (by decide) k_609 rfl rfl rfl rfl rfl (Nat.le_of_ble_eq_true rfl) d_M_init_135 rfl ?_
  refine v_aload_n hX d_M_init_138 rfl rfl ?_
  refine v_sipush (v := 300) hX d_M_init_139 (by decide) ?_
  refine v_newp hX 64 0 (kd 65) (N := 300) (ty := .int) (300, .inl (fun _ => 0)) rfl (fun _ => rfl) (fun _ h => h) k_44 rfl (by decide) (by decide) (Nat.le_of_ble_eq_true rfl) (Nat.le_of_ble_eq_true rfl) (Nat.le_of_ble_eq_true rfl) d_M_init_142 (kd_step 64) (kd_self 64) (fun q64 => ?_)
  refine v_putFE hX 48 (fs2 := [.int 0, .ref q49, .ref q50, .ref q51, .ref q52, .ref q53, .ref q54, .ref q55, .ref q56, .int 0, .int 0, .int 0, .ref q57, .ref q58, .ref q59, .ref q60, .ref q61, .ref q62, .int 0, .int 0, .int 0, .int 0, .int 0, .int 0, .ref q63, .ref q64, .null, .null, .null, .null, .null, .null, .null, .null, .int 0, .null, .null, .null, .int 0, .int 0, .int 0, .int 0, .int 0, .int 0, .int 0]) inT5 tyX5 tyX5_ok nmX5 hin0 (kd_b rfl) rfl rfl rfl 25 (by decide) k_610 rfl rfl rfl rfl rfl (Nat.le_of_ble_eq_true rfl) d_M_init_144 rfl ?_
  refine v_aload_n hX d_M_init_147 rfl rfl ?_
  refine v_bipush (v := 14) hX d_M_init_148 (by decide) ?_
  refine v_newp hX 65 0 (kd 66) (N := 14) (ty := .int) (14, .inl (fun _ => 0)) rfl (fun _ => rfl) (fun _ h => h) k_44 rfl (by decide) (by decide) (Nat.le_of_ble_eq_true rfl) (Nat.le_of_ble_eq_true rfl) (Nat.le_of_ble_eq_true rfl) d_M_init_150 (kd_step 65) (kd_self 65) (fun q65 => ?_)
  refine v_putFE hX 48 (fs2 := [.int 0, .ref q49, .ref q50, .ref q51, .ref q52, .ref q53, .ref q54, .ref q55, .ref q56, .int 0, .int 0, .int 0, .ref q57, .ref q58, .ref q59, .ref q60, .ref q61, .ref q62, .int 0, .int 0, .int 0, .int 0, .int 0, .int 0, .ref q63, .ref q64, .ref q65, .null, .null, .null, .null, .null, .null, .null, .int 0, .null, .null, .null, .int 0, .int 0, .int 0, .int 0, .int 0, .int 0, .int 0]) inT5 tyX5 tyX5_ok nmX5 hin0 (kd_b rfl) rfl rfl rfl 26 (by decide) k_611 rfl rfl rfl rfl rfl (Nat.le_of_ble_eq_true rfl) d_M_init_152 rfl ?_
  refine v_aload_n hX d_M_init_155 rfl rfl ?_
  refine v_bipush (v := 14) hX d_M_init_156 (by decide) ?_
  refine v_newp hX 66 0 (kd 67) (N := 14) (ty := .int) (14, .inl (fun _ => 0)) rfl (fun _ => rfl) (fun _ h => h) k_44 rfl (by decide) (by decide) (Nat.le_of_ble_eq_true rfl) (Nat.le_of_ble_eq_true rfl) (Nat.le_of_ble_eq_true rfl) d_M_init_158 (kd_step 66) (kd_self 66) (fun q66 => ?_)
  refine v_putFE hX 48 (fs2 := [.int 0, .ref q49, .ref q50, .ref q51, .ref q52, .ref q53, .ref q54, .ref q55, .ref q56, .int 0, .int 0, .int 0, .ref q57, .ref q58, .ref q59, .ref q60, .ref q61, .ref q62, .int 0, .int 0, .int 0, .int 0, .int 0, .int 0, .ref q63, .ref q64, .ref q65, .ref q66, .null, .null, .null, .null, .null, .null, .int 0, .null, .null, .null, .int 0, .int 0, .int 0, .int 0, .int 0, .int 0, .int 0]) inT5 tyX5 tyX5_ok nmX5 hin0 (kd_b rfl) rfl rfl rfl 27 (by decide) k_612 rfl rfl rfl rfl rfl (Nat.le_of_ble_eq_true rfl) d_M_init_160 rfl ?_
  refine v_aload_n hX d_M_init_163 rfl rfl ?_
  refine v_bipush (v := 14) hX d_M_init_164 (by decide) ?_
  refine v_newp hX 67 0 (kd 68) (N := 14) (ty := .int) (14, .inl (fun _ => 0)) rfl (fun _ => rfl) (fun _ h => h) k_44 rfl (by decide) (by decide) (Nat.le_of_ble_eq_true rfl) (Nat.le_of_ble_eq_true rfl) (Nat.le_of_ble_eq_true rfl) d_M_init_166 (kd_step 67) (kd_self 67) (fun q67 => ?_)
  refine v_putFE hX 48 (fs2 := [.int 0, .ref q49, .ref q50, .ref q51, .ref q52, .ref q53, .ref q54, .ref q55, .ref q56, .int 0, .int 0, .int 0, .ref q57, .ref q58, .ref q59, .ref q60, .ref q61, .ref q62, .int 0, .int 0, .int 0, .int 0, .int 0, .int 0, .ref q63, .ref q64, .ref q65, .ref q66, .ref q67, .null, .null, .null, .null, .null, .int 0, .null, .null, .null, .int 0, .int 0, .int 0, .int 0, .int 0, .int 0, .int 0]) inT5 tyX5 tyX5_ok nmX5 hin0 (kd_b rfl) rfl rfl rfl 28 (by decide) k_613 rfl rfl rfl rfl rfl (Nat.le_of_ble_eq_true rfl) d_M_init_168 rfl ?_
  refine v_aload_n hX d_M_init_171 rfl rfl ?_
  refine v_bipush (v := 14) hX d_M_init_172 (by decide) ?_
  refine v_newp hX 68 0 (kd 69) (N := 14) (ty := .int) (14, .inl (fun _ => 0)) rfl (fun _ => rfl) (fun _ h => h) k_44 rfl (by decide) (by decide) (Nat.le_of_ble_eq_true rfl) (Nat.le_of_ble_eq_true rfl) (Nat.le_of_ble_eq_true rfl) d_M_init_174 (kd_step 68) (kd_self 68) (fun q68 => ?_)
  refine v_putFE hX 48 (fs2 := [.int 0, .ref q49, .ref q50, .ref q51, .ref q52, .ref q53, .ref q54, .ref q55, .ref q56, .int 0, .int 0, .int 0, .ref q57, .ref q58, .ref q59, .ref q60, .ref q61, .ref q62, .int 0, .int 0, .int 0, .int 0, .int 0, .int 0, .ref q63, .ref q64, .ref q65, .ref q66, .ref q67, .ref q68, .null, .null, .null, .null, .int 0, .null, .null, .null, .int 0, .int 0, .int 0, .int 0, .int 0, .int 0, .int 0]) inT5 tyX5 tyX5_ok nmX5 hin0 (kd_b rfl) rfl rfl rfl 29 (by decide) k_614 rfl rfl rfl rfl rfl (Nat.le_of_ble_eq_true rfl) d_M_init_176 rfl ?_
  refine v_aload_n hX d_M_init_179 rfl rfl ?_
  refine v_bipush (v := 14) hX d_M_init_180 (by decide) ?_
  refine v_newp hX 69 2 (kd 70) (N := 14) (ty := .boolean) (14, .inl (fun _ => 0)) rfl (fun _ => rfl) (fun _ h => h) k_721 rfl (by decide) (by decide) (Nat.le_of_ble_eq_true rfl) (Nat.le_of_ble_eq_true rfl) (Nat.le_of_ble_eq_true rfl) d_M_init_182 (kd_step 69) (kd_self 69) (fun q69 => ?_)
  refine v_putFE hX 48 (fs2 := [.int 0, .ref q49, .ref q50, .ref q51, .ref q52, .ref q53, .ref q54, .ref q55, .ref q56, .int 0, .int 0, .int 0, .ref q57, .ref q58, .ref q59, .ref q60, .ref q61, .ref q62, .int 0, .int 0, .int 0, .int 0, .int 0, .int 0, .ref q63, .ref q64, .ref q65, .ref q66, .ref q67, .ref q68, .ref q69, .null, .null, .null, .int 0, .null, .null, .null, .int 0, .int 0, .int 0, .int 0, .int 0, .int 0, .int 0]) inT5 tyX5 tyX5_ok nmX5 hin0 (kd_b rfl) rfl rfl rfl 30 (by decide) k_615 rfl rfl rfl rfl rfl (Nat.le_of_ble_eq_true rfl) d_M_init_184 rfl ?_
  refine v_aload_n hX d_M_init_187 rfl rfl ?_
  refine v_bipush (v := 14) hX d_M_init_188 (by decide) ?_
  refine v_newp hX 70 2 (kd 71) (N := 14) (ty := .boolean) (14, .inl (fun _ => 0)) rfl (fun _ => rfl) (fun _ h => h) k_721 rfl (by decide) (by decide) (Nat.le_of_ble_eq_true rfl) (Nat.le_of_ble_eq_true rfl) (Nat.le_of_ble_eq_true rfl) d_M_init_190 (kd_step 70) (kd_self 70) (fun q70 => ?_)
  refine v_putFE hX 48 (fs2 := [.int 0, .ref q49, .ref q50, .ref q51, .ref q52, .ref q53, .ref q54, .ref q55, .ref q56, .int 0, .int 0, .int 0, .ref q57, .ref q58, .ref q59, .ref q60, .ref q61, .ref q62, .int 0, .int 0, .int 0, .int 0, .int 0, .int 0, .ref q63, .ref q64, .ref q65, .ref q66, .ref q67, .ref q68, .ref q69, .ref q70, .null, .null, .int 0, .null, .null, .null, .int 0, .int 0, .int 0, .int 0, .int 0, .int 0, .int 0]) inT5 tyX5 tyX5_ok nmX5 hin0 (kd_b rfl) rfl rfl rfl 31 (by decide) k_616 rfl rfl rfl rfl rfl (Nat.le_of_ble_eq_true rfl) d_M_init_192 rfl ?_
  refine v_aload_n hX d_M_init_195 rfl rfl ?_
  refine v_bipush (v := 14) hX d_M_init_196 (by decide) ?_
  refine v_newp hX 71 2 (kd 72) (N := 14) (ty := .boolean) (14, .inl (fun _ => 0)) rfl (fun _ => rfl) (fun _ h => h) k_721 rfl (by decide) (by decide) (Nat.le_of_ble_eq_true rfl) (Nat.le_of_ble_eq_true rfl) (Nat.le_of_ble_eq_true rfl) d_M_init_198 (kd_step 71) (kd_self 71) (fun q71 => ?_)
  refine v_putFE hX 48 (fs2 := [.int 0, .ref q49, .ref q50, .ref q51, .ref q52, .ref q53, .ref q54, .ref q55, .ref q56, .int 0, .int 0, .int 0, .ref q57, .ref q58, .ref q59, .ref q60, .ref q61, .ref q62, .int 0, .int 0, .int 0, .int 0, .int 0, .int 0, .ref q63, .ref q64, .ref q65, .ref q66, .ref q67, .ref q68, .ref q69, .ref q70, .ref q71, .null, .int 0, .null, .null, .null, .int 0, .int 0, .int 0, .int 0, .int 0, .int 0, .int 0]) inT5 tyX5 tyX5_ok nmX5 hin0 (kd_b rfl) rfl rfl rfl 32 (by decide) k_617 rfl rfl rfl rfl rfl (Nat.le_of_ble_eq_true rfl) d_M_init_200 rfl ?_
  refine v_aload_n hX d_M_init_203 rfl rfl ?_
  refine v_bipush (v := 14) hX d_M_init_204 (by decide) ?_
  refine v_newp hX 72 2 (kd 73) (N := 14) (ty := .boolean) (14, .inl (fun _ => 0)) rfl (fun _ => rfl) (fun _ h => h) k_721 rfl (by decide) (by decide) (Nat.le_of_ble_eq_true rfl) (Nat.le_of_ble_eq_true rfl) (Nat.le_of_ble_eq_true rfl) d_M_init_206 (kd_step 72) (kd_self 72) (fun q72 => ?_)
  refine v_putFE hX 48 (fs2 := [.int 0, .ref q49, .ref q50, .ref q51, .ref q52, .ref q53, .ref q54, .ref q55, .ref q56, .int 0, .int 0, .int 0, .ref q57, .ref q58, .ref q59, .ref q60, .ref q61, .ref q62, .int 0, .int 0, .int 0, .int 0, .int 0, .int 0, .ref q63, .ref q64, .ref q65, .ref q66, .ref q67, .ref q68, .ref q69, .ref q70, .ref q71, .ref q72, .int 0, .null, .null, .null, .int 0, .int 0, .int 0, .int 0, .int 0, .int 0, .int 0]) inT5 tyX5 tyX5_ok nmX5 hin0 (kd_b rfl) rfl rfl rfl 33 (by decide) k_618 rfl rfl rfl rfl rfl (Nat.le_of_ble_eq_true rfl) d_M_init_208 rfl ?_
  refine v_aload_n hX d_M_init_211 rfl rfl ?_
  refine v_sipush (v := 4010) hX d_M_init_212 (by decide) ?_
  refine v_newp hX 73 0 (kd 74) (N := 4010) (ty := .int) (4010, .inl (fun _ => 0)) rfl (fun _ => rfl) (fun _ h => h) k_44 rfl (by decide) (by decide) (Nat.le_of_ble_eq_true rfl) (Nat.le_of_ble_eq_true rfl) (Nat.le_of_ble_eq_true rfl) d_M_init_215 (kd_step 73) (kd_self 73) (fun q73 => ?_)
  refine v_putFE hX 48 (fs2 := [.int 0, .ref q49, .ref q50, .ref q51, .ref q52, .ref q53, .ref q54, .ref q55, .ref q56, .int 0, .int 0, .int 0, .ref q57, .ref q58, .ref q59, .ref q60, .ref q61, .ref q62, .int 0, .int 0, .int 0, .int 0, .int 0, .int 0, .ref q63, .ref q64, .ref q65, .ref q66, .ref q67, .ref q68, .ref q69, .ref q70, .ref q71, .ref q72, .int 0, .ref q73, .null, .null, .int 0, .int 0, .int 0, .int 0, .int 0, .int 0, .int 0]) inT5 tyX5 tyX5_ok nmX5 hin0 (kd_b rfl) rfl rfl rfl 35 (by decide) k_620 rfl rfl rfl rfl rfl (Nat.le_of_ble_eq_true rfl) d_M_init_217 rfl ?_
  refine v_aload_n hX d_M_init_220 rfl rfl ?_
  refine v_sipush (v := 4010) hX d_M_init_221 (by decide) ?_
  refine v_newp hX 74 0 (kd 75) (N := 4010) (ty := .int) (4010, .inl (fun _ => 0)) rfl (fun _ => rfl) (fun _ h => h) k_44 rfl (by decide) (by decide) (Nat.le_of_ble_eq_true rfl) (Nat.le_of_ble_eq_true rfl) (Nat.le_of_ble_eq_true rfl) d_M_init_224 (kd_step 74) (kd_self 74) (fun q74 => ?_)
  refine v_putFE hX 48 (fs2 := [.int 0, .ref q49, .ref q50, .ref q51, .ref q52, .ref q53, .ref q54, .ref q55, .ref q56, .int 0, .int 0, .int 0, .ref q57, .ref q58, .ref q59, .ref q60, .ref q61, .ref q62, .int 0, .int 0, .int 0, .int 0, .int 0, .int 0, .ref q63, .ref q64, .ref q65, .ref q66, .ref q67, .ref q68, .ref q69, .ref q70, .ref q71, .ref q72, .int 0, .ref q73, .ref q74, .null, .int 0, .int 0, .int 0, .int 0, .int 0, .int 0, .int 0]) inT5 tyX5 tyX5_ok nmX5 hin0 (kd_b rfl) rfl rfl rfl 36 (by decide) k_621 rfl rfl rfl rfl rfl (Nat.le_of_ble_eq_true rfl) d_M_init_226 rfl ?_
  refine v_aload_n hX d_M_init_229 rfl rfl ?_
  refine v_sipush (v := 4300) hX d_M_init_230 (by decide) ?_
  refine v_newp hX 75 0 (kd 76) (N := 4300) (ty := .int) (4300, .inl (fun _ => 0)) rfl (fun _ => rfl) (fun _ h => h) k_44 rfl (by decide) (by decide) (Nat.le_of_ble_eq_true rfl) (Nat.le_of_ble_eq_true rfl) (Nat.le_of_ble_eq_true rfl) d_M_init_233 (kd_step 75) (kd_self 75) (fun q75 => ?_)
  refine v_putFE hX 48 (fs2 := [.int 0, .ref q49, .ref q50, .ref q51, .ref q52, .ref q53, .ref q54, .ref q55, .ref q56, .int 0, .int 0, .int 0, .ref q57, .ref q58, .ref q59, .ref q60, .ref q61, .ref q62, .int 0, .int 0, .int 0, .int 0, .int 0, .int 0, .ref q63, .ref q64, .ref q65, .ref q66, .ref q67, .ref q68, .ref q69, .ref q70, .ref q71, .ref q72, .int 0, .ref q73, .ref q74, .ref q75, .int 0, .int 0, .int 0, .int 0, .int 0, .int 0, .int 0]) inT5 tyX5 tyX5_ok nmX5 hin0 (kd_b rfl) rfl rfl rfl 37 (by decide) k_622 rfl rfl rfl rfl rfl (Nat.le_of_ble_eq_true rfl) d_M_init_235 rfl ?_
  refine v_aload_n hX d_M_init_238 rfl rfl ?_
  refine c_V hX 48 (rest := []) hl (c_M_empty0 rfl rfl rfl rfl rfl rfl rfl) k_581 k_583 kp_27 k_6 k_584 rfl q_M_empty ⟨(Nat.le_of_ble_eq_true rfl), (Nat.le_of_ble_eq_true rfl)⟩ (kd_b rfl) rfl rfl rfl rfl rfl rfl (Nat.le_of_ble_eq_true rfl) d_M_init_239 ⟨(Nat.le_of_ble_eq_true rfl), (Nat.le_of_ble_eq_true rfl)⟩ (fun rv d2 lo2 va2 kc ns hp => ?_)
  obtain ⟨rfl, rfl, rfl, rfl, rfl, rfl⟩ := hp
  show V X D CL A _ _ _ _ _ _ _ []
  refine v_vret hX hE d_M_init_242 (Nat.le_of_ble_eq_true rfl) (Nat.le_of_ble_eq_true rfl) ⟨rfl, rfl, rfl, ?_, ?_, rfl, rfl⟩
  · intro k hk
    have hk := Nat.le_of_ble_eq_true hk
    match k, hk with
    | 0, _ => exact ⟨rfl, rfl⟩
    | 1, _ => exact ⟨rfl, rfl⟩
    | 2, _ => exact ⟨rfl, rfl⟩
    | 3, _ => exact ⟨rfl, rfl⟩
    | 4, _ => exact ⟨rfl, rfl⟩
    | 5, _ => exact ⟨rfl, rfl⟩
    | 6, _ => exact ⟨rfl, rfl⟩
    | 7, _ => exact ⟨rfl, rfl⟩
    | 8, _ => exact ⟨rfl, rfl⟩
    | 9, _ => exact ⟨rfl, rfl⟩
    | 10, _ => exact ⟨rfl, rfl⟩
    | 11, _ => exact ⟨rfl, rfl⟩
    | 12, _ => exact ⟨rfl, rfl⟩
    | 13, _ => exact ⟨rfl, rfl⟩
    | 14, _ => exact ⟨rfl, rfl⟩
    | 15, _ => exact ⟨rfl, rfl⟩
    | 16, _ => exact ⟨rfl, rfl⟩
    | 17, _ => exact ⟨rfl, rfl⟩
    | 18, _ => exact ⟨rfl, rfl⟩
    | 19, _ => exact ⟨rfl, rfl⟩
    | 20, _ => exact ⟨rfl, rfl⟩
    | 21, _ => exact ⟨rfl, rfl⟩
    | 22, _ => exact ⟨rfl, rfl⟩
    | 23, _ => exact ⟨rfl, rfl⟩
    | 24, _ => exact ⟨rfl, rfl⟩
    | 25, _ => exact ⟨rfl, rfl⟩
    | 26, _ => exact ⟨rfl, rfl⟩
    | 27, _ => exact ⟨rfl, rfl⟩
    | 28, _ => exact ⟨rfl, rfl⟩
    | 29, _ => exact ⟨rfl, rfl⟩
    | 30, _ => exact ⟨rfl, rfl⟩
    | 31, _ => exact ⟨rfl, rfl⟩
    | 32, _ => exact ⟨rfl, rfl⟩
    | 33, _ => exact ⟨rfl, rfl⟩
    | 34, _ => exact ⟨rfl, rfl⟩
    | 35, _ => exact ⟨rfl, rfl⟩
    | 36, _ => exact ⟨rfl, rfl⟩
    | 37, _ => exact ⟨rfl, rfl⟩
    | 38, _ => exact ⟨rfl, rfl⟩
    | 39, _ => exact ⟨rfl, rfl⟩
    | 40, _ => exact ⟨rfl, rfl⟩
    | 41, _ => exact ⟨rfl, rfl⟩
    | 42, _ => exact ⟨rfl, rfl⟩
    | 43, _ => exact ⟨rfl, rfl⟩
    | 44, _ => exact ⟨rfl, rfl⟩
    | 45, _ => exact ⟨rfl, rfl⟩
    | 46, _ => exact ⟨rfl, rfl⟩
    | 47, _ => exact ⟨rfl, rfl⟩
    | k + 48, h => exact absurd h (by omega)
  · intro k hk
    rw [Bool.and_eq_true] at hk
    have h1 := Nat.le_of_ble_eq_true hk.1
    have h2 := Nat.le_of_ble_eq_true hk.2
    obtain ⟨i, rfl⟩ : ∃ i, k = 48 + i := ⟨k - 48, by omega⟩
    have hk : i < 28 := by omega
    clear h1 h2
    match i, hk with
    | 0, _ => rfl
    | 1, _ => rfl
    | 2, _ => rfl
    | 3, _ => rfl
    | 4, _ => rfl
    | 5, _ => rfl
    | 6, _ => rfl
    | 7, _ => rfl
    | 8, _ => rfl
    | 9, _ => rfl
    | 10, _ => rfl
    | 11, _ => rfl
    | 12, _ => rfl
    | 13, _ => rfl
    | 14, _ => rfl
    | 15, _ => rfl
    | 16, _ => rfl
    | 17, _ => rfl
    | 18, _ => rfl
    | 19, _ => rfl
    | 20, _ => rfl
    | 21, _ => rfl
    | 22, _ => rfl
    | 23, _ => rfl
    | 24, _ => rfl
    | 25, _ => rfl
    | 26, _ => rfl
    | 27, _ => rfl
    | k + 28, h => exact absurd h (by omega)
