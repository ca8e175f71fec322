section KMh
theorem mhC_out {k x : Int32} (h : k.toInt < -1 ∨ 8 < k.toInt) : mhC k x = 0 := by
  have n : ∀ v : Int32, -1 ≤ v.toInt → v.toInt ≤ 8 → ¬ k = v := fun v h1 h2 e => by subst e; omega
  unfold mhC
  rw [if_neg (fun z => z.elim (n (-1) (by decide) (by decide)) (n 4 (by decide) (by decide))), if_neg (fun z => z.elim (n 5 (by decide) (by decide)) (n 6 (by decide) (by decide))), if_neg (n 7 (by decide) (by decide)), if_neg (fun z => z.elim (n 0 (by decide) (by decide)) (fun z => z.elim (n 1 (by decide) (by decide)) (n 8 (by decide) (by decide)))), if_neg (n 3 (by decide) (by decide))]
theorem mhC_m1 (x : Int32) : mhC (-1) x = oneOf x 127 := rfl
theorem mhC_4 (x : Int32) : mhC 4 x = oneOf x 127 := rfl
theorem mhC_5 (x : Int32) : mhC 5 x = (if x = 7 then 1 else 0) := rfl
theorem mhC_6 (x : Int32) : mhC 6 x = (if x = 7 then 1 else 0) := rfl
theorem mhC_7 (x : Int32) : mhC 7 x = oneOf x 1919 := rfl
theorem mhC_0 (x : Int32) : mhC 0 x = oneOf x 1792 := rfl
theorem mhC_1 (x : Int32) : mhC 1 x = oneOf x 1792 := rfl
theorem mhC_8 (x : Int32) : mhC 8 x = oneOf x 1792 := rfl
theorem mhC_3 (x : Int32) : mhC 3 x = (if x = 10 then 1 else 0) := rfl
theorem mhC_2 (x : Int32) : mhC 2 x = 0 := rfl
end KMh
set_option maxHeartbeats 4000000 in
set_option maxRecDepth 100000 in
theorem c_N_mayHold {l : Launch} {D : va_G} {A : Nat → Prop} {cI cB cZ cJ cN : ClassId} {ob : Nat → Nat} {dom : Nat → Prop} {loc : Nat → Nat} {val : Nat → va_E} {T : TR} {n : Nat} (hN : NodesI ob T n dom loc val) {i : Nat} (hi : i < n) (x : Int32) : kM l y_N_mayHold (Cond.code y_N_mayHold b_N_mayHold 2 (some FieldType.boolean) :: TT) (rmM 2) D CL (TY cI cB cZ cJ cN) A [.ref (ob (1000 + i)), .int x] dom loc val (fun rv d lo va kc ns => rv = some (.int (mhC (tK T i) x)) ∧ dom = d ∧ loc = lo ∧ val = va ∧ kc = 0 ∧ ns = 0) := by
  refine kM_of (lv0 := [some (.ref (ob (1000 + i))), some (.int x)]) (own := "ProsePages$Node") (by decide) rfl (List.forall_mem_cons.mpr ⟨rfl, List.forall_mem_cons.mpr ⟨rfl, fun _ h => nomatch h⟩⟩) (Nat.le_of_ble_eq_true rfl) rfl (Nat.le_of_ble_eq_true rfl) (fun X hl hX hE hin0 => ?_)
  refine v_aload_n hX d_N_mayHold_0 rfl rfl ?_
  refine v_get hX (1000 + i) (v := .int (tK T i)) inT0 (hN.2 i hi).1 (hN.2 i hi).2.1 (hN.2 i hi).2.2.choose_spec.choose_spec.choose_spec.choose_spec rfl 1 (by decide) fl_N_18 rfl rfl d_N_mayHold_1 ?_
  by_cases hw : ((tK T i)).toInt < -1 ∨ 8 < ((tK T i)).toInt
  · refine v_tableOut hX d_N_mayHold_4 (tgt := 107) hw (by decide) ?_
    refine v_iconst (v := 0) hX d_N_mayHold_107 (by decide) ?_
    exact v_zret hX hE (by first | decide | rfl | exact oneOf_nar | exact blk_nar | exact inl_nar | assumption) d_N_mayHold_108 (Nat.le_of_ble_eq_true rfl) (Nat.le_of_ble_eq_true rfl) ⟨congrArg (fun z => some (Value.int z)) (mhC_out hw).symm, rfl, rfl, rfl, rfl, rfl⟩
  · have hk9 : ((tK T i)).toInt = -1 ∨ ((tK T i)).toInt = 0 ∨ ((tK T i)).toInt = 1 ∨ ((tK T i)).toInt = 2 ∨ ((tK T i)).toInt = 3 ∨ ((tK T i)).toInt = 4 ∨ ((tK T i)).toInt = 5 ∨ ((tK T i)).toInt = 6 ∨ ((tK T i)).toInt = 7 ∨ ((tK T i)).toInt = 8 := by omega
    rcases hk9 with hk9 | hk9 | hk9 | hk9 | hk9 | hk9 | hk9 | hk9 | hk9 | hk9
    · refine v_tableIn hX d_N_mayHold_4 (tgt := 60) (by omega) (by omega) (off := 56) (by rw [hk9]; rfl) (by decide) ?_
      have hv9 : (tK T i) = (-1) := i32_lit hk9 (-1) (by decide)
      refine v_iload_n hX d_N_mayHold_60 rfl rfl ?_
      refine v_bipush (v := 127) hX d_N_mayHold_61 (by decide) ?_
      refine c_SN hX (rest := []) hl (c_P_isOneOf2 x 127) (host := "ProsePages") (by decide) sm_P_isOneOf in_P cd_P_isOneOf q_P_isOneOf ⟨(Nat.le_of_ble_eq_true rfl), (Nat.le_of_ble_eq_true rfl)⟩ rfl rfl rfl (Nat.le_of_ble_eq_true rfl) d_N_mayHold_63 ⟨(Nat.le_of_ble_eq_true rfl), (Nat.le_of_ble_eq_true rfl)⟩ (fun rv d2 lo2 va2 kc ns hp => ?_)
      obtain ⟨rfl, rfl, rfl, rfl, rfl, rfl⟩ := hp
      show V X D CL A _ _ _ _ _ _ _ (.int (oneOf x 127) :: [])
      exact v_zret hX hE (by first | decide | rfl | exact oneOf_nar | exact blk_nar | exact inl_nar | assumption) d_N_mayHold_66 (Nat.le_of_ble_eq_true rfl) (Nat.le_of_ble_eq_true rfl) ⟨congrArg (fun z => some (Value.int z)) (by rw [hv9, mhC_m1]), rfl, rfl, rfl, rfl, rfl⟩
    · refine v_tableIn hX d_N_mayHold_4 (tgt := 87) (by omega) (by omega) (off := 83) (by rw [hk9]; rfl) (by decide) ?_
      have hv9 : (tK T i) = 0 := i32_lit hk9 0 (by decide)
      refine v_iload_n hX d_N_mayHold_87 rfl rfl ?_
      refine v_sipush (v := 1792) hX d_N_mayHold_88 (by decide) ?_
      refine c_SN hX (rest := []) hl (c_P_isOneOf2 x 1792) (host := "ProsePages") (by decide) sm_P_isOneOf in_P cd_P_isOneOf q_P_isOneOf ⟨(Nat.le_of_ble_eq_true rfl), (Nat.le_of_ble_eq_true rfl)⟩ rfl rfl rfl (Nat.le_of_ble_eq_true rfl) d_N_mayHold_91 ⟨(Nat.le_of_ble_eq_true rfl), (Nat.le_of_ble_eq_true rfl)⟩ (fun rv d2 lo2 va2 kc ns hp => ?_)
      obtain ⟨rfl, rfl, rfl, rfl, rfl, rfl⟩ := hp
      show V X D CL A _ _ _ _ _ _ _ (.int (oneOf x 1792) :: [])
      exact v_zret hX hE (by first | decide | rfl | exact oneOf_nar | exact blk_nar | exact inl_nar | assumption) d_N_mayHold_94 (Nat.le_of_ble_eq_true rfl) (Nat.le_of_ble_eq_true rfl) ⟨congrArg (fun z => some (Value.int z)) (by rw [hv9, mhC_0]), rfl, rfl, rfl, rfl, rfl⟩
    · refine v_tableIn hX d_N_mayHold_4 (tgt := 87) (by omega) (by omega) (off := 83) (by rw [hk9]; rfl) (by decide) ?_
      have hv9 : (tK T i) = 1 := i32_lit hk9 1 (by decide)
      refine v_iload_n hX d_N_mayHold_87 rfl rfl ?_
      refine v_sipush (v := 1792) hX d_N_mayHold_88 (by decide) ?_
      refine c_SN hX (rest := []) hl (c_P_isOneOf2 x 1792) (host := "ProsePages") (by decide) sm_P_isOneOf in_P cd_P_isOneOf q_P_isOneOf ⟨(Nat.le_of_ble_eq_true rfl), (Nat.le_of_ble_eq_true rfl)⟩ rfl rfl rfl (Nat.le_of_ble_eq_true rfl) d_N_mayHold_91 ⟨(Nat.le_of_ble_eq_true rfl), (Nat.le_of_ble_eq_true rfl)⟩ (fun rv d2 lo2 va2 kc ns hp => ?_)
      obtain ⟨rfl, rfl, rfl, rfl, rfl, rfl⟩ := hp
      show V X D CL A _ _ _ _ _ _ _ (.int (oneOf x 1792) :: [])
      exact v_zret hX hE (by first | decide | rfl | exact oneOf_nar | exact blk_nar | exact inl_nar | assumption) d_N_mayHold_94 (Nat.le_of_ble_eq_true rfl) (Nat.le_of_ble_eq_true rfl) ⟨congrArg (fun z => some (Value.int z)) (by rw [hv9, mhC_1]), rfl, rfl, rfl, rfl, rfl⟩
    · refine v_tableIn hX d_N_mayHold_4 (tgt := 107) (by omega) (by omega) (off := 103) (by rw [hk9]; rfl) (by decide) ?_
      have hv9 : (tK T i) = 2 := i32_lit hk9 2 (by decide)
      refine v_iconst (v := 0) hX d_N_mayHold_107 (by decide) ?_
      exact v_zret hX hE (by first | decide | rfl | exact oneOf_nar | exact blk_nar | exact inl_nar | assumption) d_N_mayHold_108 (Nat.le_of_ble_eq_true rfl) (Nat.le_of_ble_eq_true rfl) ⟨congrArg (fun z => some (Value.int z)) (by rw [hv9, mhC_2]), rfl, rfl, rfl, rfl, rfl⟩
    · refine v_tableIn hX d_N_mayHold_4 (tgt := 95) (by omega) (by omega) (off := 91) (by rw [hk9]; rfl) (by decide) ?_
      have hv9 : (tK T i) = 3 := i32_lit hk9 3 (by decide)
      refine v_iload_n hX d_N_mayHold_95 rfl rfl ?_
      refine v_bipush (v := 10) hX d_N_mayHold_96 (by decide) ?_
      refine v_icmp_ne hX d_N_mayHold_98 (tgt := 105) (by decide) (fun c98 => ?_) (fun c98 => ?_)
      · refine v_iconst (v := 0) hX d_N_mayHold_105 (by decide) ?_
        exact v_zret hX hE (by first | decide | rfl | exact oneOf_nar | exact blk_nar | exact inl_nar | assumption) d_N_mayHold_106 (Nat.le_of_ble_eq_true rfl) (Nat.le_of_ble_eq_true rfl) ⟨congrArg (fun z => some (Value.int z)) (by rw [hv9, mhC_3, if_neg c98]), rfl, rfl, rfl, rfl, rfl⟩
      · refine v_iconst (v := 1) hX d_N_mayHold_101 (by decide) ?_
        refine v_goto hX d_N_mayHold_102 (tgt := 106) (by decide) ?_
        exact v_zret hX hE (by first | decide | rfl | exact oneOf_nar | exact blk_nar | exact inl_nar | assumption) d_N_mayHold_106 (Nat.le_of_ble_eq_true rfl) (Nat.le_of_ble_eq_true rfl) ⟨congrArg (fun z => some (Value.int z)) (by rw [hv9, mhC_3, if_pos c98]), rfl, rfl, rfl, rfl, rfl⟩
    · refine v_tableIn hX d_N_mayHold_4 (tgt := 60) (by omega) (by omega) (off := 56) (by rw [hk9]; rfl) (by decide) ?_
      have hv9 : (tK T i) = 4 := i32_lit hk9 4 (by decide)
      refine v_iload_n hX d_N_mayHold_60 rfl rfl ?_
      refine v_bipush (v := 127) hX d_N_mayHold_61 (by decide) ?_
      refine c_SN hX (rest := []) hl (c_P_isOneOf2 x 127) (host := "ProsePages") (by decide) sm_P_isOneOf in_P cd_P_isOneOf q_P_isOneOf ⟨(Nat.le_of_ble_eq_true rfl), (Nat.le_of_ble_eq_true rfl)⟩ rfl rfl rfl (Nat.le_of_ble_eq_true rfl) d_N_mayHold_63 ⟨(Nat.le_of_ble_eq_true rfl), (Nat.le_of_ble_eq_true rfl)⟩ (fun rv d2 lo2 va2 kc ns hp => ?_)
      obtain ⟨rfl, rfl, rfl, rfl, rfl, rfl⟩ := hp
      show V X D CL A _ _ _ _ _ _ _ (.int (oneOf x 127) :: [])
      exact v_zret hX hE (by first | decide | rfl | exact oneOf_nar | exact blk_nar | exact inl_nar | assumption) d_N_mayHold_66 (Nat.le_of_ble_eq_true rfl) (Nat.le_of_ble_eq_true rfl) ⟨congrArg (fun z => some (Value.int z)) (by rw [hv9, mhC_4]), rfl, rfl, rfl, rfl, rfl⟩
    · refine v_tableIn hX d_N_mayHold_4 (tgt := 67) (by omega) (by omega) (off := 63) (by rw [hk9]; rfl) (by decide) ?_
      have hv9 : (tK T i) = 5 := i32_lit hk9 5 (by decide)
      refine v_iload_n hX d_N_mayHold_67 rfl rfl ?_
      refine v_bipush (v := 7) hX d_N_mayHold_68 (by decide) ?_
      refine v_icmp_ne hX d_N_mayHold_70 (tgt := 77) (by decide) (fun c70 => ?_) (fun c70 => ?_)
      · refine v_iconst (v := 0) hX d_N_mayHold_77 (by decide) ?_
        exact v_zret hX hE (by first | decide | rfl | exact oneOf_nar | exact blk_nar | exact inl_nar | assumption) d_N_mayHold_78 (Nat.le_of_ble_eq_true rfl) (Nat.le_of_ble_eq_true rfl) ⟨congrArg (fun z => some (Value.int z)) (by rw [hv9, mhC_5, if_neg c70]), rfl, rfl, rfl, rfl, rfl⟩
      · refine v_iconst (v := 1) hX d_N_mayHold_73 (by decide) ?_
        refine v_goto hX d_N_mayHold_74 (tgt := 78) (by decide) ?_
        exact v_zret hX hE (by first | decide | rfl | exact oneOf_nar | exact blk_nar | exact inl_nar | assumption) d_N_mayHold_78 (Nat.le_of_ble_eq_true rfl) (Nat.le_of_ble_eq_true rfl) ⟨congrArg (fun z => some (Value.int z)) (by rw [hv9, mhC_5, if_pos c70]), rfl, rfl, rfl, rfl, rfl⟩
    · refine v_tableIn hX d_N_mayHold_4 (tgt := 67) (by omega) (by omega) (off := 63) (by rw [hk9]; rfl) (by decide) ?_
      have hv9 : (tK T i) = 6 := i32_lit hk9 6 (by decide)
      refine v_iload_n hX d_N_mayHold_67 rfl rfl ?_
      refine v_bipush (v := 7) hX d_N_mayHold_68 (by decide) ?_
      refine v_icmp_ne hX d_N_mayHold_70 (tgt := 77) (by decide) (fun c70 => ?_) (fun c70 => ?_)
      · refine v_iconst (v := 0) hX d_N_mayHold_77 (by decide) ?_
        exact v_zret hX hE (by first | decide | rfl | exact oneOf_nar | exact blk_nar | exact inl_nar | assumption) d_N_mayHold_78 (Nat.le_of_ble_eq_true rfl) (Nat.le_of_ble_eq_true rfl) ⟨congrArg (fun z => some (Value.int z)) (by rw [hv9, mhC_6, if_neg c70]), rfl, rfl, rfl, rfl, rfl⟩
      · refine v_iconst (v := 1) hX d_N_mayHold_73 (by decide) ?_
        refine v_goto hX d_N_mayHold_74 (tgt := 78) (by decide) ?_
        exact v_zret hX hE (by first | decide | rfl | exact oneOf_nar | exact blk_nar | exact inl_nar | assumption) d_N_mayHold_78 (Nat.le_of_ble_eq_true rfl) (Nat.le_of_ble_eq_true rfl) ⟨congrArg (fun z => some (Value.int z)) (by rw [hv9, mhC_6, if_pos c70]), rfl, rfl, rfl, rfl, rfl⟩
    · refine v_tableIn hX d_N_mayHold_4 (tgt := 79) (by omega) (by omega) (off := 75) (by rw [hk9]; rfl) (by decide) ?_
      have hv9 : (tK T i) = 7 := i32_lit hk9 7 (by decide)
      refine v_iload_n hX d_N_mayHold_79 rfl rfl ?_
      refine v_sipush (v := 1919) hX d_N_mayHold_80 (by decide) ?_
      refine c_SN hX (rest := []) hl (c_P_isOneOf2 x 1919) (host := "ProsePages") (by decide) sm_P_isOneOf in_P cd_P_isOneOf q_P_isOneOf ⟨(Nat.le_of_ble_eq_true rfl), (Nat.le_of_ble_eq_true rfl)⟩ rfl rfl rfl (Nat.le_of_ble_eq_true rfl) d_N_mayHold_83 ⟨(Nat.le_of_ble_eq_true rfl), (Nat.le_of_ble_eq_true rfl)⟩ (fun rv d2 lo2 va2 kc ns hp => ?_)
      obtain ⟨rfl, rfl, rfl, rfl, rfl, rfl⟩ := hp
      show V X D CL A _ _ _ _ _ _ _ (.int (oneOf x 1919) :: [])
      exact v_zret hX hE (by first | decide | rfl | exact oneOf_nar | exact blk_nar | exact inl_nar | assumption) d_N_mayHold_86 (Nat.le_of_ble_eq_true rfl) (Nat.le_of_ble_eq_true rfl) ⟨congrArg (fun z => some (Value.int z)) (by rw [hv9, mhC_7]), rfl, rfl, rfl, rfl, rfl⟩
    · refine v_tableIn hX d_N_mayHold_4 (tgt := 87) (by omega) (by omega) (off := 83) (by rw [hk9]; rfl) (by decide) ?_
      have hv9 : (tK T i) = 8 := i32_lit hk9 8 (by decide)
      refine v_iload_n hX d_N_mayHold_87 rfl rfl ?_
      refine v_sipush (v := 1792) hX d_N_mayHold_88 (by decide) ?_
      refine c_SN hX (rest := []) hl (c_P_isOneOf2 x 1792) (host := "ProsePages") (by decide) sm_P_isOneOf in_P cd_P_isOneOf q_P_isOneOf ⟨(Nat.le_of_ble_eq_true rfl), (Nat.le_of_ble_eq_true rfl)⟩ rfl rfl rfl (Nat.le_of_ble_eq_true rfl) d_N_mayHold_91 ⟨(Nat.le_of_ble_eq_true rfl), (Nat.le_of_ble_eq_true rfl)⟩ (fun rv d2 lo2 va2 kc ns hp => ?_)
      obtain ⟨rfl, rfl, rfl, rfl, rfl, rfl⟩ := hp
      show V X D CL A _ _ _ _ _ _ _ (.int (oneOf x 1792) :: [])
      exact v_zret hX hE (by first | decide | rfl | exact oneOf_nar | exact blk_nar | exact inl_nar | assumption) d_N_mayHold_94 (Nat.le_of_ble_eq_true rfl) (Nat.le_of_ble_eq_true rfl) ⟨congrArg (fun z => some (Value.int z)) (by rw [hv9, mhC_8]), rfl, rfl, rfl, rfl, rfl⟩
def numC (k x : Int32) : Int32 := if k = 1 then (if x < 1 then 0 else if 6 < x then 0 else 1) else if k = 6 then (if x < 0 then 0 else if 999999999 < x then 0 else 1) else 1
set_option maxHeartbeats 4000000 in
set_option maxRecDepth 100000 in
theorem c_P_isNumberOf {l : Launch} {D : va_G} {A : Nat → Prop} {cI cB cZ cJ cN : ClassId} {dom : Nat → Prop} {loc : Nat → Nat} {val : Nat → va_E} (k x : Int32) : kM l y_P_isNumberOf (Cond.code y_P_isNumberOf b_P_isNumberOf 2 (some FieldType.boolean) :: TT) (rmM 1) D CL (TY cI cB cZ cJ cN) A [.int k, .int x] dom loc val (fun rv d lo va kc ns => rv = some (.int (numC k x)) ∧ dom = d ∧ loc = lo ∧ val = va ∧ kc = 0 ∧ ns = 0) := by
  refine kM_of (lv0 := [some (.int k), some (.int x)]) (own := "ProsePages") (by decide) rfl (List.forall_mem_cons.mpr ⟨rfl, List.forall_mem_cons.mpr ⟨rfl, fun _ h => nomatch h⟩⟩) (Nat.le_of_ble_eq_true rfl) rfl (Nat.le_of_ble_eq_true rfl) (fun X hl hX hE hin0 => ?_)
  refine v_iload_n hX d_P_isNumberOf_0 rfl rfl ?_
  refine v_iconst (v := 1) hX d_P_isNumberOf_1 (by decide) ?_
  refine v_icmp_ne hX d_P_isNumberOf_2 (tgt := 22) (by decide) (fun c2 => ?_) (fun c2 => ?_)
  · refine v_iload_n hX d_P_isNumberOf_22 rfl rfl ?_
    refine v_bipush (v := 6) hX d_P_isNumberOf_23 (by decide) ?_
    refine v_icmp_ne hX d_P_isNumberOf_25 (tgt := 38) (by decide) (fun c25 => ?_) (fun c25 => ?_)
    · refine v_iconst (v := 1) hX d_P_isNumberOf_38 (by decide) ?_
      refine v_goto hX d_P_isNumberOf_39 (tgt := 43) (by decide) ?_
      exact v_zret hX hE (by first | decide | rfl | exact oneOf_nar | exact blk_nar | exact inl_nar | assumption) d_P_isNumberOf_43 (Nat.le_of_ble_eq_true rfl) (Nat.le_of_ble_eq_true rfl) ⟨congrArg (fun z => some (Value.int z)) (by simp [numC, c2, c25]), rfl, rfl, rfl, rfl, rfl⟩
    · refine v_iload_n hX d_P_isNumberOf_28 rfl rfl ?_
      refine v_if_lt hX d_P_isNumberOf_29 (tgt := 42) (by decide) (fun c29 => ?_) (fun c29 => ?_)
      · refine v_iconst (v := 0) hX d_P_isNumberOf_42 (by decide) ?_
        exact v_zret hX hE (by first | decide | rfl | exact oneOf_nar | exact blk_nar | exact inl_nar | assumption) d_P_isNumberOf_43 (Nat.le_of_ble_eq_true rfl) (Nat.le_of_ble_eq_true rfl) ⟨congrArg (fun z => some (Value.int z)) (by simp [numC, c2, c25, c29]), rfl, rfl, rfl, rfl, rfl⟩
      · refine v_iload_n hX d_P_isNumberOf_32 rfl rfl ?_
        refine v_ldc (v := 999999999) hX ct_P_212 d_P_isNumberOf_33 ?_
        refine v_icmp_gt hX d_P_isNumberOf_35 (tgt := 42) (by decide) (fun c35 => ?_) (fun c35 => ?_)
        · refine v_iconst (v := 0) hX d_P_isNumberOf_42 (by decide) ?_
          exact v_zret hX hE (by first | decide | rfl | exact oneOf_nar | exact blk_nar | exact inl_nar | assumption) d_P_isNumberOf_43 (Nat.le_of_ble_eq_true rfl) (Nat.le_of_ble_eq_true rfl) ⟨congrArg (fun z => some (Value.int z)) (by simp [numC, c2, c25, c29, c35]), rfl, rfl, rfl, rfl, rfl⟩
        · refine v_iconst (v := 1) hX d_P_isNumberOf_38 (by decide) ?_
          refine v_goto hX d_P_isNumberOf_39 (tgt := 43) (by decide) ?_
          exact v_zret hX hE (by first | decide | rfl | exact oneOf_nar | exact blk_nar | exact inl_nar | assumption) d_P_isNumberOf_43 (Nat.le_of_ble_eq_true rfl) (Nat.le_of_ble_eq_true rfl) ⟨congrArg (fun z => some (Value.int z)) (by simp [numC, c2, c25, c29, c35]), rfl, rfl, rfl, rfl, rfl⟩
  · refine v_iload_n hX d_P_isNumberOf_5 rfl rfl ?_
    refine v_iconst (v := 1) hX d_P_isNumberOf_6 (by decide) ?_
    refine v_icmp_lt hX d_P_isNumberOf_7 (tgt := 20) (by decide) (fun c7 => ?_) (fun c7 => ?_)
    · refine v_iconst (v := 0) hX d_P_isNumberOf_20 (by decide) ?_
      exact v_zret hX hE (by first | decide | rfl | exact oneOf_nar | exact blk_nar | exact inl_nar | assumption) d_P_isNumberOf_21 (Nat.le_of_ble_eq_true rfl) (Nat.le_of_ble_eq_true rfl) ⟨congrArg (fun z => some (Value.int z)) (by simp [numC, c2, c7]), rfl, rfl, rfl, rfl, rfl⟩
    · refine v_iload_n hX d_P_isNumberOf_10 rfl rfl ?_
      refine v_bipush (v := 6) hX d_P_isNumberOf_11 (by decide) ?_
      refine v_icmp_gt hX d_P_isNumberOf_13 (tgt := 20) (by decide) (fun c13 => ?_) (fun c13 => ?_)
      · refine v_iconst (v := 0) hX d_P_isNumberOf_20 (by decide) ?_
        exact v_zret hX hE (by first | decide | rfl | exact oneOf_nar | exact blk_nar | exact inl_nar | assumption) d_P_isNumberOf_21 (Nat.le_of_ble_eq_true rfl) (Nat.le_of_ble_eq_true rfl) ⟨congrArg (fun z => some (Value.int z)) (by simp [numC, c2, c7, c13]), rfl, rfl, rfl, rfl, rfl⟩
      · refine v_iconst (v := 1) hX d_P_isNumberOf_16 (by decide) ?_
        refine v_goto hX d_P_isNumberOf_17 (tgt := 21) (by decide) ?_
        exact v_zret hX hE (by first | decide | rfl | exact oneOf_nar | exact blk_nar | exact inl_nar | assumption) d_P_isNumberOf_21 (Nat.le_of_ble_eq_true rfl) (Nat.le_of_ble_eq_true rfl) ⟨congrArg (fun z => some (Value.int z)) (by simp [numC, c2, c7, c13]), rfl, rfl, rfl, rfl, rfl⟩
/-- a node takes another as its last -/
def tkT (T : TR) (i m : Nat) : TR := match tL T i with
  | none => sTL (sTF T i (some m)) i (some m)
  | some l => sTL (sTN T l (some m)) i (some m)
set_option maxHeartbeats 4000000 in
set_option maxRecDepth 100000 in
theorem c_N_take {l : Launch} {D : va_G} {A : Nat → Prop} {cI cB cZ cJ cN : ClassId} {ob : Nat → Nat} {dom : Nat → Prop} {loc : Nat → Nat} {val : Nat → va_E} {T : TR} {n : Nat} (hN : NodesI ob T n dom loc val) (hU : TreeU T n) {i m : Nat} (hi : i < n) : kM l y_N_take (Cond.code y_N_take b_N_take 2 none :: TT) (rmM 1) D CL (TY cI cB cZ cJ cN) A [.ref (ob (1000 + i)), .ref (ob (1000 + m))] dom loc val (fun rv d lo va kc ns => rv = none ∧ dom = d ∧ loc = lo ∧ kc = 0 ∧ ns = 0 ∧ NodesI ob (tkT T i m) n dom lo va ∧ frO val va) := by
  refine kM_of (lv0 := [some (.ref (ob (1000 + i))), some (.ref (ob (1000 + m)))]) (own := "ProsePages$Node") (by decide) rfl (List.forall_mem_cons.mpr ⟨rfl, List.forall_mem_cons.mpr ⟨rfl, fun _ h => nomatch h⟩⟩) (Nat.le_of_ble_eq_true rfl) rfl (Nat.le_of_ble_eq_true rfl) (fun X hl hX hE hin0 => ?_)
  refine v_aload_n hX d_N_take_0 rfl rfl ?_
  refine v_get hX (1000 + i) (v := orf ob (tL T i)) inT0 (hN.2 i hi).1 (hN.2 i hi).2.1 (hN.2 i hi).2.2.choose_spec.choose_spec.choose_spec.choose_spec rfl 8 (by decide) fl_N_41 rfl rfl d_N_take_1 ?_
  rcases hq1 : (tL T i) with _ | j1
  · refine v_ifnonnull hX none d_N_take_4 (tgt := 15) (by decide) (fun _ h => nomatch h) (fun _ => ?_)
    refine v_aload_n hX d_N_take_7 rfl rfl ?_
    refine v_aload_n hX d_N_take_8 rfl rfl ?_
    refine v_nFst hX hN hi (m := m) fl_N_44 d_N_take_9 (fun va2 hva2 hN2 hf2 => ?_)
    have hg2 := frO_up hva2 (Nat.lt_of_lt_of_le hi hN2.1)
    refine v_goto hX d_N_take_12 (tgt := 23) (by decide) ?_
    refine v_aload_n hX d_N_take_23 rfl rfl ?_
    refine v_aload_n hX d_N_take_24 rfl rfl ?_
    refine v_nLst hX hN2 hi (m := m) fl_N_41 d_N_take_25 (fun va3 hva3 hN3 hf3 => ?_)
    have hg3 := frO_up hva3 (Nat.lt_of_lt_of_le hi hN3.1)
    exact v_vret hX hE d_N_take_28 (Nat.le_of_ble_eq_true rfl) (Nat.le_of_ble_eq_true rfl) ⟨rfl, rfl, rfl, rfl, rfl, (by unfold tkT; rw [hq1]; exact hN3), ((frO.rf.trans hg2).trans hg3)⟩
  · have ht_j1 : j1 < n := (hU.2 i j1 hi hq1).2
    refine v_ifnonnull hX (some (ob (1000 + j1))) d_N_take_4 (tgt := 15) (by decide) (fun _ _ => ?_) (fun h => nomatch h)
    refine v_aload_n hX d_N_take_15 rfl rfl ?_
    refine v_get hX (1000 + i) (v := .ref (ob (1000 + j1))) inT0 (hN.2 i hi).1 (hN.2 i hi).2.1 (hN.2 i hi).2.2.choose_spec.choose_spec.choose_spec.choose_spec rfl 8 (by decide) fl_N_41 rfl (by show some (orf ob (tL T i)) = _; rw [hq1]; rfl) d_N_take_16 ?_
    refine v_aload_n hX d_N_take_19 rfl rfl ?_
    refine v_nNxt hX hN ht_j1 (m := m) fl_N_47 d_N_take_20 (fun va4 hva4 hN4 hf4 => ?_)
    have hg4 := frO_up hva4 (Nat.lt_of_lt_of_le ht_j1 hN4.1)
    refine v_aload_n hX d_N_take_23 rfl rfl ?_
    refine v_aload_n hX d_N_take_24 rfl rfl ?_
    refine v_nLst hX hN4 hi (m := m) fl_N_41 d_N_take_25 (fun va5 hva5 hN5 hf5 => ?_)
    have hg5 := frO_up hva5 (Nat.lt_of_lt_of_le hi hN5.1)
    exact v_vret hX hE d_N_take_28 (Nat.le_of_ble_eq_true rfl) (Nat.le_of_ble_eq_true rfl) ⟨rfl, rfl, rfl, rfl, rfl, (by unfold tkT; rw [hq1]; exact hN5), ((frO.rf.trans hg4).trans hg5)⟩
/-- how far a chain of holders can still go -/
def up1 (o : Option Nat) : Nat := match o with
  | none => 0
  | some j => j + 1
set_option maxHeartbeats 4000000 in
set_option maxRecDepth 100000 in
theorem c_N_reachTo {l : Launch} {D : va_G} {A : Nat → Prop} {cI cB cZ cJ cN : ClassId} {ob : Nat → Nat} {dom : Nat → Prop} {loc : Nat → Nat} {val : Nat → va_E} {T : TR} {n : Nat} (hN : NodesI ob T n dom loc val) (hU : TreeU T n) {i : Nat} (hi : i < n) (x : Int32) : kM l y_N_reachTo (Cond.code y_N_reachTo b_N_reachTo 3 none :: TT) (rmM 1) D CL (TY cI cB cZ cJ cN) A [.ref (ob (1000 + i)), .int x] dom loc val (fun rv d lo va kc ns => rv = none ∧ dom = d ∧ loc = lo ∧ kc = 0 ∧ ns = 0 ∧ NodesI ob T n dom lo va ∧ frO val va) := by
  refine kM_of (lv0 := [some (.ref (ob (1000 + i))), some (.int x), none]) (own := "ProsePages$Node") (by decide) rfl (List.forall_mem_cons.mpr ⟨rfl, List.forall_mem_cons.mpr ⟨rfl, fun _ h => nomatch h⟩⟩) (Nat.le_of_ble_eq_true rfl) rfl (Nat.le_of_ble_eq_true rfl) (fun X hl hX hE hin0 => ?_)
  refine v_aload_n hX d_N_reachTo_0 rfl rfl ?_
  refine v_astore_n (lv' := [some (.ref (ob (1000 + i))), some (.int x), some (.ref (ob (1000 + i)))]) hX d_N_reachTo_1 rfl (Nat.le_of_ble_eq_true rfl) rfl ?_
  have loop : ∀ (m9 : Nat) (o : Option Nat) (vaL : Nat → va_E), up1 o < m9 → NodesI ob T n dom loc vaL → frO val vaL → (∀ j, o = some j → j < n) → V X D CL A dom loc vaL 0 0 2 [some (.ref (ob (1000 + i))), some (.int x), some (orf ob o)] [] := by
    intro m9
    induction m9 with
    | zero => intro o vaL hk; exact absurd hk (Nat.not_lt_zero _)
    | succ m9 ih =>
      intro o vaL hk hNL hfL hO
      refine v_aload_nQ hX (o.map (fun i => ob (1000 + i))) d_N_reachTo_2 rfl rfl ?_
      rcases hq1 : o with _ | j1
      · refine v_ifnull hX none d_N_reachTo_3 (tgt := 19) (by decide) (fun _ => ?_) (fun _ h => nomatch h)
        exact v_vret hX hE d_N_reachTo_19 (Nat.le_of_ble_eq_true rfl) (Nat.le_of_ble_eq_true rfl) ⟨rfl, rfl, rfl, rfl, rfl, hNL, hfL⟩
      · have ht_j1 : j1 < n := hO j1 hq1
        refine v_ifnull hX (some (ob (1000 + j1))) d_N_reachTo_3 (tgt := 19) (by decide) (fun h => nomatch h) (fun _ _ => ?_)
        refine v_aload_n hX d_N_reachTo_6 rfl rfl ?_
        refine v_iload_n hX d_N_reachTo_7 rfl rfl ?_
        refine v_nTo hX hNL ht_j1 (x := x) fl_N_34 d_N_reachTo_8 (fun va2 hva2 hN2 hf2 => ?_)
        have hg2 := frO_up hva2 (Nat.lt_of_lt_of_le ht_j1 hN2.1)
        refine v_aload_n hX d_N_reachTo_11 rfl rfl ?_
        refine v_get hX (1000 + j1) (v := orf ob (tU T j1)) inT0 (hN2.2 j1 ht_j1).1 (hN2.2 j1 ht_j1).2.1 (hN2.2 j1 ht_j1).2.2.choose_spec.choose_spec.choose_spec.choose_spec rfl 2 (by decide) fl_N_24 rfl rfl d_N_reachTo_12 ?_
        refine v_astore_nQ (lv' := [some (.ref (ob (1000 + i))), some (.int x), some (orf ob (tU T j1))]) hX ((tU T j1).map (fun i => ob (1000 + i))) d_N_reachTo_15 rfl (Nat.le_of_ble_eq_true rfl) rfl ?_
        refine v_goto hX d_N_reachTo_16 (tgt := 2) (by decide) ?_
        exact ih (tU T j1) va2 (by cases hq9 : tU T j1 with | none => (show 0 < m9; have := hk; rw [hq1] at this; have q : j1 + 1 < m9 + 1 := this; omega) | some e => (have h1 := hU.1 j1 e ht_j1 hq9; rw [hq1] at hk; have q : j1 + 1 < m9 + 1 := hk; show e + 1 < m9; omega)) hN2 (hfL.trans hg2) (fun e he => Nat.lt_trans (hU.1 j1 e ht_j1 he) ht_j1)
  exact loop _ (some i) val (Nat.lt_succ_self _) hN frO.rf (fun e he => by cases he; exact hi)
