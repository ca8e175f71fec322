set_option maxHeartbeats 4000000 in
set_option maxRecDepth 100000 in
theorem c_M_mayHold {l : Launch} {D : va_G} {A : Nat → Prop} {cI cB cZ cJ cN : ClassId} {dom : Nat → Prop} {loc : Nat → Nat} {val : Nat → va_E} (a k : Int32) : kM l y_M_mayHold (Cond.code y_M_mayHold b_M_mayHold 2 (some FieldType.boolean) :: TT) (rmM 2) D CL (TY cI cB cZ cJ cN) A [.int a, .int k] dom loc val (fun rv d lo va kc ns => rv = some (.int (mh a k)) ∧ dom = d ∧ loc = lo ∧ val = va ∧ kc = 0 ∧ ns = 0) := by
  refine kM_of (lv0 := [some (.int a), some (.int k)]) (own := "ProsePagesModel") (by decide) rfl (List.forall_mem_cons.mpr ⟨rfl, List.forall_mem_cons.mpr ⟨rfl, fun _ h => nomatch h⟩⟩) (Nat.le_of_ble_eq_true rfl) rfl (Nat.le_of_ble_eq_true rfl) (fun X hl hX hE hin0 => ?_)
  refine v_iload_n hX d_M_mayHold_0 rfl rfl ?_
  by_cases hw : (a).toInt < 0 ∨ 11 < (a).toInt
  · refine v_tableOut hX d_M_mayHold_1 (tgt := 118) hw (by decide) ?_
    refine v_iconst (v := 0) hX d_M_mayHold_118 (by decide) ?_
    exact v_zret hX hE (nar01 (by first | exact isB_01 k | exact isL_01 k | exact Or.inl rfl | exact Or.inr rfl)) d_M_mayHold_119 (Nat.le_of_ble_eq_true rfl) (Nat.le_of_ble_eq_true rfl) ⟨congrArg (fun z => some (Value.int z)) (mh_out hw).symm, rfl, rfl, rfl, rfl, rfl⟩
  · have hk9 : (a).toInt = 0 ∨ (a).toInt = 1 ∨ (a).toInt = 2 ∨ (a).toInt = 3 ∨ (a).toInt = 4 ∨ (a).toInt = 5 ∨ (a).toInt = 6 ∨ (a).toInt = 7 ∨ (a).toInt = 8 ∨ (a).toInt = 9 ∨ (a).toInt = 10 ∨ (a).toInt = 11 := by omega
    rcases hk9 with hk9 | hk9 | hk9 | hk9 | hk9 | hk9 | hk9 | hk9 | hk9 | hk9 | hk9 | hk9
    · refine v_tableIn hX d_M_mayHold_1 (tgt := 101) (by omega) (by omega) (off := 100) (by rw [hk9]; rfl) (by decide) ?_
      have hv9 : a = 0 := i32_lit hk9 0 (by decide)
      refine v_iload_n hX d_M_mayHold_101 rfl rfl ?_
      refine c_S hX (rest := []) hl (c_M_isInline k) ml_M_129 sm_M_isInline in_M cd_M_isInline rfl q_M_isInline ⟨(Nat.le_of_ble_eq_true rfl), (Nat.le_of_ble_eq_true rfl)⟩ rfl rfl rfl (Nat.le_of_ble_eq_true rfl) d_M_mayHold_102 ⟨(Nat.le_of_ble_eq_true rfl), (Nat.le_of_ble_eq_true rfl)⟩ (fun rv d2 lo2 va2 kc ns hp => ?_)
      obtain ⟨rfl, rfl, rfl, rfl, rfl, rfl⟩ := hp
      show V X D CL A _ _ _ _ _ _ _ (.int (isL k) :: [])
      exact v_zret hX hE (nar01 (by first | exact isB_01 k | exact isL_01 k | exact Or.inl rfl | exact Or.inr rfl)) d_M_mayHold_105 (Nat.le_of_ble_eq_true rfl) (Nat.le_of_ble_eq_true rfl) ⟨congrArg (fun z => some (Value.int z)) (by rw [hv9, (mh_inls k).1]), rfl, rfl, rfl, rfl, rfl⟩
    · refine v_tableIn hX d_M_mayHold_1 (tgt := 101) (by omega) (by omega) (off := 100) (by rw [hk9]; rfl) (by decide) ?_
      have hv9 : a = 1 := i32_lit hk9 1 (by decide)
      refine v_iload_n hX d_M_mayHold_101 rfl rfl ?_
      refine c_S hX (rest := []) hl (c_M_isInline k) ml_M_129 sm_M_isInline in_M cd_M_isInline rfl q_M_isInline ⟨(Nat.le_of_ble_eq_true rfl), (Nat.le_of_ble_eq_true rfl)⟩ rfl rfl rfl (Nat.le_of_ble_eq_true rfl) d_M_mayHold_102 ⟨(Nat.le_of_ble_eq_true rfl), (Nat.le_of_ble_eq_true rfl)⟩ (fun rv d2 lo2 va2 kc ns hp => ?_)
      obtain ⟨rfl, rfl, rfl, rfl, rfl, rfl⟩ := hp
      show V X D CL A _ _ _ _ _ _ _ (.int (isL k) :: [])
      exact v_zret hX hE (nar01 (by first | exact isB_01 k | exact isL_01 k | exact Or.inl rfl | exact Or.inr rfl)) d_M_mayHold_105 (Nat.le_of_ble_eq_true rfl) (Nat.le_of_ble_eq_true rfl) ⟨congrArg (fun z => some (Value.int z)) (by rw [hv9, (mh_inls k).2.1]), rfl, rfl, rfl, rfl, rfl⟩
    · refine v_tableIn hX d_M_mayHold_1 (tgt := 118) (by omega) (by omega) (off := 117) (by rw [hk9]; rfl) (by decide) ?_
      have hv9 : a = 2 := i32_lit hk9 2 (by decide)
      refine v_iconst (v := 0) hX d_M_mayHold_118 (by decide) ?_
      exact v_zret hX hE (nar01 (by first | exact isB_01 k | exact isL_01 k | exact Or.inl rfl | exact Or.inr rfl)) d_M_mayHold_119 (Nat.le_of_ble_eq_true rfl) (Nat.le_of_ble_eq_true rfl) ⟨congrArg (fun z => some (Value.int z)) (by rw [hv9, (mh_none k).1]), rfl, rfl, rfl, rfl, rfl⟩
    · refine v_tableIn hX d_M_mayHold_1 (tgt := 106) (by omega) (by omega) (off := 105) (by rw [hk9]; rfl) (by decide) ?_
      have hv9 : a = 3 := i32_lit hk9 3 (by decide)
      refine v_iload_n hX d_M_mayHold_106 rfl rfl ?_
      refine v_bipush (v := 10) hX d_M_mayHold_107 (by decide) ?_
      refine v_icmp_ne hX d_M_mayHold_109 (tgt := 116) (by decide) (fun c109 => ?_) (fun c109 => ?_)
      · refine v_iconst (v := 0) hX d_M_mayHold_116 (by decide) ?_
        exact v_zret hX hE (nar01 (by first | exact isB_01 k | exact isL_01 k | exact Or.inl rfl | exact Or.inr rfl)) d_M_mayHold_117 (Nat.le_of_ble_eq_true rfl) (Nat.le_of_ble_eq_true rfl) ⟨congrArg (fun z => some (Value.int z)) (by rw [hv9, mh_code k, if_neg c109]), rfl, rfl, rfl, rfl, rfl⟩
      · refine v_iconst (v := 1) hX d_M_mayHold_112 (by decide) ?_
        refine v_goto hX d_M_mayHold_113 (tgt := 117) (by decide) ?_
        exact v_zret hX hE (nar01 (by first | exact isB_01 k | exact isL_01 k | exact Or.inl rfl | exact Or.inr rfl)) d_M_mayHold_117 (Nat.le_of_ble_eq_true rfl) (Nat.le_of_ble_eq_true rfl) ⟨congrArg (fun z => some (Value.int z)) (by rw [hv9, mh_code k, if_pos c109]), rfl, rfl, rfl, rfl, rfl⟩
    · refine v_tableIn hX d_M_mayHold_1 (tgt := 64) (by omega) (by omega) (off := 63) (by rw [hk9]; rfl) (by decide) ?_
      have hv9 : a = 4 := i32_lit hk9 4 (by decide)
      refine v_iload_n hX d_M_mayHold_64 rfl rfl ?_
      refine c_S hX (rest := []) hl (c_M_isBlock k) ml_M_125 sm_M_isBlock in_M cd_M_isBlock rfl q_M_isBlock ⟨(Nat.le_of_ble_eq_true rfl), (Nat.le_of_ble_eq_true rfl)⟩ rfl rfl rfl (Nat.le_of_ble_eq_true rfl) d_M_mayHold_65 ⟨(Nat.le_of_ble_eq_true rfl), (Nat.le_of_ble_eq_true rfl)⟩ (fun rv d2 lo2 va2 kc ns hp => ?_)
      obtain ⟨rfl, rfl, rfl, rfl, rfl, rfl⟩ := hp
      show V X D CL A _ _ _ _ _ _ _ (.int (isB k) :: [])
      exact v_zret hX hE (nar01 (by first | exact isB_01 k | exact isL_01 k | exact Or.inl rfl | exact Or.inr rfl)) d_M_mayHold_68 (Nat.le_of_ble_eq_true rfl) (Nat.le_of_ble_eq_true rfl) ⟨congrArg (fun z => some (Value.int z)) (by rw [hv9, (mh_body k).2]), rfl, rfl, rfl, rfl, rfl⟩
    · refine v_tableIn hX d_M_mayHold_1 (tgt := 69) (by omega) (by omega) (off := 68) (by rw [hk9]; rfl) (by decide) ?_
      have hv9 : a = 5 := i32_lit hk9 5 (by decide)
      refine v_iload_n hX d_M_mayHold_69 rfl rfl ?_
      refine v_bipush (v := 7) hX d_M_mayHold_70 (by decide) ?_
      refine v_icmp_ne hX d_M_mayHold_72 (tgt := 79) (by decide) (fun c72 => ?_) (fun c72 => ?_)
      · refine v_iconst (v := 0) hX d_M_mayHold_79 (by decide) ?_
        exact v_zret hX hE (nar01 (by first | exact isB_01 k | exact isL_01 k | exact Or.inl rfl | exact Or.inr rfl)) d_M_mayHold_80 (Nat.le_of_ble_eq_true rfl) (Nat.le_of_ble_eq_true rfl) ⟨congrArg (fun z => some (Value.int z)) (by rw [hv9, (mh_row k).1, if_neg c72]), rfl, rfl, rfl, rfl, rfl⟩
      · refine v_iconst (v := 1) hX d_M_mayHold_75 (by decide) ?_
        refine v_goto hX d_M_mayHold_76 (tgt := 80) (by decide) ?_
        exact v_zret hX hE (nar01 (by first | exact isB_01 k | exact isL_01 k | exact Or.inl rfl | exact Or.inr rfl)) d_M_mayHold_80 (Nat.le_of_ble_eq_true rfl) (Nat.le_of_ble_eq_true rfl) ⟨congrArg (fun z => some (Value.int z)) (by rw [hv9, (mh_row k).1, if_pos c72]), rfl, rfl, rfl, rfl, rfl⟩
    · refine v_tableIn hX d_M_mayHold_1 (tgt := 69) (by omega) (by omega) (off := 68) (by rw [hk9]; rfl) (by decide) ?_
      have hv9 : a = 6 := i32_lit hk9 6 (by decide)
      refine v_iload_n hX d_M_mayHold_69 rfl rfl ?_
      refine v_bipush (v := 7) hX d_M_mayHold_70 (by decide) ?_
      refine v_icmp_ne hX d_M_mayHold_72 (tgt := 79) (by decide) (fun c72 => ?_) (fun c72 => ?_)
      · refine v_iconst (v := 0) hX d_M_mayHold_79 (by decide) ?_
        exact v_zret hX hE (nar01 (by first | exact isB_01 k | exact isL_01 k | exact Or.inl rfl | exact Or.inr rfl)) d_M_mayHold_80 (Nat.le_of_ble_eq_true rfl) (Nat.le_of_ble_eq_true rfl) ⟨congrArg (fun z => some (Value.int z)) (by rw [hv9, (mh_row k).2, if_neg c72]), rfl, rfl, rfl, rfl, rfl⟩
      · refine v_iconst (v := 1) hX d_M_mayHold_75 (by decide) ?_
        refine v_goto hX d_M_mayHold_76 (tgt := 80) (by decide) ?_
        exact v_zret hX hE (nar01 (by first | exact isB_01 k | exact isL_01 k | exact Or.inl rfl | exact Or.inr rfl)) d_M_mayHold_80 (Nat.le_of_ble_eq_true rfl) (Nat.le_of_ble_eq_true rfl) ⟨congrArg (fun z => some (Value.int z)) (by rw [hv9, (mh_row k).2, if_pos c72]), rfl, rfl, rfl, rfl, rfl⟩
    · refine v_tableIn hX d_M_mayHold_1 (tgt := 81) (by omega) (by omega) (off := 80) (by rw [hk9]; rfl) (by decide) ?_
      have hv9 : a = 7 := i32_lit hk9 7 (by decide)
      refine v_iload_n hX d_M_mayHold_81 rfl rfl ?_
      refine c_S hX (rest := []) hl (c_M_isBlock k) ml_M_125 sm_M_isBlock in_M cd_M_isBlock rfl q_M_isBlock ⟨(Nat.le_of_ble_eq_true rfl), (Nat.le_of_ble_eq_true rfl)⟩ rfl rfl rfl (Nat.le_of_ble_eq_true rfl) d_M_mayHold_82 ⟨(Nat.le_of_ble_eq_true rfl), (Nat.le_of_ble_eq_true rfl)⟩ (fun rv d2 lo2 va2 kc ns hp => ?_)
      obtain ⟨rfl, rfl, rfl, rfl, rfl, rfl⟩ := hp
      show V X D CL A _ _ _ _ _ _ _ (.int (isB k) :: [])
      refine v_if_ne hX d_M_mayHold_85 (tgt := 95) (by decide) (fun c85 => ?_) (fun c85 => ?_)
      · refine v_iconst (v := 1) hX d_M_mayHold_95 (by decide) ?_
        refine v_goto hX d_M_mayHold_96 (tgt := 100) (by decide) ?_
        exact v_zret hX hE (nar01 (by first | exact isB_01 k | exact isL_01 k | exact Or.inl rfl | exact Or.inr rfl)) d_M_mayHold_100 (Nat.le_of_ble_eq_true rfl) (Nat.le_of_ble_eq_true rfl) ⟨congrArg (fun z => some (Value.int z)) (by rw [hv9, mh_item k, if_neg c85]), rfl, rfl, rfl, rfl, rfl⟩
      · refine v_iload_n hX d_M_mayHold_88 rfl rfl ?_
        refine c_S hX (rest := []) hl (c_M_isInline k) ml_M_129 sm_M_isInline in_M cd_M_isInline rfl q_M_isInline ⟨(Nat.le_of_ble_eq_true rfl), (Nat.le_of_ble_eq_true rfl)⟩ rfl rfl rfl (Nat.le_of_ble_eq_true rfl) d_M_mayHold_89 ⟨(Nat.le_of_ble_eq_true rfl), (Nat.le_of_ble_eq_true rfl)⟩ (fun rv d2 lo2 va2 kc ns hp => ?_)
        obtain ⟨rfl, rfl, rfl, rfl, rfl, rfl⟩ := hp
        show V X D CL A _ _ _ _ _ _ _ (.int (isL k) :: [])
        refine v_if_eq hX d_M_mayHold_92 (tgt := 99) (by decide) (fun c92 => ?_) (fun c92 => ?_)
        · refine v_iconst (v := 0) hX d_M_mayHold_99 (by decide) ?_
          exact v_zret hX hE (nar01 (by first | exact isB_01 k | exact isL_01 k | exact Or.inl rfl | exact Or.inr rfl)) d_M_mayHold_100 (Nat.le_of_ble_eq_true rfl) (Nat.le_of_ble_eq_true rfl) ⟨congrArg (fun z => some (Value.int z)) (by rw [hv9, mh_item k, if_pos c85, c92]), rfl, rfl, rfl, rfl, rfl⟩
        · refine v_iconst (v := 1) hX d_M_mayHold_95 (by decide) ?_
          refine v_goto hX d_M_mayHold_96 (tgt := 100) (by decide) ?_
          exact v_zret hX hE (nar01 (by first | exact isB_01 k | exact isL_01 k | exact Or.inl rfl | exact Or.inr rfl)) d_M_mayHold_100 (Nat.le_of_ble_eq_true rfl) (Nat.le_of_ble_eq_true rfl) ⟨congrArg (fun z => some (Value.int z)) (by rw [hv9, mh_item k, if_pos c85, (isL_01 k).resolve_left c92]), rfl, rfl, rfl, rfl, rfl⟩
    · refine v_tableIn hX d_M_mayHold_1 (tgt := 101) (by omega) (by omega) (off := 100) (by rw [hk9]; rfl) (by decide) ?_
      have hv9 : a = 8 := i32_lit hk9 8 (by decide)
      refine v_iload_n hX d_M_mayHold_101 rfl rfl ?_
      refine c_S hX (rest := []) hl (c_M_isInline k) ml_M_129 sm_M_isInline in_M cd_M_isInline rfl q_M_isInline ⟨(Nat.le_of_ble_eq_true rfl), (Nat.le_of_ble_eq_true rfl)⟩ rfl rfl rfl (Nat.le_of_ble_eq_true rfl) d_M_mayHold_102 ⟨(Nat.le_of_ble_eq_true rfl), (Nat.le_of_ble_eq_true rfl)⟩ (fun rv d2 lo2 va2 kc ns hp => ?_)
      obtain ⟨rfl, rfl, rfl, rfl, rfl, rfl⟩ := hp
      show V X D CL A _ _ _ _ _ _ _ (.int (isL k) :: [])
      exact v_zret hX hE (nar01 (by first | exact isB_01 k | exact isL_01 k | exact Or.inl rfl | exact Or.inr rfl)) d_M_mayHold_105 (Nat.le_of_ble_eq_true rfl) (Nat.le_of_ble_eq_true rfl) ⟨congrArg (fun z => some (Value.int z)) (by rw [hv9, (mh_inls k).2.2]), rfl, rfl, rfl, rfl, rfl⟩
    · refine v_tableIn hX d_M_mayHold_1 (tgt := 118) (by omega) (by omega) (off := 117) (by rw [hk9]; rfl) (by decide) ?_
      have hv9 : a = 9 := i32_lit hk9 9 (by decide)
      refine v_iconst (v := 0) hX d_M_mayHold_118 (by decide) ?_
      exact v_zret hX hE (nar01 (by first | exact isB_01 k | exact isL_01 k | exact Or.inl rfl | exact Or.inr rfl)) d_M_mayHold_119 (Nat.le_of_ble_eq_true rfl) (Nat.le_of_ble_eq_true rfl) ⟨congrArg (fun z => some (Value.int z)) (by rw [hv9, (mh_none k).2.1]), rfl, rfl, rfl, rfl, rfl⟩
    · refine v_tableIn hX d_M_mayHold_1 (tgt := 118) (by omega) (by omega) (off := 117) (by rw [hk9]; rfl) (by decide) ?_
      have hv9 : a = 10 := i32_lit hk9 10 (by decide)
      refine v_iconst (v := 0) hX d_M_mayHold_118 (by decide) ?_
      exact v_zret hX hE (nar01 (by first | exact isB_01 k | exact isL_01 k | exact Or.inl rfl | exact Or.inr rfl)) d_M_mayHold_119 (Nat.le_of_ble_eq_true rfl) (Nat.le_of_ble_eq_true rfl) ⟨congrArg (fun z => some (Value.int z)) (by rw [hv9, (mh_none k).2.2]), rfl, rfl, rfl, rfl, rfl⟩
    · refine v_tableIn hX d_M_mayHold_1 (tgt := 64) (by omega) (by omega) (off := 63) (by rw [hk9]; rfl) (by decide) ?_
      have hv9 : a = 11 := i32_lit hk9 11 (by decide)
      refine v_iload_n hX d_M_mayHold_64 rfl rfl ?_
      refine c_S hX (rest := []) hl (c_M_isBlock k) ml_M_125 sm_M_isBlock in_M cd_M_isBlock rfl q_M_isBlock ⟨(Nat.le_of_ble_eq_true rfl), (Nat.le_of_ble_eq_true rfl)⟩ rfl rfl rfl (Nat.le_of_ble_eq_true rfl) d_M_mayHold_65 ⟨(Nat.le_of_ble_eq_true rfl), (Nat.le_of_ble_eq_true rfl)⟩ (fun rv d2 lo2 va2 kc ns hp => ?_)
      obtain ⟨rfl, rfl, rfl, rfl, rfl, rfl⟩ := hp
      show V X D CL A _ _ _ _ _ _ _ (.int (isB k) :: [])
      exact v_zret hX hE (nar01 (by first | exact isB_01 k | exact isL_01 k | exact Or.inl rfl | exact Or.inr rfl)) d_M_mayHold_68 (Nat.le_of_ble_eq_true rfl) (Nat.le_of_ble_eq_true rfl) ⟨congrArg (fun z => some (Value.int z)) (by rw [hv9, (mh_body k).1]), rfl, rfl, rfl, rfl, rfl⟩
set_option maxHeartbeats 4000000 in
set_option maxRecDepth 100000 in
theorem c_M_isFull {l : Launch} {D : va_G} {A : Nat → Prop} {cI cB cZ cJ cN : ClassId} {ob : Nat → Nat} {C : CT} {T : TS} {O : OS} {dom : Nat → Prop} {loc : Nat → Nat} {val : Nat → va_E} (hM : ModI cI cB cZ ob C T O dom loc val) (hO : OI O) (hT : TrI T) : kM l y_M_isFull (Cond.code y_M_isFull b_M_isFull 1 (some FieldType.boolean) :: TT) (rmM 1) D CL (TY cI cB cZ cJ cN) A [.ref (ob 48)] dom loc val (fun rv d lo va kc ns => rv = some (.int (flM T)) ∧ dom = d ∧ loc = lo ∧ val = va ∧ kc = 0 ∧ ns = 0) := by
  refine kM_of (lv0 := [some (.ref (ob 48))]) (own := "ProsePagesModel") (by decide) rfl (List.forall_mem_cons.mpr ⟨rfl, fun _ h => nomatch h⟩) (Nat.le_of_ble_eq_true rfl) rfl (Nat.le_of_ble_eq_true rfl) (fun X hl hX hE hin0 => ?_)
  have hTn := hT.1
  have hDe := hT.hc (ttHa T) hTn.2.2.2
  refine v_aload_n hX d_M_isFull_0 rfl rfl ?_
  refine v_mget hX hM 9 (v := .int (nI (ttN T))) (by decide) fl_M_101 rfl gf_nodes d_M_isFull_1 ?_
  refine v_sipush (v := 300) hX d_M_isFull_4 (by decide) ?_
  refine v_icmp_eq hX d_M_isFull_7 (tgt := 24) (by decide) (fun c7 => ?_) (fun c7 => ?_)
  · have f7 : (ttN T) = 300 := (nI_eq (a := (ttN T)) (b := 300) (by omega) (by omega)).mp c7
    refine v_iconst (v := 1) hX d_M_isFull_24 (by decide) ?_
    refine v_goto hX d_M_isFull_25 (tgt := 29) (by decide) ?_
    exact v_zret hX hE (by first | decide | rfl | exact oneOf_nar | exact blk_nar | exact inl_nar | assumption) d_M_isFull_29 (Nat.le_of_ble_eq_true rfl) (Nat.le_of_ble_eq_true rfl) ⟨congrArg (fun z => some (Value.int z)) (by unfold flM; rw [if_pos f7]), rfl, rfl, rfl, rfl, rfl⟩
  · have f7 : ¬ (ttN T) = 300 := fun z => c7 ((nI_eq (a := (ttN T)) (b := 300) (by omega) (by omega)).mpr z)
    refine v_aload_n hX d_M_isFull_10 rfl rfl ?_
    refine v_mget hX hM 4 (v := .ref (ob 52)) (by decide) fl_M_19 rfl rfl d_M_isFull_11 ?_
    refine v_aload_n hX d_M_isFull_14 rfl rfl ?_
    refine v_mget hX hM 11 (v := .int (nI (ttHa T))) (by decide) fl_M_107 rfl gf_hand d_M_isFull_15 ?_
    refine v_mild hX hM 3 (i := (ttHa T)) (v := (nI ((ttDe T) (ttHa T)))) ga_deep (by omega) (by decide) rfl d_M_isFull_18 ?_
    refine v_bipush (v := 12) hX d_M_isFull_19 (by decide) ?_
    refine v_icmp_ne hX d_M_isFull_21 (tgt := 28) (by decide) (fun c21 => ?_) (fun c21 => ?_)
    · have f21 : ¬ ((ttDe T) (ttHa T)) = 12 := fun z => c21 ((nI_eq (a := ((ttDe T) (ttHa T))) (b := 12) (by omega) (by omega)).mpr z)
      refine v_iconst (v := 0) hX d_M_isFull_28 (by decide) ?_
      exact v_zret hX hE (by first | decide | rfl | exact oneOf_nar | exact blk_nar | exact inl_nar | assumption) d_M_isFull_29 (Nat.le_of_ble_eq_true rfl) (Nat.le_of_ble_eq_true rfl) ⟨congrArg (fun z => some (Value.int z)) (by unfold flM; rw [if_neg f7, if_neg f21]), rfl, rfl, rfl, rfl, rfl⟩
    · have f21 : ((ttDe T) (ttHa T)) = 12 := (nI_eq (a := ((ttDe T) (ttHa T))) (b := 12) (by omega) (by omega)).mp c21
      refine v_iconst (v := 1) hX d_M_isFull_24 (by decide) ?_
      refine v_goto hX d_M_isFull_25 (tgt := 29) (by decide) ?_
      exact v_zret hX hE (by first | decide | rfl | exact oneOf_nar | exact blk_nar | exact inl_nar | assumption) d_M_isFull_29 (Nat.le_of_ble_eq_true rfl) (Nat.le_of_ble_eq_true rfl) ⟨congrArg (fun z => some (Value.int z)) (by unfold flM; rw [if_neg f7, if_pos f21]), rfl, rfl, rfl, rfl, rfl⟩
set_option maxHeartbeats 4000000 in
set_option maxRecDepth 100000 in
theorem c_M_add {l : Launch} {D : va_G} {A : Nat → Prop} {cI cB cZ cJ cN : ClassId} {ob : Nat → Nat} {C : CT} {T : TS} {O : OS} {dom : Nat → Prop} {loc : Nat → Nat} {val : Nat → va_E} (hM : ModI cI cB cZ ob C T O dom loc val) (hO : OI O) (k n : Int32) (hT : TrI T) (hN : ttN T < 300) : kM l y_M_add (Cond.code y_M_add b_M_add 4 (some FieldType.int) :: TT) (rmM 1) D CL (TY cI cB cZ cJ cN) A [.ref (ob 48), .int k, .int n] dom loc val (fun rv d lo va kc ns => dom = d ∧ loc = lo ∧ kc = 0 ∧ ns = 0 ∧ ∃ T2 O2, (rv = some (.int (nI (ttN T))) ∧ adT0 T k n = T2) ∧ ModI cI cB cZ ob C T2 O2 dom loc va ∧ OI O2 ∧ frM val va) := by
  refine kM_of (lv0 := [some (.ref (ob 48)), some (.int k), some (.int n), none]) (own := "ProsePagesModel") (by decide) rfl (List.forall_mem_cons.mpr ⟨rfl, List.forall_mem_cons.mpr ⟨rfl, List.forall_mem_cons.mpr ⟨rfl, fun _ h => nomatch h⟩⟩⟩) (Nat.le_of_ble_eq_true rfl) rfl (Nat.le_of_ble_eq_true rfl) (fun X hl hX hE hin0 => ?_)
  have hTn := hT.1
  have hDe := hT.hc (ttHa T) hTn.2.2.2
  refine v_aload_n hX d_M_add_0 rfl rfl ?_
  refine v_mget hX hM 9 (v := .int (nI (ttN T))) (by decide) fl_M_101 rfl gf_nodes d_M_add_1 ?_
  refine v_istore_n (lv' := [some (.ref (ob 48)), some (.int k), some (.int n), some (.int (nI (ttN T)))]) hX d_M_add_4 rfl (Nat.le_of_ble_eq_true rfl) rfl ?_
  refine v_aload_n hX d_M_add_5 rfl rfl ?_
  refine v_mget hX hM 1 (v := .ref (ob 49)) (by decide) fl_M_7 rfl rfl d_M_add_6 ?_
  refine v_iload_n hX d_M_add_9 rfl rfl ?_
  refine v_iload_n hX d_M_add_10 rfl rfl ?_
  refine v_mist hX hM 0 C (sxK T (upd (ttK T) (ttN T) k)) O (i := (ttN T)) (by decide) ga_kind (by omega) (by decide) qf_kind qa_kind d_M_add_11 (fun va1 hM1 hf1 => ?_)
  refine v_aload_n hX d_M_add_12 rfl rfl ?_
  refine v_mget hX hM1 2 (v := .ref (ob 50)) (by decide) fl_M_13 rfl rfl d_M_add_13 ?_
  refine v_iload_n hX d_M_add_16 rfl rfl ?_
  refine v_aload_n hX d_M_add_17 rfl rfl ?_
  refine v_mget hX hM1 11 (v := .int (nI (ttHa T))) (by decide) fl_M_107 rfl ((nf_kind 11).trans gf_hand) d_M_add_18 ?_
  refine v_mist hX hM1 1 C (sxU (sxK T (upd (ttK T) (ttN T) k)) (upd (ttU T) (ttN T) (nI (ttHa T)))) O (i := (ttN T)) (by decide) ((na_kind 1 (by decide)).trans ga_up) (by omega) (by decide) qf_up qa_up d_M_add_21 (fun va2 hM2 hf2 => ?_)
  refine v_aload_n hX d_M_add_22 rfl rfl ?_
  refine v_mget hX hM2 3 (v := .ref (ob 51)) (by decide) fl_M_16 rfl rfl d_M_add_23 ?_
  refine v_iload_n hX d_M_add_26 rfl rfl ?_
  refine v_iload_n hX d_M_add_27 rfl rfl ?_
  refine v_mist hX hM2 2 C (sxNu (sxU (sxK T (upd (ttK T) (ttN T) k)) (upd (ttU T) (ttN T) (nI (ttHa T)))) (upd (ttNu T) (ttN T) n)) O (i := (ttN T)) (by decide) ((na_up 2 (by decide)).trans ((na_kind 2 (by decide)).trans ga_number)) (by omega) (by decide) qf_number qa_number d_M_add_28 (fun va3 hM3 hf3 => ?_)
  refine v_aload_n hX d_M_add_29 rfl rfl ?_
  refine v_mget hX hM3 4 (v := .ref (ob 52)) (by decide) fl_M_19 rfl rfl d_M_add_30 ?_
  refine v_iload_n hX d_M_add_33 rfl rfl ?_
  refine v_aload_n hX d_M_add_34 rfl rfl ?_
  refine v_mget hX hM3 4 (v := .ref (ob 52)) (by decide) fl_M_19 rfl rfl d_M_add_35 ?_
  refine v_aload_n hX d_M_add_38 rfl rfl ?_
  refine v_mget hX hM3 11 (v := .int (nI (ttHa T))) (by decide) fl_M_107 rfl ((nf_number 11).trans ((nf_up 11).trans ((nf_kind 11).trans gf_hand))) d_M_add_39 ?_
  refine v_mild hX hM3 3 (i := (ttHa T)) (v := (nI ((ttDe T) (ttHa T)))) ((na_number 3 (by decide)).trans ((na_up 3 (by decide)).trans ((na_kind 3 (by decide)).trans ga_deep))) (by omega) (by decide) rfl d_M_add_42 ?_
  refine v_iconst (v := 1) hX d_M_add_43 (by decide) ?_
  refine v_iaddE (v := nI (((ttDe T) (ttHa T)) + 1)) hX d_M_add_44 (nI_add ((ttDe T) (ttHa T)) 1) ?_
  refine v_mist hX hM3 3 C (sxDe (sxNu (sxU (sxK T (upd (ttK T) (ttN T) k)) (upd (ttU T) (ttN T) (nI (ttHa T)))) (upd (ttNu T) (ttN T) n)) (updN (ttDe T) (ttN T) (((ttDe T) (ttHa T)) + 1))) O (i := (ttN T)) (by decide) ((na_number 3 (by decide)).trans ((na_up 3 (by decide)).trans ((na_kind 3 (by decide)).trans ga_deep))) (by omega) (by decide) qf_deep ((congrArg (fun f9 => (mar cI cB cZ C (sxNu (sxU (sxK T (upd (ttK T) (ttN T) k)) (upd (ttU T) (ttN T) (nI (ttHa T)))) (upd (ttNu T) (ttN T) n)) O).set 3 (.inl (cI, 300, .inl f9))) (updN_nI (f := (ttDe T)) (k := (ttN T)) (x := (((ttDe T) (ttHa T)) + 1)))).trans qa_deep) d_M_add_45 (fun va4 hM4 hf4 => ?_)
  refine v_aload_n hX d_M_add_46 rfl rfl ?_
  refine v_mget hX hM4 5 (v := .ref (ob 53)) (by decide) fl_M_22 rfl rfl d_M_add_47 ?_
  refine v_iload_n hX d_M_add_50 rfl rfl ?_
  refine v_aload_n hX d_M_add_51 rfl rfl ?_
  refine v_mget hX hM4 10 (v := .int (nI (ttCh T))) (by decide) fl_M_104 rfl ((nf_deep 10).trans ((nf_number 10).trans ((nf_up 10).trans ((nf_kind 10).trans gf_characters)))) d_M_add_52 ?_
  refine v_mist hX hM4 4 C (sxFr (sxDe (sxNu (sxU (sxK T (upd (ttK T) (ttN T) k)) (upd (ttU T) (ttN T) (nI (ttHa T)))) (upd (ttNu T) (ttN T) n)) (updN (ttDe T) (ttN T) (((ttDe T) (ttHa T)) + 1))) (updN (ttFr T) (ttN T) (ttCh T))) O (i := (ttN T)) (by decide) ((na_deep 4 (by decide)).trans ((na_number 4 (by decide)).trans ((na_up 4 (by decide)).trans ((na_kind 4 (by decide)).trans ga_from)))) (by omega) (by decide) qf_from ((congrArg (fun f9 => (mar cI cB cZ C (sxDe (sxNu (sxU (sxK T (upd (ttK T) (ttN T) k)) (upd (ttU T) (ttN T) (nI (ttHa T)))) (upd (ttNu T) (ttN T) n)) (updN (ttDe T) (ttN T) (((ttDe T) (ttHa T)) + 1))) O).set 4 (.inl (cI, 300, .inl f9))) (updN_nI (f := (ttFr T)) (k := (ttN T)) (x := (ttCh T)))).trans qa_from) d_M_add_55 (fun va5 hM5 hf5 => ?_)
  refine v_aload_n hX d_M_add_56 rfl rfl ?_
  refine v_mget hX hM5 6 (v := .ref (ob 54)) (by decide) fl_M_25 rfl rfl d_M_add_57 ?_
  refine v_iload_n hX d_M_add_60 rfl rfl ?_
  refine v_iconst (v := 0) hX d_M_add_61 (by decide) ?_
  refine v_mist hX hM5 5 C (sxMa (sxFr (sxDe (sxNu (sxU (sxK T (upd (ttK T) (ttN T) k)) (upd (ttU T) (ttN T) (nI (ttHa T)))) (upd (ttNu T) (ttN T) n)) (updN (ttDe T) (ttN T) (((ttDe T) (ttHa T)) + 1))) (updN (ttFr T) (ttN T) (ttCh T))) (updN (ttMa T) (ttN T) 0)) O (i := (ttN T)) (by decide) ((na_from 5 (by decide)).trans ((na_deep 5 (by decide)).trans ((na_number 5 (by decide)).trans ((na_up 5 (by decide)).trans ((na_kind 5 (by decide)).trans ga_many))))) (by omega) (by decide) qf_many ((congrArg (fun f9 => (mar cI cB cZ C (sxFr (sxDe (sxNu (sxU (sxK T (upd (ttK T) (ttN T) k)) (upd (ttU T) (ttN T) (nI (ttHa T)))) (upd (ttNu T) (ttN T) n)) (updN (ttDe T) (ttN T) (((ttDe T) (ttHa T)) + 1))) (updN (ttFr T) (ttN T) (ttCh T))) O).set 5 (.inl (cI, 300, .inl f9))) (updN_nI (f := (ttMa T)) (k := (ttN T)) (x := 0))).trans qa_many) d_M_add_62 (fun va6 hM6 hf6 => ?_)
  refine v_aload_n hX d_M_add_63 rfl rfl ?_
  refine v_mget hX hM6 7 (v := .ref (ob 55)) (by decide) fl_M_28 rfl rfl d_M_add_64 ?_
  refine v_iload_n hX d_M_add_67 rfl rfl ?_
  refine v_iconst (v := (-1)) hX d_M_add_68 (by decide) ?_
  refine v_mist hX hM6 6 C (sxLa (sxMa (sxFr (sxDe (sxNu (sxU (sxK T (upd (ttK T) (ttN T) k)) (upd (ttU T) (ttN T) (nI (ttHa T)))) (upd (ttNu T) (ttN T) n)) (updN (ttDe T) (ttN T) (((ttDe T) (ttHa T)) + 1))) (updN (ttFr T) (ttN T) (ttCh T))) (updN (ttMa T) (ttN T) 0)) (upd (ttLa T) (ttN T) (-1))) O (i := (ttN T)) (by decide) ((na_many 6 (by decide)).trans ((na_from 6 (by decide)).trans ((na_deep 6 (by decide)).trans ((na_number 6 (by decide)).trans ((na_up 6 (by decide)).trans ((na_kind 6 (by decide)).trans ga_lastIn)))))) (by omega) (by decide) qf_lastIn qa_lastIn d_M_add_69 (fun va7 hM7 hf7 => ?_)
  refine v_aload_n hX d_M_add_70 rfl rfl ?_
  refine v_mget hX hM7 7 (v := .ref (ob 55)) (by decide) fl_M_28 rfl rfl d_M_add_71 ?_
  refine v_aload_n hX d_M_add_74 rfl rfl ?_
  refine v_mget hX hM7 11 (v := .int (nI (ttHa T))) (by decide) fl_M_107 rfl ((nf_lastIn 11).trans ((nf_many 11).trans ((nf_from 11).trans ((nf_deep 11).trans ((nf_number 11).trans ((nf_up 11).trans ((nf_kind 11).trans gf_hand))))))) d_M_add_75 ?_
  refine v_iload_n hX d_M_add_78 rfl rfl ?_
  refine v_mist hX hM7 6 C (sxLa (sxLa (sxMa (sxFr (sxDe (sxNu (sxU (sxK T (upd (ttK T) (ttN T) k)) (upd (ttU T) (ttN T) (nI (ttHa T)))) (upd (ttNu T) (ttN T) n)) (updN (ttDe T) (ttN T) (((ttDe T) (ttHa T)) + 1))) (updN (ttFr T) (ttN T) (ttCh T))) (updN (ttMa T) (ttN T) 0)) (upd (ttLa T) (ttN T) (-1))) (upd (upd (ttLa T) (ttN T) (-1)) (ttHa T) (nI (ttN T)))) O (i := (ttHa T)) (by decide) ha_lastIn (by omega) (by decide) qf_lastIn qa_lastIn d_M_add_79 (fun va8 hM8 hf8 => ?_)
  refine v_aload_n hX d_M_add_80 rfl rfl ?_
  refine v_dup hX d_M_add_81 rfl ?_
  refine v_mget hX hM8 9 (v := .int (nI (ttN T))) (by decide) fl_M_101 rfl ((nf_lastIn 9).trans ((nf_lastIn 9).trans ((nf_many 9).trans ((nf_from 9).trans ((nf_deep 9).trans ((nf_number 9).trans ((nf_up 9).trans ((nf_kind 9).trans gf_nodes)))))))) d_M_add_82 ?_
  refine v_iconst (v := 1) hX d_M_add_85 (by decide) ?_
  refine v_iaddE (v := nI ((ttN T) + 1)) hX d_M_add_86 (nI_add (ttN T) 1) ?_
  refine v_mput hX hM8 9 C (sxN (sxLa (sxLa (sxMa (sxFr (sxDe (sxNu (sxU (sxK T (upd (ttK T) (ttN T) k)) (upd (ttU T) (ttN T) (nI (ttHa T)))) (upd (ttNu T) (ttN T) n)) (updN (ttDe T) (ttN T) (((ttDe T) (ttHa T)) + 1))) (updN (ttFr T) (ttN T) (ttCh T))) (updN (ttMa T) (ttN T) 0)) (upd (ttLa T) (ttN T) (-1))) (upd (upd (ttLa T) (ttN T) (-1)) (ttHa T) (nI (ttN T)))) ((ttN T) + 1)) O (by decide) fl_M_101 rfl rfl rfl rfl pf_nodes pa_nodes d_M_add_87 (fun va9 hM9 hf9 => ?_)
  refine v_iload_n hX d_M_add_90 rfl rfl ?_
  exact v_iret hX hE d_M_add_91 (Nat.le_of_ble_eq_true rfl) (Nat.le_of_ble_eq_true rfl) ⟨rfl, rfl, rfl, rfl, (sxN (sxLa (sxLa (sxMa (sxFr (sxDe (sxNu (sxU (sxK T (upd (ttK T) (ttN T) k)) (upd (ttU T) (ttN T) (nI (ttHa T)))) (upd (ttNu T) (ttN T) n)) (updN (ttDe T) (ttN T) (((ttDe T) (ttHa T)) + 1))) (updN (ttFr T) (ttN T) (ttCh T))) (updN (ttMa T) (ttN T) 0)) (upd (ttLa T) (ttN T) (-1))) (upd (upd (ttLa T) (ttN T) (-1)) (ttHa T) (nI (ttN T)))) ((ttN T) + 1)), O, ⟨rfl, rfl⟩, hM9, hO, (((((((((frM.rf.trans hf1).trans hf2).trans hf3).trans hf4).trans hf5).trans hf6).trans hf7).trans hf8).trans hf9)⟩
