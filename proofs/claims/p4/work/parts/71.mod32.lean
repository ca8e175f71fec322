set_option maxHeartbeats 4000000 in
set_option maxRecDepth 100000 in
theorem c_M_node {l : Launch} {D : va_G} {A : Nat → Prop} {cI cB cZ cJ cN : ClassId} {ob : Nat → Nat} {C : CT} {T : TS} {O : OS} {dom : Nat → Prop} {loc : Nat → Nat} {val : Nat → va_E} (hM : ModI cI cB cZ ob C T O dom loc val) (hO : OI O) (k q : Int32) (hT : TrI T) : kM l y_M_node (Cond.code y_M_node b_M_node 3 (some FieldType.int) :: TT) (rmM 1) D CL (TY cI cB cZ cJ cN) A [.ref (ob 48), .int k, .int q] dom loc val (PMo cI cB cZ ob T O dom loc val (fun rv C2 O2 => (∃ v, rv = some (.int v)) ∧ C = C2)) := by
  refine kM_of (lv0 := [some (.ref (ob 48)), some (.int k), some (.int q)]) (own := "ProsePagesModel") (by decide) rfl (List.forall_mem_cons.mpr ⟨rfl, List.forall_mem_cons.mpr ⟨rfl, List.forall_mem_cons.mpr ⟨rfl, fun _ h => nomatch h⟩⟩⟩) (Nat.le_of_ble_eq_true rfl) rfl (Nat.le_of_ble_eq_true rfl) (fun X hl hX hE hin0 => ?_)
  have hTn := hT.1
  refine v_aload_n hX d_M_node_0 rfl rfl ?_
  refine v_iconst (v := 0) hX d_M_node_1 (by decide) ?_
  refine v_mput hX hM 0 C T (soTh O 0) (by decide) fl_M_97 rfl rfl rfl rfl pf_thrown pa_thrown d_M_node_2 (fun va1 hM1 hf1 => ?_)
  refine v_iload_n hX d_M_node_5 rfl rfl ?_
  refine v_if_lt hX d_M_node_6 (tgt := 17) (by decide) (fun c6 => ?_) (fun c6 => ?_)
  · refine v_iconst (v := (-1)) hX d_M_node_17 (by decide) ?_
    exact v_iret hX hE d_M_node_18 (Nat.le_of_ble_eq_true rfl) (Nat.le_of_ble_eq_true rfl) ⟨rfl, rfl, rfl, rfl, C, (soTh O 0), ⟨⟨_, rfl⟩, rfl⟩, hM1, ⟨⟨hO.1, hO.2.1, hO.2.2.1, hO.2.2.2.1, (by have q9 := hO.2.2.2.2; first | exact q9 | omega | (show (ooSm O) ≤ 4300; omega))⟩, rfl⟩, (frM.rf.trans hf1)⟩
  · refine v_iload_n hX d_M_node_9 rfl rfl ?_
    refine v_aload_n hX d_M_node_10 rfl rfl ?_
    refine v_mget hX hM1 9 (v := .int (nI (ttN T))) (by decide) fl_M_101 rfl ((nf_thrown 9 (by decide)).trans gf_nodes) d_M_node_11 ?_
    refine v_icmp_lt hX d_M_node_14 (tgt := 19) (by decide) (fun c14 => ?_) (fun c14 => ?_)
    · obtain ⟨kn, hkn, rfl⟩ := nI_of c6
      have hkk : kn < ttN T := (nI_ltI (by omega) (by omega)).mp c14
      refine v_iload_n hX d_M_node_19 rfl rfl ?_
      by_cases hw : (q).toInt < 0 ∨ 2 < (q).toInt
      · refine v_tableOut hX d_M_node_20 (tgt := 104) hw (by decide) ?_
        refine v_iconst (v := (-1)) hX d_M_node_104 (by decide) ?_
        exact v_iret hX hE d_M_node_105 (Nat.le_of_ble_eq_true rfl) (Nat.le_of_ble_eq_true rfl) ⟨rfl, rfl, rfl, rfl, C, (soTh O 0), ⟨⟨_, rfl⟩, rfl⟩, hM1, ⟨⟨hO.1, hO.2.1, hO.2.2.1, hO.2.2.2.1, (by have q9 := hO.2.2.2.2; first | exact q9 | omega | (show (ooSm O) ≤ 4300; omega))⟩, rfl⟩, (frM.rf.trans hf1)⟩
      · have hk9 : (q).toInt = 0 ∨ (q).toInt = 1 ∨ (q).toInt = 2 := by omega
        rcases hk9 with hk9 | hk9 | hk9
        · refine v_tableIn hX d_M_node_20 (tgt := 48) (by omega) (by omega) (off := 28) (by rw [hk9]; rfl) (by decide) ?_
          have hv9 : q = 0 := i32_lit hk9 0 (by decide)
          refine v_aload_n hX d_M_node_48 rfl rfl ?_
          refine v_mget hX hM1 1 (v := .ref (ob 49)) (by decide) fl_M_7 rfl rfl d_M_node_49 ?_
          refine v_iload_n hX d_M_node_52 rfl rfl ?_
          refine v_mild hX hM1 0 (i := kn) (v := ((ttK T) kn)) ((na_thrown 0).trans ga_kind) (by omega) (by decide) rfl d_M_node_53 ?_
          refine v_bipush (v := 11) hX d_M_node_54 (by decide) ?_
          refine v_icmp_ne hX d_M_node_56 (tgt := 63) (by decide) (fun c56 => ?_) (fun c56 => ?_)
          · refine v_aload_n hX d_M_node_63 rfl rfl ?_
            refine v_mget hX hM1 1 (v := .ref (ob 49)) (by decide) fl_M_7 rfl rfl d_M_node_64 ?_
            refine v_iload_n hX d_M_node_67 rfl rfl ?_
            refine v_mild hX hM1 0 (i := kn) (v := ((ttK T) kn)) ((na_thrown 0).trans ga_kind) (by omega) (by decide) rfl d_M_node_68 ?_
            exact v_iret hX hE d_M_node_69 (Nat.le_of_ble_eq_true rfl) (Nat.le_of_ble_eq_true rfl) ⟨rfl, rfl, rfl, rfl, C, (soTh O 0), ⟨⟨_, rfl⟩, rfl⟩, hM1, ⟨⟨hO.1, hO.2.1, hO.2.2.1, hO.2.2.2.1, (by have q9 := hO.2.2.2.2; first | exact q9 | omega | (show (ooSm O) ≤ 4300; omega))⟩, rfl⟩, (frM.rf.trans hf1)⟩
          · refine v_iconst (v := (-1)) hX d_M_node_59 (by decide) ?_
            refine v_goto hX d_M_node_60 (tgt := 69) (by decide) ?_
            exact v_iret hX hE d_M_node_69 (Nat.le_of_ble_eq_true rfl) (Nat.le_of_ble_eq_true rfl) ⟨rfl, rfl, rfl, rfl, C, (soTh O 0), ⟨⟨_, rfl⟩, rfl⟩, hM1, ⟨⟨hO.1, hO.2.1, hO.2.2.1, hO.2.2.2.1, (by have q9 := hO.2.2.2.2; first | exact q9 | omega | (show (ooSm O) ≤ 4300; omega))⟩, rfl⟩, (frM.rf.trans hf1)⟩
        · refine v_tableIn hX d_M_node_20 (tgt := 70) (by omega) (by omega) (off := 50) (by rw [hk9]; rfl) (by decide) ?_
          have hv9 : q = 1 := i32_lit hk9 1 (by decide)
          refine v_aload_n hX d_M_node_70 rfl rfl ?_
          refine v_mget hX hM1 2 (v := .ref (ob 50)) (by decide) fl_M_13 rfl rfl d_M_node_71 ?_
          refine v_iload_n hX d_M_node_74 rfl rfl ?_
          refine v_mild hX hM1 1 (i := kn) (v := ((ttU T) kn)) ((na_thrown 1).trans ga_up) (by omega) (by decide) rfl d_M_node_75 ?_
          exact v_iret hX hE d_M_node_76 (Nat.le_of_ble_eq_true rfl) (Nat.le_of_ble_eq_true rfl) ⟨rfl, rfl, rfl, rfl, C, (soTh O 0), ⟨⟨_, rfl⟩, rfl⟩, hM1, ⟨⟨hO.1, hO.2.1, hO.2.2.1, hO.2.2.2.1, (by have q9 := hO.2.2.2.2; first | exact q9 | omega | (show (ooSm O) ≤ 4300; omega))⟩, rfl⟩, (frM.rf.trans hf1)⟩
        · refine v_tableIn hX d_M_node_20 (tgt := 77) (by omega) (by omega) (off := 57) (by rw [hk9]; rfl) (by decide) ?_
          have hv9 : q = 2 := i32_lit hk9 2 (by decide)
          refine v_aload_n hX d_M_node_77 rfl rfl ?_
          refine v_mget hX hM1 1 (v := .ref (ob 49)) (by decide) fl_M_7 rfl rfl d_M_node_78 ?_
          refine v_iload_n hX d_M_node_81 rfl rfl ?_
          refine v_mild hX hM1 0 (i := kn) (v := ((ttK T) kn)) ((na_thrown 0).trans ga_kind) (by omega) (by decide) rfl d_M_node_82 ?_
          refine v_bipush (v := 10) hX d_M_node_83 (by decide) ?_
          refine v_icmp_ne hX d_M_node_85 (tgt := 97) (by decide) (fun c85 => ?_) (fun c85 => ?_)
          · refine v_aload_n hX d_M_node_97 rfl rfl ?_
            refine v_mget hX hM1 3 (v := .ref (ob 51)) (by decide) fl_M_16 rfl rfl d_M_node_98 ?_
            refine v_iload_n hX d_M_node_101 rfl rfl ?_
            refine v_mild hX hM1 2 (i := kn) (v := ((ttNu T) kn)) ((na_thrown 2).trans ga_number) (by omega) (by decide) rfl d_M_node_102 ?_
            exact v_iret hX hE d_M_node_103 (Nat.le_of_ble_eq_true rfl) (Nat.le_of_ble_eq_true rfl) ⟨rfl, rfl, rfl, rfl, C, (soTh O 0), ⟨⟨_, rfl⟩, rfl⟩, hM1, ⟨⟨hO.1, hO.2.1, hO.2.2.1, hO.2.2.2.1, (by have q9 := hO.2.2.2.2; first | exact q9 | omega | (show (ooSm O) ≤ 4300; omega))⟩, rfl⟩, (frM.rf.trans hf1)⟩
          · refine v_aload_n hX d_M_node_88 rfl rfl ?_
            refine v_mget hX hM1 6 (v := .ref (ob 54)) (by decide) fl_M_25 rfl rfl d_M_node_89 ?_
            refine v_iload_n hX d_M_node_92 rfl rfl ?_
            refine v_mild hX hM1 5 (i := kn) (v := (nI ((ttMa T) kn))) ((na_thrown 5).trans ga_many) (by omega) (by decide) rfl d_M_node_93 ?_
            refine v_goto hX d_M_node_94 (tgt := 103) (by decide) ?_
            exact v_iret hX hE d_M_node_103 (Nat.le_of_ble_eq_true rfl) (Nat.le_of_ble_eq_true rfl) ⟨rfl, rfl, rfl, rfl, C, (soTh O 0), ⟨⟨_, rfl⟩, rfl⟩, hM1, ⟨⟨hO.1, hO.2.1, hO.2.2.1, hO.2.2.2.1, (by have q9 := hO.2.2.2.2; first | exact q9 | omega | (show (ooSm O) ≤ 4300; omega))⟩, rfl⟩, (frM.rf.trans hf1)⟩
    · refine v_iconst (v := (-1)) hX d_M_node_17 (by decide) ?_
      exact v_iret hX hE d_M_node_18 (Nat.le_of_ble_eq_true rfl) (Nat.le_of_ble_eq_true rfl) ⟨rfl, rfl, rfl, rfl, C, (soTh O 0), ⟨⟨_, rfl⟩, rfl⟩, hM1, ⟨⟨hO.1, hO.2.1, hO.2.2.1, hO.2.2.2.1, (by have q9 := hO.2.2.2.2; first | exact q9 | omega | (show (ooSm O) ≤ 4300; omega))⟩, rfl⟩, (frM.rf.trans hf1)⟩
set_option maxHeartbeats 4000000 in
set_option maxRecDepth 100000 in
theorem c_M_about {l : Launch} {D : va_G} {A : Nat → Prop} {cI cB cZ cJ cN : ClassId} {ob : Nat → Nat} {C : CT} {T : TS} {O : OS} {dom : Nat → Prop} {loc : Nat → Nat} {val : Nat → va_E} (hM : ModI cI cB cZ ob C T O dom loc val) (hO : OI O) (q : Int32) : kM l y_M_about (Cond.code y_M_about b_M_about 2 (some FieldType.int) :: TT) (rmM 1) D CL (TY cI cB cZ cJ cN) A [.ref (ob 48), .int q] dom loc val (PMo cI cB cZ ob T O dom loc val (fun rv C2 O2 => (∃ v, rv = some (.int v)) ∧ C = C2)) := by
  refine kM_of (lv0 := [some (.ref (ob 48)), some (.int q)]) (own := "ProsePagesModel") (by decide) rfl (List.forall_mem_cons.mpr ⟨rfl, List.forall_mem_cons.mpr ⟨rfl, fun _ h => nomatch h⟩⟩) (Nat.le_of_ble_eq_true rfl) rfl (Nat.le_of_ble_eq_true rfl) (fun X hl hX hE hin0 => ?_)
  refine v_aload_n hX d_M_about_0 rfl rfl ?_
  refine v_iconst (v := 0) hX d_M_about_1 (by decide) ?_
  refine v_mput hX hM 0 C T (soTh O 0) (by decide) fl_M_97 rfl rfl rfl rfl pf_thrown pa_thrown d_M_about_2 (fun va1 hM1 hf1 => ?_)
  refine v_iload_n hX d_M_about_5 rfl rfl ?_
  by_cases hw : (q).toInt < 0 ∨ 6 < (q).toInt
  · refine v_tableOut hX d_M_about_6 (tgt := 105) hw (by decide) ?_
    refine v_iconst (v := (-1)) hX d_M_about_105 (by decide) ?_
    exact v_iret hX hE d_M_about_106 (Nat.le_of_ble_eq_true rfl) (Nat.le_of_ble_eq_true rfl) ⟨rfl, rfl, rfl, rfl, C, (soTh O 0), ⟨⟨_, rfl⟩, rfl⟩, hM1, ⟨⟨hO.1, hO.2.1, hO.2.2.1, hO.2.2.2.1, (by have q9 := hO.2.2.2.2; first | exact q9 | omega | (show (ooSm O) ≤ 4300; omega))⟩, rfl⟩, (frM.rf.trans hf1)⟩
  · have hk9 : (q).toInt = 0 ∨ (q).toInt = 1 ∨ (q).toInt = 2 ∨ (q).toInt = 3 ∨ (q).toInt = 4 ∨ (q).toInt = 5 ∨ (q).toInt = 6 := by omega
    rcases hk9 with hk9 | hk9 | hk9 | hk9 | hk9 | hk9 | hk9
    · refine v_tableIn hX d_M_about_6 (tgt := 48) (by omega) (by omega) (off := 42) (by rw [hk9]; rfl) (by decide) ?_
      have hv9 : q = 0 := i32_lit hk9 0 (by decide)
      refine v_aload_n hX d_M_about_48 rfl rfl ?_
      refine v_mget hX hM1 9 (v := .int (nI (ttN T))) (by decide) fl_M_101 rfl ((nf_thrown 9 (by decide)).trans gf_nodes) d_M_about_49 ?_
      exact v_iret hX hE d_M_about_52 (Nat.le_of_ble_eq_true rfl) (Nat.le_of_ble_eq_true rfl) ⟨rfl, rfl, rfl, rfl, C, (soTh O 0), ⟨⟨_, rfl⟩, rfl⟩, hM1, ⟨⟨hO.1, hO.2.1, hO.2.2.1, hO.2.2.2.1, (by have q9 := hO.2.2.2.2; first | exact q9 | omega | (show (ooSm O) ≤ 4300; omega))⟩, rfl⟩, (frM.rf.trans hf1)⟩
    · refine v_tableIn hX d_M_about_6 (tgt := 53) (by omega) (by omega) (off := 47) (by rw [hk9]; rfl) (by decide) ?_
      have hv9 : q = 1 := i32_lit hk9 1 (by decide)
      refine v_aload_n hX d_M_about_53 rfl rfl ?_
      refine v_mget hX hM1 10 (v := .int (nI (ttCh T))) (by decide) fl_M_104 rfl ((nf_thrown 10 (by decide)).trans gf_characters) d_M_about_54 ?_
      exact v_iret hX hE d_M_about_57 (Nat.le_of_ble_eq_true rfl) (Nat.le_of_ble_eq_true rfl) ⟨rfl, rfl, rfl, rfl, C, (soTh O 0), ⟨⟨_, rfl⟩, rfl⟩, hM1, ⟨⟨hO.1, hO.2.1, hO.2.2.1, hO.2.2.2.1, (by have q9 := hO.2.2.2.2; first | exact q9 | omega | (show (ooSm O) ≤ 4300; omega))⟩, rfl⟩, (frM.rf.trans hf1)⟩
    · refine v_tableIn hX d_M_about_6 (tgt := 58) (by omega) (by omega) (off := 52) (by rw [hk9]; rfl) (by decide) ?_
      have hv9 : q = 2 := i32_lit hk9 2 (by decide)
      refine v_aload_n hX d_M_about_58 rfl rfl ?_
      refine v_mget hX hM1 11 (v := .int (nI (ttHa T))) (by decide) fl_M_107 rfl ((nf_thrown 11 (by decide)).trans gf_hand) d_M_about_59 ?_
      exact v_iret hX hE d_M_about_62 (Nat.le_of_ble_eq_true rfl) (Nat.le_of_ble_eq_true rfl) ⟨rfl, rfl, rfl, rfl, C, (soTh O 0), ⟨⟨_, rfl⟩, rfl⟩, hM1, ⟨⟨hO.1, hO.2.1, hO.2.2.1, hO.2.2.2.1, (by have q9 := hO.2.2.2.2; first | exact q9 | omega | (show (ooSm O) ≤ 4300; omega))⟩, rfl⟩, (frM.rf.trans hf1)⟩
    · refine v_tableIn hX d_M_about_6 (tgt := 63) (by omega) (by omega) (off := 57) (by rw [hk9]; rfl) (by decide) ?_
      have hv9 : q = 3 := i32_lit hk9 3 (by decide)
      refine v_aload_n hX d_M_about_63 rfl rfl ?_
      refine v_mget hX hM1 19 (v := .int (ooPm O)) (by decide) fl_M_110 rfl ((nf_thrown 19 (by decide)).trans gf_pageMany) d_M_about_64 ?_
      exact v_iret hX hE d_M_about_67 (Nat.le_of_ble_eq_true rfl) (Nat.le_of_ble_eq_true rfl) ⟨rfl, rfl, rfl, rfl, C, (soTh O 0), ⟨⟨_, rfl⟩, rfl⟩, hM1, ⟨⟨hO.1, hO.2.1, hO.2.2.1, hO.2.2.2.1, (by have q9 := hO.2.2.2.2; first | exact q9 | omega | (show (ooSm O) ≤ 4300; omega))⟩, rfl⟩, (frM.rf.trans hf1)⟩
    · refine v_tableIn hX d_M_about_6 (tgt := 68) (by omega) (by omega) (off := 62) (by rw [hk9]; rfl) (by decide) ?_
      have hv9 : q = 4 := i32_lit hk9 4 (by decide)
      refine v_aload_n hX d_M_about_68 rfl rfl ?_
      refine v_mget hX hM1 19 (v := .int (ooPm O)) (by decide) fl_M_110 rfl ((nf_thrown 19 (by decide)).trans gf_pageMany) d_M_about_69 ?_
      refine v_if_le hX d_M_about_72 (tgt := 82) (by decide) (fun c72 => ?_) (fun c72 => ?_)
      · refine v_iconst (v := 0) hX d_M_about_82 (by decide) ?_
        exact v_iret hX hE d_M_about_83 (Nat.le_of_ble_eq_true rfl) (Nat.le_of_ble_eq_true rfl) ⟨rfl, rfl, rfl, rfl, C, (soTh O 0), ⟨⟨_, rfl⟩, rfl⟩, hM1, ⟨⟨hO.1, hO.2.1, hO.2.2.1, hO.2.2.2.1, (by have q9 := hO.2.2.2.2; first | exact q9 | omega | (show (ooSm O) ≤ 4300; omega))⟩, rfl⟩, (frM.rf.trans hf1)⟩
      · refine v_aload_n hX d_M_about_75 rfl rfl ?_
        refine v_mget hX hM1 18 (v := .int (nI (ooLi O))) (by decide) fl_M_113 rfl ((nf_thrown 18 (by decide)).trans gf_lines) d_M_about_76 ?_
        refine v_goto hX d_M_about_79 (tgt := 83) (by decide) ?_
        exact v_iret hX hE d_M_about_83 (Nat.le_of_ble_eq_true rfl) (Nat.le_of_ble_eq_true rfl) ⟨rfl, rfl, rfl, rfl, C, (soTh O 0), ⟨⟨_, rfl⟩, rfl⟩, hM1, ⟨⟨hO.1, hO.2.1, hO.2.2.1, hO.2.2.2.1, (by have q9 := hO.2.2.2.2; first | exact q9 | omega | (show (ooSm O) ≤ 4300; omega))⟩, rfl⟩, (frM.rf.trans hf1)⟩
    · refine v_tableIn hX d_M_about_6 (tgt := 84) (by omega) (by omega) (off := 78) (by rw [hk9]; rfl) (by decide) ?_
      have hv9 : q = 5 := i32_lit hk9 5 (by decide)
      refine v_aload_n hX d_M_about_84 rfl rfl ?_
      refine v_mget hX hM1 20 (v := .int (ooRo O)) (by decide) fl_M_116 rfl ((nf_thrown 20 (by decide)).trans gf_rows) d_M_about_85 ?_
      exact v_iret hX hE d_M_about_88 (Nat.le_of_ble_eq_true rfl) (Nat.le_of_ble_eq_true rfl) ⟨rfl, rfl, rfl, rfl, C, (soTh O 0), ⟨⟨_, rfl⟩, rfl⟩, hM1, ⟨⟨hO.1, hO.2.1, hO.2.2.1, hO.2.2.2.1, (by have q9 := hO.2.2.2.2; first | exact q9 | omega | (show (ooSm O) ≤ 4300; omega))⟩, rfl⟩, (frM.rf.trans hf1)⟩
    · refine v_tableIn hX d_M_about_6 (tgt := 89) (by omega) (by omega) (off := 83) (by rw [hk9]; rfl) (by decide) ?_
      have hv9 : q = 6 := i32_lit hk9 6 (by decide)
      refine v_aload_n hX d_M_about_89 rfl rfl ?_
      refine v_mget hX hM1 19 (v := .int (ooPm O)) (by decide) fl_M_110 rfl ((nf_thrown 19 (by decide)).trans gf_pageMany) d_M_about_90 ?_
      refine v_if_le hX d_M_about_93 (tgt := 103) (by decide) (fun c93 => ?_) (fun c93 => ?_)
      · refine v_iconst (v := 0) hX d_M_about_103 (by decide) ?_
        exact v_iret hX hE d_M_about_104 (Nat.le_of_ble_eq_true rfl) (Nat.le_of_ble_eq_true rfl) ⟨rfl, rfl, rfl, rfl, C, (soTh O 0), ⟨⟨_, rfl⟩, rfl⟩, hM1, ⟨⟨hO.1, hO.2.1, hO.2.2.1, hO.2.2.2.1, (by have q9 := hO.2.2.2.2; first | exact q9 | omega | (show (ooSm O) ≤ 4300; omega))⟩, rfl⟩, (frM.rf.trans hf1)⟩
      · refine v_aload_n hX d_M_about_96 rfl rfl ?_
        refine v_mget hX hM1 21 (v := .int (nI (ttCo T))) (by decide) fl_M_119 rfl ((nf_thrown 21 (by decide)).trans gf_columns) d_M_about_97 ?_
        refine v_goto hX d_M_about_100 (tgt := 104) (by decide) ?_
        exact v_iret hX hE d_M_about_104 (Nat.le_of_ble_eq_true rfl) (Nat.le_of_ble_eq_true rfl) ⟨rfl, rfl, rfl, rfl, C, (soTh O 0), ⟨⟨_, rfl⟩, rfl⟩, hM1, ⟨⟨hO.1, hO.2.1, hO.2.2.1, hO.2.2.2.1, (by have q9 := hO.2.2.2.2; first | exact q9 | omega | (show (ooSm O) ≤ 4300; omega))⟩, rfl⟩, (frM.rf.trans hf1)⟩
