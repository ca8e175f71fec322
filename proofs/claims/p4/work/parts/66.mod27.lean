set_option maxHeartbeats 4000000 in
set_option maxRecDepth 100000 in
theorem c_M_cell {l : Launch} {D : va_G} {A : Nat → Prop} {cI cB cZ cJ cN : ClassId} {ob : Nat → Nat} {C : CT} {T : TS} {O : OS} {dom : Nat → Prop} {loc : Nat → Nat} {val : Nat → va_E} (hM : ModI cI cB cZ ob C T O dom loc val) (hO : OI O) (p r c : Int32) (hX9 : ttCo T ≤ 60) : kM l y_M_cell (Cond.code y_M_cell b_M_cell 6 (some FieldType.int) :: TT) (rmM 1) D CL (TY cI cB cZ cJ cN) A [.ref (ob 48), .int p, .int r, .int c] dom loc val (PMo cI cB cZ ob T O dom loc val (fun rv C2 O2 => (∃ v, rv = some (.int v)) ∧ C = C2)) := by
  refine kM_of (lv0 := [some (.ref (ob 48)), some (.int p), some (.int r), some (.int c), none, none]) (own := "ProsePagesModel") (by decide) rfl (List.forall_mem_cons.mpr ⟨rfl, List.forall_mem_cons.mpr ⟨rfl, List.forall_mem_cons.mpr ⟨rfl, List.forall_mem_cons.mpr ⟨rfl, fun _ h => nomatch h⟩⟩⟩⟩) (Nat.le_of_ble_eq_true rfl) rfl (Nat.le_of_ble_eq_true rfl) (fun X hl hX hE hin0 => ?_)
  refine v_aload_n hX d_M_cell_0 rfl rfl ?_
  refine v_iconst (v := 0) hX d_M_cell_1 (by decide) ?_
  refine v_mput hX hM 0 C T (soTh O 0) (by decide) fl_M_97 rfl rfl rfl rfl pf_thrown pa_thrown d_M_cell_2 (fun va1 hM1 hf1 => ?_)
  refine v_iload_n hX d_M_cell_5 rfl rfl ?_
  refine v_if_lt hX d_M_cell_6 (tgt := 41) (by decide) (fun c6 => ?_) (fun c6 => ?_)
  · refine v_iconst (v := (-1)) hX d_M_cell_41 (by decide) ?_
    exact v_iret hX hE d_M_cell_42 (Nat.le_of_ble_eq_true rfl) (Nat.le_of_ble_eq_true rfl) ⟨rfl, rfl, rfl, rfl, C, (soTh O 0), ⟨⟨_, rfl⟩, rfl⟩, hM1, ⟨⟨hO.1, hO.2.1, hO.2.2.1, hO.2.2.2.1, (by have q9 := hO.2.2.2.2; first | exact q9 | omega | (show (ooSm O) ≤ 4300; omega))⟩, rfl⟩, (frM.rf.trans hf1)⟩
  · refine v_iload_n hX d_M_cell_9 rfl rfl ?_
    refine v_aload_n hX d_M_cell_10 rfl rfl ?_
    refine v_mget hX hM1 19 (v := .int (ooPm O)) (by decide) fl_M_110 rfl ((nf_thrown 19 (by decide)).trans gf_pageMany) d_M_cell_11 ?_
    refine v_icmp_ge hX d_M_cell_14 (tgt := 41) (by decide) (fun c14 => ?_) (fun c14 => ?_)
    · refine v_iconst (v := (-1)) hX d_M_cell_41 (by decide) ?_
      exact v_iret hX hE d_M_cell_42 (Nat.le_of_ble_eq_true rfl) (Nat.le_of_ble_eq_true rfl) ⟨rfl, rfl, rfl, rfl, C, (soTh O 0), ⟨⟨_, rfl⟩, rfl⟩, hM1, ⟨⟨hO.1, hO.2.1, hO.2.2.1, hO.2.2.2.1, (by have q9 := hO.2.2.2.2; first | exact q9 | omega | (show (ooSm O) ≤ 4300; omega))⟩, rfl⟩, (frM.rf.trans hf1)⟩
    · refine v_iload_n hX d_M_cell_17 rfl rfl ?_
      refine v_if_lt hX d_M_cell_18 (tgt := 41) (by decide) (fun c18 => ?_) (fun c18 => ?_)
      · refine v_iconst (v := (-1)) hX d_M_cell_41 (by decide) ?_
        exact v_iret hX hE d_M_cell_42 (Nat.le_of_ble_eq_true rfl) (Nat.le_of_ble_eq_true rfl) ⟨rfl, rfl, rfl, rfl, C, (soTh O 0), ⟨⟨_, rfl⟩, rfl⟩, hM1, ⟨⟨hO.1, hO.2.1, hO.2.2.1, hO.2.2.2.1, (by have q9 := hO.2.2.2.2; first | exact q9 | omega | (show (ooSm O) ≤ 4300; omega))⟩, rfl⟩, (frM.rf.trans hf1)⟩
      · refine v_iload_n hX d_M_cell_21 rfl rfl ?_
        refine v_aload_n hX d_M_cell_22 rfl rfl ?_
        refine v_mget hX hM1 20 (v := .int (ooRo O)) (by decide) fl_M_116 rfl ((nf_thrown 20 (by decide)).trans gf_rows) d_M_cell_23 ?_
        refine v_icmp_ge hX d_M_cell_26 (tgt := 41) (by decide) (fun c26 => ?_) (fun c26 => ?_)
        · refine v_iconst (v := (-1)) hX d_M_cell_41 (by decide) ?_
          exact v_iret hX hE d_M_cell_42 (Nat.le_of_ble_eq_true rfl) (Nat.le_of_ble_eq_true rfl) ⟨rfl, rfl, rfl, rfl, C, (soTh O 0), ⟨⟨_, rfl⟩, rfl⟩, hM1, ⟨⟨hO.1, hO.2.1, hO.2.2.1, hO.2.2.2.1, (by have q9 := hO.2.2.2.2; first | exact q9 | omega | (show (ooSm O) ≤ 4300; omega))⟩, rfl⟩, (frM.rf.trans hf1)⟩
        · refine v_iload_n hX d_M_cell_29 rfl rfl ?_
          refine v_if_lt hX d_M_cell_30 (tgt := 41) (by decide) (fun c30 => ?_) (fun c30 => ?_)
          · refine v_iconst (v := (-1)) hX d_M_cell_41 (by decide) ?_
            exact v_iret hX hE d_M_cell_42 (Nat.le_of_ble_eq_true rfl) (Nat.le_of_ble_eq_true rfl) ⟨rfl, rfl, rfl, rfl, C, (soTh O 0), ⟨⟨_, rfl⟩, rfl⟩, hM1, ⟨⟨hO.1, hO.2.1, hO.2.2.1, hO.2.2.2.1, (by have q9 := hO.2.2.2.2; first | exact q9 | omega | (show (ooSm O) ≤ 4300; omega))⟩, rfl⟩, (frM.rf.trans hf1)⟩
          · refine v_iload_n hX d_M_cell_33 rfl rfl ?_
            refine v_aload_n hX d_M_cell_34 rfl rfl ?_
            refine v_mget hX hM1 21 (v := .int (nI (ttCo T))) (by decide) fl_M_119 rfl ((nf_thrown 21 (by decide)).trans gf_columns) d_M_cell_35 ?_
            refine v_icmp_lt hX d_M_cell_38 (tgt := 43) (by decide) (fun c38 => ?_) (fun c38 => ?_)
            · obtain ⟨cn, hcn, rfl⟩ := nI_of c30
              have hcc : cn < ttCo T := (nI_ltI (by omega) (by omega)).mp c38
              refine v_bipush (v := 32) hX d_M_cell_43 (by decide) ?_
              refine v_istore (lv' := [some (.ref (ob 48)), some (.int p), some (.int r), some (.int (nI cn)), some (.int 32), none]) hX d_M_cell_45 (Nat.le_of_ble_eq_true rfl) rfl ?_
              refine v_iconst (v := 0) hX d_M_cell_47 (by decide) ?_
              refine v_istore (lv' := [some (.ref (ob 48)), some (.int p), some (.int r), some (.int (nI cn)), some (.int 32), some (.int 0)]) hX d_M_cell_48 (Nat.le_of_ble_eq_true rfl) rfl ?_
              have loop50 : ∀ (m9 : Nat) (v : Int32) (i : Nat) (CL50 : CT) (oL50 : OS) (vaL50 : Nat → va_E), 1500 - i < m9 → ModI cI cB cZ ob CL50 T oL50 dom loc vaL50 → (OI oL50 ∧ ooCt oL50 = ooCt O) → frM val vaL50 → (C = CL50) → (i ≤ 1500) → V X D CL A dom loc vaL50 0 0 50 [some (.ref (ob 48)), some (.int p), some (.int r), some (.int (nI cn)), some (.int v), some (.int (nI i))] [] := by
                intro m9
                induction m9 with
                | zero => intro v i CL50 oL50 vaL50 hk50 hML50 hOL50 hfL50 hC50 hi50; exact absurd hk50 (Nat.not_lt_zero _)
                | succ m9 ih50 =>
                  intro v i CL50 oL50 vaL50 hk50 hML50 hOL50 hfL50 hC50 hi50
                  subst hC50
                  have hli := hOL50.1.2.2.1
                  refine v_iload hX d_M_cell_50 rfl ?_
                  refine v_aload_n hX d_M_cell_52 rfl rfl ?_
                  refine v_mget hX hML50 18 (v := .int (nI (ooLi oL50))) (by decide) fl_M_113 rfl gf_lines d_M_cell_53 ?_
                  refine v_icmp_ge hX d_M_cell_56 (tgt := 110) (by decide) (fun c56 => ?_) (fun c56 => ?_)
                  · have f56 : (ooLi oL50) ≤ i := (nI_leI (a := (ooLi oL50)) (b := i) (by omega) (by omega)).mp c56
                    refine v_iload hX d_M_cell_110 rfl ?_
                    exact v_iret hX hE d_M_cell_112 (Nat.le_of_ble_eq_true rfl) (Nat.le_of_ble_eq_true rfl) ⟨rfl, rfl, rfl, rfl, C, oL50, ⟨⟨_, rfl⟩, rfl⟩, hML50, ⟨hOL50.1, hOL50.2⟩, hfL50⟩
                  · have f56 : ¬ (ooLi oL50) ≤ i := fun z => c56 ((nI_leI (a := (ooLi oL50)) (b := i) (by omega) (by omega)).mpr z)
                    refine v_aload_n hX d_M_cell_59 rfl rfl ?_
                    refine v_mget hX hML50 14 (v := .ref (ob 59)) (by decide) fl_M_41 rfl rfl d_M_cell_60 ?_
                    refine v_iload hX d_M_cell_63 rfl ?_
                    refine v_mild hX hML50 10 (i := i) (v := ((ooPa oL50) i)) ga_page (by omega) (by decide) rfl d_M_cell_65 ?_
                    refine v_iload_n hX d_M_cell_66 rfl rfl ?_
                    refine v_icmp_ne hX d_M_cell_67 (tgt := 100) (by decide) (fun c67 => ?_) (fun c67 => ?_)
                    · refine v_iload hX d_M_cell_100 rfl ?_
                      refine v_istore (lv' := [some (.ref (ob 48)), some (.int p), some (.int r), some (.int (nI cn)), some (.int v), some (.int (nI i))]) hX d_M_cell_102 (Nat.le_of_ble_eq_true rfl) rfl ?_
                      refine v_iinc (y := (nI (i + 1))) (lv' := [some (.ref (ob 48)), some (.int p), some (.int r), some (.int (nI cn)), some (.int v), some (.int (nI (i + 1)))]) hX d_M_cell_104 rfl (nI_1 i) rfl ?_
                      refine v_goto hX d_M_cell_107 (tgt := 50) (by decide) ?_
                      exact ih50 v (i + 1) C oL50 vaL50 (by omega) hML50 ⟨hOL50.1, hOL50.2⟩ hfL50 rfl (by omega)
                    · refine v_aload_n hX d_M_cell_70 rfl rfl ?_
                      refine v_mget hX hML50 15 (v := .ref (ob 60)) (by decide) fl_M_44 rfl rfl d_M_cell_71 ?_
                      refine v_iload hX d_M_cell_74 rfl ?_
                      refine v_mild hX hML50 11 (i := i) (v := ((ooRw oL50) i)) ga_row (by omega) (by decide) rfl d_M_cell_76 ?_
                      refine v_iload_n hX d_M_cell_77 rfl rfl ?_
                      refine v_icmp_ne hX d_M_cell_78 (tgt := 100) (by decide) (fun c78 => ?_) (fun c78 => ?_)
                      · refine v_iload hX d_M_cell_100 rfl ?_
                        refine v_istore (lv' := [some (.ref (ob 48)), some (.int p), some (.int r), some (.int (nI cn)), some (.int v), some (.int (nI i))]) hX d_M_cell_102 (Nat.le_of_ble_eq_true rfl) rfl ?_
                        refine v_iinc (y := (nI (i + 1))) (lv' := [some (.ref (ob 48)), some (.int p), some (.int r), some (.int (nI cn)), some (.int v), some (.int (nI (i + 1)))]) hX d_M_cell_104 rfl (nI_1 i) rfl ?_
                        refine v_goto hX d_M_cell_107 (tgt := 50) (by decide) ?_
                        exact ih50 v (i + 1) C oL50 vaL50 (by omega) hML50 ⟨hOL50.1, hOL50.2⟩ hfL50 rfl (by omega)
                      · refine v_aload_n hX d_M_cell_81 rfl rfl ?_
                        refine v_mget hX hML50 17 (v := .ref (ob 62)) (by decide) fl_M_52 rfl rfl d_M_cell_82 ?_
                        refine v_bipush (v := 60) hX d_M_cell_85 (by decide) ?_
                        refine v_iload hX d_M_cell_87 rfl ?_
                        refine v_imulE (v := nI (60 * i)) hX d_M_cell_89 (nI_mul 60 i) ?_
                        refine v_iload_n hX d_M_cell_90 rfl rfl ?_
                        refine v_iaddE (v := nI ((60 * i) + cn)) hX d_M_cell_91 (nI_add (60 * i) cn) ?_
                        refine v_mbld hX hML50 13 (i := ((60 * i) + cn)) (v := ((ooSe oL50) ((60 * i) + cn))) ga_seen (by omega) (by decide) rfl d_M_cell_92 ?_
                        refine v_sipush (v := 255) hX d_M_cell_93 (by decide) ?_
                        refine v_iand hX d_M_cell_96 ?_
                        refine v_goto hX d_M_cell_97 (tgt := 102) (by decide) ?_
                        refine v_istore (lv' := [some (.ref (ob 48)), some (.int p), some (.int r), some (.int (nI cn)), some (.int (((ooSe oL50) ((60 * i) + cn)) &&& 255)), some (.int (nI i))]) hX d_M_cell_102 (Nat.le_of_ble_eq_true rfl) rfl ?_
                        refine v_iinc (y := (nI (i + 1))) (lv' := [some (.ref (ob 48)), some (.int p), some (.int r), some (.int (nI cn)), some (.int (((ooSe oL50) ((60 * i) + cn)) &&& 255)), some (.int (nI (i + 1)))]) hX d_M_cell_104 rfl (nI_1 i) rfl ?_
                        refine v_goto hX d_M_cell_107 (tgt := 50) (by decide) ?_
                        exact ih50 (((ooSe oL50) ((60 * i) + cn)) &&& 255) (i + 1) C oL50 vaL50 (by omega) hML50 ⟨hOL50.1, hOL50.2⟩ hfL50 rfl (by omega)
              exact loop50 _ 32 0 C (soTh O 0) va1 (Nat.lt_succ_self _) hM1 ⟨⟨hO.1, hO.2.1, hO.2.2.1, hO.2.2.2.1, (by have q9 := hO.2.2.2.2; first | exact q9 | omega | (show (ooSm O) ≤ 4300; omega))⟩, rfl⟩ (frM.rf.trans hf1) rfl (Nat.zero_le _)
            · refine v_iconst (v := (-1)) hX d_M_cell_41 (by decide) ?_
              exact v_iret hX hE d_M_cell_42 (Nat.le_of_ble_eq_true rfl) (Nat.le_of_ble_eq_true rfl) ⟨rfl, rfl, rfl, rfl, C, (soTh O 0), ⟨⟨_, rfl⟩, rfl⟩, hM1, ⟨⟨hO.1, hO.2.1, hO.2.2.1, hO.2.2.2.1, (by have q9 := hO.2.2.2.2; first | exact q9 | omega | (show (ooSm O) ≤ 4300; omega))⟩, rfl⟩, (frM.rf.trans hf1)⟩
set_option maxHeartbeats 4000000 in
set_option maxRecDepth 100000 in
theorem c_M_page {l : Launch} {D : va_G} {A : Nat → Prop} {cI cB cZ cJ cN : ClassId} {ob : Nat → Nat} {C : CT} {T : TS} {O : OS} {dom : Nat → Prop} {loc : Nat → Nat} {val : Nat → va_E} (hM : ModI cI cB cZ ob C T O dom loc val) (hO : OI O) (p q : Int32) : kM l y_M_page (Cond.code y_M_page b_M_page 6 (some FieldType.int) :: TT) (rmM 1) D CL (TY cI cB cZ cJ cN) A [.ref (ob 48), .int p, .int q] dom loc val (PMo cI cB cZ ob T O dom loc val (fun rv C2 O2 => (∃ v, rv = some (.int v)) ∧ C = C2)) := by
  refine kM_of (lv0 := [some (.ref (ob 48)), some (.int p), some (.int q), none, none, none]) (own := "ProsePagesModel") (by decide) rfl (List.forall_mem_cons.mpr ⟨rfl, List.forall_mem_cons.mpr ⟨rfl, List.forall_mem_cons.mpr ⟨rfl, fun _ h => nomatch h⟩⟩⟩) (Nat.le_of_ble_eq_true rfl) rfl (Nat.le_of_ble_eq_true rfl) (fun X hl hX hE hin0 => ?_)
  have hli0 := hO.2.2.1
  refine v_aload_n hX d_M_page_0 rfl rfl ?_
  refine v_iconst (v := 0) hX d_M_page_1 (by decide) ?_
  refine v_mput hX hM 0 C T (soTh O 0) (by decide) fl_M_97 rfl rfl rfl rfl pf_thrown pa_thrown d_M_page_2 (fun va1 hM1 hf1 => ?_)
  refine v_iload_n hX d_M_page_5 rfl rfl ?_
  refine v_if_lt hX d_M_page_6 (tgt := 26) (by decide) (fun c6 => ?_) (fun c6 => ?_)
  · refine v_iconst (v := (-1)) hX d_M_page_26 (by decide) ?_
    exact v_iret hX hE d_M_page_27 (Nat.le_of_ble_eq_true rfl) (Nat.le_of_ble_eq_true rfl) ⟨rfl, rfl, rfl, rfl, C, (soTh O 0), ⟨⟨_, rfl⟩, rfl⟩, hM1, ⟨⟨hO.1, hO.2.1, hO.2.2.1, hO.2.2.2.1, (by have q9 := hO.2.2.2.2; first | exact q9 | omega | (show (ooSm O) ≤ 4300; omega))⟩, rfl⟩, (frM.rf.trans hf1)⟩
  · refine v_iload_n hX d_M_page_9 rfl rfl ?_
    refine v_aload_n hX d_M_page_10 rfl rfl ?_
    refine v_mget hX hM1 19 (v := .int (ooPm O)) (by decide) fl_M_110 rfl ((nf_thrown 19 (by decide)).trans gf_pageMany) d_M_page_11 ?_
    refine v_icmp_ge hX d_M_page_14 (tgt := 26) (by decide) (fun c14 => ?_) (fun c14 => ?_)
    · refine v_iconst (v := (-1)) hX d_M_page_26 (by decide) ?_
      exact v_iret hX hE d_M_page_27 (Nat.le_of_ble_eq_true rfl) (Nat.le_of_ble_eq_true rfl) ⟨rfl, rfl, rfl, rfl, C, (soTh O 0), ⟨⟨_, rfl⟩, rfl⟩, hM1, ⟨⟨hO.1, hO.2.1, hO.2.2.1, hO.2.2.2.1, (by have q9 := hO.2.2.2.2; first | exact q9 | omega | (show (ooSm O) ≤ 4300; omega))⟩, rfl⟩, (frM.rf.trans hf1)⟩
    · refine v_iload_n hX d_M_page_17 rfl rfl ?_
      refine v_if_lt hX d_M_page_18 (tgt := 26) (by decide) (fun c18 => ?_) (fun c18 => ?_)
      · refine v_iconst (v := (-1)) hX d_M_page_26 (by decide) ?_
        exact v_iret hX hE d_M_page_27 (Nat.le_of_ble_eq_true rfl) (Nat.le_of_ble_eq_true rfl) ⟨rfl, rfl, rfl, rfl, C, (soTh O 0), ⟨⟨_, rfl⟩, rfl⟩, hM1, ⟨⟨hO.1, hO.2.1, hO.2.2.1, hO.2.2.2.1, (by have q9 := hO.2.2.2.2; first | exact q9 | omega | (show (ooSm O) ≤ 4300; omega))⟩, rfl⟩, (frM.rf.trans hf1)⟩
      · refine v_iload_n hX d_M_page_21 rfl rfl ?_
        refine v_iconst (v := 1) hX d_M_page_22 (by decide) ?_
        refine v_icmp_le hX d_M_page_23 (tgt := 28) (by decide) (fun c23 => ?_) (fun c23 => ?_)
        · refine v_iconst (v := 0) hX d_M_page_28 (by decide) ?_
          refine v_istore_n (lv' := [some (.ref (ob 48)), some (.int p), some (.int q), some (.int 0), none, none]) hX d_M_page_29 rfl (Nat.le_of_ble_eq_true rfl) rfl ?_
          refine v_aload_n hX d_M_page_30 rfl rfl ?_
          refine v_mget hX hM1 18 (v := .int (nI (ooLi O))) (by decide) fl_M_113 rfl ((nf_thrown 18 (by decide)).trans gf_lines) d_M_page_31 ?_
          refine v_istore (lv' := [some (.ref (ob 48)), some (.int p), some (.int q), some (.int 0), some (.int (nI (ooLi O))), none]) hX d_M_page_34 (Nat.le_of_ble_eq_true rfl) rfl ?_
          refine v_aload_n hX d_M_page_36 rfl rfl ?_
          refine v_mget hX hM1 18 (v := .int (nI (ooLi O))) (by decide) fl_M_113 rfl ((nf_thrown 18 (by decide)).trans gf_lines) d_M_page_37 ?_
          refine v_iconst (v := 1) hX d_M_page_40 (by decide) ?_
          refine v_isub hX d_M_page_41 ?_
          refine v_istore (lv' := [some (.ref (ob 48)), some (.int p), some (.int q), some (.int 0), some (.int (nI (ooLi O))), some (.int ((nI (ooLi O)) - 1))]) hX d_M_page_42 (Nat.le_of_ble_eq_true rfl) rfl ?_
          have loop44 : ∀ (m9 : Nat) (n f : Int32) (j : Nat) (oL : OS) (vaL : Nat → va_E), j < m9 → ModI cI cB cZ ob C T oL dom loc vaL → (OI oL ∧ ooCt oL = ooCt O) → frM val vaL → ooLi oL = ooLi O → j ≤ 1500 → V X D CL A dom loc vaL 0 0 44 [some (.ref (ob 48)), some (.int p), some (.int q), some (.int n), some (.int f), some (.int (nI j - 1))] [] := by
            intro m9
            induction m9 with
            | zero => intro n f j oL vaL hk; exact absurd hk (Nat.not_lt_zero _)
            | succ m9 ih44 =>
              intro n f j oL vaL hk hML hOL hfL hlL hj9
              cases j with
              | zero =>
                rw [show (nI 0 - 1 : Int32) = -1 by decide]
                refine v_iload hX d_M_page_44 rfl ?_
                refine v_if_lt hX d_M_page_46 (tgt := 76) (by decide) (fun _ => ?_) (fun c => absurd (by decide) c)
                refine v_iload_n hX d_M_page_76 rfl rfl ?_
                refine v_if_ne hX d_M_page_77 (tgt := 84) (by decide) (fun c77 => ?_) (fun c77 => ?_)
                · refine v_iload hX d_M_page_84 rfl ?_
                  exact v_iret hX hE d_M_page_86 (Nat.le_of_ble_eq_true rfl) (Nat.le_of_ble_eq_true rfl) ⟨rfl, rfl, rfl, rfl, C, oL, ⟨⟨_, rfl⟩, rfl⟩, hML, ⟨hOL.1, hOL.2⟩, hfL⟩
                · refine v_iload_n hX d_M_page_80 rfl rfl ?_
                  refine v_goto hX d_M_page_81 (tgt := 86) (by decide) ?_
                  exact v_iret hX hE d_M_page_86 (Nat.le_of_ble_eq_true rfl) (Nat.le_of_ble_eq_true rfl) ⟨rfl, rfl, rfl, rfl, C, oL, ⟨⟨_, rfl⟩, rfl⟩, hML, ⟨hOL.1, hOL.2⟩, hfL⟩
              | succ j =>
                rw [nI_pred]
                refine v_iload hX d_M_page_44 rfl ?_
                refine v_if_lt hX d_M_page_46 (tgt := 76) (by decide) (fun c => absurd c (nI_pos (by omega))) (fun _ => ?_)
                refine v_aload_n hX d_M_page_49 rfl rfl ?_
                refine v_mget hX hML 14 (v := .ref (ob 59)) (by decide) fl_M_41 rfl rfl d_M_page_50 ?_
                refine v_iload hX d_M_page_53 rfl ?_
                refine v_mild hX hML 10 (i := j) (v := ((ooPa oL) j)) ga_page (by omega) (by decide) rfl d_M_page_55 ?_
                refine v_iload_n hX d_M_page_56 rfl rfl ?_
                refine v_icmp_eq hX d_M_page_57 (tgt := 63) (by decide) (fun c57 => ?_) (fun c57 => ?_)
                · refine v_iinc (y := (n + 1)) (lv' := [some (.ref (ob 48)), some (.int p), some (.int q), some (.int (n + 1)), some (.int f), some (.int (nI j))]) hX d_M_page_63 rfl (by rfl) rfl ?_
                  refine v_iload hX d_M_page_66 rfl ?_
                  refine v_istore (lv' := [some (.ref (ob 48)), some (.int p), some (.int q), some (.int (n + 1)), some (.int (nI j)), some (.int (nI j))]) hX d_M_page_68 (Nat.le_of_ble_eq_true rfl) rfl ?_
                  refine v_iinc (y := (nI j) - 1) (lv' := [some (.ref (ob 48)), some (.int p), some (.int q), some (.int (n + 1)), some (.int (nI j)), some (.int ((nI j) - 1))]) hX d_M_page_70 rfl (Int32.sub_eq_add_neg (nI j) 1).symm rfl ?_
                  refine v_goto hX d_M_page_73 (tgt := 44) (by decide) ?_
                  exact ih44 (n + 1) (nI j) j oL vaL (by omega) hML ⟨hOL.1, hOL.2⟩ hfL hlL (by omega)
                · refine v_goto hX d_M_page_60 (tgt := 70) (by decide) ?_
                  refine v_iinc (y := (nI j) - 1) (lv' := [some (.ref (ob 48)), some (.int p), some (.int q), some (.int n), some (.int f), some (.int ((nI j) - 1))]) hX d_M_page_70 rfl (Int32.sub_eq_add_neg (nI j) 1).symm rfl ?_
                  refine v_goto hX d_M_page_73 (tgt := 44) (by decide) ?_
                  exact ih44 n f j oL vaL (by omega) hML ⟨hOL.1, hOL.2⟩ hfL hlL (by omega)
          exact loop44 _ 0 (nI (ooLi O)) (ooLi O) (soTh O 0) va1 (Nat.lt_succ_self _) hM1 ⟨⟨hO.1, hO.2.1, hO.2.2.1, hO.2.2.2.1, (by have q9 := hO.2.2.2.2; first | exact q9 | omega | (show (ooSm O) ≤ 4300; omega))⟩, rfl⟩ (frM.rf.trans hf1) rfl hli0
        · refine v_iconst (v := (-1)) hX d_M_page_26 (by decide) ?_
          exact v_iret hX hE d_M_page_27 (Nat.le_of_ble_eq_true rfl) (Nat.le_of_ble_eq_true rfl) ⟨rfl, rfl, rfl, rfl, C, (soTh O 0), ⟨⟨_, rfl⟩, rfl⟩, hM1, ⟨⟨hO.1, hO.2.1, hO.2.2.1, hO.2.2.2.1, (by have q9 := hO.2.2.2.2; first | exact q9 | omega | (show (ooSm O) ≤ 4300; omega))⟩, rfl⟩, (frM.rf.trans hf1)⟩
set_option maxHeartbeats 4000000 in
set_option maxRecDepth 100000 in
theorem c_M_line {l : Launch} {D : va_G} {A : Nat → Prop} {cI cB cZ cJ cN : ClassId} {ob : Nat → Nat} {C : CT} {T : TS} {O : OS} {dom : Nat → Prop} {loc : Nat → Nat} {val : Nat → va_E} (hM : ModI cI cB cZ ob C T O dom loc val) (hO : OI O) (k q : Int32) : kM l y_M_line (Cond.code y_M_line b_M_line 3 (some FieldType.int) :: TT) (rmM 1) D CL (TY cI cB cZ cJ cN) A [.ref (ob 48), .int k, .int q] dom loc val (PMo cI cB cZ ob T O dom loc val (fun rv C2 O2 => (∃ v, rv = some (.int v)) ∧ C = C2)) := by
  refine kM_of (lv0 := [some (.ref (ob 48)), some (.int k), some (.int q)]) (own := "ProsePagesModel") (by decide) rfl (List.forall_mem_cons.mpr ⟨rfl, List.forall_mem_cons.mpr ⟨rfl, List.forall_mem_cons.mpr ⟨rfl, fun _ h => nomatch h⟩⟩⟩) (Nat.le_of_ble_eq_true rfl) rfl (Nat.le_of_ble_eq_true rfl) (fun X hl hX hE hin0 => ?_)
  refine v_aload_n hX d_M_line_0 rfl rfl ?_
  refine v_iconst (v := 0) hX d_M_line_1 (by decide) ?_
  refine v_mput hX hM 0 C T (soTh O 0) (by decide) fl_M_97 rfl rfl rfl rfl pf_thrown pa_thrown d_M_line_2 (fun va1 hM1 hf1 => ?_)
  refine v_iload_n hX d_M_line_5 rfl rfl ?_
  refine v_if_lt hX d_M_line_6 (tgt := 17) (by decide) (fun c6 => ?_) (fun c6 => ?_)
  · refine v_iconst (v := (-1)) hX d_M_line_17 (by decide) ?_
    exact v_iret hX hE d_M_line_18 (Nat.le_of_ble_eq_true rfl) (Nat.le_of_ble_eq_true rfl) ⟨rfl, rfl, rfl, rfl, C, (soTh O 0), ⟨⟨_, rfl⟩, rfl⟩, hM1, ⟨⟨hO.1, hO.2.1, hO.2.2.1, hO.2.2.2.1, (by have q9 := hO.2.2.2.2; first | exact q9 | omega | (show (ooSm O) ≤ 4300; omega))⟩, rfl⟩, (frM.rf.trans hf1)⟩
  · refine v_iload_n hX d_M_line_9 rfl rfl ?_
    refine v_aload_n hX d_M_line_10 rfl rfl ?_
    refine v_mget hX hM1 18 (v := .int (nI (ooLi O))) (by decide) fl_M_113 rfl ((nf_thrown 18 (by decide)).trans gf_lines) d_M_line_11 ?_
    refine v_icmp_lt hX d_M_line_14 (tgt := 19) (by decide) (fun c14 => ?_) (fun c14 => ?_)
    · obtain ⟨kn, hkn, rfl⟩ := nI_of c6
      have hli0 := hO.2.2.1
      have hkk : kn < ooLi O := (nI_ltI (by omega) (by omega)).mp c14
      refine v_iload_n hX d_M_line_19 rfl rfl ?_
      refine v_if_ne hX d_M_line_20 (tgt := 32) (by decide) (fun c20 => ?_) (fun c20 => ?_)
      · refine v_iload_n hX d_M_line_32 rfl rfl ?_
        refine v_iconst (v := 1) hX d_M_line_33 (by decide) ?_
        refine v_icmp_ne hX d_M_line_34 (tgt := 46) (by decide) (fun c34 => ?_) (fun c34 => ?_)
        · refine v_iload_n hX d_M_line_46 rfl rfl ?_
          refine v_iconst (v := 2) hX d_M_line_47 (by decide) ?_
          refine v_icmp_ne hX d_M_line_48 (tgt := 68) (by decide) (fun c48 => ?_) (fun c48 => ?_)
          · refine v_iconst (v := (-1)) hX d_M_line_68 (by decide) ?_
            exact v_iret hX hE d_M_line_69 (Nat.le_of_ble_eq_true rfl) (Nat.le_of_ble_eq_true rfl) ⟨rfl, rfl, rfl, rfl, C, (soTh O 0), ⟨⟨_, rfl⟩, rfl⟩, hM1, ⟨⟨hO.1, hO.2.1, hO.2.2.1, hO.2.2.2.1, (by have q9 := hO.2.2.2.2; first | exact q9 | omega | (show (ooSm O) ≤ 4300; omega))⟩, rfl⟩, (frM.rf.trans hf1)⟩
          · refine v_aload_n hX d_M_line_51 rfl rfl ?_
            refine v_mget hX hM1 13 (v := .ref (ob 58)) (by decide) fl_M_38 rfl rfl d_M_line_52 ?_
            refine v_iload_n hX d_M_line_55 rfl rfl ?_
            refine v_mild hX hM1 9 (i := kn) (v := ((ooHe O) kn)) ((na_thrown 9).trans ga_head) (by omega) (by decide) rfl d_M_line_56 ?_
            refine v_if_le hX d_M_line_57 (tgt := 64) (by decide) (fun c57 => ?_) (fun c57 => ?_)
            · refine v_iconst (v := 0) hX d_M_line_64 (by decide) ?_
              refine v_goto hX d_M_line_65 (tgt := 69) (by decide) ?_
              exact v_iret hX hE d_M_line_69 (Nat.le_of_ble_eq_true rfl) (Nat.le_of_ble_eq_true rfl) ⟨rfl, rfl, rfl, rfl, C, (soTh O 0), ⟨⟨_, rfl⟩, rfl⟩, hM1, ⟨⟨hO.1, hO.2.1, hO.2.2.1, hO.2.2.2.1, (by have q9 := hO.2.2.2.2; first | exact q9 | omega | (show (ooSm O) ≤ 4300; omega))⟩, rfl⟩, (frM.rf.trans hf1)⟩
            · refine v_iconst (v := 1) hX d_M_line_60 (by decide) ?_
              refine v_goto hX d_M_line_61 (tgt := 69) (by decide) ?_
              exact v_iret hX hE d_M_line_69 (Nat.le_of_ble_eq_true rfl) (Nat.le_of_ble_eq_true rfl) ⟨rfl, rfl, rfl, rfl, C, (soTh O 0), ⟨⟨_, rfl⟩, rfl⟩, hM1, ⟨⟨hO.1, hO.2.1, hO.2.2.1, hO.2.2.2.1, (by have q9 := hO.2.2.2.2; first | exact q9 | omega | (show (ooSm O) ≤ 4300; omega))⟩, rfl⟩, (frM.rf.trans hf1)⟩
        · refine v_aload_n hX d_M_line_37 rfl rfl ?_
          refine v_mget hX hM1 14 (v := .ref (ob 59)) (by decide) fl_M_41 rfl rfl d_M_line_38 ?_
          refine v_iload_n hX d_M_line_41 rfl rfl ?_
          refine v_mild hX hM1 10 (i := kn) (v := ((ooPa O) kn)) ((na_thrown 10).trans ga_page) (by omega) (by decide) rfl d_M_line_42 ?_
          refine v_goto hX d_M_line_43 (tgt := 69) (by decide) ?_
          exact v_iret hX hE d_M_line_69 (Nat.le_of_ble_eq_true rfl) (Nat.le_of_ble_eq_true rfl) ⟨rfl, rfl, rfl, rfl, C, (soTh O 0), ⟨⟨_, rfl⟩, rfl⟩, hM1, ⟨⟨hO.1, hO.2.1, hO.2.2.1, hO.2.2.2.1, (by have q9 := hO.2.2.2.2; first | exact q9 | omega | (show (ooSm O) ≤ 4300; omega))⟩, rfl⟩, (frM.rf.trans hf1)⟩
      · refine v_aload_n hX d_M_line_23 rfl rfl ?_
        refine v_mget hX hM1 12 (v := .ref (ob 57)) (by decide) fl_M_35 rfl rfl d_M_line_24 ?_
        refine v_iload_n hX d_M_line_27 rfl rfl ?_
        refine v_mild hX hM1 8 (i := kn) (v := ((ooLe O) kn)) ((na_thrown 8).trans ga_length) (by omega) (by decide) rfl d_M_line_28 ?_
        refine v_goto hX d_M_line_29 (tgt := 69) (by decide) ?_
        exact v_iret hX hE d_M_line_69 (Nat.le_of_ble_eq_true rfl) (Nat.le_of_ble_eq_true rfl) ⟨rfl, rfl, rfl, rfl, C, (soTh O 0), ⟨⟨_, rfl⟩, rfl⟩, hM1, ⟨⟨hO.1, hO.2.1, hO.2.2.1, hO.2.2.2.1, (by have q9 := hO.2.2.2.2; first | exact q9 | omega | (show (ooSm O) ≤ 4300; omega))⟩, rfl⟩, (frM.rf.trans hf1)⟩
    · refine v_iconst (v := (-1)) hX d_M_line_17 (by decide) ?_
      exact v_iret hX hE d_M_line_18 (Nat.le_of_ble_eq_true rfl) (Nat.le_of_ble_eq_true rfl) ⟨rfl, rfl, rfl, rfl, C, (soTh O 0), ⟨⟨_, rfl⟩, rfl⟩, hM1, ⟨⟨hO.1, hO.2.1, hO.2.2.1, hO.2.2.2.1, (by have q9 := hO.2.2.2.2; first | exact q9 | omega | (show (ooSm O) ≤ 4300; omega))⟩, rfl⟩, (frM.rf.trans hf1)⟩
set_option maxHeartbeats 4000000 in
set_option maxRecDepth 100000 in
theorem c_M_find {l : Launch} {D : va_G} {A : Nat → Prop} {cI cB cZ cJ cN : ClassId} {ob : Nat → Nat} {C : CT} {T : TS} {O : OS} {dom : Nat → Prop} {loc : Nat → Nat} {val : Nat → va_E} (hM : ModI cI cB cZ ob C T O dom loc val) (hO : OI O) (k : Int32) : kM l y_M_find (Cond.code y_M_find b_M_find 2 (some FieldType.int) :: TT) (rmM 1) D CL (TY cI cB cZ cJ cN) A [.ref (ob 48), .int k] dom loc val (PMo cI cB cZ ob T O dom loc val (fun rv C2 O2 => (∃ v, rv = some (.int v)) ∧ C = C2)) := by
  refine kM_of (lv0 := [some (.ref (ob 48)), some (.int k)]) (own := "ProsePagesModel") (by decide) rfl (List.forall_mem_cons.mpr ⟨rfl, List.forall_mem_cons.mpr ⟨rfl, fun _ h => nomatch h⟩⟩) (Nat.le_of_ble_eq_true rfl) rfl (Nat.le_of_ble_eq_true rfl) (fun X hl hX hE hin0 => ?_)
  refine v_aload_n hX d_M_find_0 rfl rfl ?_
  refine v_iconst (v := 0) hX d_M_find_1 (by decide) ?_
  refine v_mput hX hM 0 C T (soTh O 0) (by decide) fl_M_97 rfl rfl rfl rfl pf_thrown pa_thrown d_M_find_2 (fun va1 hM1 hf1 => ?_)
  refine v_iload_n hX d_M_find_5 rfl rfl ?_
  refine v_if_lt hX d_M_find_6 (tgt := 26) (by decide) (fun c6 => ?_) (fun c6 => ?_)
  · refine v_iconst (v := (-1)) hX d_M_find_26 (by decide) ?_
    exact v_iret hX hE d_M_find_27 (Nat.le_of_ble_eq_true rfl) (Nat.le_of_ble_eq_true rfl) ⟨rfl, rfl, rfl, rfl, C, (soTh O 0), ⟨⟨_, rfl⟩, rfl⟩, hM1, ⟨⟨hO.1, hO.2.1, hO.2.2.1, hO.2.2.2.1, (by have q9 := hO.2.2.2.2; first | exact q9 | omega | (show (ooSm O) ≤ 4300; omega))⟩, rfl⟩, (frM.rf.trans hf1)⟩
  · refine v_iload_n hX d_M_find_9 rfl rfl ?_
    refine v_aload_n hX d_M_find_10 rfl rfl ?_
    refine v_mget hX hM1 22 (v := .int (nI (ooLa O))) (by decide) fl_M_122 rfl ((nf_thrown 22 (by decide)).trans gf_laid) d_M_find_11 ?_
    refine v_icmp_ge hX d_M_find_14 (tgt := 26) (by decide) (fun c14 => ?_) (fun c14 => ?_)
    · refine v_iconst (v := (-1)) hX d_M_find_26 (by decide) ?_
      exact v_iret hX hE d_M_find_27 (Nat.le_of_ble_eq_true rfl) (Nat.le_of_ble_eq_true rfl) ⟨rfl, rfl, rfl, rfl, C, (soTh O 0), ⟨⟨_, rfl⟩, rfl⟩, hM1, ⟨⟨hO.1, hO.2.1, hO.2.2.1, hO.2.2.2.1, (by have q9 := hO.2.2.2.2; first | exact q9 | omega | (show (ooSm O) ≤ 4300; omega))⟩, rfl⟩, (frM.rf.trans hf1)⟩
    · obtain ⟨kn, hkn, rfl⟩ := nI_of c6
      have hli0 := hO.2.2.2.1
      have hkk : kn < ooLa O := by have q : ¬ ooLa O ≤ kn := (fun z => c14 ((nI_leI (a := ooLa O) (b := kn) (by omega) (by omega)).mpr z)); omega
      refine v_aload_n hX d_M_find_17 rfl rfl ?_
      refine v_mget hX hM1 24 (v := .ref (ob 63)) (by decide) fl_M_55 rfl rfl d_M_find_18 ?_
      refine v_iload_n hX d_M_find_21 rfl rfl ?_
      refine v_mild hX hM1 14 (i := kn) (v := ((ooPo O) kn)) ((na_thrown 14).trans ga_pageOf) (by omega) (by decide) rfl d_M_find_22 ?_
      refine v_goto hX d_M_find_23 (tgt := 27) (by decide) ?_
      exact v_iret hX hE d_M_find_27 (Nat.le_of_ble_eq_true rfl) (Nat.le_of_ble_eq_true rfl) ⟨rfl, rfl, rfl, rfl, C, (soTh O 0), ⟨⟨_, rfl⟩, rfl⟩, hM1, ⟨⟨hO.1, hO.2.1, hO.2.2.1, hO.2.2.2.1, (by have q9 := hO.2.2.2.2; first | exact q9 | omega | (show (ooSm O) ≤ 4300; omega))⟩, rfl⟩, (frM.rf.trans hf1)⟩
