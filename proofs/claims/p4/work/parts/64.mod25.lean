set_option maxHeartbeats 4000000 in
set_option maxRecDepth 100000 in
theorem c_M_paginate {l : Launch} {D : va_G} {A : Nat → Prop} {cI cB cZ cJ cN : ClassId} {ob : Nat → Nat} {C : CT} {T : TS} {O : OS} {dom : Nat → Prop} {loc : Nat → Nat} {val : Nat → va_E} (hM : ModI cI cB cZ ob C T O dom loc val) (hO : OI O)  : kM l y_M_paginate (Cond.code y_M_paginate b_M_paginate 7 (some FieldType.int) :: TT) (rmM 1) D CL (TY cI cB cZ cJ cN) A [.ref (ob 48)] dom loc val (PMo cI cB cZ ob T O dom loc val (fun rv C2 O2 => (∃ v, rv = some (.int v)) ∧ C = C2)) := by
  refine kM_of (lv0 := [some (.ref (ob 48)), none, none, none, none, none, none]) (own := "ProsePagesModel") (by decide) rfl (List.forall_mem_cons.mpr ⟨rfl, fun _ h => nomatch h⟩) (Nat.le_of_ble_eq_true rfl) rfl (Nat.le_of_ble_eq_true rfl) (fun X hl hX hE hin0 => ?_)
  have hli0 := hO.2.2.1
  refine v_iconst (v := 0) hX d_M_paginate_0 (by decide) ?_
  refine v_istore_n (lv' := [some (.ref (ob 48)), some (.int 0), none, none, none, none, none]) hX d_M_paginate_1 rfl (Nat.le_of_ble_eq_true rfl) rfl ?_
  refine v_iconst (v := 0) hX d_M_paginate_2 (by decide) ?_
  refine v_istore_n (lv' := [some (.ref (ob 48)), some (.int 0), some (.int 0), none, none, none, none]) hX d_M_paginate_3 rfl (Nat.le_of_ble_eq_true rfl) rfl ?_
  refine v_iconst (v := 0) hX d_M_paginate_4 (by decide) ?_
  refine v_istore_n (lv' := [some (.ref (ob 48)), some (.int 0), some (.int 0), some (.int 0), none, none, none]) hX d_M_paginate_5 rfl (Nat.le_of_ble_eq_true rfl) rfl ?_
  refine v_iconst (v := 0) hX d_M_paginate_6 (by decide) ?_
  refine v_istore (lv' := [some (.ref (ob 48)), some (.int 0), some (.int 0), some (.int 0), some (.int 0), none, none]) hX d_M_paginate_7 (Nat.le_of_ble_eq_true rfl) rfl ?_
  have loop9 : ∀ (m9 : Nat) (p r s : Int32) (i : Nat) (o5 o6 : Option Value) (CL9 : CT) (oL9 : OS) (vaL9 : Nat → va_E), ooLi O - i < m9 → ModI cI cB cZ ob CL9 T oL9 dom loc vaL9 → (OI oL9 ∧ ooCt oL9 = ooCt O) → frM val vaL9 → (C = CL9) → (ooLi oL9 = ooLi O) → (i ≤ ooLi O) → V X D CL A dom loc vaL9 0 0 9 [some (.ref (ob 48)), some (.int p), some (.int r), some (.int s), some (.int (nI i)), o5, o6] [] := by
    intro m9
    induction m9 with
    | zero => intro p r s i o5 o6 CL9 oL9 vaL9 hk9 hML9 hOL9 hfL9 hC9 hl9 hi9; exact absurd hk9 (Nat.not_lt_zero _)
    | succ m9 ih9 =>
      intro p r s i o5 o6 CL9 oL9 vaL9 hk9 hML9 hOL9 hfL9 hC9 hl9 hi9
      subst hC9
      have hli := hOL9.1.2.2.1
      have hhd := hOL9.1.2.1
      refine v_iload hX d_M_paginate_9 rfl ?_
      refine v_aload_n hX d_M_paginate_11 rfl rfl ?_
      refine v_mget hX hML9 18 (v := .int (nI (ooLi oL9))) (by decide) fl_M_113 rfl gf_lines d_M_paginate_12 ?_
      refine v_icmp_ge hX d_M_paginate_15 (tgt := 189) (by decide) (fun c15 => ?_) (fun c15 => ?_)
      · have f15 : (ooLi oL9) ≤ i := (nI_leI (a := (ooLi oL9)) (b := i) (by omega) (by omega)).mp c15
        refine v_iload_n hX d_M_paginate_189 rfl rfl ?_
        refine v_if_eq hX d_M_paginate_190 (tgt := 207) (by decide) (fun c190 => ?_) (fun c190 => ?_)
        · refine v_iconst (v := 1) hX d_M_paginate_207 (by decide) ?_
          exact v_iret hX hE d_M_paginate_208 (Nat.le_of_ble_eq_true rfl) (Nat.le_of_ble_eq_true rfl) ⟨rfl, rfl, rfl, rfl, C, oL9, ⟨⟨_, rfl⟩, rfl⟩, hML9, ⟨hOL9.1, hOL9.2⟩, hfL9⟩
        · refine v_iload_n hX d_M_paginate_193 rfl rfl ?_
          refine v_iload_n hX d_M_paginate_194 rfl rfl ?_
          refine v_if_le hX d_M_paginate_195 (tgt := 202) (by decide) (fun c195 => ?_) (fun c195 => ?_)
          · refine v_iconst (v := 0) hX d_M_paginate_202 (by decide) ?_
            refine v_iadd hX d_M_paginate_203 ?_
            refine v_goto hX d_M_paginate_204 (tgt := 208) (by decide) ?_
            exact v_iret hX hE d_M_paginate_208 (Nat.le_of_ble_eq_true rfl) (Nat.le_of_ble_eq_true rfl) ⟨rfl, rfl, rfl, rfl, C, oL9, ⟨⟨_, rfl⟩, rfl⟩, hML9, ⟨hOL9.1, hOL9.2⟩, hfL9⟩
          · refine v_iconst (v := 1) hX d_M_paginate_198 (by decide) ?_
            refine v_goto hX d_M_paginate_199 (tgt := 203) (by decide) ?_
            refine v_iadd hX d_M_paginate_203 ?_
            refine v_goto hX d_M_paginate_204 (tgt := 208) (by decide) ?_
            exact v_iret hX hE d_M_paginate_208 (Nat.le_of_ble_eq_true rfl) (Nat.le_of_ble_eq_true rfl) ⟨rfl, rfl, rfl, rfl, C, oL9, ⟨⟨_, rfl⟩, rfl⟩, hML9, ⟨hOL9.1, hOL9.2⟩, hfL9⟩
      · have f15 : ¬ (ooLi oL9) ≤ i := fun z => c15 ((nI_leI (a := (ooLi oL9)) (b := i) (by omega) (by omega)).mpr z)
        refine v_aload_n hX d_M_paginate_18 rfl rfl ?_
        refine v_mget hX hML9 14 (v := .ref (ob 59)) (by decide) fl_M_41 rfl rfl d_M_paginate_19 ?_
        refine v_iload hX d_M_paginate_22 rfl ?_
        refine v_iconst (v := (-1)) hX d_M_paginate_24 (by decide) ?_
        refine v_mist hX hML9 10 C T (soPa oL9 (upd (ooPa oL9) i (-1))) (i := i) (by decide) ga_page (by omega) (by decide) qf_page qa_page d_M_paginate_25 (fun va1 hM1 hf1 => ?_)
        refine v_aload_n hX d_M_paginate_26 rfl rfl ?_
        refine v_mget hX hM1 15 (v := .ref (ob 60)) (by decide) fl_M_44 rfl rfl d_M_paginate_27 ?_
        refine v_iload hX d_M_paginate_30 rfl ?_
        refine v_iconst (v := (-1)) hX d_M_paginate_32 (by decide) ?_
        refine v_mist hX hM1 11 C T (soRw (soPa oL9 (upd (ooPa oL9) i (-1))) (upd (ooRw oL9) i (-1))) (i := i) (by decide) ((na_page 11 (by decide)).trans ga_row) (by omega) (by decide) qf_row qa_row d_M_paginate_33 (fun va2 hM2 hf2 => ?_)
        refine v_iload_n hX d_M_paginate_34 rfl rfl ?_
        refine v_aload_n hX d_M_paginate_35 rfl rfl ?_
        refine v_mget hX hM2 20 (v := .int (ooRo oL9)) (by decide) fl_M_116 rfl ((nf_row 20).trans ((nf_page 20).trans gf_rows)) d_M_paginate_36 ?_
        refine v_icmp_ne hX d_M_paginate_39 (tgt := 47) (by decide) (fun c39 => ?_) (fun c39 => ?_)
        · refine v_iload_n hX d_M_paginate_47 rfl rfl ?_
          refine v_if_ne hX d_M_paginate_48 (tgt := 64) (by decide) (fun c48 => ?_) (fun c48 => ?_)
          · refine v_aload_n hX d_M_paginate_64 rfl rfl ?_
            refine v_mget hX hM2 13 (v := .ref (ob 58)) (by decide) fl_M_38 rfl rfl d_M_paginate_65 ?_
            refine v_iload hX d_M_paginate_68 rfl ?_
            refine v_mild hX hM2 9 (i := i) (v := ((ooHe oL9) i)) ((na_row 9 (by decide)).trans ((na_page 9 (by decide)).trans ga_head)) (by omega) (by decide) rfl d_M_paginate_70 ?_
            refine v_if_le hX d_M_paginate_71 (tgt := 162) (by decide) (fun c71 => ?_) (fun c71 => ?_)
            · refine v_aload_n hX d_M_paginate_162 rfl rfl ?_
              refine v_mget hX hM2 14 (v := .ref (ob 59)) (by decide) fl_M_41 rfl rfl d_M_paginate_163 ?_
              refine v_iload hX d_M_paginate_166 rfl ?_
              refine v_iload_n hX d_M_paginate_168 rfl rfl ?_
              refine v_mist hX hM2 10 C T (soPa (soRw (soPa oL9 (upd (ooPa oL9) i (-1))) (upd (ooRw oL9) i (-1))) (upd (upd (ooPa oL9) i (-1)) i p)) (i := i) (by decide) ((na_row 10 (by decide)).trans ha_page) (by omega) (by decide) qf_page qa_page d_M_paginate_169 (fun va3 hM3 hf3 => ?_)
              refine v_aload_n hX d_M_paginate_170 rfl rfl ?_
              refine v_mget hX hM3 15 (v := .ref (ob 60)) (by decide) fl_M_44 rfl rfl d_M_paginate_171 ?_
              refine v_iload hX d_M_paginate_174 rfl ?_
              refine v_iload_n hX d_M_paginate_176 rfl rfl ?_
              refine v_mist hX hM3 11 C T (soRw (soPa (soRw (soPa oL9 (upd (ooPa oL9) i (-1))) (upd (ooRw oL9) i (-1))) (upd (upd (ooPa oL9) i (-1)) i p)) (upd (upd (ooRw oL9) i (-1)) i r)) (i := i) (by decide) ((na_page 11 (by decide)).trans ha_row) (by omega) (by decide) qf_row qa_row d_M_paginate_177 (fun va4 hM4 hf4 => ?_)
              refine v_iinc (y := (r + 1)) (lv' := [some (.ref (ob 48)), some (.int p), some (.int (r + 1)), some (.int s), some (.int (nI i)), o5, o6]) hX d_M_paginate_178 rfl (by rfl) rfl ?_
              refine v_iconst (v := 1) hX d_M_paginate_181 (by decide) ?_
              refine v_istore_n (lv' := [some (.ref (ob 48)), some (.int p), some (.int (r + 1)), some (.int 1), some (.int (nI i)), o5, o6]) hX d_M_paginate_182 rfl (Nat.le_of_ble_eq_true rfl) rfl ?_
              refine v_iinc (y := (nI (i + 1))) (lv' := [some (.ref (ob 48)), some (.int p), some (.int (r + 1)), some (.int 1), some (.int (nI (i + 1))), o5, o6]) hX d_M_paginate_183 rfl (nI_1 i) rfl ?_
              refine v_goto hX d_M_paginate_186 (tgt := 9) (by decide) ?_
              exact ih9 p (r + 1) 1 (i + 1) o5 o6 C (soRw (soPa (soRw (soPa oL9 (upd (ooPa oL9) i (-1))) (upd (ooRw oL9) i (-1))) (upd (upd (ooPa oL9) i (-1)) i p)) (upd (upd (ooRw oL9) i (-1)) i r)) va4 (by omega) hM4 ⟨⟨hOL9.1.1, hOL9.1.2.1, hOL9.1.2.2.1, hOL9.1.2.2.2.1, (by have q9 := hOL9.1.2.2.2.2; first | exact q9 | omega | (show (ooSm oL9) ≤ 4300; omega))⟩, hOL9.2⟩ ((((hfL9.trans hf1).trans hf2).trans hf3).trans hf4) rfl (by show ooLi oL9 = _; omega) (by omega)
            · refine v_iload_n hX d_M_paginate_74 rfl rfl ?_
              refine v_if_le hX d_M_paginate_75 (tgt := 162) (by decide) (fun c75 => ?_) (fun c75 => ?_)
              · refine v_aload_n hX d_M_paginate_162 rfl rfl ?_
                refine v_mget hX hM2 14 (v := .ref (ob 59)) (by decide) fl_M_41 rfl rfl d_M_paginate_163 ?_
                refine v_iload hX d_M_paginate_166 rfl ?_
                refine v_iload_n hX d_M_paginate_168 rfl rfl ?_
                refine v_mist hX hM2 10 C T (soPa (soRw (soPa oL9 (upd (ooPa oL9) i (-1))) (upd (ooRw oL9) i (-1))) (upd (upd (ooPa oL9) i (-1)) i p)) (i := i) (by decide) ((na_row 10 (by decide)).trans ha_page) (by omega) (by decide) qf_page qa_page d_M_paginate_169 (fun va5 hM5 hf5 => ?_)
                refine v_aload_n hX d_M_paginate_170 rfl rfl ?_
                refine v_mget hX hM5 15 (v := .ref (ob 60)) (by decide) fl_M_44 rfl rfl d_M_paginate_171 ?_
                refine v_iload hX d_M_paginate_174 rfl ?_
                refine v_iload_n hX d_M_paginate_176 rfl rfl ?_
                refine v_mist hX hM5 11 C T (soRw (soPa (soRw (soPa oL9 (upd (ooPa oL9) i (-1))) (upd (ooRw oL9) i (-1))) (upd (upd (ooPa oL9) i (-1)) i p)) (upd (upd (ooRw oL9) i (-1)) i r)) (i := i) (by decide) ((na_page 11 (by decide)).trans ha_row) (by omega) (by decide) qf_row qa_row d_M_paginate_177 (fun va6 hM6 hf6 => ?_)
                refine v_iinc (y := (r + 1)) (lv' := [some (.ref (ob 48)), some (.int p), some (.int (r + 1)), some (.int s), some (.int (nI i)), o5, o6]) hX d_M_paginate_178 rfl (by rfl) rfl ?_
                refine v_iconst (v := 1) hX d_M_paginate_181 (by decide) ?_
                refine v_istore_n (lv' := [some (.ref (ob 48)), some (.int p), some (.int (r + 1)), some (.int 1), some (.int (nI i)), o5, o6]) hX d_M_paginate_182 rfl (Nat.le_of_ble_eq_true rfl) rfl ?_
                refine v_iinc (y := (nI (i + 1))) (lv' := [some (.ref (ob 48)), some (.int p), some (.int (r + 1)), some (.int 1), some (.int (nI (i + 1))), o5, o6]) hX d_M_paginate_183 rfl (nI_1 i) rfl ?_
                refine v_goto hX d_M_paginate_186 (tgt := 9) (by decide) ?_
                exact ih9 p (r + 1) 1 (i + 1) o5 o6 C (soRw (soPa (soRw (soPa oL9 (upd (ooPa oL9) i (-1))) (upd (ooRw oL9) i (-1))) (upd (upd (ooPa oL9) i (-1)) i p)) (upd (upd (ooRw oL9) i (-1)) i r)) va6 (by omega) hM6 ⟨⟨hOL9.1.1, hOL9.1.2.1, hOL9.1.2.2.1, hOL9.1.2.2.2.1, (by have q9 := hOL9.1.2.2.2.2; first | exact q9 | omega | (show (ooSm oL9) ≤ 4300; omega))⟩, hOL9.2⟩ ((((hfL9.trans hf1).trans hf2).trans hf5).trans hf6) rfl (by show ooLi oL9 = _; omega) (by omega)
              · obtain ⟨hn, hhn, hhe⟩ := he_nat c71 (hhd i)
                refine v_iload hX d_M_paginate_78 rfl ?_
                refine v_aload_n hX d_M_paginate_80 rfl rfl ?_
                refine v_mget hX hM2 13 (v := .ref (ob 58)) (by decide) fl_M_38 rfl rfl d_M_paginate_81 ?_
                refine v_iload hX d_M_paginate_84 rfl ?_
                refine v_mild hX hM2 9 (i := i) (v := (nI hn)) ((na_row 9 (by decide)).trans ((na_page 9 (by decide)).trans ga_head)) (by omega) (by decide) hhe d_M_paginate_86 ?_
                refine v_iaddE (v := nI (i + hn)) hX d_M_paginate_87 (nI_add i hn) ?_
                refine v_istore (lv' := [some (.ref (ob 48)), some (.int p), some (.int r), some (.int s), some (.int (nI i)), some (.int (nI (i + hn))), o6]) hX d_M_paginate_88 (Nat.le_of_ble_eq_true rfl) rfl ?_
                have loop90 : ∀ (m9 : Nat) (j : Nat) (CL90 : CT) (oL90 : OS) (vaL90 : Nat → va_E), ooLi O - j < m9 → ModI cI cB cZ ob CL90 T oL90 dom loc vaL90 → (OI oL90 ∧ ooCt oL90 = ooCt O) → frM val vaL90 → (C = CL90) → (ooLi oL90 = ooLi O) → (j ≤ 4500) → V X D CL A dom loc vaL90 0 0 90 [some (.ref (ob 48)), some (.int p), some (.int r), some (.int s), some (.int (nI i)), some (.int (nI j)), o6] [] := by
                  intro m9
                  induction m9 with
                  | zero => intro j CL90 oL90 vaL90 hk90 hML90 hOL90 hfL90 hC90 hl90 hj90; exact absurd hk90 (Nat.not_lt_zero _)
                  | succ m9 ih90 =>
                    intro j CL90 oL90 vaL90 hk90 hML90 hOL90 hfL90 hC90 hl90 hj90
                    subst hC90
                    have hli2 := hOL90.1.2.2.1
                    refine v_iload hX d_M_paginate_90 rfl ?_
                    refine v_aload_n hX d_M_paginate_92 rfl rfl ?_
                    refine v_mget hX hML90 18 (v := .int (nI (ooLi oL90))) (by decide) fl_M_113 rfl gf_lines d_M_paginate_93 ?_
                    refine v_icmp_ge hX d_M_paginate_96 (tgt := 115) (by decide) (fun c96 => ?_) (fun c96 => ?_)
                    · have f96 : (ooLi oL90) ≤ j := (nI_leI (a := (ooLi oL90)) (b := j) (by omega) (by omega)).mp c96
                      refine v_iload hX d_M_paginate_115 rfl ?_
                      refine v_iload hX d_M_paginate_117 rfl ?_
                      refine v_isub hX d_M_paginate_119 ?_
                      refine v_iload hX d_M_paginate_120 rfl ?_
                      refine v_aload_n hX d_M_paginate_122 rfl rfl ?_
                      refine v_mget hX hML90 18 (v := .int (nI (ooLi oL90))) (by decide) fl_M_113 rfl gf_lines d_M_paginate_123 ?_
                      refine v_icmp_ge hX d_M_paginate_126 (tgt := 133) (by decide) (fun c126 => ?_) (fun c126 => ?_)
                      · have f126 : (ooLi oL90) ≤ j := (nI_leI (a := (ooLi oL90)) (b := j) (by omega) (by omega)).mp c126
                        refine v_iconst (v := 0) hX d_M_paginate_133 (by decide) ?_
                        refine v_iadd hX d_M_paginate_134 ?_
                        refine v_istore (lv' := [some (.ref (ob 48)), some (.int p), some (.int r), some (.int s), some (.int (nI i)), some (.int (nI j)), some (.int (((nI j) - (nI i)) + 0))]) hX d_M_paginate_135 (Nat.le_of_ble_eq_true rfl) rfl ?_
                        refine v_iload hX d_M_paginate_137 rfl ?_
                        refine v_aload_n hX d_M_paginate_139 rfl rfl ?_
                        refine v_mget hX hML90 20 (v := .int (ooRo oL90)) (by decide) fl_M_116 rfl gf_rows d_M_paginate_140 ?_
                        refine v_icmp_gt hX d_M_paginate_143 (tgt := 162) (by decide) (fun c143 => ?_) (fun c143 => ?_)
                        · refine v_aload_n hX d_M_paginate_162 rfl rfl ?_
                          refine v_mget hX hML90 14 (v := .ref (ob 59)) (by decide) fl_M_41 rfl rfl d_M_paginate_163 ?_
                          refine v_iload hX d_M_paginate_166 rfl ?_
                          refine v_iload_n hX d_M_paginate_168 rfl rfl ?_
                          refine v_mist hX hML90 10 C T (soPa oL90 (upd (ooPa oL90) i p)) (i := i) (by decide) ga_page (by omega) (by decide) qf_page qa_page d_M_paginate_169 (fun va7 hM7 hf7 => ?_)
                          refine v_aload_n hX d_M_paginate_170 rfl rfl ?_
                          refine v_mget hX hM7 15 (v := .ref (ob 60)) (by decide) fl_M_44 rfl rfl d_M_paginate_171 ?_
                          refine v_iload hX d_M_paginate_174 rfl ?_
                          refine v_iload_n hX d_M_paginate_176 rfl rfl ?_
                          refine v_mist hX hM7 11 C T (soRw (soPa oL90 (upd (ooPa oL90) i p)) (upd (ooRw oL90) i r)) (i := i) (by decide) ((na_page 11 (by decide)).trans ga_row) (by omega) (by decide) qf_row qa_row d_M_paginate_177 (fun va8 hM8 hf8 => ?_)
                          refine v_iinc (y := (r + 1)) (lv' := [some (.ref (ob 48)), some (.int p), some (.int (r + 1)), some (.int s), some (.int (nI i)), some (.int (nI j)), some (.int (((nI j) - (nI i)) + 0))]) hX d_M_paginate_178 rfl (by rfl) rfl ?_
                          refine v_iconst (v := 1) hX d_M_paginate_181 (by decide) ?_
                          refine v_istore_n (lv' := [some (.ref (ob 48)), some (.int p), some (.int (r + 1)), some (.int 1), some (.int (nI i)), some (.int (nI j)), some (.int (((nI j) - (nI i)) + 0))]) hX d_M_paginate_182 rfl (Nat.le_of_ble_eq_true rfl) rfl ?_
                          refine v_iinc (y := (nI (i + 1))) (lv' := [some (.ref (ob 48)), some (.int p), some (.int (r + 1)), some (.int 1), some (.int (nI (i + 1))), some (.int (nI j)), some (.int (((nI j) - (nI i)) + 0))]) hX d_M_paginate_183 rfl (nI_1 i) rfl ?_
                          refine v_goto hX d_M_paginate_186 (tgt := 9) (by decide) ?_
                          exact ih9 p (r + 1) 1 (i + 1) (some (.int (nI j))) (some (.int (((nI j) - (nI i)) + 0))) C (soRw (soPa oL90 (upd (ooPa oL90) i p)) (upd (ooRw oL90) i r)) va8 (by omega) hM8 ⟨⟨hOL90.1.1, hOL90.1.2.1, hOL90.1.2.2.1, hOL90.1.2.2.2.1, (by have q9 := hOL90.1.2.2.2.2; first | exact q9 | omega | (show (ooSm oL90) ≤ 4300; omega))⟩, hOL90.2⟩ ((hfL90.trans hf7).trans hf8) rfl (by show ooLi oL90 = _; omega) (by omega)
                        · refine v_iload hX d_M_paginate_146 rfl ?_
                          refine v_aload_n hX d_M_paginate_148 rfl rfl ?_
                          refine v_mget hX hML90 20 (v := .int (ooRo oL90)) (by decide) fl_M_116 rfl gf_rows d_M_paginate_149 ?_
                          refine v_iload_n hX d_M_paginate_152 rfl rfl ?_
                          refine v_isub hX d_M_paginate_153 ?_
                          refine v_icmp_le hX d_M_paginate_154 (tgt := 162) (by decide) (fun c154 => ?_) (fun c154 => ?_)
                          · refine v_aload_n hX d_M_paginate_162 rfl rfl ?_
                            refine v_mget hX hML90 14 (v := .ref (ob 59)) (by decide) fl_M_41 rfl rfl d_M_paginate_163 ?_
                            refine v_iload hX d_M_paginate_166 rfl ?_
                            refine v_iload_n hX d_M_paginate_168 rfl rfl ?_
                            refine v_mist hX hML90 10 C T (soPa oL90 (upd (ooPa oL90) i p)) (i := i) (by decide) ga_page (by omega) (by decide) qf_page qa_page d_M_paginate_169 (fun va9 hM9 hf9 => ?_)
                            refine v_aload_n hX d_M_paginate_170 rfl rfl ?_
                            refine v_mget hX hM9 15 (v := .ref (ob 60)) (by decide) fl_M_44 rfl rfl d_M_paginate_171 ?_
                            refine v_iload hX d_M_paginate_174 rfl ?_
                            refine v_iload_n hX d_M_paginate_176 rfl rfl ?_
                            refine v_mist hX hM9 11 C T (soRw (soPa oL90 (upd (ooPa oL90) i p)) (upd (ooRw oL90) i r)) (i := i) (by decide) ((na_page 11 (by decide)).trans ga_row) (by omega) (by decide) qf_row qa_row d_M_paginate_177 (fun va10 hM10 hf10 => ?_)
                            refine v_iinc (y := (r + 1)) (lv' := [some (.ref (ob 48)), some (.int p), some (.int (r + 1)), some (.int s), some (.int (nI i)), some (.int (nI j)), some (.int (((nI j) - (nI i)) + 0))]) hX d_M_paginate_178 rfl (by rfl) rfl ?_
                            refine v_iconst (v := 1) hX d_M_paginate_181 (by decide) ?_
                            refine v_istore_n (lv' := [some (.ref (ob 48)), some (.int p), some (.int (r + 1)), some (.int 1), some (.int (nI i)), some (.int (nI j)), some (.int (((nI j) - (nI i)) + 0))]) hX d_M_paginate_182 rfl (Nat.le_of_ble_eq_true rfl) rfl ?_
                            refine v_iinc (y := (nI (i + 1))) (lv' := [some (.ref (ob 48)), some (.int p), some (.int (r + 1)), some (.int 1), some (.int (nI (i + 1))), some (.int (nI j)), some (.int (((nI j) - (nI i)) + 0))]) hX d_M_paginate_183 rfl (nI_1 i) rfl ?_
                            refine v_goto hX d_M_paginate_186 (tgt := 9) (by decide) ?_
                            exact ih9 p (r + 1) 1 (i + 1) (some (.int (nI j))) (some (.int (((nI j) - (nI i)) + 0))) C (soRw (soPa oL90 (upd (ooPa oL90) i p)) (upd (ooRw oL90) i r)) va10 (by omega) hM10 ⟨⟨hOL90.1.1, hOL90.1.2.1, hOL90.1.2.2.1, hOL90.1.2.2.2.1, (by have q9 := hOL90.1.2.2.2.2; first | exact q9 | omega | (show (ooSm oL90) ≤ 4300; omega))⟩, hOL90.2⟩ ((hfL90.trans hf9).trans hf10) rfl (by show ooLi oL90 = _; omega) (by omega)
                          · refine v_iinc (y := (p + 1)) (lv' := [some (.ref (ob 48)), some (.int (p + 1)), some (.int r), some (.int s), some (.int (nI i)), some (.int (nI j)), some (.int (((nI j) - (nI i)) + 0))]) hX d_M_paginate_157 rfl (by rfl) rfl ?_
                            refine v_iconst (v := 0) hX d_M_paginate_160 (by decide) ?_
                            refine v_istore_n (lv' := [some (.ref (ob 48)), some (.int (p + 1)), some (.int 0), some (.int s), some (.int (nI i)), some (.int (nI j)), some (.int (((nI j) - (nI i)) + 0))]) hX d_M_paginate_161 rfl (Nat.le_of_ble_eq_true rfl) rfl ?_
                            refine v_aload_n hX d_M_paginate_162 rfl rfl ?_
                            refine v_mget hX hML90 14 (v := .ref (ob 59)) (by decide) fl_M_41 rfl rfl d_M_paginate_163 ?_
                            refine v_iload hX d_M_paginate_166 rfl ?_
                            refine v_iload_n hX d_M_paginate_168 rfl rfl ?_
                            refine v_mist hX hML90 10 C T (soPa oL90 (upd (ooPa oL90) i (p + 1))) (i := i) (by decide) ga_page (by omega) (by decide) qf_page qa_page d_M_paginate_169 (fun va11 hM11 hf11 => ?_)
                            refine v_aload_n hX d_M_paginate_170 rfl rfl ?_
                            refine v_mget hX hM11 15 (v := .ref (ob 60)) (by decide) fl_M_44 rfl rfl d_M_paginate_171 ?_
                            refine v_iload hX d_M_paginate_174 rfl ?_
                            refine v_iload_n hX d_M_paginate_176 rfl rfl ?_
                            refine v_mist hX hM11 11 C T (soRw (soPa oL90 (upd (ooPa oL90) i (p + 1))) (upd (ooRw oL90) i 0)) (i := i) (by decide) ((na_page 11 (by decide)).trans ga_row) (by omega) (by decide) qf_row qa_row d_M_paginate_177 (fun va12 hM12 hf12 => ?_)
                            refine v_iinc (y := 1) (lv' := [some (.ref (ob 48)), some (.int (p + 1)), some (.int 1), some (.int s), some (.int (nI i)), some (.int (nI j)), some (.int (((nI j) - (nI i)) + 0))]) hX d_M_paginate_178 rfl (by decide) rfl ?_
                            refine v_iconst (v := 1) hX d_M_paginate_181 (by decide) ?_
                            refine v_istore_n (lv' := [some (.ref (ob 48)), some (.int (p + 1)), some (.int 1), some (.int 1), some (.int (nI i)), some (.int (nI j)), some (.int (((nI j) - (nI i)) + 0))]) hX d_M_paginate_182 rfl (Nat.le_of_ble_eq_true rfl) rfl ?_
                            refine v_iinc (y := (nI (i + 1))) (lv' := [some (.ref (ob 48)), some (.int (p + 1)), some (.int 1), some (.int 1), some (.int (nI (i + 1))), some (.int (nI j)), some (.int (((nI j) - (nI i)) + 0))]) hX d_M_paginate_183 rfl (nI_1 i) rfl ?_
                            refine v_goto hX d_M_paginate_186 (tgt := 9) (by decide) ?_
                            exact ih9 (p + 1) 1 1 (i + 1) (some (.int (nI j))) (some (.int (((nI j) - (nI i)) + 0))) C (soRw (soPa oL90 (upd (ooPa oL90) i (p + 1))) (upd (ooRw oL90) i 0)) va12 (by omega) hM12 ⟨⟨hOL90.1.1, hOL90.1.2.1, hOL90.1.2.2.1, hOL90.1.2.2.2.1, (by have q9 := hOL90.1.2.2.2.2; first | exact q9 | omega | (show (ooSm oL90) ≤ 4300; omega))⟩, hOL90.2⟩ ((hfL90.trans hf11).trans hf12) rfl (by show ooLi oL90 = _; omega) (by omega)
                      · have f126 : ¬ (ooLi oL90) ≤ j := fun z => c126 ((nI_leI (a := (ooLi oL90)) (b := j) (by omega) (by omega)).mpr z)
                        refine v_iconst (v := 1) hX d_M_paginate_129 (by decide) ?_
                        refine v_goto hX d_M_paginate_130 (tgt := 134) (by decide) ?_
                        refine v_iadd hX d_M_paginate_134 ?_
                        refine v_istore (lv' := [some (.ref (ob 48)), some (.int p), some (.int r), some (.int s), some (.int (nI i)), some (.int (nI j)), some (.int (((nI j) - (nI i)) + 1))]) hX d_M_paginate_135 (Nat.le_of_ble_eq_true rfl) rfl ?_
                        refine v_iload hX d_M_paginate_137 rfl ?_
                        refine v_aload_n hX d_M_paginate_139 rfl rfl ?_
                        refine v_mget hX hML90 20 (v := .int (ooRo oL90)) (by decide) fl_M_116 rfl gf_rows d_M_paginate_140 ?_
                        refine v_icmp_gt hX d_M_paginate_143 (tgt := 162) (by decide) (fun c143 => ?_) (fun c143 => ?_)
                        · refine v_aload_n hX d_M_paginate_162 rfl rfl ?_
                          refine v_mget hX hML90 14 (v := .ref (ob 59)) (by decide) fl_M_41 rfl rfl d_M_paginate_163 ?_
                          refine v_iload hX d_M_paginate_166 rfl ?_
                          refine v_iload_n hX d_M_paginate_168 rfl rfl ?_
                          refine v_mist hX hML90 10 C T (soPa oL90 (upd (ooPa oL90) i p)) (i := i) (by decide) ga_page (by omega) (by decide) qf_page qa_page d_M_paginate_169 (fun va13 hM13 hf13 => ?_)
                          refine v_aload_n hX d_M_paginate_170 rfl rfl ?_
                          refine v_mget hX hM13 15 (v := .ref (ob 60)) (by decide) fl_M_44 rfl rfl d_M_paginate_171 ?_
                          refine v_iload hX d_M_paginate_174 rfl ?_
                          refine v_iload_n hX d_M_paginate_176 rfl rfl ?_
                          refine v_mist hX hM13 11 C T (soRw (soPa oL90 (upd (ooPa oL90) i p)) (upd (ooRw oL90) i r)) (i := i) (by decide) ((na_page 11 (by decide)).trans ga_row) (by omega) (by decide) qf_row qa_row d_M_paginate_177 (fun va14 hM14 hf14 => ?_)
                          refine v_iinc (y := (r + 1)) (lv' := [some (.ref (ob 48)), some (.int p), some (.int (r + 1)), some (.int s), some (.int (nI i)), some (.int (nI j)), some (.int (((nI j) - (nI i)) + 1))]) hX d_M_paginate_178 rfl (by rfl) rfl ?_
                          refine v_iconst (v := 1) hX d_M_paginate_181 (by decide) ?_
                          refine v_istore_n (lv' := [some (.ref (ob 48)), some (.int p), some (.int (r + 1)), some (.int 1), some (.int (nI i)), some (.int (nI j)), some (.int (((nI j) - (nI i)) + 1))]) hX d_M_paginate_182 rfl (Nat.le_of_ble_eq_true rfl) rfl ?_
                          refine v_iinc (y := (nI (i + 1))) (lv' := [some (.ref (ob 48)), some (.int p), some (.int (r + 1)), some (.int 1), some (.int (nI (i + 1))), some (.int (nI j)), some (.int (((nI j) - (nI i)) + 1))]) hX d_M_paginate_183 rfl (nI_1 i) rfl ?_
                          refine v_goto hX d_M_paginate_186 (tgt := 9) (by decide) ?_
                          exact ih9 p (r + 1) 1 (i + 1) (some (.int (nI j))) (some (.int (((nI j) - (nI i)) + 1))) C (soRw (soPa oL90 (upd (ooPa oL90) i p)) (upd (ooRw oL90) i r)) va14 (by omega) hM14 ⟨⟨hOL90.1.1, hOL90.1.2.1, hOL90.1.2.2.1, hOL90.1.2.2.2.1, (by have q9 := hOL90.1.2.2.2.2; first | exact q9 | omega | (show (ooSm oL90) ≤ 4300; omega))⟩, hOL90.2⟩ ((hfL90.trans hf13).trans hf14) rfl (by show ooLi oL90 = _; omega) (by omega)
                        · refine v_iload hX d_M_paginate_146 rfl ?_
                          refine v_aload_n hX d_M_paginate_148 rfl rfl ?_
                          refine v_mget hX hML90 20 (v := .int (ooRo oL90)) (by decide) fl_M_116 rfl gf_rows d_M_paginate_149 ?_
                          refine v_iload_n hX d_M_paginate_152 rfl rfl ?_
                          refine v_isub hX d_M_paginate_153 ?_
                          refine v_icmp_le hX d_M_paginate_154 (tgt := 162) (by decide) (fun c154 => ?_) (fun c154 => ?_)
                          · refine v_aload_n hX d_M_paginate_162 rfl rfl ?_
                            refine v_mget hX hML90 14 (v := .ref (ob 59)) (by decide) fl_M_41 rfl rfl d_M_paginate_163 ?_
                            refine v_iload hX d_M_paginate_166 rfl ?_
                            refine v_iload_n hX d_M_paginate_168 rfl rfl ?_
                            refine v_mist hX hML90 10 C T (soPa oL90 (upd (ooPa oL90) i p)) (i := i) (by decide) ga_page (by omega) (by decide) qf_page qa_page d_M_paginate_169 (fun va15 hM15 hf15 => ?_)
                            refine v_aload_n hX d_M_paginate_170 rfl rfl ?_
                            refine v_mget hX hM15 15 (v := .ref (ob 60)) (by decide) fl_M_44 rfl rfl d_M_paginate_171 ?_
                            refine v_iload hX d_M_paginate_174 rfl ?_
                            refine v_iload_n hX d_M_paginate_176 rfl rfl ?_
                            refine v_mist hX hM15 11 C T (soRw (soPa oL90 (upd (ooPa oL90) i p)) (upd (ooRw oL90) i r)) (i := i) (by decide) ((na_page 11 (by decide)).trans ga_row) (by omega) (by decide) qf_row qa_row d_M_paginate_177 (fun va16 hM16 hf16 => ?_)
                            refine v_iinc (y := (r + 1)) (lv' := [some (.ref (ob 48)), some (.int p), some (.int (r + 1)), some (.int s), some (.int (nI i)), some (.int (nI j)), some (.int (((nI j) - (nI i)) + 1))]) hX d_M_paginate_178 rfl (by rfl) rfl ?_
                            refine v_iconst (v := 1) hX d_M_paginate_181 (by decide) ?_
                            refine v_istore_n (lv' := [some (.ref (ob 48)), some (.int p), some (.int (r + 1)), some (.int 1), some (.int (nI i)), some (.int (nI j)), some (.int (((nI j) - (nI i)) + 1))]) hX d_M_paginate_182 rfl (Nat.le_of_ble_eq_true rfl) rfl ?_
                            refine v_iinc (y := (nI (i + 1))) (lv' := [some (.ref (ob 48)), some (.int p), some (.int (r + 1)), some (.int 1), some (.int (nI (i + 1))), some (.int (nI j)), some (.int (((nI j) - (nI i)) + 1))]) hX d_M_paginate_183 rfl (nI_1 i) rfl ?_
                            refine v_goto hX d_M_paginate_186 (tgt := 9) (by decide) ?_
                            exact ih9 p (r + 1) 1 (i + 1) (some (.int (nI j))) (some (.int (((nI j) - (nI i)) + 1))) C (soRw (soPa oL90 (upd (ooPa oL90) i p)) (upd (ooRw oL90) i r)) va16 (by omega) hM16 ⟨⟨hOL90.1.1, hOL90.1.2.1, hOL90.1.2.2.1, hOL90.1.2.2.2.1, (by have q9 := hOL90.1.2.2.2.2; first | exact q9 | omega | (show (ooSm oL90) ≤ 4300; omega))⟩, hOL90.2⟩ ((hfL90.trans hf15).trans hf16) rfl (by show ooLi oL90 = _; omega) (by omega)
                          · refine v_iinc (y := (p + 1)) (lv' := [some (.ref (ob 48)), some (.int (p + 1)), some (.int r), some (.int s), some (.int (nI i)), some (.int (nI j)), some (.int (((nI j) - (nI i)) + 1))]) hX d_M_paginate_157 rfl (by rfl) rfl ?_
                            refine v_iconst (v := 0) hX d_M_paginate_160 (by decide) ?_
                            refine v_istore_n (lv' := [some (.ref (ob 48)), some (.int (p + 1)), some (.int 0), some (.int s), some (.int (nI i)), some (.int (nI j)), some (.int (((nI j) - (nI i)) + 1))]) hX d_M_paginate_161 rfl (Nat.le_of_ble_eq_true rfl) rfl ?_
                            refine v_aload_n hX d_M_paginate_162 rfl rfl ?_
                            refine v_mget hX hML90 14 (v := .ref (ob 59)) (by decide) fl_M_41 rfl rfl d_M_paginate_163 ?_
                            refine v_iload hX d_M_paginate_166 rfl ?_
                            refine v_iload_n hX d_M_paginate_168 rfl rfl ?_
                            refine v_mist hX hML90 10 C T (soPa oL90 (upd (ooPa oL90) i (p + 1))) (i := i) (by decide) ga_page (by omega) (by decide) qf_page qa_page d_M_paginate_169 (fun va17 hM17 hf17 => ?_)
                            refine v_aload_n hX d_M_paginate_170 rfl rfl ?_
                            refine v_mget hX hM17 15 (v := .ref (ob 60)) (by decide) fl_M_44 rfl rfl d_M_paginate_171 ?_
                            refine v_iload hX d_M_paginate_174 rfl ?_
                            refine v_iload_n hX d_M_paginate_176 rfl rfl ?_
                            refine v_mist hX hM17 11 C T (soRw (soPa oL90 (upd (ooPa oL90) i (p + 1))) (upd (ooRw oL90) i 0)) (i := i) (by decide) ((na_page 11 (by decide)).trans ga_row) (by omega) (by decide) qf_row qa_row d_M_paginate_177 (fun va18 hM18 hf18 => ?_)
                            refine v_iinc (y := 1) (lv' := [some (.ref (ob 48)), some (.int (p + 1)), some (.int 1), some (.int s), some (.int (nI i)), some (.int (nI j)), some (.int (((nI j) - (nI i)) + 1))]) hX d_M_paginate_178 rfl (by decide) rfl ?_
                            refine v_iconst (v := 1) hX d_M_paginate_181 (by decide) ?_
                            refine v_istore_n (lv' := [some (.ref (ob 48)), some (.int (p + 1)), some (.int 1), some (.int 1), some (.int (nI i)), some (.int (nI j)), some (.int (((nI j) - (nI i)) + 1))]) hX d_M_paginate_182 rfl (Nat.le_of_ble_eq_true rfl) rfl ?_
                            refine v_iinc (y := (nI (i + 1))) (lv' := [some (.ref (ob 48)), some (.int (p + 1)), some (.int 1), some (.int 1), some (.int (nI (i + 1))), some (.int (nI j)), some (.int (((nI j) - (nI i)) + 1))]) hX d_M_paginate_183 rfl (nI_1 i) rfl ?_
                            refine v_goto hX d_M_paginate_186 (tgt := 9) (by decide) ?_
                            exact ih9 (p + 1) 1 1 (i + 1) (some (.int (nI j))) (some (.int (((nI j) - (nI i)) + 1))) C (soRw (soPa oL90 (upd (ooPa oL90) i (p + 1))) (upd (ooRw oL90) i 0)) va18 (by omega) hM18 ⟨⟨hOL90.1.1, hOL90.1.2.1, hOL90.1.2.2.1, hOL90.1.2.2.2.1, (by have q9 := hOL90.1.2.2.2.2; first | exact q9 | omega | (show (ooSm oL90) ≤ 4300; omega))⟩, hOL90.2⟩ ((hfL90.trans hf17).trans hf18) rfl (by show ooLi oL90 = _; omega) (by omega)
                    · have f96 : ¬ (ooLi oL90) ≤ j := fun z => c96 ((nI_leI (a := (ooLi oL90)) (b := j) (by omega) (by omega)).mpr z)
                      refine v_aload_n hX d_M_paginate_99 rfl rfl ?_
                      refine v_mget hX hML90 12 (v := .ref (ob 57)) (by decide) fl_M_35 rfl rfl d_M_paginate_100 ?_
                      refine v_iload hX d_M_paginate_103 rfl ?_
                      refine v_mild hX hML90 8 (i := j) (v := ((ooLe oL90) j)) ga_length (by omega) (by decide) rfl d_M_paginate_105 ?_
                      refine v_if_ne hX d_M_paginate_106 (tgt := 115) (by decide) (fun c106 => ?_) (fun c106 => ?_)
                      · refine v_iload hX d_M_paginate_115 rfl ?_
                        refine v_iload hX d_M_paginate_117 rfl ?_
                        refine v_isub hX d_M_paginate_119 ?_
                        refine v_iload hX d_M_paginate_120 rfl ?_
                        refine v_aload_n hX d_M_paginate_122 rfl rfl ?_
                        refine v_mget hX hML90 18 (v := .int (nI (ooLi oL90))) (by decide) fl_M_113 rfl gf_lines d_M_paginate_123 ?_
                        refine v_icmp_ge hX d_M_paginate_126 (tgt := 133) (by decide) (fun c126 => ?_) (fun c126 => ?_)
                        · have f126 : (ooLi oL90) ≤ j := (nI_leI (a := (ooLi oL90)) (b := j) (by omega) (by omega)).mp c126
                          refine v_iconst (v := 0) hX d_M_paginate_133 (by decide) ?_
                          refine v_iadd hX d_M_paginate_134 ?_
                          refine v_istore (lv' := [some (.ref (ob 48)), some (.int p), some (.int r), some (.int s), some (.int (nI i)), some (.int (nI j)), some (.int (((nI j) - (nI i)) + 0))]) hX d_M_paginate_135 (Nat.le_of_ble_eq_true rfl) rfl ?_
                          refine v_iload hX d_M_paginate_137 rfl ?_
                          refine v_aload_n hX d_M_paginate_139 rfl rfl ?_
                          refine v_mget hX hML90 20 (v := .int (ooRo oL90)) (by decide) fl_M_116 rfl gf_rows d_M_paginate_140 ?_
                          refine v_icmp_gt hX d_M_paginate_143 (tgt := 162) (by decide) (fun c143 => ?_) (fun c143 => ?_)
                          · refine v_aload_n hX d_M_paginate_162 rfl rfl ?_
                            refine v_mget hX hML90 14 (v := .ref (ob 59)) (by decide) fl_M_41 rfl rfl d_M_paginate_163 ?_
                            refine v_iload hX d_M_paginate_166 rfl ?_
                            refine v_iload_n hX d_M_paginate_168 rfl rfl ?_
                            refine v_mist hX hML90 10 C T (soPa oL90 (upd (ooPa oL90) i p)) (i := i) (by decide) ga_page (by omega) (by decide) qf_page qa_page d_M_paginate_169 (fun va19 hM19 hf19 => ?_)
                            refine v_aload_n hX d_M_paginate_170 rfl rfl ?_
                            refine v_mget hX hM19 15 (v := .ref (ob 60)) (by decide) fl_M_44 rfl rfl d_M_paginate_171 ?_
                            refine v_iload hX d_M_paginate_174 rfl ?_
                            refine v_iload_n hX d_M_paginate_176 rfl rfl ?_
                            refine v_mist hX hM19 11 C T (soRw (soPa oL90 (upd (ooPa oL90) i p)) (upd (ooRw oL90) i r)) (i := i) (by decide) ((na_page 11 (by decide)).trans ga_row) (by omega) (by decide) qf_row qa_row d_M_paginate_177 (fun va20 hM20 hf20 => ?_)
                            refine v_iinc (y := (r + 1)) (lv' := [some (.ref (ob 48)), some (.int p), some (.int (r + 1)), some (.int s), some (.int (nI i)), some (.int (nI j)), some (.int (((nI j) - (nI i)) + 0))]) hX d_M_paginate_178 rfl (by rfl) rfl ?_
                            refine v_iconst (v := 1) hX d_M_paginate_181 (by decide) ?_
                            refine v_istore_n (lv' := [some (.ref (ob 48)), some (.int p), some (.int (r + 1)), some (.int 1), some (.int (nI i)), some (.int (nI j)), some (.int (((nI j) - (nI i)) + 0))]) hX d_M_paginate_182 rfl (Nat.le_of_ble_eq_true rfl) rfl ?_
                            refine v_iinc (y := (nI (i + 1))) (lv' := [some (.ref (ob 48)), some (.int p), some (.int (r + 1)), some (.int 1), some (.int (nI (i + 1))), some (.int (nI j)), some (.int (((nI j) - (nI i)) + 0))]) hX d_M_paginate_183 rfl (nI_1 i) rfl ?_
                            refine v_goto hX d_M_paginate_186 (tgt := 9) (by decide) ?_
                            exact ih9 p (r + 1) 1 (i + 1) (some (.int (nI j))) (some (.int (((nI j) - (nI i)) + 0))) C (soRw (soPa oL90 (upd (ooPa oL90) i p)) (upd (ooRw oL90) i r)) va20 (by omega) hM20 ⟨⟨hOL90.1.1, hOL90.1.2.1, hOL90.1.2.2.1, hOL90.1.2.2.2.1, (by have q9 := hOL90.1.2.2.2.2; first | exact q9 | omega | (show (ooSm oL90) ≤ 4300; omega))⟩, hOL90.2⟩ ((hfL90.trans hf19).trans hf20) rfl (by show ooLi oL90 = _; omega) (by omega)
                          · refine v_iload hX d_M_paginate_146 rfl ?_
                            refine v_aload_n hX d_M_paginate_148 rfl rfl ?_
                            refine v_mget hX hML90 20 (v := .int (ooRo oL90)) (by decide) fl_M_116 rfl gf_rows d_M_paginate_149 ?_
                            refine v_iload_n hX d_M_paginate_152 rfl rfl ?_
                            refine v_isub hX d_M_paginate_153 ?_
                            refine v_icmp_le hX d_M_paginate_154 (tgt := 162) (by decide) (fun c154 => ?_) (fun c154 => ?_)
                            · refine v_aload_n hX d_M_paginate_162 rfl rfl ?_
                              refine v_mget hX hML90 14 (v := .ref (ob 59)) (by decide) fl_M_41 rfl rfl d_M_paginate_163 ?_
                              refine v_iload hX d_M_paginate_166 rfl ?_
                              refine v_iload_n hX d_M_paginate_168 rfl rfl ?_
                              refine v_mist hX hML90 10 C T (soPa oL90 (upd (ooPa oL90) i p)) (i := i) (by decide) ga_page (by omega) (by decide) qf_page qa_page d_M_paginate_169 (fun va21 hM21 hf21 => ?_)
                              refine v_aload_n hX d_M_paginate_170 rfl rfl ?_
                              refine v_mget hX hM21 15 (v := .ref (ob 60)) (by decide) fl_M_44 rfl rfl d_M_paginate_171 ?_
                              refine v_iload hX d_M_paginate_174 rfl ?_
                              refine v_iload_n hX d_M_paginate_176 rfl rfl ?_
                              refine v_mist hX hM21 11 C T (soRw (soPa oL90 (upd (ooPa oL90) i p)) (upd (ooRw oL90) i r)) (i := i) (by decide) ((na_page 11 (by decide)).trans ga_row) (by omega) (by decide) qf_row qa_row d_M_paginate_177 (fun va22 hM22 hf22 => ?_)
                              refine v_iinc (y := (r + 1)) (lv' := [some (.ref (ob 48)), some (.int p), some (.int (r + 1)), some (.int s), some (.int (nI i)), some (.int (nI j)), some (.int (((nI j) - (nI i)) + 0))]) hX d_M_paginate_178 rfl (by rfl) rfl ?_
                              refine v_iconst (v := 1) hX d_M_paginate_181 (by decide) ?_
                              refine v_istore_n (lv' := [some (.ref (ob 48)), some (.int p), some (.int (r + 1)), some (.int 1), some (.int (nI i)), some (.int (nI j)), some (.int (((nI j) - (nI i)) + 0))]) hX d_M_paginate_182 rfl (Nat.le_of_ble_eq_true rfl) rfl ?_
                              refine v_iinc (y := (nI (i + 1))) (lv' := [some (.ref (ob 48)), some (.int p), some (.int (r + 1)), some (.int 1), some (.int (nI (i + 1))), some (.int (nI j)), some (.int (((nI j) - (nI i)) + 0))]) hX d_M_paginate_183 rfl (nI_1 i) rfl ?_
                              refine v_goto hX d_M_paginate_186 (tgt := 9) (by decide) ?_
                              exact ih9 p (r + 1) 1 (i + 1) (some (.int (nI j))) (some (.int (((nI j) - (nI i)) + 0))) C (soRw (soPa oL90 (upd (ooPa oL90) i p)) (upd (ooRw oL90) i r)) va22 (by omega) hM22 ⟨⟨hOL90.1.1, hOL90.1.2.1, hOL90.1.2.2.1, hOL90.1.2.2.2.1, (by have q9 := hOL90.1.2.2.2.2; first | exact q9 | omega | (show (ooSm oL90) ≤ 4300; omega))⟩, hOL90.2⟩ ((hfL90.trans hf21).trans hf22) rfl (by show ooLi oL90 = _; omega) (by omega)
                            · refine v_iinc (y := (p + 1)) (lv' := [some (.ref (ob 48)), some (.int (p + 1)), some (.int r), some (.int s), some (.int (nI i)), some (.int (nI j)), some (.int (((nI j) - (nI i)) + 0))]) hX d_M_paginate_157 rfl (by rfl) rfl ?_
                              refine v_iconst (v := 0) hX d_M_paginate_160 (by decide) ?_
                              refine v_istore_n (lv' := [some (.ref (ob 48)), some (.int (p + 1)), some (.int 0), some (.int s), some (.int (nI i)), some (.int (nI j)), some (.int (((nI j) - (nI i)) + 0))]) hX d_M_paginate_161 rfl (Nat.le_of_ble_eq_true rfl) rfl ?_
                              refine v_aload_n hX d_M_paginate_162 rfl rfl ?_
                              refine v_mget hX hML90 14 (v := .ref (ob 59)) (by decide) fl_M_41 rfl rfl d_M_paginate_163 ?_
                              refine v_iload hX d_M_paginate_166 rfl ?_
                              refine v_iload_n hX d_M_paginate_168 rfl rfl ?_
                              refine v_mist hX hML90 10 C T (soPa oL90 (upd (ooPa oL90) i (p + 1))) (i := i) (by decide) ga_page (by omega) (by decide) qf_page qa_page d_M_paginate_169 (fun va23 hM23 hf23 => ?_)
                              refine v_aload_n hX d_M_paginate_170 rfl rfl ?_
                              refine v_mget hX hM23 15 (v := .ref (ob 60)) (by decide) fl_M_44 rfl rfl d_M_paginate_171 ?_
                              refine v_iload hX d_M_paginate_174 rfl ?_
                              refine v_iload_n hX d_M_paginate_176 rfl rfl ?_
                              refine v_mist hX hM23 11 C T (soRw (soPa oL90 (upd (ooPa oL90) i (p + 1))) (upd (ooRw oL90) i 0)) (i := i) (by decide) ((na_page 11 (by decide)).trans ga_row) (by omega) (by decide) qf_row qa_row d_M_paginate_177 (fun va24 hM24 hf24 => ?_)
                              refine v_iinc (y := 1) (lv' := [some (.ref (ob 48)), some (.int (p + 1)), some (.int 1), some (.int s), some (.int (nI i)), some (.int (nI j)), some (.int (((nI j) - (nI i)) + 0))]) hX d_M_paginate_178 rfl (by decide) rfl ?_
                              refine v_iconst (v := 1) hX d_M_paginate_181 (by decide) ?_
                              refine v_istore_n (lv' := [some (.ref (ob 48)), some (.int (p + 1)), some (.int 1), some (.int 1), some (.int (nI i)), some (.int (nI j)), some (.int (((nI j) - (nI i)) + 0))]) hX d_M_paginate_182 rfl (Nat.le_of_ble_eq_true rfl) rfl ?_
                              refine v_iinc (y := (nI (i + 1))) (lv' := [some (.ref (ob 48)), some (.int (p + 1)), some (.int 1), some (.int 1), some (.int (nI (i + 1))), some (.int (nI j)), some (.int (((nI j) - (nI i)) + 0))]) hX d_M_paginate_183 rfl (nI_1 i) rfl ?_
                              refine v_goto hX d_M_paginate_186 (tgt := 9) (by decide) ?_
                              exact ih9 (p + 1) 1 1 (i + 1) (some (.int (nI j))) (some (.int (((nI j) - (nI i)) + 0))) C (soRw (soPa oL90 (upd (ooPa oL90) i (p + 1))) (upd (ooRw oL90) i 0)) va24 (by omega) hM24 ⟨⟨hOL90.1.1, hOL90.1.2.1, hOL90.1.2.2.1, hOL90.1.2.2.2.1, (by have q9 := hOL90.1.2.2.2.2; first | exact q9 | omega | (show (ooSm oL90) ≤ 4300; omega))⟩, hOL90.2⟩ ((hfL90.trans hf23).trans hf24) rfl (by show ooLi oL90 = _; omega) (by omega)
                        · have f126 : ¬ (ooLi oL90) ≤ j := fun z => c126 ((nI_leI (a := (ooLi oL90)) (b := j) (by omega) (by omega)).mpr z)
                          refine v_iconst (v := 1) hX d_M_paginate_129 (by decide) ?_
                          refine v_goto hX d_M_paginate_130 (tgt := 134) (by decide) ?_
                          refine v_iadd hX d_M_paginate_134 ?_
                          refine v_istore (lv' := [some (.ref (ob 48)), some (.int p), some (.int r), some (.int s), some (.int (nI i)), some (.int (nI j)), some (.int (((nI j) - (nI i)) + 1))]) hX d_M_paginate_135 (Nat.le_of_ble_eq_true rfl) rfl ?_
                          refine v_iload hX d_M_paginate_137 rfl ?_
                          refine v_aload_n hX d_M_paginate_139 rfl rfl ?_
                          refine v_mget hX hML90 20 (v := .int (ooRo oL90)) (by decide) fl_M_116 rfl gf_rows d_M_paginate_140 ?_
                          refine v_icmp_gt hX d_M_paginate_143 (tgt := 162) (by decide) (fun c143 => ?_) (fun c143 => ?_)
                          · refine v_aload_n hX d_M_paginate_162 rfl rfl ?_
                            refine v_mget hX hML90 14 (v := .ref (ob 59)) (by decide) fl_M_41 rfl rfl d_M_paginate_163 ?_
                            refine v_iload hX d_M_paginate_166 rfl ?_
                            refine v_iload_n hX d_M_paginate_168 rfl rfl ?_
                            refine v_mist hX hML90 10 C T (soPa oL90 (upd (ooPa oL90) i p)) (i := i) (by decide) ga_page (by omega) (by decide) qf_page qa_page d_M_paginate_169 (fun va25 hM25 hf25 => ?_)
                            refine v_aload_n hX d_M_paginate_170 rfl rfl ?_
                            refine v_mget hX hM25 15 (v := .ref (ob 60)) (by decide) fl_M_44 rfl rfl d_M_paginate_171 ?_
                            refine v_iload hX d_M_paginate_174 rfl ?_
                            refine v_iload_n hX d_M_paginate_176 rfl rfl ?_
                            refine v_mist hX hM25 11 C T (soRw (soPa oL90 (upd (ooPa oL90) i p)) (upd (ooRw oL90) i r)) (i := i) (by decide) ((na_page 11 (by decide)).trans ga_row) (by omega) (by decide) qf_row qa_row d_M_paginate_177 (fun va26 hM26 hf26 => ?_)
                            refine v_iinc (y := (r + 1)) (lv' := [some (.ref (ob 48)), some (.int p), some (.int (r + 1)), some (.int s), some (.int (nI i)), some (.int (nI j)), some (.int (((nI j) - (nI i)) + 1))]) hX d_M_paginate_178 rfl (by rfl) rfl ?_
                            refine v_iconst (v := 1) hX d_M_paginate_181 (by decide) ?_
                            refine v_istore_n (lv' := [some (.ref (ob 48)), some (.int p), some (.int (r + 1)), some (.int 1), some (.int (nI i)), some (.int (nI j)), some (.int (((nI j) - (nI i)) + 1))]) hX d_M_paginate_182 rfl (Nat.le_of_ble_eq_true rfl) rfl ?_
                            refine v_iinc (y := (nI (i + 1))) (lv' := [some (.ref (ob 48)), some (.int p), some (.int (r + 1)), some (.int 1), some (.int (nI (i + 1))), some (.int (nI j)), some (.int (((nI j) - (nI i)) + 1))]) hX d_M_paginate_183 rfl (nI_1 i) rfl ?_
                            refine v_goto hX d_M_paginate_186 (tgt := 9) (by decide) ?_
                            exact ih9 p (r + 1) 1 (i + 1) (some (.int (nI j))) (some (.int (((nI j) - (nI i)) + 1))) C (soRw (soPa oL90 (upd (ooPa oL90) i p)) (upd (ooRw oL90) i r)) va26 (by omega) hM26 ⟨⟨hOL90.1.1, hOL90.1.2.1, hOL90.1.2.2.1, hOL90.1.2.2.2.1, (by have q9 := hOL90.1.2.2.2.2; first | exact q9 | omega | (show (ooSm oL90) ≤ 4300; omega))⟩, hOL90.2⟩ ((hfL90.trans hf25).trans hf26) rfl (by show ooLi oL90 = _; omega) (by omega)
                          · refine v_iload hX d_M_paginate_146 rfl ?_
                            refine v_aload_n hX d_M_paginate_148 rfl rfl ?_
                            refine v_mget hX hML90 20 (v := .int (ooRo oL90)) (by decide) fl_M_116 rfl gf_rows d_M_paginate_149 ?_
                            refine v_iload_n hX d_M_paginate_152 rfl rfl ?_
                            refine v_isub hX d_M_paginate_153 ?_
                            refine v_icmp_le hX d_M_paginate_154 (tgt := 162) (by decide) (fun c154 => ?_) (fun c154 => ?_)
                            · refine v_aload_n hX d_M_paginate_162 rfl rfl ?_
                              refine v_mget hX hML90 14 (v := .ref (ob 59)) (by decide) fl_M_41 rfl rfl d_M_paginate_163 ?_
                              refine v_iload hX d_M_paginate_166 rfl ?_
                              refine v_iload_n hX d_M_paginate_168 rfl rfl ?_
                              refine v_mist hX hML90 10 C T (soPa oL90 (upd (ooPa oL90) i p)) (i := i) (by decide) ga_page (by omega) (by decide) qf_page qa_page d_M_paginate_169 (fun va27 hM27 hf27 => ?_)
                              refine v_aload_n hX d_M_paginate_170 rfl rfl ?_
                              refine v_mget hX hM27 15 (v := .ref (ob 60)) (by decide) fl_M_44 rfl rfl d_M_paginate_171 ?_
                              refine v_iload hX d_M_paginate_174 rfl ?_
                              refine v_iload_n hX d_M_paginate_176 rfl rfl ?_
                              refine v_mist hX hM27 11 C T (soRw (soPa oL90 (upd (ooPa oL90) i p)) (upd (ooRw oL90) i r)) (i := i) (by decide) ((na_page 11 (by decide)).trans ga_row) (by omega) (by decide) qf_row qa_row d_M_paginate_177 (fun va28 hM28 hf28 => ?_)
                              refine v_iinc (y := (r + 1)) (lv' := [some (.ref (ob 48)), some (.int p), some (.int (r + 1)), some (.int s), some (.int (nI i)), some (.int (nI j)), some (.int (((nI j) - (nI i)) + 1))]) hX d_M_paginate_178 rfl (by rfl) rfl ?_
                              refine v_iconst (v := 1) hX d_M_paginate_181 (by decide) ?_
                              refine v_istore_n (lv' := [some (.ref (ob 48)), some (.int p), some (.int (r + 1)), some (.int 1), some (.int (nI i)), some (.int (nI j)), some (.int (((nI j) - (nI i)) + 1))]) hX d_M_paginate_182 rfl (Nat.le_of_ble_eq_true rfl) rfl ?_
                              refine v_iinc (y := (nI (i + 1))) (lv' := [some (.ref (ob 48)), some (.int p), some (.int (r + 1)), some (.int 1), some (.int (nI (i + 1))), some (.int (nI j)), some (.int (((nI j) - (nI i)) + 1))]) hX d_M_paginate_183 rfl (nI_1 i) rfl ?_
                              refine v_goto hX d_M_paginate_186 (tgt := 9) (by decide) ?_
                              exact ih9 p (r + 1) 1 (i + 1) (some (.int (nI j))) (some (.int (((nI j) - (nI i)) + 1))) C (soRw (soPa oL90 (upd (ooPa oL90) i p)) (upd (ooRw oL90) i r)) va28 (by omega) hM28 ⟨⟨hOL90.1.1, hOL90.1.2.1, hOL90.1.2.2.1, hOL90.1.2.2.2.1, (by have q9 := hOL90.1.2.2.2.2; first | exact q9 | omega | (show (ooSm oL90) ≤ 4300; omega))⟩, hOL90.2⟩ ((hfL90.trans hf27).trans hf28) rfl (by show ooLi oL90 = _; omega) (by omega)
                            · refine v_iinc (y := (p + 1)) (lv' := [some (.ref (ob 48)), some (.int (p + 1)), some (.int r), some (.int s), some (.int (nI i)), some (.int (nI j)), some (.int (((nI j) - (nI i)) + 1))]) hX d_M_paginate_157 rfl (by rfl) rfl ?_
                              refine v_iconst (v := 0) hX d_M_paginate_160 (by decide) ?_
                              refine v_istore_n (lv' := [some (.ref (ob 48)), some (.int (p + 1)), some (.int 0), some (.int s), some (.int (nI i)), some (.int (nI j)), some (.int (((nI j) - (nI i)) + 1))]) hX d_M_paginate_161 rfl (Nat.le_of_ble_eq_true rfl) rfl ?_
                              refine v_aload_n hX d_M_paginate_162 rfl rfl ?_
                              refine v_mget hX hML90 14 (v := .ref (ob 59)) (by decide) fl_M_41 rfl rfl d_M_paginate_163 ?_
                              refine v_iload hX d_M_paginate_166 rfl ?_
                              refine v_iload_n hX d_M_paginate_168 rfl rfl ?_
                              refine v_mist hX hML90 10 C T (soPa oL90 (upd (ooPa oL90) i (p + 1))) (i := i) (by decide) ga_page (by omega) (by decide) qf_page qa_page d_M_paginate_169 (fun va29 hM29 hf29 => ?_)
                              refine v_aload_n hX d_M_paginate_170 rfl rfl ?_
                              refine v_mget hX hM29 15 (v := .ref (ob 60)) (by decide) fl_M_44 rfl rfl d_M_paginate_171 ?_
                              refine v_iload hX d_M_paginate_174 rfl ?_
                              refine v_iload_n hX d_M_paginate_176 rfl rfl ?_
                              refine v_mist hX hM29 11 C T (soRw (soPa oL90 (upd (ooPa oL90) i (p + 1))) (upd (ooRw oL90) i 0)) (i := i) (by decide) ((na_page 11 (by decide)).trans ga_row) (by omega) (by decide) qf_row qa_row d_M_paginate_177 (fun va30 hM30 hf30 => ?_)
                              refine v_iinc (y := 1) (lv' := [some (.ref (ob 48)), some (.int (p + 1)), some (.int 1), some (.int s), some (.int (nI i)), some (.int (nI j)), some (.int (((nI j) - (nI i)) + 1))]) hX d_M_paginate_178 rfl (by decide) rfl ?_
                              refine v_iconst (v := 1) hX d_M_paginate_181 (by decide) ?_
                              refine v_istore_n (lv' := [some (.ref (ob 48)), some (.int (p + 1)), some (.int 1), some (.int 1), some (.int (nI i)), some (.int (nI j)), some (.int (((nI j) - (nI i)) + 1))]) hX d_M_paginate_182 rfl (Nat.le_of_ble_eq_true rfl) rfl ?_
                              refine v_iinc (y := (nI (i + 1))) (lv' := [some (.ref (ob 48)), some (.int (p + 1)), some (.int 1), some (.int 1), some (.int (nI (i + 1))), some (.int (nI j)), some (.int (((nI j) - (nI i)) + 1))]) hX d_M_paginate_183 rfl (nI_1 i) rfl ?_
                              refine v_goto hX d_M_paginate_186 (tgt := 9) (by decide) ?_
                              exact ih9 (p + 1) 1 1 (i + 1) (some (.int (nI j))) (some (.int (((nI j) - (nI i)) + 1))) C (soRw (soPa oL90 (upd (ooPa oL90) i (p + 1))) (upd (ooRw oL90) i 0)) va30 (by omega) hM30 ⟨⟨hOL90.1.1, hOL90.1.2.1, hOL90.1.2.2.1, hOL90.1.2.2.2.1, (by have q9 := hOL90.1.2.2.2.2; first | exact q9 | omega | (show (ooSm oL90) ≤ 4300; omega))⟩, hOL90.2⟩ ((hfL90.trans hf29).trans hf30) rfl (by show ooLi oL90 = _; omega) (by omega)
                      · refine v_iinc (y := (nI (j + 1))) (lv' := [some (.ref (ob 48)), some (.int p), some (.int r), some (.int s), some (.int (nI i)), some (.int (nI (j + 1))), o6]) hX d_M_paginate_109 rfl (nI_1 j) rfl ?_
                        refine v_goto hX d_M_paginate_112 (tgt := 90) (by decide) ?_
                        exact ih90 (j + 1) C oL90 vaL90 (by omega) hML90 ⟨hOL90.1, hOL90.2⟩ hfL90 rfl hl90 (by omega)
                exact loop90 _ (i + hn) C (soRw (soPa oL9 (upd (ooPa oL9) i (-1))) (upd (ooRw oL9) i (-1))) va2 (Nat.lt_succ_self _) hM2 ⟨⟨hOL9.1.1, hOL9.1.2.1, hOL9.1.2.2.1, hOL9.1.2.2.2.1, (by have q9 := hOL9.1.2.2.2.2; first | exact q9 | omega | (show (ooSm oL9) ≤ 4300; omega))⟩, hOL9.2⟩ ((hfL9.trans hf1).trans hf2) rfl (by show ooLi oL9 = _; omega) (by omega)
          · refine v_aload_n hX d_M_paginate_51 rfl rfl ?_
            refine v_mget hX hM2 12 (v := .ref (ob 57)) (by decide) fl_M_35 rfl rfl d_M_paginate_52 ?_
            refine v_iload hX d_M_paginate_55 rfl ?_
            refine v_mild hX hM2 8 (i := i) (v := ((ooLe oL9) i)) ((na_row 8 (by decide)).trans ((na_page 8 (by decide)).trans ga_length)) (by omega) (by decide) rfl d_M_paginate_57 ?_
            refine v_if_ne hX d_M_paginate_58 (tgt := 64) (by decide) (fun c58 => ?_) (fun c58 => ?_)
            · refine v_aload_n hX d_M_paginate_64 rfl rfl ?_
              refine v_mget hX hM2 13 (v := .ref (ob 58)) (by decide) fl_M_38 rfl rfl d_M_paginate_65 ?_
              refine v_iload hX d_M_paginate_68 rfl ?_
              refine v_mild hX hM2 9 (i := i) (v := ((ooHe oL9) i)) ((na_row 9 (by decide)).trans ((na_page 9 (by decide)).trans ga_head)) (by omega) (by decide) rfl d_M_paginate_70 ?_
              refine v_if_le hX d_M_paginate_71 (tgt := 162) (by decide) (fun c71 => ?_) (fun c71 => ?_)
              · refine v_aload_n hX d_M_paginate_162 rfl rfl ?_
                refine v_mget hX hM2 14 (v := .ref (ob 59)) (by decide) fl_M_41 rfl rfl d_M_paginate_163 ?_
                refine v_iload hX d_M_paginate_166 rfl ?_
                refine v_iload_n hX d_M_paginate_168 rfl rfl ?_
                refine v_mist hX hM2 10 C T (soPa (soRw (soPa oL9 (upd (ooPa oL9) i (-1))) (upd (ooRw oL9) i (-1))) (upd (upd (ooPa oL9) i (-1)) i p)) (i := i) (by decide) ((na_row 10 (by decide)).trans ha_page) (by omega) (by decide) qf_page qa_page d_M_paginate_169 (fun va31 hM31 hf31 => ?_)
                refine v_aload_n hX d_M_paginate_170 rfl rfl ?_
                refine v_mget hX hM31 15 (v := .ref (ob 60)) (by decide) fl_M_44 rfl rfl d_M_paginate_171 ?_
                refine v_iload hX d_M_paginate_174 rfl ?_
                refine v_iload_n hX d_M_paginate_176 rfl rfl ?_
                refine v_mist hX hM31 11 C T (soRw (soPa (soRw (soPa oL9 (upd (ooPa oL9) i (-1))) (upd (ooRw oL9) i (-1))) (upd (upd (ooPa oL9) i (-1)) i p)) (upd (upd (ooRw oL9) i (-1)) i r)) (i := i) (by decide) ((na_page 11 (by decide)).trans ha_row) (by omega) (by decide) qf_row qa_row d_M_paginate_177 (fun va32 hM32 hf32 => ?_)
                refine v_iinc (y := (r + 1)) (lv' := [some (.ref (ob 48)), some (.int p), some (.int (r + 1)), some (.int s), some (.int (nI i)), o5, o6]) hX d_M_paginate_178 rfl (by rfl) rfl ?_
                refine v_iconst (v := 1) hX d_M_paginate_181 (by decide) ?_
                refine v_istore_n (lv' := [some (.ref (ob 48)), some (.int p), some (.int (r + 1)), some (.int 1), some (.int (nI i)), o5, o6]) hX d_M_paginate_182 rfl (Nat.le_of_ble_eq_true rfl) rfl ?_
                refine v_iinc (y := (nI (i + 1))) (lv' := [some (.ref (ob 48)), some (.int p), some (.int (r + 1)), some (.int 1), some (.int (nI (i + 1))), o5, o6]) hX d_M_paginate_183 rfl (nI_1 i) rfl ?_
                refine v_goto hX d_M_paginate_186 (tgt := 9) (by decide) ?_
                exact ih9 p (r + 1) 1 (i + 1) o5 o6 C (soRw (soPa (soRw (soPa oL9 (upd (ooPa oL9) i (-1))) (upd (ooRw oL9) i (-1))) (upd (upd (ooPa oL9) i (-1)) i p)) (upd (upd (ooRw oL9) i (-1)) i r)) va32 (by omega) hM32 ⟨⟨hOL9.1.1, hOL9.1.2.1, hOL9.1.2.2.1, hOL9.1.2.2.2.1, (by have q9 := hOL9.1.2.2.2.2; first | exact q9 | omega | (show (ooSm oL9) ≤ 4300; omega))⟩, hOL9.2⟩ ((((hfL9.trans hf1).trans hf2).trans hf31).trans hf32) rfl (by show ooLi oL9 = _; omega) (by omega)
              · refine v_iload_n hX d_M_paginate_74 rfl rfl ?_
                refine v_if_le hX d_M_paginate_75 (tgt := 162) (by decide) (fun c75 => ?_) (fun c75 => ?_)
                · refine v_aload_n hX d_M_paginate_162 rfl rfl ?_
                  refine v_mget hX hM2 14 (v := .ref (ob 59)) (by decide) fl_M_41 rfl rfl d_M_paginate_163 ?_
                  refine v_iload hX d_M_paginate_166 rfl ?_
                  refine v_iload_n hX d_M_paginate_168 rfl rfl ?_
                  refine v_mist hX hM2 10 C T (soPa (soRw (soPa oL9 (upd (ooPa oL9) i (-1))) (upd (ooRw oL9) i (-1))) (upd (upd (ooPa oL9) i (-1)) i p)) (i := i) (by decide) ((na_row 10 (by decide)).trans ha_page) (by omega) (by decide) qf_page qa_page d_M_paginate_169 (fun va33 hM33 hf33 => ?_)
                  refine v_aload_n hX d_M_paginate_170 rfl rfl ?_
                  refine v_mget hX hM33 15 (v := .ref (ob 60)) (by decide) fl_M_44 rfl rfl d_M_paginate_171 ?_
                  refine v_iload hX d_M_paginate_174 rfl ?_
                  refine v_iload_n hX d_M_paginate_176 rfl rfl ?_
                  refine v_mist hX hM33 11 C T (soRw (soPa (soRw (soPa oL9 (upd (ooPa oL9) i (-1))) (upd (ooRw oL9) i (-1))) (upd (upd (ooPa oL9) i (-1)) i p)) (upd (upd (ooRw oL9) i (-1)) i r)) (i := i) (by decide) ((na_page 11 (by decide)).trans ha_row) (by omega) (by decide) qf_row qa_row d_M_paginate_177 (fun va34 hM34 hf34 => ?_)
                  refine v_iinc (y := (r + 1)) (lv' := [some (.ref (ob 48)), some (.int p), some (.int (r + 1)), some (.int s), some (.int (nI i)), o5, o6]) hX d_M_paginate_178 rfl (by rfl) rfl ?_
                  refine v_iconst (v := 1) hX d_M_paginate_181 (by decide) ?_
                  refine v_istore_n (lv' := [some (.ref (ob 48)), some (.int p), some (.int (r + 1)), some (.int 1), some (.int (nI i)), o5, o6]) hX d_M_paginate_182 rfl (Nat.le_of_ble_eq_true rfl) rfl ?_
                  refine v_iinc (y := (nI (i + 1))) (lv' := [some (.ref (ob 48)), some (.int p), some (.int (r + 1)), some (.int 1), some (.int (nI (i + 1))), o5, o6]) hX d_M_paginate_183 rfl (nI_1 i) rfl ?_
                  refine v_goto hX d_M_paginate_186 (tgt := 9) (by decide) ?_
                  exact ih9 p (r + 1) 1 (i + 1) o5 o6 C (soRw (soPa (soRw (soPa oL9 (upd (ooPa oL9) i (-1))) (upd (ooRw oL9) i (-1))) (upd (upd (ooPa oL9) i (-1)) i p)) (upd (upd (ooRw oL9) i (-1)) i r)) va34 (by omega) hM34 ⟨⟨hOL9.1.1, hOL9.1.2.1, hOL9.1.2.2.1, hOL9.1.2.2.2.1, (by have q9 := hOL9.1.2.2.2.2; first | exact q9 | omega | (show (ooSm oL9) ≤ 4300; omega))⟩, hOL9.2⟩ ((((hfL9.trans hf1).trans hf2).trans hf33).trans hf34) rfl (by show ooLi oL9 = _; omega) (by omega)
                · obtain ⟨hn, hhn, hhe⟩ := he_nat c71 (hhd i)
                  refine v_iload hX d_M_paginate_78 rfl ?_
                  refine v_aload_n hX d_M_paginate_80 rfl rfl ?_
                  refine v_mget hX hM2 13 (v := .ref (ob 58)) (by decide) fl_M_38 rfl rfl d_M_paginate_81 ?_
                  refine v_iload hX d_M_paginate_84 rfl ?_
                  refine v_mild hX hM2 9 (i := i) (v := (nI hn)) ((na_row 9 (by decide)).trans ((na_page 9 (by decide)).trans ga_head)) (by omega) (by decide) hhe d_M_paginate_86 ?_
                  refine v_iaddE (v := nI (i + hn)) hX d_M_paginate_87 (nI_add i hn) ?_
                  refine v_istore (lv' := [some (.ref (ob 48)), some (.int p), some (.int r), some (.int s), some (.int (nI i)), some (.int (nI (i + hn))), o6]) hX d_M_paginate_88 (Nat.le_of_ble_eq_true rfl) rfl ?_
                  have loop90 : ∀ (m9 : Nat) (j : Nat) (CL90 : CT) (oL90 : OS) (vaL90 : Nat → va_E), ooLi O - j < m9 → ModI cI cB cZ ob CL90 T oL90 dom loc vaL90 → (OI oL90 ∧ ooCt oL90 = ooCt O) → frM val vaL90 → (C = CL90) → (ooLi oL90 = ooLi O) → (j ≤ 4500) → V X D CL A dom loc vaL90 0 0 90 [some (.ref (ob 48)), some (.int p), some (.int r), some (.int s), some (.int (nI i)), some (.int (nI j)), o6] [] := by
                    intro m9
                    induction m9 with
                    | zero => intro j CL90 oL90 vaL90 hk90 hML90 hOL90 hfL90 hC90 hl90 hj90; exact absurd hk90 (Nat.not_lt_zero _)
                    | succ m9 ih90 =>
                      intro j CL90 oL90 vaL90 hk90 hML90 hOL90 hfL90 hC90 hl90 hj90
                      subst hC90
                      have hli2 := hOL90.1.2.2.1
                      refine v_iload hX d_M_paginate_90 rfl ?_
                      refine v_aload_n hX d_M_paginate_92 rfl rfl ?_
                      refine v_mget hX hML90 18 (v := .int (nI (ooLi oL90))) (by decide) fl_M_113 rfl gf_lines d_M_paginate_93 ?_
                      refine v_icmp_ge hX d_M_paginate_96 (tgt := 115) (by decide) (fun c96 => ?_) (fun c96 => ?_)
                      · have f96 : (ooLi oL90) ≤ j := (nI_leI (a := (ooLi oL90)) (b := j) (by omega) (by omega)).mp c96
                        refine v_iload hX d_M_paginate_115 rfl ?_
                        refine v_iload hX d_M_paginate_117 rfl ?_
                        refine v_isub hX d_M_paginate_119 ?_
                        refine v_iload hX d_M_paginate_120 rfl ?_
                        refine v_aload_n hX d_M_paginate_122 rfl rfl ?_
                        refine v_mget hX hML90 18 (v := .int (nI (ooLi oL90))) (by decide) fl_M_113 rfl gf_lines d_M_paginate_123 ?_
                        refine v_icmp_ge hX d_M_paginate_126 (tgt := 133) (by decide) (fun c126 => ?_) (fun c126 => ?_)
                        · have f126 : (ooLi oL90) ≤ j := (nI_leI (a := (ooLi oL90)) (b := j) (by omega) (by omega)).mp c126
                          refine v_iconst (v := 0) hX d_M_paginate_133 (by decide) ?_
                          refine v_iadd hX d_M_paginate_134 ?_
                          refine v_istore (lv' := [some (.ref (ob 48)), some (.int p), some (.int r), some (.int s), some (.int (nI i)), some (.int (nI j)), some (.int (((nI j) - (nI i)) + 0))]) hX d_M_paginate_135 (Nat.le_of_ble_eq_true rfl) rfl ?_
                          refine v_iload hX d_M_paginate_137 rfl ?_
                          refine v_aload_n hX d_M_paginate_139 rfl rfl ?_
                          refine v_mget hX hML90 20 (v := .int (ooRo oL90)) (by decide) fl_M_116 rfl gf_rows d_M_paginate_140 ?_
                          refine v_icmp_gt hX d_M_paginate_143 (tgt := 162) (by decide) (fun c143 => ?_) (fun c143 => ?_)
                          · refine v_aload_n hX d_M_paginate_162 rfl rfl ?_
                            refine v_mget hX hML90 14 (v := .ref (ob 59)) (by decide) fl_M_41 rfl rfl d_M_paginate_163 ?_
                            refine v_iload hX d_M_paginate_166 rfl ?_
                            refine v_iload_n hX d_M_paginate_168 rfl rfl ?_
                            refine v_mist hX hML90 10 C T (soPa oL90 (upd (ooPa oL90) i p)) (i := i) (by decide) ga_page (by omega) (by decide) qf_page qa_page d_M_paginate_169 (fun va35 hM35 hf35 => ?_)
                            refine v_aload_n hX d_M_paginate_170 rfl rfl ?_
                            refine v_mget hX hM35 15 (v := .ref (ob 60)) (by decide) fl_M_44 rfl rfl d_M_paginate_171 ?_
                            refine v_iload hX d_M_paginate_174 rfl ?_
                            refine v_iload_n hX d_M_paginate_176 rfl rfl ?_
                            refine v_mist hX hM35 11 C T (soRw (soPa oL90 (upd (ooPa oL90) i p)) (upd (ooRw oL90) i r)) (i := i) (by decide) ((na_page 11 (by decide)).trans ga_row) (by omega) (by decide) qf_row qa_row d_M_paginate_177 (fun va36 hM36 hf36 => ?_)
                            refine v_iinc (y := (r + 1)) (lv' := [some (.ref (ob 48)), some (.int p), some (.int (r + 1)), some (.int s), some (.int (nI i)), some (.int (nI j)), some (.int (((nI j) - (nI i)) + 0))]) hX d_M_paginate_178 rfl (by rfl) rfl ?_
                            refine v_iconst (v := 1) hX d_M_paginate_181 (by decide) ?_
                            refine v_istore_n (lv' := [some (.ref (ob 48)), some (.int p), some (.int (r + 1)), some (.int 1), some (.int (nI i)), some (.int (nI j)), some (.int (((nI j) - (nI i)) + 0))]) hX d_M_paginate_182 rfl (Nat.le_of_ble_eq_true rfl) rfl ?_
                            refine v_iinc (y := (nI (i + 1))) (lv' := [some (.ref (ob 48)), some (.int p), some (.int (r + 1)), some (.int 1), some (.int (nI (i + 1))), some (.int (nI j)), some (.int (((nI j) - (nI i)) + 0))]) hX d_M_paginate_183 rfl (nI_1 i) rfl ?_
                            refine v_goto hX d_M_paginate_186 (tgt := 9) (by decide) ?_
                            exact ih9 p (r + 1) 1 (i + 1) (some (.int (nI j))) (some (.int (((nI j) - (nI i)) + 0))) C (soRw (soPa oL90 (upd (ooPa oL90) i p)) (upd (ooRw oL90) i r)) va36 (by omega) hM36 ⟨⟨hOL90.1.1, hOL90.1.2.1, hOL90.1.2.2.1, hOL90.1.2.2.2.1, (by have q9 := hOL90.1.2.2.2.2; first | exact q9 | omega | (show (ooSm oL90) ≤ 4300; omega))⟩, hOL90.2⟩ ((hfL90.trans hf35).trans hf36) rfl (by show ooLi oL90 = _; omega) (by omega)
                          · refine v_iload hX d_M_paginate_146 rfl ?_
                            refine v_aload_n hX d_M_paginate_148 rfl rfl ?_
                            refine v_mget hX hML90 20 (v := .int (ooRo oL90)) (by decide) fl_M_116 rfl gf_rows d_M_paginate_149 ?_
                            refine v_iload_n hX d_M_paginate_152 rfl rfl ?_
                            refine v_isub hX d_M_paginate_153 ?_
                            refine v_icmp_le hX d_M_paginate_154 (tgt := 162) (by decide) (fun c154 => ?_) (fun c154 => ?_)
                            · refine v_aload_n hX d_M_paginate_162 rfl rfl ?_
                              refine v_mget hX hML90 14 (v := .ref (ob 59)) (by decide) fl_M_41 rfl rfl d_M_paginate_163 ?_
                              refine v_iload hX d_M_paginate_166 rfl ?_
                              refine v_iload_n hX d_M_paginate_168 rfl rfl ?_
                              refine v_mist hX hML90 10 C T (soPa oL90 (upd (ooPa oL90) i p)) (i := i) (by decide) ga_page (by omega) (by decide) qf_page qa_page d_M_paginate_169 (fun va37 hM37 hf37 => ?_)
                              refine v_aload_n hX d_M_paginate_170 rfl rfl ?_
                              refine v_mget hX hM37 15 (v := .ref (ob 60)) (by decide) fl_M_44 rfl rfl d_M_paginate_171 ?_
                              refine v_iload hX d_M_paginate_174 rfl ?_
                              refine v_iload_n hX d_M_paginate_176 rfl rfl ?_
                              refine v_mist hX hM37 11 C T (soRw (soPa oL90 (upd (ooPa oL90) i p)) (upd (ooRw oL90) i r)) (i := i) (by decide) ((na_page 11 (by decide)).trans ga_row) (by omega) (by decide) qf_row qa_row d_M_paginate_177 (fun va38 hM38 hf38 => ?_)
                              refine v_iinc (y := (r + 1)) (lv' := [some (.ref (ob 48)), some (.int p), some (.int (r + 1)), some (.int s), some (.int (nI i)), some (.int (nI j)), some (.int (((nI j) - (nI i)) + 0))]) hX d_M_paginate_178 rfl (by rfl) rfl ?_
                              refine v_iconst (v := 1) hX d_M_paginate_181 (by decide) ?_
                              refine v_istore_n (lv' := [some (.ref (ob 48)), some (.int p), some (.int (r + 1)), some (.int 1), some (.int (nI i)), some (.int (nI j)), some (.int (((nI j) - (nI i)) + 0))]) hX d_M_paginate_182 rfl (Nat.le_of_ble_eq_true rfl) rfl ?_
                              refine v_iinc (y := (nI (i + 1))) (lv' := [some (.ref (ob 48)), some (.int p), some (.int (r + 1)), some (.int 1), some (.int (nI (i + 1))), some (.int (nI j)), some (.int (((nI j) - (nI i)) + 0))]) hX d_M_paginate_183 rfl (nI_1 i) rfl ?_
                              refine v_goto hX d_M_paginate_186 (tgt := 9) (by decide) ?_
                              exact ih9 p (r + 1) 1 (i + 1) (some (.int (nI j))) (some (.int (((nI j) - (nI i)) + 0))) C (soRw (soPa oL90 (upd (ooPa oL90) i p)) (upd (ooRw oL90) i r)) va38 (by omega) hM38 ⟨⟨hOL90.1.1, hOL90.1.2.1, hOL90.1.2.2.1, hOL90.1.2.2.2.1, (by have q9 := hOL90.1.2.2.2.2; first | exact q9 | omega | (show (ooSm oL90) ≤ 4300; omega))⟩, hOL90.2⟩ ((hfL90.trans hf37).trans hf38) rfl (by show ooLi oL90 = _; omega) (by omega)
                            · refine v_iinc (y := (p + 1)) (lv' := [some (.ref (ob 48)), some (.int (p + 1)), some (.int r), some (.int s), some (.int (nI i)), some (.int (nI j)), some (.int (((nI j) - (nI i)) + 0))]) hX d_M_paginate_157 rfl (by rfl) rfl ?_
                              refine v_iconst (v := 0) hX d_M_paginate_160 (by decide) ?_
                              refine v_istore_n (lv' := [some (.ref (ob 48)), some (.int (p + 1)), some (.int 0), some (.int s), some (.int (nI i)), some (.int (nI j)), some (.int (((nI j) - (nI i)) + 0))]) hX d_M_paginate_161 rfl (Nat.le_of_ble_eq_true rfl) rfl ?_
                              refine v_aload_n hX d_M_paginate_162 rfl rfl ?_
                              refine v_mget hX hML90 14 (v := .ref (ob 59)) (by decide) fl_M_41 rfl rfl d_M_paginate_163 ?_
                              refine v_iload hX d_M_paginate_166 rfl ?_
                              refine v_iload_n hX d_M_paginate_168 rfl rfl ?_
                              refine v_mist hX hML90 10 C T (soPa oL90 (upd (ooPa oL90) i (p + 1))) (i := i) (by decide) ga_page (by omega) (by decide) qf_page qa_page d_M_paginate_169 (fun va39 hM39 hf39 => ?_)
                              refine v_aload_n hX d_M_paginate_170 rfl rfl ?_
                              refine v_mget hX hM39 15 (v := .ref (ob 60)) (by decide) fl_M_44 rfl rfl d_M_paginate_171 ?_
                              refine v_iload hX d_M_paginate_174 rfl ?_
                              refine v_iload_n hX d_M_paginate_176 rfl rfl ?_
                              refine v_mist hX hM39 11 C T (soRw (soPa oL90 (upd (ooPa oL90) i (p + 1))) (upd (ooRw oL90) i 0)) (i := i) (by decide) ((na_page 11 (by decide)).trans ga_row) (by omega) (by decide) qf_row qa_row d_M_paginate_177 (fun va40 hM40 hf40 => ?_)
                              refine v_iinc (y := 1) (lv' := [some (.ref (ob 48)), some (.int (p + 1)), some (.int 1), some (.int s), some (.int (nI i)), some (.int (nI j)), some (.int (((nI j) - (nI i)) + 0))]) hX d_M_paginate_178 rfl (by decide) rfl ?_
                              refine v_iconst (v := 1) hX d_M_paginate_181 (by decide) ?_
                              refine v_istore_n (lv' := [some (.ref (ob 48)), some (.int (p + 1)), some (.int 1), some (.int 1), some (.int (nI i)), some (.int (nI j)), some (.int (((nI j) - (nI i)) + 0))]) hX d_M_paginate_182 rfl (Nat.le_of_ble_eq_true rfl) rfl ?_
                              refine v_iinc (y := (nI (i + 1))) (lv' := [some (.ref (ob 48)), some (.int (p + 1)), some (.int 1), some (.int 1), some (.int (nI (i + 1))), some (.int (nI j)), some (.int (((nI j) - (nI i)) + 0))]) hX d_M_paginate_183 rfl (nI_1 i) rfl ?_
                              refine v_goto hX d_M_paginate_186 (tgt := 9) (by decide) ?_
                              exact ih9 (p + 1) 1 1 (i + 1) (some (.int (nI j))) (some (.int (((nI j) - (nI i)) + 0))) C (soRw (soPa oL90 (upd (ooPa oL90) i (p + 1))) (upd (ooRw oL90) i 0)) va40 (by omega) hM40 ⟨⟨hOL90.1.1, hOL90.1.2.1, hOL90.1.2.2.1, hOL90.1.2.2.2.1, (by have q9 := hOL90.1.2.2.2.2; first | exact q9 | omega | (show (ooSm oL90) ≤ 4300; omega))⟩, hOL90.2⟩ ((hfL90.trans hf39).trans hf40) rfl (by show ooLi oL90 = _; omega) (by omega)
                        · have f126 : ¬ (ooLi oL90) ≤ j := fun z => c126 ((nI_leI (a := (ooLi oL90)) (b := j) (by omega) (by omega)).mpr z)
                          refine v_iconst (v := 1) hX d_M_paginate_129 (by decide) ?_
                          refine v_goto hX d_M_paginate_130 (tgt := 134) (by decide) ?_
                          refine v_iadd hX d_M_paginate_134 ?_
                          refine v_istore (lv' := [some (.ref (ob 48)), some (.int p), some (.int r), some (.int s), some (.int (nI i)), some (.int (nI j)), some (.int (((nI j) - (nI i)) + 1))]) hX d_M_paginate_135 (Nat.le_of_ble_eq_true rfl) rfl ?_
                          refine v_iload hX d_M_paginate_137 rfl ?_
                          refine v_aload_n hX d_M_paginate_139 rfl rfl ?_
                          refine v_mget hX hML90 20 (v := .int (ooRo oL90)) (by decide) fl_M_116 rfl gf_rows d_M_paginate_140 ?_
                          refine v_icmp_gt hX d_M_paginate_143 (tgt := 162) (by decide) (fun c143 => ?_) (fun c143 => ?_)
                          · refine v_aload_n hX d_M_paginate_162 rfl rfl ?_
                            refine v_mget hX hML90 14 (v := .ref (ob 59)) (by decide) fl_M_41 rfl rfl d_M_paginate_163 ?_
                            refine v_iload hX d_M_paginate_166 rfl ?_
                            refine v_iload_n hX d_M_paginate_168 rfl rfl ?_
                            refine v_mist hX hML90 10 C T (soPa oL90 (upd (ooPa oL90) i p)) (i := i) (by decide) ga_page (by omega) (by decide) qf_page qa_page d_M_paginate_169 (fun va41 hM41 hf41 => ?_)
                            refine v_aload_n hX d_M_paginate_170 rfl rfl ?_
                            refine v_mget hX hM41 15 (v := .ref (ob 60)) (by decide) fl_M_44 rfl rfl d_M_paginate_171 ?_
                            refine v_iload hX d_M_paginate_174 rfl ?_
                            refine v_iload_n hX d_M_paginate_176 rfl rfl ?_
                            refine v_mist hX hM41 11 C T (soRw (soPa oL90 (upd (ooPa oL90) i p)) (upd (ooRw oL90) i r)) (i := i) (by decide) ((na_page 11 (by decide)).trans ga_row) (by omega) (by decide) qf_row qa_row d_M_paginate_177 (fun va42 hM42 hf42 => ?_)
                            refine v_iinc (y := (r + 1)) (lv' := [some (.ref (ob 48)), some (.int p), some (.int (r + 1)), some (.int s), some (.int (nI i)), some (.int (nI j)), some (.int (((nI j) - (nI i)) + 1))]) hX d_M_paginate_178 rfl (by rfl) rfl ?_
                            refine v_iconst (v := 1) hX d_M_paginate_181 (by decide) ?_
                            refine v_istore_n (lv' := [some (.ref (ob 48)), some (.int p), some (.int (r + 1)), some (.int 1), some (.int (nI i)), some (.int (nI j)), some (.int (((nI j) - (nI i)) + 1))]) hX d_M_paginate_182 rfl (Nat.le_of_ble_eq_true rfl) rfl ?_
                            refine v_iinc (y := (nI (i + 1))) (lv' := [some (.ref (ob 48)), some (.int p), some (.int (r + 1)), some (.int 1), some (.int (nI (i + 1))), some (.int (nI j)), some (.int (((nI j) - (nI i)) + 1))]) hX d_M_paginate_183 rfl (nI_1 i) rfl ?_
                            refine v_goto hX d_M_paginate_186 (tgt := 9) (by decide) ?_
                            exact ih9 p (r + 1) 1 (i + 1) (some (.int (nI j))) (some (.int (((nI j) - (nI i)) + 1))) C (soRw (soPa oL90 (upd (ooPa oL90) i p)) (upd (ooRw oL90) i r)) va42 (by omega) hM42 ⟨⟨hOL90.1.1, hOL90.1.2.1, hOL90.1.2.2.1, hOL90.1.2.2.2.1, (by have q9 := hOL90.1.2.2.2.2; first | exact q9 | omega | (show (ooSm oL90) ≤ 4300; omega))⟩, hOL90.2⟩ ((hfL90.trans hf41).trans hf42) rfl (by show ooLi oL90 = _; omega) (by omega)
                          · refine v_iload hX d_M_paginate_146 rfl ?_
                            refine v_aload_n hX d_M_paginate_148 rfl rfl ?_
                            refine v_mget hX hML90 20 (v := .int (ooRo oL90)) (by decide) fl_M_116 rfl gf_rows d_M_paginate_149 ?_
                            refine v_iload_n hX d_M_paginate_152 rfl rfl ?_
                            refine v_isub hX d_M_paginate_153 ?_
                            refine v_icmp_le hX d_M_paginate_154 (tgt := 162) (by decide) (fun c154 => ?_) (fun c154 => ?_)
                            · refine v_aload_n hX d_M_paginate_162 rfl rfl ?_
                              refine v_mget hX hML90 14 (v := .ref (ob 59)) (by decide) fl_M_41 rfl rfl d_M_paginate_163 ?_
                              refine v_iload hX d_M_paginate_166 rfl ?_
                              refine v_iload_n hX d_M_paginate_168 rfl rfl ?_
                              refine v_mist hX hML90 10 C T (soPa oL90 (upd (ooPa oL90) i p)) (i := i) (by decide) ga_page (by omega) (by decide) qf_page qa_page d_M_paginate_169 (fun va43 hM43 hf43 => ?_)
                              refine v_aload_n hX d_M_paginate_170 rfl rfl ?_
                              refine v_mget hX hM43 15 (v := .ref (ob 60)) (by decide) fl_M_44 rfl rfl d_M_paginate_171 ?_
                              refine v_iload hX d_M_paginate_174 rfl ?_
                              refine v_iload_n hX d_M_paginate_176 rfl rfl ?_
                              refine v_mist hX hM43 11 C T (soRw (soPa oL90 (upd (ooPa oL90) i p)) (upd (ooRw oL90) i r)) (i := i) (by decide) ((na_page 11 (by decide)).trans ga_row) (by omega) (by decide) qf_row qa_row d_M_paginate_177 (fun va44 hM44 hf44 => ?_)
                              refine v_iinc (y := (r + 1)) (lv' := [some (.ref (ob 48)), some (.int p), some (.int (r + 1)), some (.int s), some (.int (nI i)), some (.int (nI j)), some (.int (((nI j) - (nI i)) + 1))]) hX d_M_paginate_178 rfl (by rfl) rfl ?_
                              refine v_iconst (v := 1) hX d_M_paginate_181 (by decide) ?_
                              refine v_istore_n (lv' := [some (.ref (ob 48)), some (.int p), some (.int (r + 1)), some (.int 1), some (.int (nI i)), some (.int (nI j)), some (.int (((nI j) - (nI i)) + 1))]) hX d_M_paginate_182 rfl (Nat.le_of_ble_eq_true rfl) rfl ?_
                              refine v_iinc (y := (nI (i + 1))) (lv' := [some (.ref (ob 48)), some (.int p), some (.int (r + 1)), some (.int 1), some (.int (nI (i + 1))), some (.int (nI j)), some (.int (((nI j) - (nI i)) + 1))]) hX d_M_paginate_183 rfl (nI_1 i) rfl ?_
                              refine v_goto hX d_M_paginate_186 (tgt := 9) (by decide) ?_
                              exact ih9 p (r + 1) 1 (i + 1) (some (.int (nI j))) (some (.int (((nI j) - (nI i)) + 1))) C (soRw (soPa oL90 (upd (ooPa oL90) i p)) (upd (ooRw oL90) i r)) va44 (by omega) hM44 ⟨⟨hOL90.1.1, hOL90.1.2.1, hOL90.1.2.2.1, hOL90.1.2.2.2.1, (by have q9 := hOL90.1.2.2.2.2; first | exact q9 | omega | (show (ooSm oL90) ≤ 4300; omega))⟩, hOL90.2⟩ ((hfL90.trans hf43).trans hf44) rfl (by show ooLi oL90 = _; omega) (by omega)
                            · refine v_iinc (y := (p + 1)) (lv' := [some (.ref (ob 48)), some (.int (p + 1)), some (.int r), some (.int s), some (.int (nI i)), some (.int (nI j)), some (.int (((nI j) - (nI i)) + 1))]) hX d_M_paginate_157 rfl (by rfl) rfl ?_
                              refine v_iconst (v := 0) hX d_M_paginate_160 (by decide) ?_
                              refine v_istore_n (lv' := [some (.ref (ob 48)), some (.int (p + 1)), some (.int 0), some (.int s), some (.int (nI i)), some (.int (nI j)), some (.int (((nI j) - (nI i)) + 1))]) hX d_M_paginate_161 rfl (Nat.le_of_ble_eq_true rfl) rfl ?_
                              refine v_aload_n hX d_M_paginate_162 rfl rfl ?_
                              refine v_mget hX hML90 14 (v := .ref (ob 59)) (by decide) fl_M_41 rfl rfl d_M_paginate_163 ?_
                              refine v_iload hX d_M_paginate_166 rfl ?_
                              refine v_iload_n hX d_M_paginate_168 rfl rfl ?_
                              refine v_mist hX hML90 10 C T (soPa oL90 (upd (ooPa oL90) i (p + 1))) (i := i) (by decide) ga_page (by omega) (by decide) qf_page qa_page d_M_paginate_169 (fun va45 hM45 hf45 => ?_)
                              refine v_aload_n hX d_M_paginate_170 rfl rfl ?_
                              refine v_mget hX hM45 15 (v := .ref (ob 60)) (by decide) fl_M_44 rfl rfl d_M_paginate_171 ?_
                              refine v_iload hX d_M_paginate_174 rfl ?_
                              refine v_iload_n hX d_M_paginate_176 rfl rfl ?_
                              refine v_mist hX hM45 11 C T (soRw (soPa oL90 (upd (ooPa oL90) i (p + 1))) (upd (ooRw oL90) i 0)) (i := i) (by decide) ((na_page 11 (by decide)).trans ga_row) (by omega) (by decide) qf_row qa_row d_M_paginate_177 (fun va46 hM46 hf46 => ?_)
                              refine v_iinc (y := 1) (lv' := [some (.ref (ob 48)), some (.int (p + 1)), some (.int 1), some (.int s), some (.int (nI i)), some (.int (nI j)), some (.int (((nI j) - (nI i)) + 1))]) hX d_M_paginate_178 rfl (by decide) rfl ?_
                              refine v_iconst (v := 1) hX d_M_paginate_181 (by decide) ?_
                              refine v_istore_n (lv' := [some (.ref (ob 48)), some (.int (p + 1)), some (.int 1), some (.int 1), some (.int (nI i)), some (.int (nI j)), some (.int (((nI j) - (nI i)) + 1))]) hX d_M_paginate_182 rfl (Nat.le_of_ble_eq_true rfl) rfl ?_
                              refine v_iinc (y := (nI (i + 1))) (lv' := [some (.ref (ob 48)), some (.int (p + 1)), some (.int 1), some (.int 1), some (.int (nI (i + 1))), some (.int (nI j)), some (.int (((nI j) - (nI i)) + 1))]) hX d_M_paginate_183 rfl (nI_1 i) rfl ?_
                              refine v_goto hX d_M_paginate_186 (tgt := 9) (by decide) ?_
                              exact ih9 (p + 1) 1 1 (i + 1) (some (.int (nI j))) (some (.int (((nI j) - (nI i)) + 1))) C (soRw (soPa oL90 (upd (ooPa oL90) i (p + 1))) (upd (ooRw oL90) i 0)) va46 (by omega) hM46 ⟨⟨hOL90.1.1, hOL90.1.2.1, hOL90.1.2.2.1, hOL90.1.2.2.2.1, (by have q9 := hOL90.1.2.2.2.2; first | exact q9 | omega | (show (ooSm oL90) ≤ 4300; omega))⟩, hOL90.2⟩ ((hfL90.trans hf45).trans hf46) rfl (by show ooLi oL90 = _; omega) (by omega)
                      · have f96 : ¬ (ooLi oL90) ≤ j := fun z => c96 ((nI_leI (a := (ooLi oL90)) (b := j) (by omega) (by omega)).mpr z)
                        refine v_aload_n hX d_M_paginate_99 rfl rfl ?_
                        refine v_mget hX hML90 12 (v := .ref (ob 57)) (by decide) fl_M_35 rfl rfl d_M_paginate_100 ?_
                        refine v_iload hX d_M_paginate_103 rfl ?_
                        refine v_mild hX hML90 8 (i := j) (v := ((ooLe oL90) j)) ga_length (by omega) (by decide) rfl d_M_paginate_105 ?_
                        refine v_if_ne hX d_M_paginate_106 (tgt := 115) (by decide) (fun c106 => ?_) (fun c106 => ?_)
                        · refine v_iload hX d_M_paginate_115 rfl ?_
                          refine v_iload hX d_M_paginate_117 rfl ?_
                          refine v_isub hX d_M_paginate_119 ?_
                          refine v_iload hX d_M_paginate_120 rfl ?_
                          refine v_aload_n hX d_M_paginate_122 rfl rfl ?_
                          refine v_mget hX hML90 18 (v := .int (nI (ooLi oL90))) (by decide) fl_M_113 rfl gf_lines d_M_paginate_123 ?_
                          refine v_icmp_ge hX d_M_paginate_126 (tgt := 133) (by decide) (fun c126 => ?_) (fun c126 => ?_)
                          · have f126 : (ooLi oL90) ≤ j := (nI_leI (a := (ooLi oL90)) (b := j) (by omega) (by omega)).mp c126
                            refine v_iconst (v := 0) hX d_M_paginate_133 (by decide) ?_
                            refine v_iadd hX d_M_paginate_134 ?_
                            refine v_istore (lv' := [some (.ref (ob 48)), some (.int p), some (.int r), some (.int s), some (.int (nI i)), some (.int (nI j)), some (.int (((nI j) - (nI i)) + 0))]) hX d_M_paginate_135 (Nat.le_of_ble_eq_true rfl) rfl ?_
                            refine v_iload hX d_M_paginate_137 rfl ?_
                            refine v_aload_n hX d_M_paginate_139 rfl rfl ?_
                            refine v_mget hX hML90 20 (v := .int (ooRo oL90)) (by decide) fl_M_116 rfl gf_rows d_M_paginate_140 ?_
                            refine v_icmp_gt hX d_M_paginate_143 (tgt := 162) (by decide) (fun c143 => ?_) (fun c143 => ?_)
                            · refine v_aload_n hX d_M_paginate_162 rfl rfl ?_
                              refine v_mget hX hML90 14 (v := .ref (ob 59)) (by decide) fl_M_41 rfl rfl d_M_paginate_163 ?_
                              refine v_iload hX d_M_paginate_166 rfl ?_
                              refine v_iload_n hX d_M_paginate_168 rfl rfl ?_
                              refine v_mist hX hML90 10 C T (soPa oL90 (upd (ooPa oL90) i p)) (i := i) (by decide) ga_page (by omega) (by decide) qf_page qa_page d_M_paginate_169 (fun va47 hM47 hf47 => ?_)
                              refine v_aload_n hX d_M_paginate_170 rfl rfl ?_
                              refine v_mget hX hM47 15 (v := .ref (ob 60)) (by decide) fl_M_44 rfl rfl d_M_paginate_171 ?_
                              refine v_iload hX d_M_paginate_174 rfl ?_
                              refine v_iload_n hX d_M_paginate_176 rfl rfl ?_
                              refine v_mist hX hM47 11 C T (soRw (soPa oL90 (upd (ooPa oL90) i p)) (upd (ooRw oL90) i r)) (i := i) (by decide) ((na_page 11 (by decide)).trans ga_row) (by omega) (by decide) qf_row qa_row d_M_paginate_177 (fun va48 hM48 hf48 => ?_)
                              refine v_iinc (y := (r + 1)) (lv' := [some (.ref (ob 48)), some (.int p), some (.int (r + 1)), some (.int s), some (.int (nI i)), some (.int (nI j)), some (.int (((nI j) - (nI i)) + 0))]) hX d_M_paginate_178 rfl (by rfl) rfl ?_
                              refine v_iconst (v := 1) hX d_M_paginate_181 (by decide) ?_
                              refine v_istore_n (lv' := [some (.ref (ob 48)), some (.int p), some (.int (r + 1)), some (.int 1), some (.int (nI i)), some (.int (nI j)), some (.int (((nI j) - (nI i)) + 0))]) hX d_M_paginate_182 rfl (Nat.le_of_ble_eq_true rfl) rfl ?_
                              refine v_iinc (y := (nI (i + 1))) (lv' := [some (.ref (ob 48)), some (.int p), some (.int (r + 1)), some (.int 1), some (.int (nI (i + 1))), some (.int (nI j)), some (.int (((nI j) - (nI i)) + 0))]) hX d_M_paginate_183 rfl (nI_1 i) rfl ?_
                              refine v_goto hX d_M_paginate_186 (tgt := 9) (by decide) ?_
                              exact ih9 p (r + 1) 1 (i + 1) (some (.int (nI j))) (some (.int (((nI j) - (nI i)) + 0))) C (soRw (soPa oL90 (upd (ooPa oL90) i p)) (upd (ooRw oL90) i r)) va48 (by omega) hM48 ⟨⟨hOL90.1.1, hOL90.1.2.1, hOL90.1.2.2.1, hOL90.1.2.2.2.1, (by have q9 := hOL90.1.2.2.2.2; first | exact q9 | omega | (show (ooSm oL90) ≤ 4300; omega))⟩, hOL90.2⟩ ((hfL90.trans hf47).trans hf48) rfl (by show ooLi oL90 = _; omega) (by omega)
                            · refine v_iload hX d_M_paginate_146 rfl ?_
                              refine v_aload_n hX d_M_paginate_148 rfl rfl ?_
                              refine v_mget hX hML90 20 (v := .int (ooRo oL90)) (by decide) fl_M_116 rfl gf_rows d_M_paginate_149 ?_
                              refine v_iload_n hX d_M_paginate_152 rfl rfl ?_
                              refine v_isub hX d_M_paginate_153 ?_
                              refine v_icmp_le hX d_M_paginate_154 (tgt := 162) (by decide) (fun c154 => ?_) (fun c154 => ?_)
                              · refine v_aload_n hX d_M_paginate_162 rfl rfl ?_
                                refine v_mget hX hML90 14 (v := .ref (ob 59)) (by decide) fl_M_41 rfl rfl d_M_paginate_163 ?_
                                refine v_iload hX d_M_paginate_166 rfl ?_
                                refine v_iload_n hX d_M_paginate_168 rfl rfl ?_
                                refine v_mist hX hML90 10 C T (soPa oL90 (upd (ooPa oL90) i p)) (i := i) (by decide) ga_page (by omega) (by decide) qf_page qa_page d_M_paginate_169 (fun va49 hM49 hf49 => ?_)
                                refine v_aload_n hX d_M_paginate_170 rfl rfl ?_
                                refine v_mget hX hM49 15 (v := .ref (ob 60)) (by decide) fl_M_44 rfl rfl d_M_paginate_171 ?_
                                refine v_iload hX d_M_paginate_174 rfl ?_
                                refine v_iload_n hX d_M_paginate_176 rfl rfl ?_
                                refine v_mist hX hM49 11 C T (soRw (soPa oL90 (upd (ooPa oL90) i p)) (upd (ooRw oL90) i r)) (i := i) (by decide) ((na_page 11 (by decide)).trans ga_row) (by omega) (by decide) qf_row qa_row d_M_paginate_177 (fun va50 hM50 hf50 => ?_)
                                refine v_iinc (y := (r + 1)) (lv' := [some (.ref (ob 48)), some (.int p), some (.int (r + 1)), some (.int s), some (.int (nI i)), some (.int (nI j)), some (.int (((nI j) - (nI i)) + 0))]) hX d_M_paginate_178 rfl (by rfl) rfl ?_
                                refine v_iconst (v := 1) hX d_M_paginate_181 (by decide) ?_
                                refine v_istore_n (lv' := [some (.ref (ob 48)), some (.int p), some (.int (r + 1)), some (.int 1), some (.int (nI i)), some (.int (nI j)), some (.int (((nI j) - (nI i)) + 0))]) hX d_M_paginate_182 rfl (Nat.le_of_ble_eq_true rfl) rfl ?_
                                refine v_iinc (y := (nI (i + 1))) (lv' := [some (.ref (ob 48)), some (.int p), some (.int (r + 1)), some (.int 1), some (.int (nI (i + 1))), some (.int (nI j)), some (.int (((nI j) - (nI i)) + 0))]) hX d_M_paginate_183 rfl (nI_1 i) rfl ?_
                                refine v_goto hX d_M_paginate_186 (tgt := 9) (by decide) ?_
                                exact ih9 p (r + 1) 1 (i + 1) (some (.int (nI j))) (some (.int (((nI j) - (nI i)) + 0))) C (soRw (soPa oL90 (upd (ooPa oL90) i p)) (upd (ooRw oL90) i r)) va50 (by omega) hM50 ⟨⟨hOL90.1.1, hOL90.1.2.1, hOL90.1.2.2.1, hOL90.1.2.2.2.1, (by have q9 := hOL90.1.2.2.2.2; first | exact q9 | omega | (show (ooSm oL90) ≤ 4300; omega))⟩, hOL90.2⟩ ((hfL90.trans hf49).trans hf50) rfl (by show ooLi oL90 = _; omega) (by omega)
                              · refine v_iinc (y := (p + 1)) (lv' := [some (.ref (ob 48)), some (.int (p + 1)), some (.int r), some (.int s), some (.int (nI i)), some (.int (nI j)), some (.int (((nI j) - (nI i)) + 0))]) hX d_M_paginate_157 rfl (by rfl) rfl ?_
                                refine v_iconst (v := 0) hX d_M_paginate_160 (by decide) ?_
                                refine v_istore_n (lv' := [some (.ref (ob 48)), some (.int (p + 1)), some (.int 0), some (.int s), some (.int (nI i)), some (.int (nI j)), some (.int (((nI j) - (nI i)) + 0))]) hX d_M_paginate_161 rfl (Nat.le_of_ble_eq_true rfl) rfl ?_
                                refine v_aload_n hX d_M_paginate_162 rfl rfl ?_
                                refine v_mget hX hML90 14 (v := .ref (ob 59)) (by decide) fl_M_41 rfl rfl d_M_paginate_163 ?_
                                refine v_iload hX d_M_paginate_166 rfl ?_
                                refine v_iload_n hX d_M_paginate_168 rfl rfl ?_
                                refine v_mist hX hML90 10 C T (soPa oL90 (upd (ooPa oL90) i (p + 1))) (i := i) (by decide) ga_page (by omega) (by decide) qf_page qa_page d_M_paginate_169 (fun va51 hM51 hf51 => ?_)
                                refine v_aload_n hX d_M_paginate_170 rfl rfl ?_
                                refine v_mget hX hM51 15 (v := .ref (ob 60)) (by decide) fl_M_44 rfl rfl d_M_paginate_171 ?_
                                refine v_iload hX d_M_paginate_174 rfl ?_
                                refine v_iload_n hX d_M_paginate_176 rfl rfl ?_
                                refine v_mist hX hM51 11 C T (soRw (soPa oL90 (upd (ooPa oL90) i (p + 1))) (upd (ooRw oL90) i 0)) (i := i) (by decide) ((na_page 11 (by decide)).trans ga_row) (by omega) (by decide) qf_row qa_row d_M_paginate_177 (fun va52 hM52 hf52 => ?_)
                                refine v_iinc (y := 1) (lv' := [some (.ref (ob 48)), some (.int (p + 1)), some (.int 1), some (.int s), some (.int (nI i)), some (.int (nI j)), some (.int (((nI j) - (nI i)) + 0))]) hX d_M_paginate_178 rfl (by decide) rfl ?_
                                refine v_iconst (v := 1) hX d_M_paginate_181 (by decide) ?_
                                refine v_istore_n (lv' := [some (.ref (ob 48)), some (.int (p + 1)), some (.int 1), some (.int 1), some (.int (nI i)), some (.int (nI j)), some (.int (((nI j) - (nI i)) + 0))]) hX d_M_paginate_182 rfl (Nat.le_of_ble_eq_true rfl) rfl ?_
                                refine v_iinc (y := (nI (i + 1))) (lv' := [some (.ref (ob 48)), some (.int (p + 1)), some (.int 1), some (.int 1), some (.int (nI (i + 1))), some (.int (nI j)), some (.int (((nI j) - (nI i)) + 0))]) hX d_M_paginate_183 rfl (nI_1 i) rfl ?_
                                refine v_goto hX d_M_paginate_186 (tgt := 9) (by decide) ?_
                                exact ih9 (p + 1) 1 1 (i + 1) (some (.int (nI j))) (some (.int (((nI j) - (nI i)) + 0))) C (soRw (soPa oL90 (upd (ooPa oL90) i (p + 1))) (upd (ooRw oL90) i 0)) va52 (by omega) hM52 ⟨⟨hOL90.1.1, hOL90.1.2.1, hOL90.1.2.2.1, hOL90.1.2.2.2.1, (by have q9 := hOL90.1.2.2.2.2; first | exact q9 | omega | (show (ooSm oL90) ≤ 4300; omega))⟩, hOL90.2⟩ ((hfL90.trans hf51).trans hf52) rfl (by show ooLi oL90 = _; omega) (by omega)
                          · have f126 : ¬ (ooLi oL90) ≤ j := fun z => c126 ((nI_leI (a := (ooLi oL90)) (b := j) (by omega) (by omega)).mpr z)
                            refine v_iconst (v := 1) hX d_M_paginate_129 (by decide) ?_
                            refine v_goto hX d_M_paginate_130 (tgt := 134) (by decide) ?_
                            refine v_iadd hX d_M_paginate_134 ?_
                            refine v_istore (lv' := [some (.ref (ob 48)), some (.int p), some (.int r), some (.int s), some (.int (nI i)), some (.int (nI j)), some (.int (((nI j) - (nI i)) + 1))]) hX d_M_paginate_135 (Nat.le_of_ble_eq_true rfl) rfl ?_
                            refine v_iload hX d_M_paginate_137 rfl ?_
                            refine v_aload_n hX d_M_paginate_139 rfl rfl ?_
                            refine v_mget hX hML90 20 (v := .int (ooRo oL90)) (by decide) fl_M_116 rfl gf_rows d_M_paginate_140 ?_
                            refine v_icmp_gt hX d_M_paginate_143 (tgt := 162) (by decide) (fun c143 => ?_) (fun c143 => ?_)
                            · refine v_aload_n hX d_M_paginate_162 rfl rfl ?_
                              refine v_mget hX hML90 14 (v := .ref (ob 59)) (by decide) fl_M_41 rfl rfl d_M_paginate_163 ?_
                              refine v_iload hX d_M_paginate_166 rfl ?_
                              refine v_iload_n hX d_M_paginate_168 rfl rfl ?_
                              refine v_mist hX hML90 10 C T (soPa oL90 (upd (ooPa oL90) i p)) (i := i) (by decide) ga_page (by omega) (by decide) qf_page qa_page d_M_paginate_169 (fun va53 hM53 hf53 => ?_)
                              refine v_aload_n hX d_M_paginate_170 rfl rfl ?_
                              refine v_mget hX hM53 15 (v := .ref (ob 60)) (by decide) fl_M_44 rfl rfl d_M_paginate_171 ?_
                              refine v_iload hX d_M_paginate_174 rfl ?_
                              refine v_iload_n hX d_M_paginate_176 rfl rfl ?_
                              refine v_mist hX hM53 11 C T (soRw (soPa oL90 (upd (ooPa oL90) i p)) (upd (ooRw oL90) i r)) (i := i) (by decide) ((na_page 11 (by decide)).trans ga_row) (by omega) (by decide) qf_row qa_row d_M_paginate_177 (fun va54 hM54 hf54 => ?_)
                              refine v_iinc (y := (r + 1)) (lv' := [some (.ref (ob 48)), some (.int p), some (.int (r + 1)), some (.int s), some (.int (nI i)), some (.int (nI j)), some (.int (((nI j) - (nI i)) + 1))]) hX d_M_paginate_178 rfl (by rfl) rfl ?_
                              refine v_iconst (v := 1) hX d_M_paginate_181 (by decide) ?_
                              refine v_istore_n (lv' := [some (.ref (ob 48)), some (.int p), some (.int (r + 1)), some (.int 1), some (.int (nI i)), some (.int (nI j)), some (.int (((nI j) - (nI i)) + 1))]) hX d_M_paginate_182 rfl (Nat.le_of_ble_eq_true rfl) rfl ?_
                              refine v_iinc (y := (nI (i + 1))) (lv' := [some (.ref (ob 48)), some (.int p), some (.int (r + 1)), some (.int 1), some (.int (nI (i + 1))), some (.int (nI j)), some (.int (((nI j) - (nI i)) + 1))]) hX d_M_paginate_183 rfl (nI_1 i) rfl ?_
                              refine v_goto hX d_M_paginate_186 (tgt := 9) (by decide) ?_
                              exact ih9 p (r + 1) 1 (i + 1) (some (.int (nI j))) (some (.int (((nI j) - (nI i)) + 1))) C (soRw (soPa oL90 (upd (ooPa oL90) i p)) (upd (ooRw oL90) i r)) va54 (by omega) hM54 ⟨⟨hOL90.1.1, hOL90.1.2.1, hOL90.1.2.2.1, hOL90.1.2.2.2.1, (by have q9 := hOL90.1.2.2.2.2; first | exact q9 | omega | (show (ooSm oL90) ≤ 4300; omega))⟩, hOL90.2⟩ ((hfL90.trans hf53).trans hf54) rfl (by show ooLi oL90 = _; omega) (by omega)
                            · refine v_iload hX d_M_paginate_146 rfl ?_
                              refine v_aload_n hX d_M_paginate_148 rfl rfl ?_
                              refine v_mget hX hML90 20 (v := .int (ooRo oL90)) (by decide) fl_M_116 rfl gf_rows d_M_paginate_149 ?_
                              refine v_iload_n hX d_M_paginate_152 rfl rfl ?_
                              refine v_isub hX d_M_paginate_153 ?_
                              refine v_icmp_le hX d_M_paginate_154 (tgt := 162) (by decide) (fun c154 => ?_) (fun c154 => ?_)
                              · refine v_aload_n hX d_M_paginate_162 rfl rfl ?_
                                refine v_mget hX hML90 14 (v := .ref (ob 59)) (by decide) fl_M_41 rfl rfl d_M_paginate_163 ?_
                                refine v_iload hX d_M_paginate_166 rfl ?_
                                refine v_iload_n hX d_M_paginate_168 rfl rfl ?_
                                refine v_mist hX hML90 10 C T (soPa oL90 (upd (ooPa oL90) i p)) (i := i) (by decide) ga_page (by omega) (by decide) qf_page qa_page d_M_paginate_169 (fun va55 hM55 hf55 => ?_)
                                refine v_aload_n hX d_M_paginate_170 rfl rfl ?_
                                refine v_mget hX hM55 15 (v := .ref (ob 60)) (by decide) fl_M_44 rfl rfl d_M_paginate_171 ?_
                                refine v_iload hX d_M_paginate_174 rfl ?_
                                refine v_iload_n hX d_M_paginate_176 rfl rfl ?_
                                refine v_mist hX hM55 11 C T (soRw (soPa oL90 (upd (ooPa oL90) i p)) (upd (ooRw oL90) i r)) (i := i) (by decide) ((na_page 11 (by decide)).trans ga_row) (by omega) (by decide) qf_row qa_row d_M_paginate_177 (fun va56 hM56 hf56 => ?_)
                                refine v_iinc (y := (r + 1)) (lv' := [some (.ref (ob 48)), some (.int p), some (.int (r + 1)), some (.int s), some (.int (nI i)), some (.int (nI j)), some (.int (((nI j) - (nI i)) + 1))]) hX d_M_paginate_178 rfl (by rfl) rfl ?_
                                refine v_iconst (v := 1) hX d_M_paginate_181 (by decide) ?_
                                refine v_istore_n (lv' := [some (.ref (ob 48)), some (.int p), some (.int (r + 1)), some (.int 1), some (.int (nI i)), some (.int (nI j)), some (.int (((nI j) - (nI i)) + 1))]) hX d_M_paginate_182 rfl (Nat.le_of_ble_eq_true rfl) rfl ?_
                                refine v_iinc (y := (nI (i + 1))) (lv' := [some (.ref (ob 48)), some (.int p), some (.int (r + 1)), some (.int 1), some (.int (nI (i + 1))), some (.int (nI j)), some (.int (((nI j) - (nI i)) + 1))]) hX d_M_paginate_183 rfl (nI_1 i) rfl ?_
                                refine v_goto hX d_M_paginate_186 (tgt := 9) (by decide) ?_
                                exact ih9 p (r + 1) 1 (i + 1) (some (.int (nI j))) (some (.int (((nI j) - (nI i)) + 1))) C (soRw (soPa oL90 (upd (ooPa oL90) i p)) (upd (ooRw oL90) i r)) va56 (by omega) hM56 ⟨⟨hOL90.1.1, hOL90.1.2.1, hOL90.1.2.2.1, hOL90.1.2.2.2.1, (by have q9 := hOL90.1.2.2.2.2; first | exact q9 | omega | (show (ooSm oL90) ≤ 4300; omega))⟩, hOL90.2⟩ ((hfL90.trans hf55).trans hf56) rfl (by show ooLi oL90 = _; omega) (by omega)
                              · refine v_iinc (y := (p + 1)) (lv' := [some (.ref (ob 48)), some (.int (p + 1)), some (.int r), some (.int s), some (.int (nI i)), some (.int (nI j)), some (.int (((nI j) - (nI i)) + 1))]) hX d_M_paginate_157 rfl (by rfl) rfl ?_
                                refine v_iconst (v := 0) hX d_M_paginate_160 (by decide) ?_
                                refine v_istore_n (lv' := [some (.ref (ob 48)), some (.int (p + 1)), some (.int 0), some (.int s), some (.int (nI i)), some (.int (nI j)), some (.int (((nI j) - (nI i)) + 1))]) hX d_M_paginate_161 rfl (Nat.le_of_ble_eq_true rfl) rfl ?_
                                refine v_aload_n hX d_M_paginate_162 rfl rfl ?_
                                refine v_mget hX hML90 14 (v := .ref (ob 59)) (by decide) fl_M_41 rfl rfl d_M_paginate_163 ?_
                                refine v_iload hX d_M_paginate_166 rfl ?_
                                refine v_iload_n hX d_M_paginate_168 rfl rfl ?_
                                refine v_mist hX hML90 10 C T (soPa oL90 (upd (ooPa oL90) i (p + 1))) (i := i) (by decide) ga_page (by omega) (by decide) qf_page qa_page d_M_paginate_169 (fun va57 hM57 hf57 => ?_)
                                refine v_aload_n hX d_M_paginate_170 rfl rfl ?_
                                refine v_mget hX hM57 15 (v := .ref (ob 60)) (by decide) fl_M_44 rfl rfl d_M_paginate_171 ?_
                                refine v_iload hX d_M_paginate_174 rfl ?_
                                refine v_iload_n hX d_M_paginate_176 rfl rfl ?_
                                refine v_mist hX hM57 11 C T (soRw (soPa oL90 (upd (ooPa oL90) i (p + 1))) (upd (ooRw oL90) i 0)) (i := i) (by decide) ((na_page 11 (by decide)).trans ga_row) (by omega) (by decide) qf_row qa_row d_M_paginate_177 (fun va58 hM58 hf58 => ?_)
                                refine v_iinc (y := 1) (lv' := [some (.ref (ob 48)), some (.int (p + 1)), some (.int 1), some (.int s), some (.int (nI i)), some (.int (nI j)), some (.int (((nI j) - (nI i)) + 1))]) hX d_M_paginate_178 rfl (by decide) rfl ?_
                                refine v_iconst (v := 1) hX d_M_paginate_181 (by decide) ?_
                                refine v_istore_n (lv' := [some (.ref (ob 48)), some (.int (p + 1)), some (.int 1), some (.int 1), some (.int (nI i)), some (.int (nI j)), some (.int (((nI j) - (nI i)) + 1))]) hX d_M_paginate_182 rfl (Nat.le_of_ble_eq_true rfl) rfl ?_
                                refine v_iinc (y := (nI (i + 1))) (lv' := [some (.ref (ob 48)), some (.int (p + 1)), some (.int 1), some (.int 1), some (.int (nI (i + 1))), some (.int (nI j)), some (.int (((nI j) - (nI i)) + 1))]) hX d_M_paginate_183 rfl (nI_1 i) rfl ?_
                                refine v_goto hX d_M_paginate_186 (tgt := 9) (by decide) ?_
                                exact ih9 (p + 1) 1 1 (i + 1) (some (.int (nI j))) (some (.int (((nI j) - (nI i)) + 1))) C (soRw (soPa oL90 (upd (ooPa oL90) i (p + 1))) (upd (ooRw oL90) i 0)) va58 (by omega) hM58 ⟨⟨hOL90.1.1, hOL90.1.2.1, hOL90.1.2.2.1, hOL90.1.2.2.2.1, (by have q9 := hOL90.1.2.2.2.2; first | exact q9 | omega | (show (ooSm oL90) ≤ 4300; omega))⟩, hOL90.2⟩ ((hfL90.trans hf57).trans hf58) rfl (by show ooLi oL90 = _; omega) (by omega)
                        · refine v_iinc (y := (nI (j + 1))) (lv' := [some (.ref (ob 48)), some (.int p), some (.int r), some (.int s), some (.int (nI i)), some (.int (nI (j + 1))), o6]) hX d_M_paginate_109 rfl (nI_1 j) rfl ?_
                          refine v_goto hX d_M_paginate_112 (tgt := 90) (by decide) ?_
                          exact ih90 (j + 1) C oL90 vaL90 (by omega) hML90 ⟨hOL90.1, hOL90.2⟩ hfL90 rfl hl90 (by omega)
                  exact loop90 _ (i + hn) C (soRw (soPa oL9 (upd (ooPa oL9) i (-1))) (upd (ooRw oL9) i (-1))) va2 (Nat.lt_succ_self _) hM2 ⟨⟨hOL9.1.1, hOL9.1.2.1, hOL9.1.2.2.1, hOL9.1.2.2.2.1, (by have q9 := hOL9.1.2.2.2.2; first | exact q9 | omega | (show (ooSm oL9) ≤ 4300; omega))⟩, hOL9.2⟩ ((hfL9.trans hf1).trans hf2) rfl (by show ooLi oL9 = _; omega) (by omega)
            · refine v_goto hX d_M_paginate_61 (tgt := 183) (by decide) ?_
              refine v_iinc (y := (nI (i + 1))) (lv' := [some (.ref (ob 48)), some (.int p), some (.int r), some (.int s), some (.int (nI (i + 1))), o5, o6]) hX d_M_paginate_183 rfl (nI_1 i) rfl ?_
              refine v_goto hX d_M_paginate_186 (tgt := 9) (by decide) ?_
              exact ih9 p r s (i + 1) o5 o6 C (soRw (soPa oL9 (upd (ooPa oL9) i (-1))) (upd (ooRw oL9) i (-1))) va2 (by omega) hM2 ⟨⟨hOL9.1.1, hOL9.1.2.1, hOL9.1.2.2.1, hOL9.1.2.2.2.1, (by have q9 := hOL9.1.2.2.2.2; first | exact q9 | omega | (show (ooSm oL9) ≤ 4300; omega))⟩, hOL9.2⟩ ((hfL9.trans hf1).trans hf2) rfl (by show ooLi oL9 = _; omega) (by omega)
        · refine v_iinc (y := (p + 1)) (lv' := [some (.ref (ob 48)), some (.int (p + 1)), some (.int r), some (.int s), some (.int (nI i)), o5, o6]) hX d_M_paginate_42 rfl (by rfl) rfl ?_
          refine v_iconst (v := 0) hX d_M_paginate_45 (by decide) ?_
          refine v_istore_n (lv' := [some (.ref (ob 48)), some (.int (p + 1)), some (.int 0), some (.int s), some (.int (nI i)), o5, o6]) hX d_M_paginate_46 rfl (Nat.le_of_ble_eq_true rfl) rfl ?_
          refine v_iload_n hX d_M_paginate_47 rfl rfl ?_
          refine v_if_ne hX d_M_paginate_48 (tgt := 64) (by decide) (fun c => absurd (by decide) c) (fun _ => ?_)
          refine v_aload_n hX d_M_paginate_51 rfl rfl ?_
          refine v_mget hX hM2 12 (v := .ref (ob 57)) (by decide) fl_M_35 rfl rfl d_M_paginate_52 ?_
          refine v_iload hX d_M_paginate_55 rfl ?_
          refine v_mild hX hM2 8 (i := i) (v := ((ooLe oL9) i)) ((na_row 8 (by decide)).trans ((na_page 8 (by decide)).trans ga_length)) (by omega) (by decide) rfl d_M_paginate_57 ?_
          refine v_if_ne hX d_M_paginate_58 (tgt := 64) (by decide) (fun c58 => ?_) (fun c58 => ?_)
          · refine v_aload_n hX d_M_paginate_64 rfl rfl ?_
            refine v_mget hX hM2 13 (v := .ref (ob 58)) (by decide) fl_M_38 rfl rfl d_M_paginate_65 ?_
            refine v_iload hX d_M_paginate_68 rfl ?_
            refine v_mild hX hM2 9 (i := i) (v := ((ooHe oL9) i)) ((na_row 9 (by decide)).trans ((na_page 9 (by decide)).trans ga_head)) (by omega) (by decide) rfl d_M_paginate_70 ?_
            refine v_if_le hX d_M_paginate_71 (tgt := 162) (by decide) (fun c71 => ?_) (fun c71 => ?_)
            · refine v_aload_n hX d_M_paginate_162 rfl rfl ?_
              refine v_mget hX hM2 14 (v := .ref (ob 59)) (by decide) fl_M_41 rfl rfl d_M_paginate_163 ?_
              refine v_iload hX d_M_paginate_166 rfl ?_
              refine v_iload_n hX d_M_paginate_168 rfl rfl ?_
              refine v_mist hX hM2 10 C T (soPa (soRw (soPa oL9 (upd (ooPa oL9) i (-1))) (upd (ooRw oL9) i (-1))) (upd (upd (ooPa oL9) i (-1)) i (p + 1))) (i := i) (by decide) ((na_row 10 (by decide)).trans ha_page) (by omega) (by decide) qf_page qa_page d_M_paginate_169 (fun va59 hM59 hf59 => ?_)
              refine v_aload_n hX d_M_paginate_170 rfl rfl ?_
              refine v_mget hX hM59 15 (v := .ref (ob 60)) (by decide) fl_M_44 rfl rfl d_M_paginate_171 ?_
              refine v_iload hX d_M_paginate_174 rfl ?_
              refine v_iload_n hX d_M_paginate_176 rfl rfl ?_
              refine v_mist hX hM59 11 C T (soRw (soPa (soRw (soPa oL9 (upd (ooPa oL9) i (-1))) (upd (ooRw oL9) i (-1))) (upd (upd (ooPa oL9) i (-1)) i (p + 1))) (upd (upd (ooRw oL9) i (-1)) i 0)) (i := i) (by decide) ((na_page 11 (by decide)).trans ha_row) (by omega) (by decide) qf_row qa_row d_M_paginate_177 (fun va60 hM60 hf60 => ?_)
              refine v_iinc (y := 1) (lv' := [some (.ref (ob 48)), some (.int (p + 1)), some (.int 1), some (.int s), some (.int (nI i)), o5, o6]) hX d_M_paginate_178 rfl (by decide) rfl ?_
              refine v_iconst (v := 1) hX d_M_paginate_181 (by decide) ?_
              refine v_istore_n (lv' := [some (.ref (ob 48)), some (.int (p + 1)), some (.int 1), some (.int 1), some (.int (nI i)), o5, o6]) hX d_M_paginate_182 rfl (Nat.le_of_ble_eq_true rfl) rfl ?_
              refine v_iinc (y := (nI (i + 1))) (lv' := [some (.ref (ob 48)), some (.int (p + 1)), some (.int 1), some (.int 1), some (.int (nI (i + 1))), o5, o6]) hX d_M_paginate_183 rfl (nI_1 i) rfl ?_
              refine v_goto hX d_M_paginate_186 (tgt := 9) (by decide) ?_
              exact ih9 (p + 1) 1 1 (i + 1) o5 o6 C (soRw (soPa (soRw (soPa oL9 (upd (ooPa oL9) i (-1))) (upd (ooRw oL9) i (-1))) (upd (upd (ooPa oL9) i (-1)) i (p + 1))) (upd (upd (ooRw oL9) i (-1)) i 0)) va60 (by omega) hM60 ⟨⟨hOL9.1.1, hOL9.1.2.1, hOL9.1.2.2.1, hOL9.1.2.2.2.1, (by have q9 := hOL9.1.2.2.2.2; first | exact q9 | omega | (show (ooSm oL9) ≤ 4300; omega))⟩, hOL9.2⟩ ((((hfL9.trans hf1).trans hf2).trans hf59).trans hf60) rfl (by show ooLi oL9 = _; omega) (by omega)
            · refine v_iload_n hX d_M_paginate_74 rfl rfl ?_
              refine v_if_le hX d_M_paginate_75 (tgt := 162) (by decide) (fun _ => ?_) (fun c => absurd (by decide) c)
              refine v_aload_n hX d_M_paginate_162 rfl rfl ?_
              refine v_mget hX hM2 14 (v := .ref (ob 59)) (by decide) fl_M_41 rfl rfl d_M_paginate_163 ?_
              refine v_iload hX d_M_paginate_166 rfl ?_
              refine v_iload_n hX d_M_paginate_168 rfl rfl ?_
              refine v_mist hX hM2 10 C T (soPa (soRw (soPa oL9 (upd (ooPa oL9) i (-1))) (upd (ooRw oL9) i (-1))) (upd (upd (ooPa oL9) i (-1)) i (p + 1))) (i := i) (by decide) ((na_row 10 (by decide)).trans ha_page) (by omega) (by decide) qf_page qa_page d_M_paginate_169 (fun va61 hM61 hf61 => ?_)
              refine v_aload_n hX d_M_paginate_170 rfl rfl ?_
              refine v_mget hX hM61 15 (v := .ref (ob 60)) (by decide) fl_M_44 rfl rfl d_M_paginate_171 ?_
              refine v_iload hX d_M_paginate_174 rfl ?_
              refine v_iload_n hX d_M_paginate_176 rfl rfl ?_
              refine v_mist hX hM61 11 C T (soRw (soPa (soRw (soPa oL9 (upd (ooPa oL9) i (-1))) (upd (ooRw oL9) i (-1))) (upd (upd (ooPa oL9) i (-1)) i (p + 1))) (upd (upd (ooRw oL9) i (-1)) i 0)) (i := i) (by decide) ((na_page 11 (by decide)).trans ha_row) (by omega) (by decide) qf_row qa_row d_M_paginate_177 (fun va62 hM62 hf62 => ?_)
              refine v_iinc (y := 1) (lv' := [some (.ref (ob 48)), some (.int (p + 1)), some (.int 1), some (.int s), some (.int (nI i)), o5, o6]) hX d_M_paginate_178 rfl (by decide) rfl ?_
              refine v_iconst (v := 1) hX d_M_paginate_181 (by decide) ?_
              refine v_istore_n (lv' := [some (.ref (ob 48)), some (.int (p + 1)), some (.int 1), some (.int 1), some (.int (nI i)), o5, o6]) hX d_M_paginate_182 rfl (Nat.le_of_ble_eq_true rfl) rfl ?_
              refine v_iinc (y := (nI (i + 1))) (lv' := [some (.ref (ob 48)), some (.int (p + 1)), some (.int 1), some (.int 1), some (.int (nI (i + 1))), o5, o6]) hX d_M_paginate_183 rfl (nI_1 i) rfl ?_
              refine v_goto hX d_M_paginate_186 (tgt := 9) (by decide) ?_
              exact ih9 (p + 1) 1 1 (i + 1) o5 o6 C (soRw (soPa (soRw (soPa oL9 (upd (ooPa oL9) i (-1))) (upd (ooRw oL9) i (-1))) (upd (upd (ooPa oL9) i (-1)) i (p + 1))) (upd (upd (ooRw oL9) i (-1)) i 0)) va62 (by omega) hM62 ⟨⟨hOL9.1.1, hOL9.1.2.1, hOL9.1.2.2.1, hOL9.1.2.2.2.1, (by have q9 := hOL9.1.2.2.2.2; first | exact q9 | omega | (show (ooSm oL9) ≤ 4300; omega))⟩, hOL9.2⟩ ((((hfL9.trans hf1).trans hf2).trans hf61).trans hf62) rfl (by show ooLi oL9 = _; omega) (by omega)
          · refine v_goto hX d_M_paginate_61 (tgt := 183) (by decide) ?_
            refine v_iinc (y := (nI (i + 1))) (lv' := [some (.ref (ob 48)), some (.int (p + 1)), some (.int 0), some (.int s), some (.int (nI (i + 1))), o5, o6]) hX d_M_paginate_183 rfl (nI_1 i) rfl ?_
            refine v_goto hX d_M_paginate_186 (tgt := 9) (by decide) ?_
            exact ih9 (p + 1) 0 s (i + 1) o5 o6 C (soRw (soPa oL9 (upd (ooPa oL9) i (-1))) (upd (ooRw oL9) i (-1))) va2 (by omega) hM2 ⟨⟨hOL9.1.1, hOL9.1.2.1, hOL9.1.2.2.1, hOL9.1.2.2.2.1, (by have q9 := hOL9.1.2.2.2.2; first | exact q9 | omega | (show (ooSm oL9) ≤ 4300; omega))⟩, hOL9.2⟩ ((hfL9.trans hf1).trans hf2) rfl (by show ooLi oL9 = _; omega) (by omega)
  exact loop9 _ 0 0 0 0 none none C O val (Nat.lt_succ_self _) hM ⟨hO, rfl⟩ frM.rf rfl rfl (Nat.zero_le _)
