set_option maxHeartbeats 4000000 in
set_option maxRecDepth 100000 in
theorem c_M_endLine {l : Launch} {D : va_G} {A : Nat → Prop} {cI cB cZ cJ cN : ClassId} {ob : Nat → Nat} {C : CT} {T : TS} {O : OS} {dom : Nat → Prop} {loc : Nat → Nat} {val : Nat → va_E} (hM : ModI cI cB cZ ob C T O dom loc val) (hO : OI O) (x : Int32) (hc : ooCt O = 0 → zCnt C ≤ 1500) : kM l y_M_endLine (Cond.code y_M_endLine b_M_endLine 4 none :: TT) (rmM 2) D CL (TY cI cB cZ cJ cN) A [.ref (ob 48), .int x] dom loc val (PMo cI cB cZ ob T O dom loc val (fun rv C2 O2 => rv = none ∧ szCnt C (zCnt C + 1) = C2)) := by
  refine kM_of (lv0 := [some (.ref (ob 48)), some (.int x), none, none]) (own := "ProsePagesModel") (by decide) rfl (List.forall_mem_cons.mpr ⟨rfl, List.forall_mem_cons.mpr ⟨rfl, fun _ h => nomatch h⟩⟩) (Nat.le_of_ble_eq_true rfl) rfl (Nat.le_of_ble_eq_true rfl) (fun X hl hX hE hin0 => ?_)
  have loop0 : ∀ (m9 : Nat)  (CL0 : CT) (oL0 : OS) (vaL0 : Nat → va_E), ooSm oL0 < m9 → ModI cI cB cZ ob CL0 T oL0 dom loc vaL0 → (OI oL0 ∧ ooCt oL0 = ooCt O) → frM val vaL0 → (C = CL0) → V X D CL A dom loc vaL0 0 0 0 [some (.ref (ob 48)), some (.int x), none, none] [] := by
    intro m9
    induction m9 with
    | zero => intro  CL0 oL0 vaL0 hk0 hML0 hOL0 hfL0 hC0; exact absurd hk0 (Nat.not_lt_zero _)
    | succ m9 ih0 =>
      intro  CL0 oL0 vaL0 hk0 hML0 hOL0 hfL0 hC0
      subst hC0
      have hsm := hOL0.1.2.2.2.2
      refine v_aload_n hX d_M_endLine_0 rfl rfl ?_
      refine v_mget hX hML0 40 (v := .int (nI (ooSm oL0))) (by decide) fl_M_145 rfl gf_shownMany d_M_endLine_1 ?_
      refine v_if_le hX d_M_endLine_4 (tgt := 36) (by decide) (fun c4 => ?_) (fun c4 => ?_)
      · have f4 : (ooSm oL0) ≤ 0 := (nI_leI (a := (ooSm oL0)) (b := 0) (by omega) (by omega)).mp c4
        refine v_aload_n hX d_M_endLine_36 rfl rfl ?_
        refine v_mget hX hML0 23 (v := .int (nI (zCnt C))) (by decide) fl_M_159 rfl gf_counted d_M_endLine_37 ?_
        refine v_istore_n (lv' := [some (.ref (ob 48)), some (.int x), some (.int (nI (zCnt C))), none]) hX d_M_endLine_40 rfl (Nat.le_of_ble_eq_true rfl) rfl ?_
        refine v_aload_n hX d_M_endLine_41 rfl rfl ?_
        refine v_dup hX d_M_endLine_42 rfl ?_
        refine v_mget hX hML0 23 (v := .int (nI (zCnt C))) (by decide) fl_M_159 rfl gf_counted d_M_endLine_43 ?_
        refine v_iconst (v := 1) hX d_M_endLine_46 (by decide) ?_
        refine v_iaddE (v := nI ((zCnt C) + 1)) hX d_M_endLine_47 (nI_add (zCnt C) 1) ?_
        refine v_mput hX hML0 23 (szCnt C ((zCnt C) + 1)) T oL0 (by decide) fl_M_159 rfl rfl rfl rfl pf_counted pa_counted d_M_endLine_48 (fun va1 hM1 hf1 => ?_)
        refine v_aload_n hX d_M_endLine_51 rfl rfl ?_
        refine v_mget hX hM1 44 (v := .int (ooCt oL0)) (by decide) fl_M_162 rfl ((nf_counted 44 (by decide)).trans gf_counts) d_M_endLine_52 ?_
        refine v_if_eq hX d_M_endLine_55 (tgt := 59) (by decide) (fun c55 => ?_) (fun c55 => ?_)
        · have hb : zCnt C ≤ 1500 := hc (hOL0.2.symm.trans c55)
          refine v_aload_n hX d_M_endLine_59 rfl rfl ?_
          refine v_mget hX hM1 12 (v := .ref (ob 57)) (by decide) fl_M_35 rfl rfl d_M_endLine_60 ?_
          refine v_iload_n hX d_M_endLine_63 rfl rfl ?_
          refine v_aload_n hX d_M_endLine_64 rfl rfl ?_
          refine v_mget hX hM1 40 (v := .int (nI (ooSm oL0))) (by decide) fl_M_145 rfl ((nf_counted 40 (by decide)).trans gf_shownMany) d_M_endLine_65 ?_
          refine v_mist hX hM1 8 (szCnt C ((zCnt C) + 1)) T (soLe oL0 (upd (ooLe oL0) (zCnt C) (nI (ooSm oL0)))) (i := (zCnt C)) (by decide) ((na_counted 8).trans ga_length) (by omega) (by decide) qf_length qa_length d_M_endLine_68 (fun va2 hM2 hf2 => ?_)
          refine v_aload_n hX d_M_endLine_69 rfl rfl ?_
          refine v_mget hX hM2 13 (v := .ref (ob 58)) (by decide) fl_M_38 rfl rfl d_M_endLine_70 ?_
          refine v_iload_n hX d_M_endLine_73 rfl rfl ?_
          refine v_iconst (v := 0) hX d_M_endLine_74 (by decide) ?_
          refine v_mist hX hM2 9 (szCnt C ((zCnt C) + 1)) T (soHe (soLe oL0 (upd (ooLe oL0) (zCnt C) (nI (ooSm oL0)))) (upd (ooHe oL0) (zCnt C) 0)) (i := (zCnt C)) (by decide) ((na_counted 9).trans ((na_length 9 (by decide)).trans ga_head)) (by omega) (by decide) qf_head qa_head d_M_endLine_75 (fun va3 hM3 hf3 => ?_)
          refine v_aload_n hX d_M_endLine_76 rfl rfl ?_
          refine v_mget hX hM3 16 (v := .ref (ob 61)) (by decide) fl_M_47 rfl rfl d_M_endLine_77 ?_
          refine v_iload_n hX d_M_endLine_80 rfl rfl ?_
          refine v_iload_n hX d_M_endLine_81 rfl rfl ?_
          refine v_mzst hX hM3 12 (szCnt C ((zCnt C) + 1)) T (soBe (soHe (soLe oL0 (upd (ooLe oL0) (zCnt C) (nI (ooSm oL0)))) (upd (ooHe oL0) (zCnt C) 0)) (upd (ooBe oL0) (zCnt C) (vp_nar .boolean x))) (i := (zCnt C)) (by decide) ((na_counted 12).trans ((na_head 12 (by decide)).trans ((na_length 12 (by decide)).trans ga_between))) (by omega) (by decide) qf_between qa_between d_M_endLine_82 (fun va4 hM4 hf4 => ?_)
          refine v_iconst (v := 0) hX d_M_endLine_83 (by decide) ?_
          refine v_istore_n (lv' := [some (.ref (ob 48)), some (.int x), some (.int (nI (zCnt C))), some (.int 0)]) hX d_M_endLine_84 rfl (Nat.le_of_ble_eq_true rfl) rfl ?_
          have loop85 : ∀ (m9 : Nat) (k : Nat) (CL85 : CT) (oL85 : OS) (vaL85 : Nat → va_E), 60 - k < m9 → ModI cI cB cZ ob CL85 T oL85 dom loc vaL85 → (OI oL85 ∧ ooCt oL85 = ooCt O) → frM val vaL85 → (szCnt C (zCnt C + 1) = CL85) → (k ≤ 60) → V X D CL A dom loc vaL85 0 0 85 [some (.ref (ob 48)), some (.int x), some (.int (nI (zCnt C))), some (.int (nI k))] [] := by
            intro m9
            induction m9 with
            | zero => intro k CL85 oL85 vaL85 hk85 hML85 hOL85 hfL85 hC85 hk2; exact absurd hk85 (Nat.not_lt_zero _)
            | succ m9 ih85 =>
              intro k CL85 oL85 vaL85 hk85 hML85 hOL85 hfL85 hC85 hk2
              subst hC85
              have hsm2 := hOL85.1.2.2.2.2
              refine v_iload_n hX d_M_endLine_85 rfl rfl ?_
              refine v_bipush (v := 60) hX d_M_endLine_86 (by decide) ?_
              refine v_icmp_ge hX d_M_endLine_88 (tgt := 128) (by decide) (fun c88 => ?_) (fun c88 => ?_)
              · have f88 : 60 ≤ k := (nI_leI (a := 60) (b := k) (by omega) (by omega)).mp c88
                exact v_vret hX hE d_M_endLine_128 (Nat.le_of_ble_eq_true rfl) (Nat.le_of_ble_eq_true rfl) ⟨rfl, rfl, rfl, rfl, (szCnt C (zCnt C + 1)), oL85, ⟨rfl, rfl⟩, hML85, ⟨hOL85.1, hOL85.2⟩, hfL85⟩
              · have f88 : ¬ 60 ≤ k := fun z => c88 ((nI_leI (a := 60) (b := k) (by omega) (by omega)).mpr z)
                refine v_aload_n hX d_M_endLine_91 rfl rfl ?_
                refine v_mget hX hML85 17 (v := .ref (ob 62)) (by decide) fl_M_52 rfl rfl d_M_endLine_92 ?_
                refine v_bipush (v := 60) hX d_M_endLine_95 (by decide) ?_
                refine v_iload_n hX d_M_endLine_97 rfl rfl ?_
                refine v_imulE (v := nI (60 * (zCnt C))) hX d_M_endLine_98 (nI_mul 60 (zCnt C)) ?_
                refine v_iload_n hX d_M_endLine_99 rfl rfl ?_
                refine v_iaddE (v := nI ((60 * (zCnt C)) + k)) hX d_M_endLine_100 (nI_add (60 * (zCnt C)) k) ?_
                refine v_iload_n hX d_M_endLine_101 rfl rfl ?_
                refine v_aload_n hX d_M_endLine_102 rfl rfl ?_
                refine v_mget hX hML85 40 (v := .int (nI (ooSm oL85))) (by decide) fl_M_145 rfl gf_shownMany d_M_endLine_103 ?_
                refine v_icmp_ge hX d_M_endLine_106 (tgt := 118) (by decide) (fun c106 => ?_) (fun c106 => ?_)
                · have f106 : (ooSm oL85) ≤ k := (nI_leI (a := (ooSm oL85)) (b := k) (by omega) (by omega)).mp c106
                  refine v_bipush (v := 32) hX d_M_endLine_118 (by decide) ?_
                  refine v_i2b hX d_M_endLine_120 rfl ?_
                  refine v_mbst hX hML85 13 (szCnt C (zCnt C + 1)) T (soSe oL85 (upd (ooSe oL85) ((60 * (zCnt C)) + k) (vp_nar .byte ((32 : Int32).toInt8.toInt32)))) (i := ((60 * (zCnt C)) + k)) (by decide) ga_seen (by omega) (by decide) qf_seen qa_seen d_M_endLine_121 (fun va5 hM5 hf5 => ?_)
                  refine v_iinc (y := (nI (k + 1))) (lv' := [some (.ref (ob 48)), some (.int x), some (.int (nI (zCnt C))), some (.int (nI (k + 1)))]) hX d_M_endLine_122 rfl (nI_1 k) rfl ?_
                  refine v_goto hX d_M_endLine_125 (tgt := 85) (by decide) ?_
                  exact ih85 (k + 1) (szCnt C (zCnt C + 1)) (soSe oL85 (upd (ooSe oL85) ((60 * (zCnt C)) + k) (vp_nar .byte ((32 : Int32).toInt8.toInt32)))) va5 (by omega) hM5 ⟨⟨hOL85.1.1, hOL85.1.2.1, hOL85.1.2.2.1, hOL85.1.2.2.2.1, (by have q9 := hOL85.1.2.2.2.2; first | omega | (show (ooSm oL85) ≤ 4300; omega))⟩, hOL85.2⟩ (hfL85.trans hf5) rfl (by omega)
                · have f106 : ¬ (ooSm oL85) ≤ k := fun z => c106 ((nI_leI (a := (ooSm oL85)) (b := k) (by omega) (by omega)).mpr z)
                  refine v_aload_n hX d_M_endLine_109 rfl rfl ?_
                  refine v_mget hX hML85 37 (v := .ref (ob 75)) (by decide) fl_M_91 rfl rfl d_M_endLine_110 ?_
                  refine v_iload_n hX d_M_endLine_113 rfl rfl ?_
                  refine v_mild hX hML85 26 (i := k) (v := ((ooSh oL85) k)) ga_shown (by omega) (by decide) rfl d_M_endLine_114 ?_
                  refine v_goto hX d_M_endLine_115 (tgt := 120) (by decide) ?_
                  refine v_i2b hX d_M_endLine_120 rfl ?_
                  refine v_mbst hX hML85 13 (szCnt C (zCnt C + 1)) T (soSe oL85 (upd (ooSe oL85) ((60 * (zCnt C)) + k) (vp_nar .byte ((((ooSh oL85) k) : Int32).toInt8.toInt32)))) (i := ((60 * (zCnt C)) + k)) (by decide) ga_seen (by omega) (by decide) qf_seen qa_seen d_M_endLine_121 (fun va6 hM6 hf6 => ?_)
                  refine v_iinc (y := (nI (k + 1))) (lv' := [some (.ref (ob 48)), some (.int x), some (.int (nI (zCnt C))), some (.int (nI (k + 1)))]) hX d_M_endLine_122 rfl (nI_1 k) rfl ?_
                  refine v_goto hX d_M_endLine_125 (tgt := 85) (by decide) ?_
                  exact ih85 (k + 1) (szCnt C (zCnt C + 1)) (soSe oL85 (upd (ooSe oL85) ((60 * (zCnt C)) + k) (vp_nar .byte ((((ooSh oL85) k) : Int32).toInt8.toInt32)))) va6 (by omega) hM6 ⟨⟨hOL85.1.1, hOL85.1.2.1, hOL85.1.2.2.1, hOL85.1.2.2.2.1, (by have q9 := hOL85.1.2.2.2.2; first | omega | (show (ooSm oL85) ≤ 4300; omega))⟩, hOL85.2⟩ (hfL85.trans hf6) rfl (by omega)
          exact loop85 _ 0 (szCnt C ((zCnt C) + 1)) (soBe (soHe (soLe oL0 (upd (ooLe oL0) (zCnt C) (nI (ooSm oL0)))) (upd (ooHe oL0) (zCnt C) 0)) (upd (ooBe oL0) (zCnt C) (vp_nar .boolean x))) va4 (Nat.lt_succ_self _) hM4 ⟨⟨hOL0.1.1, (OI_he hOL0.1.2.1 (by decide)), hOL0.1.2.2.1, hOL0.1.2.2.2.1, (by have q9 := hOL0.1.2.2.2.2; first | omega | (show (ooSm oL0) ≤ 4300; omega))⟩, hOL0.2⟩ ((((hfL0.trans hf1).trans hf2).trans hf3).trans hf4) rfl (Nat.zero_le _)
        · exact v_vret hX hE d_M_endLine_58 (Nat.le_of_ble_eq_true rfl) (Nat.le_of_ble_eq_true rfl) ⟨rfl, rfl, rfl, rfl, (szCnt C ((zCnt C) + 1)), oL0, ⟨rfl, rfl⟩, hM1, ⟨hOL0.1, hOL0.2⟩, (hfL0.trans hf1)⟩
      · have f4 : ¬ (ooSm oL0) ≤ 0 := fun z => c4 ((nI_leI (a := (ooSm oL0)) (b := 0) (by omega) (by omega)).mpr z)
        refine v_aload_n hX d_M_endLine_7 rfl rfl ?_
        refine v_mget hX hML0 37 (v := .ref (ob 75)) (by decide) fl_M_91 rfl rfl d_M_endLine_8 ?_
        refine v_aload_n hX d_M_endLine_11 rfl rfl ?_
        refine v_mget hX hML0 40 (v := .int (nI (ooSm oL0))) (by decide) fl_M_145 rfl gf_shownMany d_M_endLine_12 ?_
        refine v_iconst (v := 1) hX d_M_endLine_15 (by decide) ?_
        refine v_isubE (v := nI ((ooSm oL0) - 1)) hX d_M_endLine_16 (nI_sub (a := (ooSm oL0)) (b := 1) (by omega)) ?_
        refine v_mild hX hML0 26 (i := ((ooSm oL0) - 1)) (v := ((ooSh oL0) ((ooSm oL0) - 1))) ga_shown (by omega) (by decide) rfl d_M_endLine_17 ?_
        refine v_bipush (v := 32) hX d_M_endLine_18 (by decide) ?_
        refine v_icmp_ne hX d_M_endLine_20 (tgt := 36) (by decide) (fun c20 => ?_) (fun c20 => ?_)
        · refine v_aload_n hX d_M_endLine_36 rfl rfl ?_
          refine v_mget hX hML0 23 (v := .int (nI (zCnt C))) (by decide) fl_M_159 rfl gf_counted d_M_endLine_37 ?_
          refine v_istore_n (lv' := [some (.ref (ob 48)), some (.int x), some (.int (nI (zCnt C))), none]) hX d_M_endLine_40 rfl (Nat.le_of_ble_eq_true rfl) rfl ?_
          refine v_aload_n hX d_M_endLine_41 rfl rfl ?_
          refine v_dup hX d_M_endLine_42 rfl ?_
          refine v_mget hX hML0 23 (v := .int (nI (zCnt C))) (by decide) fl_M_159 rfl gf_counted d_M_endLine_43 ?_
          refine v_iconst (v := 1) hX d_M_endLine_46 (by decide) ?_
          refine v_iaddE (v := nI ((zCnt C) + 1)) hX d_M_endLine_47 (nI_add (zCnt C) 1) ?_
          refine v_mput hX hML0 23 (szCnt C ((zCnt C) + 1)) T oL0 (by decide) fl_M_159 rfl rfl rfl rfl pf_counted pa_counted d_M_endLine_48 (fun va7 hM7 hf7 => ?_)
          refine v_aload_n hX d_M_endLine_51 rfl rfl ?_
          refine v_mget hX hM7 44 (v := .int (ooCt oL0)) (by decide) fl_M_162 rfl ((nf_counted 44 (by decide)).trans gf_counts) d_M_endLine_52 ?_
          refine v_if_eq hX d_M_endLine_55 (tgt := 59) (by decide) (fun c55 => ?_) (fun c55 => ?_)
          · have hb : zCnt C ≤ 1500 := hc (hOL0.2.symm.trans c55)
            refine v_aload_n hX d_M_endLine_59 rfl rfl ?_
            refine v_mget hX hM7 12 (v := .ref (ob 57)) (by decide) fl_M_35 rfl rfl d_M_endLine_60 ?_
            refine v_iload_n hX d_M_endLine_63 rfl rfl ?_
            refine v_aload_n hX d_M_endLine_64 rfl rfl ?_
            refine v_mget hX hM7 40 (v := .int (nI (ooSm oL0))) (by decide) fl_M_145 rfl ((nf_counted 40 (by decide)).trans gf_shownMany) d_M_endLine_65 ?_
            refine v_mist hX hM7 8 (szCnt C ((zCnt C) + 1)) T (soLe oL0 (upd (ooLe oL0) (zCnt C) (nI (ooSm oL0)))) (i := (zCnt C)) (by decide) ((na_counted 8).trans ga_length) (by omega) (by decide) qf_length qa_length d_M_endLine_68 (fun va8 hM8 hf8 => ?_)
            refine v_aload_n hX d_M_endLine_69 rfl rfl ?_
            refine v_mget hX hM8 13 (v := .ref (ob 58)) (by decide) fl_M_38 rfl rfl d_M_endLine_70 ?_
            refine v_iload_n hX d_M_endLine_73 rfl rfl ?_
            refine v_iconst (v := 0) hX d_M_endLine_74 (by decide) ?_
            refine v_mist hX hM8 9 (szCnt C ((zCnt C) + 1)) T (soHe (soLe oL0 (upd (ooLe oL0) (zCnt C) (nI (ooSm oL0)))) (upd (ooHe oL0) (zCnt C) 0)) (i := (zCnt C)) (by decide) ((na_counted 9).trans ((na_length 9 (by decide)).trans ga_head)) (by omega) (by decide) qf_head qa_head d_M_endLine_75 (fun va9 hM9 hf9 => ?_)
            refine v_aload_n hX d_M_endLine_76 rfl rfl ?_
            refine v_mget hX hM9 16 (v := .ref (ob 61)) (by decide) fl_M_47 rfl rfl d_M_endLine_77 ?_
            refine v_iload_n hX d_M_endLine_80 rfl rfl ?_
            refine v_iload_n hX d_M_endLine_81 rfl rfl ?_
            refine v_mzst hX hM9 12 (szCnt C ((zCnt C) + 1)) T (soBe (soHe (soLe oL0 (upd (ooLe oL0) (zCnt C) (nI (ooSm oL0)))) (upd (ooHe oL0) (zCnt C) 0)) (upd (ooBe oL0) (zCnt C) (vp_nar .boolean x))) (i := (zCnt C)) (by decide) ((na_counted 12).trans ((na_head 12 (by decide)).trans ((na_length 12 (by decide)).trans ga_between))) (by omega) (by decide) qf_between qa_between d_M_endLine_82 (fun va10 hM10 hf10 => ?_)
            refine v_iconst (v := 0) hX d_M_endLine_83 (by decide) ?_
            refine v_istore_n (lv' := [some (.ref (ob 48)), some (.int x), some (.int (nI (zCnt C))), some (.int 0)]) hX d_M_endLine_84 rfl (Nat.le_of_ble_eq_true rfl) rfl ?_
            have loop85 : ∀ (m9 : Nat) (k : Nat) (CL85 : CT) (oL85 : OS) (vaL85 : Nat → va_E), 60 - k < m9 → ModI cI cB cZ ob CL85 T oL85 dom loc vaL85 → (OI oL85 ∧ ooCt oL85 = ooCt O) → frM val vaL85 → (szCnt C (zCnt C + 1) = CL85) → (k ≤ 60) → V X D CL A dom loc vaL85 0 0 85 [some (.ref (ob 48)), some (.int x), some (.int (nI (zCnt C))), some (.int (nI k))] [] := by
              intro m9
              induction m9 with
              | zero => intro k CL85 oL85 vaL85 hk85 hML85 hOL85 hfL85 hC85 hk2; exact absurd hk85 (Nat.not_lt_zero _)
              | succ m9 ih85 =>
                intro k CL85 oL85 vaL85 hk85 hML85 hOL85 hfL85 hC85 hk2
                subst hC85
                have hsm2 := hOL85.1.2.2.2.2
                refine v_iload_n hX d_M_endLine_85 rfl rfl ?_
                refine v_bipush (v := 60) hX d_M_endLine_86 (by decide) ?_
                refine v_icmp_ge hX d_M_endLine_88 (tgt := 128) (by decide) (fun c88 => ?_) (fun c88 => ?_)
                · have f88 : 60 ≤ k := (nI_leI (a := 60) (b := k) (by omega) (by omega)).mp c88
                  exact v_vret hX hE d_M_endLine_128 (Nat.le_of_ble_eq_true rfl) (Nat.le_of_ble_eq_true rfl) ⟨rfl, rfl, rfl, rfl, (szCnt C (zCnt C + 1)), oL85, ⟨rfl, rfl⟩, hML85, ⟨hOL85.1, hOL85.2⟩, hfL85⟩
                · have f88 : ¬ 60 ≤ k := fun z => c88 ((nI_leI (a := 60) (b := k) (by omega) (by omega)).mpr z)
                  refine v_aload_n hX d_M_endLine_91 rfl rfl ?_
                  refine v_mget hX hML85 17 (v := .ref (ob 62)) (by decide) fl_M_52 rfl rfl d_M_endLine_92 ?_
                  refine v_bipush (v := 60) hX d_M_endLine_95 (by decide) ?_
                  refine v_iload_n hX d_M_endLine_97 rfl rfl ?_
                  refine v_imulE (v := nI (60 * (zCnt C))) hX d_M_endLine_98 (nI_mul 60 (zCnt C)) ?_
                  refine v_iload_n hX d_M_endLine_99 rfl rfl ?_
                  refine v_iaddE (v := nI ((60 * (zCnt C)) + k)) hX d_M_endLine_100 (nI_add (60 * (zCnt C)) k) ?_
                  refine v_iload_n hX d_M_endLine_101 rfl rfl ?_
                  refine v_aload_n hX d_M_endLine_102 rfl rfl ?_
                  refine v_mget hX hML85 40 (v := .int (nI (ooSm oL85))) (by decide) fl_M_145 rfl gf_shownMany d_M_endLine_103 ?_
                  refine v_icmp_ge hX d_M_endLine_106 (tgt := 118) (by decide) (fun c106 => ?_) (fun c106 => ?_)
                  · have f106 : (ooSm oL85) ≤ k := (nI_leI (a := (ooSm oL85)) (b := k) (by omega) (by omega)).mp c106
                    refine v_bipush (v := 32) hX d_M_endLine_118 (by decide) ?_
                    refine v_i2b hX d_M_endLine_120 rfl ?_
                    refine v_mbst hX hML85 13 (szCnt C (zCnt C + 1)) T (soSe oL85 (upd (ooSe oL85) ((60 * (zCnt C)) + k) (vp_nar .byte ((32 : Int32).toInt8.toInt32)))) (i := ((60 * (zCnt C)) + k)) (by decide) ga_seen (by omega) (by decide) qf_seen qa_seen d_M_endLine_121 (fun va11 hM11 hf11 => ?_)
                    refine v_iinc (y := (nI (k + 1))) (lv' := [some (.ref (ob 48)), some (.int x), some (.int (nI (zCnt C))), some (.int (nI (k + 1)))]) hX d_M_endLine_122 rfl (nI_1 k) rfl ?_
                    refine v_goto hX d_M_endLine_125 (tgt := 85) (by decide) ?_
                    exact ih85 (k + 1) (szCnt C (zCnt C + 1)) (soSe oL85 (upd (ooSe oL85) ((60 * (zCnt C)) + k) (vp_nar .byte ((32 : Int32).toInt8.toInt32)))) va11 (by omega) hM11 ⟨⟨hOL85.1.1, hOL85.1.2.1, hOL85.1.2.2.1, hOL85.1.2.2.2.1, (by have q9 := hOL85.1.2.2.2.2; first | omega | (show (ooSm oL85) ≤ 4300; omega))⟩, hOL85.2⟩ (hfL85.trans hf11) rfl (by omega)
                  · have f106 : ¬ (ooSm oL85) ≤ k := fun z => c106 ((nI_leI (a := (ooSm oL85)) (b := k) (by omega) (by omega)).mpr z)
                    refine v_aload_n hX d_M_endLine_109 rfl rfl ?_
                    refine v_mget hX hML85 37 (v := .ref (ob 75)) (by decide) fl_M_91 rfl rfl d_M_endLine_110 ?_
                    refine v_iload_n hX d_M_endLine_113 rfl rfl ?_
                    refine v_mild hX hML85 26 (i := k) (v := ((ooSh oL85) k)) ga_shown (by omega) (by decide) rfl d_M_endLine_114 ?_
                    refine v_goto hX d_M_endLine_115 (tgt := 120) (by decide) ?_
                    refine v_i2b hX d_M_endLine_120 rfl ?_
                    refine v_mbst hX hML85 13 (szCnt C (zCnt C + 1)) T (soSe oL85 (upd (ooSe oL85) ((60 * (zCnt C)) + k) (vp_nar .byte ((((ooSh oL85) k) : Int32).toInt8.toInt32)))) (i := ((60 * (zCnt C)) + k)) (by decide) ga_seen (by omega) (by decide) qf_seen qa_seen d_M_endLine_121 (fun va12 hM12 hf12 => ?_)
                    refine v_iinc (y := (nI (k + 1))) (lv' := [some (.ref (ob 48)), some (.int x), some (.int (nI (zCnt C))), some (.int (nI (k + 1)))]) hX d_M_endLine_122 rfl (nI_1 k) rfl ?_
                    refine v_goto hX d_M_endLine_125 (tgt := 85) (by decide) ?_
                    exact ih85 (k + 1) (szCnt C (zCnt C + 1)) (soSe oL85 (upd (ooSe oL85) ((60 * (zCnt C)) + k) (vp_nar .byte ((((ooSh oL85) k) : Int32).toInt8.toInt32)))) va12 (by omega) hM12 ⟨⟨hOL85.1.1, hOL85.1.2.1, hOL85.1.2.2.1, hOL85.1.2.2.2.1, (by have q9 := hOL85.1.2.2.2.2; first | omega | (show (ooSm oL85) ≤ 4300; omega))⟩, hOL85.2⟩ (hfL85.trans hf12) rfl (by omega)
            exact loop85 _ 0 (szCnt C ((zCnt C) + 1)) (soBe (soHe (soLe oL0 (upd (ooLe oL0) (zCnt C) (nI (ooSm oL0)))) (upd (ooHe oL0) (zCnt C) 0)) (upd (ooBe oL0) (zCnt C) (vp_nar .boolean x))) va10 (Nat.lt_succ_self _) hM10 ⟨⟨hOL0.1.1, (OI_he hOL0.1.2.1 (by decide)), hOL0.1.2.2.1, hOL0.1.2.2.2.1, (by have q9 := hOL0.1.2.2.2.2; first | omega | (show (ooSm oL0) ≤ 4300; omega))⟩, hOL0.2⟩ ((((hfL0.trans hf7).trans hf8).trans hf9).trans hf10) rfl (Nat.zero_le _)
          · exact v_vret hX hE d_M_endLine_58 (Nat.le_of_ble_eq_true rfl) (Nat.le_of_ble_eq_true rfl) ⟨rfl, rfl, rfl, rfl, (szCnt C ((zCnt C) + 1)), oL0, ⟨rfl, rfl⟩, hM7, ⟨hOL0.1, hOL0.2⟩, (hfL0.trans hf7)⟩
        · refine v_aload_n hX d_M_endLine_23 rfl rfl ?_
          refine v_dup hX d_M_endLine_24 rfl ?_
          refine v_mget hX hML0 40 (v := .int (nI (ooSm oL0))) (by decide) fl_M_145 rfl gf_shownMany d_M_endLine_25 ?_
          refine v_iconst (v := 1) hX d_M_endLine_28 (by decide) ?_
          refine v_isubE (v := nI ((ooSm oL0) - 1)) hX d_M_endLine_29 (nI_sub (a := (ooSm oL0)) (b := 1) (by omega)) ?_
          refine v_mput hX hML0 40 C T (soSm oL0 ((ooSm oL0) - 1)) (by decide) fl_M_145 rfl rfl rfl rfl pf_shownMany pa_shownMany d_M_endLine_30 (fun va13 hM13 hf13 => ?_)
          refine v_goto hX d_M_endLine_33 (tgt := 0) (by decide) ?_
          exact ih0  C (soSm oL0 ((ooSm oL0) - 1)) va13 (show ((ooSm oL0) - 1) < m9 by omega) hM13 ⟨⟨hOL0.1.1, hOL0.1.2.1, hOL0.1.2.2.1, hOL0.1.2.2.2.1, (by have q9 := hOL0.1.2.2.2.2; first | omega | (show ((ooSm oL0) - 1) ≤ 4300; omega))⟩, hOL0.2⟩ (hfL0.trans hf13) rfl
  exact loop0 _  C O val (Nat.lt_succ_self _) hM ⟨hO, rfl⟩ frM.rf rfl
