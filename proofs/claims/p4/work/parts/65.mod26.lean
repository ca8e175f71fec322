set_option maxHeartbeats 4000000 in
set_option maxRecDepth 100000 in
theorem c_M_pages {l : Launch} {D : va_G} {A : Nat → Prop} {cI cB cZ cJ cN : ClassId} {ob : Nat → Nat} {C : CT} {T : TS} {O : OS} {dom : Nat → Prop} {loc : Nat → Nat} {val : Nat → va_E} (hM : ModI cI cB cZ ob C T O dom loc val) (hO : OI O) (r c : Int32) (hT : TrI T) (hX9 : ttCo T ≤ 60) : kM l y_M_pages (Cond.code y_M_pages b_M_pages 6 (some FieldType.int) :: TT) (rmM 10) D CL (TY cI cB cZ cJ cN) A [.ref (ob 48), .int r, .int c] dom loc val (fun rv d lo va kc ns => dom = d ∧ loc = lo ∧ kc = 0 ∧ ns = 0 ∧ ∃ C2 O2 c2, ((∃ v, rv = some (.int v)) ∧ c2 ≤ 60) ∧ ModI cI cB cZ ob C2 (sxCo T c2) O2 dom loc va ∧ OI O2 ∧ frM val va) := by
  refine kM_of (lv0 := [some (.ref (ob 48)), some (.int r), some (.int c), none, none, none]) (own := "ProsePagesModel") (by decide) rfl (List.forall_mem_cons.mpr ⟨rfl, List.forall_mem_cons.mpr ⟨rfl, List.forall_mem_cons.mpr ⟨rfl, fun _ h => nomatch h⟩⟩⟩) (Nat.le_of_ble_eq_true rfl) rfl (Nat.le_of_ble_eq_true rfl) (fun X hl hX hE hin0 => ?_)
  have hTn := hT.1
  refine v_aload_n hX d_M_pages_0 rfl rfl ?_
  refine v_iload_n hX d_M_pages_1 rfl rfl ?_
  refine v_iconst (v := 5) hX d_M_pages_2 (by decide) ?_
  refine v_icmp_lt hX d_M_pages_3 (tgt := 24) (by decide) (fun c3 => ?_) (fun c3 => ?_)
  · refine v_iconst (v := 1) hX d_M_pages_24 (by decide) ?_
    refine v_goto hX d_M_pages_25 (tgt := 29) (by decide) ?_
    refine v_mput hX hM 0 C T (soTh O 1) (by decide) fl_M_97 rfl rfl rfl rfl pf_thrown pa_thrown d_M_pages_29 (fun va1 hM1 hf1 => ?_)
    refine v_aload_n hX d_M_pages_32 rfl rfl ?_
    refine v_mget hX hM1 0 (v := .int 1) (by decide) fl_M_97 rfl hf_thrown d_M_pages_33 ?_
    refine v_if_le hX d_M_pages_36 (tgt := 41) (by decide) (fun c => absurd c (by decide)) (fun _ => ?_)
    refine v_iconst (v := 0) hX d_M_pages_39 (by decide) ?_
    exact v_iret hX hE d_M_pages_40 (Nat.le_of_ble_eq_true rfl) (Nat.le_of_ble_eq_true rfl) ⟨rfl, rfl, rfl, rfl, C, (soTh O 1), (ttCo T), ⟨⟨_, rfl⟩, by first | exact hcn2 | exact hX9⟩, hM1, ⟨hO.1, hO.2.1, hO.2.2.1, hO.2.2.2.1, (by have q9 := hO.2.2.2.2; first | exact q9 | omega | (show (ooSm O) ≤ 4300; omega))⟩, (frM.rf.trans hf1)⟩
  · refine v_iload_n hX d_M_pages_6 rfl rfl ?_
    refine v_bipush (v := 40) hX d_M_pages_7 (by decide) ?_
    refine v_icmp_gt hX d_M_pages_9 (tgt := 24) (by decide) (fun c9 => ?_) (fun c9 => ?_)
    · refine v_iconst (v := 1) hX d_M_pages_24 (by decide) ?_
      refine v_goto hX d_M_pages_25 (tgt := 29) (by decide) ?_
      refine v_mput hX hM 0 C T (soTh O 1) (by decide) fl_M_97 rfl rfl rfl rfl pf_thrown pa_thrown d_M_pages_29 (fun va2 hM2 hf2 => ?_)
      refine v_aload_n hX d_M_pages_32 rfl rfl ?_
      refine v_mget hX hM2 0 (v := .int 1) (by decide) fl_M_97 rfl hf_thrown d_M_pages_33 ?_
      refine v_if_le hX d_M_pages_36 (tgt := 41) (by decide) (fun c => absurd c (by decide)) (fun _ => ?_)
      refine v_iconst (v := 0) hX d_M_pages_39 (by decide) ?_
      exact v_iret hX hE d_M_pages_40 (Nat.le_of_ble_eq_true rfl) (Nat.le_of_ble_eq_true rfl) ⟨rfl, rfl, rfl, rfl, C, (soTh O 1), (ttCo T), ⟨⟨_, rfl⟩, by first | exact hcn2 | exact hX9⟩, hM2, ⟨hO.1, hO.2.1, hO.2.2.1, hO.2.2.2.1, (by have q9 := hO.2.2.2.2; first | exact q9 | omega | (show (ooSm O) ≤ 4300; omega))⟩, (frM.rf.trans hf2)⟩
    · refine v_iload_n hX d_M_pages_12 rfl rfl ?_
      refine v_bipush (v := 8) hX d_M_pages_13 (by decide) ?_
      refine v_icmp_lt hX d_M_pages_15 (tgt := 24) (by decide) (fun c15 => ?_) (fun c15 => ?_)
      · refine v_iconst (v := 1) hX d_M_pages_24 (by decide) ?_
        refine v_goto hX d_M_pages_25 (tgt := 29) (by decide) ?_
        refine v_mput hX hM 0 C T (soTh O 1) (by decide) fl_M_97 rfl rfl rfl rfl pf_thrown pa_thrown d_M_pages_29 (fun va3 hM3 hf3 => ?_)
        refine v_aload_n hX d_M_pages_32 rfl rfl ?_
        refine v_mget hX hM3 0 (v := .int 1) (by decide) fl_M_97 rfl hf_thrown d_M_pages_33 ?_
        refine v_if_le hX d_M_pages_36 (tgt := 41) (by decide) (fun c => absurd c (by decide)) (fun _ => ?_)
        refine v_iconst (v := 0) hX d_M_pages_39 (by decide) ?_
        exact v_iret hX hE d_M_pages_40 (Nat.le_of_ble_eq_true rfl) (Nat.le_of_ble_eq_true rfl) ⟨rfl, rfl, rfl, rfl, C, (soTh O 1), (ttCo T), ⟨⟨_, rfl⟩, by first | exact hcn2 | exact hX9⟩, hM3, ⟨hO.1, hO.2.1, hO.2.2.1, hO.2.2.2.1, (by have q9 := hO.2.2.2.2; first | exact q9 | omega | (show (ooSm O) ≤ 4300; omega))⟩, (frM.rf.trans hf3)⟩
      · refine v_iload_n hX d_M_pages_18 rfl rfl ?_
        refine v_bipush (v := 60) hX d_M_pages_19 (by decide) ?_
        refine v_icmp_le hX d_M_pages_21 (tgt := 28) (by decide) (fun c21 => ?_) (fun c21 => ?_)
        · refine v_iconst (v := 0) hX d_M_pages_28 (by decide) ?_
          refine v_mput hX hM 0 C T (soTh O 0) (by decide) fl_M_97 rfl rfl rfl rfl pf_thrown pa_thrown d_M_pages_29 (fun va4 hM4 hf4 => ?_)
          refine v_aload_n hX d_M_pages_32 rfl rfl ?_
          refine v_mget hX hM4 0 (v := .int 0) (by decide) fl_M_97 rfl hf_thrown d_M_pages_33 ?_
          refine v_if_le hX d_M_pages_36 (tgt := 41) (by decide) (fun _ => ?_) (fun c => absurd (by decide) c)
          obtain ⟨cn, hcn1, hcn2, rfl⟩ := col_nat c15 c21
          have hT2 := coT_ok hT cn
          have hco2 : 8 ≤ ttCo (sxCo T cn) ∧ ttCo (sxCo T cn) ≤ 60 := ⟨hcn1, hcn2⟩
          refine v_aload_n hX d_M_pages_41 rfl rfl ?_
          refine v_mget hX hM4 21 (v := .int (nI (ttCo T))) (by decide) fl_M_119 rfl ((nf_thrown 21 (by decide)).trans gf_columns) d_M_pages_42 ?_
          refine v_istore_n (lv' := [some (.ref (ob 48)), some (.int r), some (.int (nI cn)), some (.int (nI (ttCo T))), none, none]) hX d_M_pages_45 rfl (Nat.le_of_ble_eq_true rfl) rfl ?_
          refine v_aload_n hX d_M_pages_46 rfl rfl ?_
          refine v_iload_n hX d_M_pages_47 rfl rfl ?_
          refine v_mput hX hM4 21 C (sxCo T cn) (soTh O 0) (by decide) fl_M_119 rfl rfl rfl rfl pf_columns pa_columns d_M_pages_48 (fun va5 hM5 hf5 => ?_)
          refine v_aload_n hX d_M_pages_51 rfl rfl ?_
          refine v_iconst (v := 1) hX d_M_pages_52 (by decide) ?_
          refine v_mput hX hM5 44 C (sxCo T cn) (soCt (soTh O 0) 1) (by decide) fl_M_162 rfl rfl (by first | rfl | decide | assumption) rfl pf_counts pa_counts d_M_pages_53 (fun va6 hM6 hf6 => ?_)
          refine v_aload_n hX d_M_pages_56 rfl rfl ?_
          refine c_V hX 48 (rest := []) hl (c_M_layOut hM6 ⟨hO.1, hO.2.1, hO.2.2.1, hO.2.2.2.1, (by have q9 := hO.2.2.2.2; first | exact q9 | omega | (show (ooSm O) ≤ 4300; omega))⟩ hT2 hco2 (fun z => absurd (show (1 : Int32) = 0 from z) (by decide))) ml_M_232 im_M_layOut se_M_layOut in_M cd_M_layOut rfl q_M_layOut ⟨(Nat.le_of_ble_eq_true rfl), (Nat.le_of_ble_eq_true rfl)⟩ hM6.1.1 hM6.1.2.1 hM6.1.2.2 rfl rfl rfl rfl (Nat.le_of_ble_eq_true rfl) d_M_pages_57 ⟨(Nat.le_of_ble_eq_true rfl), (Nat.le_of_ble_eq_true rfl)⟩ (fun rv d2 lo2 va7 kc ns hp => ?_)
          obtain ⟨rfl, rfl, rfl, rfl, C7, o7, ⟨rfl, hC7⟩, hM7, hO7, hf7⟩ := hp
          show V X D CL A _ _ _ _ _ _ _ []
          have hlk := (ly_ok hT2 hco2 (ttN (sxCo T cn) + 1) 0 (ly0 C) (by omega) (LY0 _ _)).2
          rw [hC7] at hlk
          refine v_aload_n hX d_M_pages_60 rfl rfl ?_
          refine v_aload_n hX d_M_pages_61 rfl rfl ?_
          refine v_mget hX hM7 23 (v := .int (nI (zCnt C7))) (by decide) fl_M_159 rfl ((nf_columns 23 (by decide)).trans gf_counted) d_M_pages_62 ?_
          refine v_sipush (v := 1500) hX d_M_pages_65 (by decide) ?_
          refine v_icmp_le hX d_M_pages_68 (tgt := 75) (by decide) (fun c68 => ?_) (fun c68 => ?_)
          · have f68 : (zCnt C7) ≤ 1500 := (nI_leI (a := (zCnt C7)) (b := 1500) (by omega) (by omega)).mp c68
            refine v_iconst (v := 0) hX d_M_pages_75 (by decide) ?_
            refine v_mput hX hM7 0 C7 (sxCo T cn) (soTh o7 0) (by decide) fl_M_97 rfl rfl rfl rfl pf_thrown pa_thrown d_M_pages_76 (fun va8 hM8 hf8 => ?_)
            refine v_aload_n hX d_M_pages_79 rfl rfl ?_
            refine v_mget hX hM8 0 (v := .int 0) (by decide) fl_M_97 rfl ((nf_columns 0 (by decide)).trans hf_thrown) d_M_pages_80 ?_
            refine v_if_le hX d_M_pages_83 (tgt := 93) (by decide) (fun _ => ?_) (fun c => absurd (by decide) c)
            refine v_aload_n hX d_M_pages_93 rfl rfl ?_
            refine v_iconst (v := 0) hX d_M_pages_94 (by decide) ?_
            refine v_mput hX hM8 44 C7 (sxCo T cn) (soCt (soTh o7 0) 0) (by decide) fl_M_162 rfl rfl (by first | rfl | decide | assumption) rfl pf_counts pa_counts d_M_pages_95 (fun va9 hM9 hf9 => ?_)
            refine v_aload_n hX d_M_pages_98 rfl rfl ?_
            refine c_V hX 48 (rest := []) hl (c_M_layOut hM9 ⟨hO7.1.1, hO7.1.2.1, hO7.1.2.2.1, hO7.1.2.2.2.1, (by have q9 := hO7.1.2.2.2.2; first | exact q9 | omega | (show (ooSm o7) ≤ 4300; omega))⟩ hT2 hco2 (fun _ => by have q := ly_det hT2 hco2 C C7; rw [q, hC7]; omega)) ml_M_232 im_M_layOut se_M_layOut in_M cd_M_layOut rfl q_M_layOut ⟨(Nat.le_of_ble_eq_true rfl), (Nat.le_of_ble_eq_true rfl)⟩ hM9.1.1 hM9.1.2.1 hM9.1.2.2 rfl rfl rfl rfl (Nat.le_of_ble_eq_true rfl) d_M_pages_99 ⟨(Nat.le_of_ble_eq_true rfl), (Nat.le_of_ble_eq_true rfl)⟩ (fun rv d2 lo2 va10 kc ns hp => ?_)
            obtain ⟨rfl, rfl, rfl, rfl, C10, o10, ⟨rfl, hC10⟩, hM10, hO10, hf10⟩ := hp
            show V X D CL A _ _ _ _ _ _ _ []
            have hdt := ly_det hT2 hco2 C C7
            rw [hC7, hC10] at hdt
            have hcnt9 : zCnt C10 ≤ 1500 := by omega
            refine v_aload_n hX d_M_pages_102 rfl rfl ?_
            refine v_aload_n hX d_M_pages_103 rfl rfl ?_
            refine v_mget hX hM10 23 (v := .int (nI (zCnt C10))) (by decide) fl_M_159 rfl ((nf_columns 23 (by decide)).trans gf_counted) d_M_pages_104 ?_
            refine v_mput hX hM10 18 C10 (sxCo T cn) (soLi o10 (zCnt C10)) (by decide) fl_M_113 rfl rfl rfl rfl pf_lines pa_lines d_M_pages_107 (fun va11 hM11 hf11 => ?_)
            refine v_aload_n hX d_M_pages_110 rfl rfl ?_
            refine v_iload_n hX d_M_pages_111 rfl rfl ?_
            refine v_mput hX hM11 20 C10 (sxCo T cn) (soRo (soLi o10 (zCnt C10)) r) (by decide) fl_M_116 rfl rfl rfl rfl pf_rows pa_rows d_M_pages_112 (fun va12 hM12 hf12 => ?_)
            refine v_aload_n hX d_M_pages_115 rfl rfl ?_
            refine v_aload_n hX d_M_pages_116 rfl rfl ?_
            refine v_mget hX hM12 9 (v := .int (nI (ttN T))) (by decide) fl_M_101 rfl ((nf_columns 9 (by decide)).trans ((nf_rows 9 (by decide)).trans ((nf_lines 9 (by decide)).trans gf_nodes))) d_M_pages_117 ?_
            refine v_mput hX hM12 22 C10 (sxCo T cn) (soLa (soRo (soLi o10 (zCnt C10)) r) (ttN T)) (by decide) fl_M_122 rfl rfl rfl rfl pf_laid pa_laid d_M_pages_120 (fun va13 hM13 hf13 => ?_)
            refine v_aload_n hX d_M_pages_123 rfl rfl ?_
            refine v_aload_n hX d_M_pages_124 rfl rfl ?_
            refine c_V hX 48 (rest := [.ref (ob 48)]) hl (c_M_paginate hM13 ⟨hO10.1.1, hO10.1.2.1, (show (zCnt C10) ≤ 1500 by omega), (show (ttN T) ≤ 300 by omega), (by have q9 := hO10.1.2.2.2.2; first | exact q9 | omega | (show (ooSm o10) ≤ 4300; omega))⟩) ml_M_235 im_M_paginate se_M_paginate in_M cd_M_paginate rfl q_M_paginate ⟨(Nat.le_of_ble_eq_true rfl), (Nat.le_of_ble_eq_true rfl)⟩ hM13.1.1 hM13.1.2.1 hM13.1.2.2 rfl rfl rfl rfl (Nat.le_of_ble_eq_true rfl) d_M_pages_125 ⟨(Nat.le_of_ble_eq_true rfl), (Nat.le_of_ble_eq_true rfl)⟩ (fun rv d2 lo2 va14 kc ns hp => ?_)
            obtain ⟨rfl, rfl, rfl, rfl, _, o14, ⟨⟨pv, rfl⟩, rfl⟩, hM14, hO14, hf14⟩ := hp
            show V X D CL A _ _ _ _ _ _ _ (.int pv :: [.ref (ob 48)])
            refine v_mput hX hM14 19 C10 (sxCo T cn) (soPm o14 pv) (by decide) fl_M_110 rfl rfl rfl rfl pf_pageMany pa_pageMany d_M_pages_128 (fun va15 hM15 hf15 => ?_)
            refine v_iconst (v := 0) hX d_M_pages_131 (by decide) ?_
            refine v_istore (lv' := [some (.ref (ob 48)), some (.int r), some (.int (nI cn)), some (.int (nI (ttCo T))), some (.int 0), none]) hX d_M_pages_132 (Nat.le_of_ble_eq_true rfl) rfl ?_
            have loop134 : ∀ (m9 : Nat) (i : Nat) (o5 : Option Value) (CL134 : CT) (oL134 : OS) (vaL134 : Nat → va_E), ttN T - i < m9 → ModI cI cB cZ ob CL134 (sxCo T cn) oL134 dom loc vaL134 → (OI oL134 ∧ ooCt oL134 = 0) → frM val vaL134 → (C10 = CL134) → (i ≤ ttN T) → V X D CL A dom loc vaL134 0 0 134 [some (.ref (ob 48)), some (.int r), some (.int (nI cn)), some (.int (nI (ttCo T))), some (.int (nI i)), o5] [] := by
              intro m9
              induction m9 with
              | zero => intro i o5 CL134 oL134 vaL134 hk134 hML134 hOL134 hfL134 hC134 hi134; exact absurd hk134 (Nat.not_lt_zero _)
              | succ m9 ih134 =>
                intro i o5 CL134 oL134 vaL134 hk134 hML134 hOL134 hfL134 hC134 hi134
                subst hC134
                have hli := hOL134.1.2.2.1
                have hst := hOL134.1.1 i
                refine v_iload hX d_M_pages_134 rfl ?_
                refine v_aload_n hX d_M_pages_136 rfl rfl ?_
                refine v_mget hX hML134 9 (v := .int (nI (ttN T))) (by decide) fl_M_101 rfl ((nf_columns 9 (by decide)).trans gf_nodes) d_M_pages_137 ?_
                refine v_icmp_ge hX d_M_pages_140 (tgt := 248) (by decide) (fun c140 => ?_) (fun c140 => ?_)
                · have f140 : (ttN T) ≤ i := (nI_leI (a := (ttN T)) (b := i) (by omega) (by omega)).mp c140
                  refine v_aload_n hX d_M_pages_248 rfl rfl ?_
                  refine v_mget hX hML134 19 (v := .int (ooPm oL134)) (by decide) fl_M_110 rfl ((nf_columns 19 (by decide)).trans gf_pageMany) d_M_pages_249 ?_
                  exact v_iret hX hE d_M_pages_252 (Nat.le_of_ble_eq_true rfl) (Nat.le_of_ble_eq_true rfl) ⟨rfl, rfl, rfl, rfl, C10, oL134, cn, ⟨⟨_, rfl⟩, by first | exact hcn2 | exact hX9⟩, hML134, hOL134.1, hfL134⟩
                · have f140 : ¬ (ttN T) ≤ i := fun z => c140 ((nI_leI (a := (ttN T)) (b := i) (by omega) (by omega)).mpr z)
                  refine v_aload_n hX d_M_pages_143 rfl rfl ?_
                  refine v_mget hX hML134 25 (v := .ref (ob 64)) (by decide) fl_M_58 rfl rfl d_M_pages_144 ?_
                  refine v_iload hX d_M_pages_147 rfl ?_
                  refine v_mild hX hML134 15 (i := i) (v := ((ooSt oL134) i)) ((na_columns 15).trans ga_start) (by omega) (by decide) rfl d_M_pages_149 ?_
                  refine v_if_lt hX d_M_pages_150 (tgt := 163) (by decide) (fun c150 => ?_) (fun c150 => ?_)
                  · obtain ⟨kn, hkn, hke⟩ := neg_nat c150 hst
                    refine v_bipush (v := (-2)) hX d_M_pages_163 (by decide) ?_
                    refine v_aload_n hX d_M_pages_165 rfl rfl ?_
                    refine v_mget hX hML134 25 (v := .ref (ob 64)) (by decide) fl_M_58 rfl rfl d_M_pages_166 ?_
                    refine v_iload hX d_M_pages_169 rfl ?_
                    refine v_mild hX hML134 15 (i := i) (v := ((ooSt oL134) i)) ((na_columns 15).trans ga_start) (by omega) (by decide) rfl d_M_pages_171 ?_
                    refine v_isub hX d_M_pages_172 ?_
                    rw [hke]
                    refine v_istore (lv' := [some (.ref (ob 48)), some (.int r), some (.int (nI cn)), some (.int (nI (ttCo T))), some (.int (nI i)), some (.int (nI kn))]) hX d_M_pages_173 (Nat.le_of_ble_eq_true rfl) rfl ?_
                    have loop175 : ∀ (m9 : Nat) (j : Nat) (CL175 : CT) (oL175 : OS) (vaL175 : Nat → va_E), ooLi oL134 - j < m9 → ModI cI cB cZ ob CL175 (sxCo T cn) oL175 dom loc vaL175 → (OI oL175 ∧ ooCt oL175 = 0) → frM val vaL175 → (C10 = CL175) → (ooLi oL175 = ooLi oL134) → (j < 2 ^ 31) → V X D CL A dom loc vaL175 0 0 175 [some (.ref (ob 48)), some (.int r), some (.int (nI cn)), some (.int (nI (ttCo T))), some (.int (nI i)), some (.int (nI j))] [] := by
                      intro m9
                      induction m9 with
                      | zero => intro j CL175 oL175 vaL175 hk175 hML175 hOL175 hfL175 hC175 hl175 hj175; exact absurd hk175 (Nat.not_lt_zero _)
                      | succ m9 ih175 =>
                        intro j CL175 oL175 vaL175 hk175 hML175 hOL175 hfL175 hC175 hl175 hj175
                        subst hC175
                        have hli2 := hOL175.1.2.2.1
                        refine v_iload hX d_M_pages_175 rfl ?_
                        refine v_aload_n hX d_M_pages_177 rfl rfl ?_
                        refine v_mget hX hML175 18 (v := .int (nI (ooLi oL175))) (by decide) fl_M_113 rfl ((nf_columns 18 (by decide)).trans gf_lines) d_M_pages_178 ?_
                        refine v_icmp_ge hX d_M_pages_181 (tgt := 210) (by decide) (fun c181 => ?_) (fun c181 => ?_)
                        · have f181 : (ooLi oL175) ≤ j := (nI_leI (a := (ooLi oL175)) (b := j) (by omega) (by omega)).mp c181
                          refine v_aload_n hX d_M_pages_210 rfl rfl ?_
                          refine v_mget hX hML175 24 (v := .ref (ob 63)) (by decide) fl_M_55 rfl rfl d_M_pages_211 ?_
                          refine v_iload hX d_M_pages_214 rfl ?_
                          refine v_iload hX d_M_pages_216 rfl ?_
                          refine v_aload_n hX d_M_pages_218 rfl rfl ?_
                          refine v_mget hX hML175 18 (v := .int (nI (ooLi oL175))) (by decide) fl_M_113 rfl ((nf_columns 18 (by decide)).trans gf_lines) d_M_pages_219 ?_
                          refine v_icmp_ge hX d_M_pages_222 (tgt := 235) (by decide) (fun c222 => ?_) (fun c222 => ?_)
                          · have f222 : (ooLi oL175) ≤ j := (nI_leI (a := (ooLi oL175)) (b := j) (by omega) (by omega)).mp c222
                            refine v_aload_n hX d_M_pages_235 rfl rfl ?_
                            refine v_mget hX hML175 19 (v := .int (ooPm oL175)) (by decide) fl_M_110 rfl ((nf_columns 19 (by decide)).trans gf_pageMany) d_M_pages_236 ?_
                            refine v_iconst (v := 1) hX d_M_pages_239 (by decide) ?_
                            refine v_isub hX d_M_pages_240 ?_
                            refine v_mist hX hML175 14 C10 (sxCo T cn) (soPo oL175 (upd (ooPo oL175) i ((ooPm oL175) - 1))) (i := i) (by decide) ((na_columns 14).trans ga_pageOf) (by omega) (by decide) qf_pageOf qa_pageOf d_M_pages_241 (fun va16 hM16 hf16 => ?_)
                            refine v_iinc (y := (nI (i + 1))) (lv' := [some (.ref (ob 48)), some (.int r), some (.int (nI cn)), some (.int (nI (ttCo T))), some (.int (nI (i + 1))), some (.int (nI j))]) hX d_M_pages_242 rfl (nI_1 i) rfl ?_
                            refine v_goto hX d_M_pages_245 (tgt := 134) (by decide) ?_
                            exact ih134 (i + 1) (some (.int (nI j))) C10 (soPo oL175 (upd (ooPo oL175) i ((ooPm oL175) - 1))) va16 (by omega) hM16 ⟨⟨hOL175.1.1, hOL175.1.2.1, hOL175.1.2.2.1, hOL175.1.2.2.2.1, (by have q9 := hOL175.1.2.2.2.2; first | exact q9 | omega | (show (ooSm oL175) ≤ 4300; omega))⟩, hOL175.2⟩ (hfL175.trans hf16) rfl (by omega)
                          · have f222 : ¬ (ooLi oL175) ≤ j := fun z => c222 ((nI_leI (a := (ooLi oL175)) (b := j) (by omega) (by omega)).mpr z)
                            refine v_aload_n hX d_M_pages_225 rfl rfl ?_
                            refine v_mget hX hML175 14 (v := .ref (ob 59)) (by decide) fl_M_41 rfl rfl d_M_pages_226 ?_
                            refine v_iload hX d_M_pages_229 rfl ?_
                            refine v_mild hX hML175 10 (i := j) (v := ((ooPa oL175) j)) ((na_columns 10).trans ga_page) (by omega) (by decide) rfl d_M_pages_231 ?_
                            refine v_goto hX d_M_pages_232 (tgt := 241) (by decide) ?_
                            refine v_mist hX hML175 14 C10 (sxCo T cn) (soPo oL175 (upd (ooPo oL175) i ((ooPa oL175) j))) (i := i) (by decide) ((na_columns 14).trans ga_pageOf) (by omega) (by decide) qf_pageOf qa_pageOf d_M_pages_241 (fun va17 hM17 hf17 => ?_)
                            refine v_iinc (y := (nI (i + 1))) (lv' := [some (.ref (ob 48)), some (.int r), some (.int (nI cn)), some (.int (nI (ttCo T))), some (.int (nI (i + 1))), some (.int (nI j))]) hX d_M_pages_242 rfl (nI_1 i) rfl ?_
                            refine v_goto hX d_M_pages_245 (tgt := 134) (by decide) ?_
                            exact ih134 (i + 1) (some (.int (nI j))) C10 (soPo oL175 (upd (ooPo oL175) i ((ooPa oL175) j))) va17 (by omega) hM17 ⟨⟨hOL175.1.1, hOL175.1.2.1, hOL175.1.2.2.1, hOL175.1.2.2.2.1, (by have q9 := hOL175.1.2.2.2.2; first | exact q9 | omega | (show (ooSm oL175) ≤ 4300; omega))⟩, hOL175.2⟩ (hfL175.trans hf17) rfl (by omega)
                        · have f181 : ¬ (ooLi oL175) ≤ j := fun z => c181 ((nI_leI (a := (ooLi oL175)) (b := j) (by omega) (by omega)).mpr z)
                          refine v_aload_n hX d_M_pages_184 rfl rfl ?_
                          refine v_mget hX hML175 14 (v := .ref (ob 59)) (by decide) fl_M_41 rfl rfl d_M_pages_185 ?_
                          refine v_iload hX d_M_pages_188 rfl ?_
                          refine v_mild hX hML175 10 (i := j) (v := ((ooPa oL175) j)) ((na_columns 10).trans ga_page) (by omega) (by decide) rfl d_M_pages_190 ?_
                          refine v_if_lt hX d_M_pages_191 (tgt := 204) (by decide) (fun c191 => ?_) (fun c191 => ?_)
                          · refine v_iinc (y := (nI (j + 1))) (lv' := [some (.ref (ob 48)), some (.int r), some (.int (nI cn)), some (.int (nI (ttCo T))), some (.int (nI i)), some (.int (nI (j + 1)))]) hX d_M_pages_204 rfl (nI_1 j) rfl ?_
                            refine v_goto hX d_M_pages_207 (tgt := 175) (by decide) ?_
                            exact ih175 (j + 1) C10 oL175 vaL175 (by omega) hML175 ⟨hOL175.1, hOL175.2⟩ hfL175 rfl hl175 (by omega)
                          · refine v_aload_n hX d_M_pages_194 rfl rfl ?_
                            refine v_mget hX hML175 16 (v := .ref (ob 61)) (by decide) fl_M_47 rfl rfl d_M_pages_195 ?_
                            refine v_iload hX d_M_pages_198 rfl ?_
                            refine v_mzld hX hML175 12 (i := j) (v := ((ooBe oL175) j)) ((na_columns 12).trans ga_between) (by omega) (by decide) rfl d_M_pages_200 ?_
                            refine v_if_eq hX d_M_pages_201 (tgt := 210) (by decide) (fun c201 => ?_) (fun c201 => ?_)
                            · refine v_aload_n hX d_M_pages_210 rfl rfl ?_
                              refine v_mget hX hML175 24 (v := .ref (ob 63)) (by decide) fl_M_55 rfl rfl d_M_pages_211 ?_
                              refine v_iload hX d_M_pages_214 rfl ?_
                              refine v_iload hX d_M_pages_216 rfl ?_
                              refine v_aload_n hX d_M_pages_218 rfl rfl ?_
                              refine v_mget hX hML175 18 (v := .int (nI (ooLi oL175))) (by decide) fl_M_113 rfl ((nf_columns 18 (by decide)).trans gf_lines) d_M_pages_219 ?_
                              refine v_icmp_ge hX d_M_pages_222 (tgt := 235) (by decide) (fun c222 => ?_) (fun c222 => ?_)
                              · have f222 : (ooLi oL175) ≤ j := (nI_leI (a := (ooLi oL175)) (b := j) (by omega) (by omega)).mp c222
                                refine v_aload_n hX d_M_pages_235 rfl rfl ?_
                                refine v_mget hX hML175 19 (v := .int (ooPm oL175)) (by decide) fl_M_110 rfl ((nf_columns 19 (by decide)).trans gf_pageMany) d_M_pages_236 ?_
                                refine v_iconst (v := 1) hX d_M_pages_239 (by decide) ?_
                                refine v_isub hX d_M_pages_240 ?_
                                refine v_mist hX hML175 14 C10 (sxCo T cn) (soPo oL175 (upd (ooPo oL175) i ((ooPm oL175) - 1))) (i := i) (by decide) ((na_columns 14).trans ga_pageOf) (by omega) (by decide) qf_pageOf qa_pageOf d_M_pages_241 (fun va18 hM18 hf18 => ?_)
                                refine v_iinc (y := (nI (i + 1))) (lv' := [some (.ref (ob 48)), some (.int r), some (.int (nI cn)), some (.int (nI (ttCo T))), some (.int (nI (i + 1))), some (.int (nI j))]) hX d_M_pages_242 rfl (nI_1 i) rfl ?_
                                refine v_goto hX d_M_pages_245 (tgt := 134) (by decide) ?_
                                exact ih134 (i + 1) (some (.int (nI j))) C10 (soPo oL175 (upd (ooPo oL175) i ((ooPm oL175) - 1))) va18 (by omega) hM18 ⟨⟨hOL175.1.1, hOL175.1.2.1, hOL175.1.2.2.1, hOL175.1.2.2.2.1, (by have q9 := hOL175.1.2.2.2.2; first | exact q9 | omega | (show (ooSm oL175) ≤ 4300; omega))⟩, hOL175.2⟩ (hfL175.trans hf18) rfl (by omega)
                              · have f222 : ¬ (ooLi oL175) ≤ j := fun z => c222 ((nI_leI (a := (ooLi oL175)) (b := j) (by omega) (by omega)).mpr z)
                                refine v_aload_n hX d_M_pages_225 rfl rfl ?_
                                refine v_mget hX hML175 14 (v := .ref (ob 59)) (by decide) fl_M_41 rfl rfl d_M_pages_226 ?_
                                refine v_iload hX d_M_pages_229 rfl ?_
                                refine v_mild hX hML175 10 (i := j) (v := ((ooPa oL175) j)) ((na_columns 10).trans ga_page) (by omega) (by decide) rfl d_M_pages_231 ?_
                                refine v_goto hX d_M_pages_232 (tgt := 241) (by decide) ?_
                                refine v_mist hX hML175 14 C10 (sxCo T cn) (soPo oL175 (upd (ooPo oL175) i ((ooPa oL175) j))) (i := i) (by decide) ((na_columns 14).trans ga_pageOf) (by omega) (by decide) qf_pageOf qa_pageOf d_M_pages_241 (fun va19 hM19 hf19 => ?_)
                                refine v_iinc (y := (nI (i + 1))) (lv' := [some (.ref (ob 48)), some (.int r), some (.int (nI cn)), some (.int (nI (ttCo T))), some (.int (nI (i + 1))), some (.int (nI j))]) hX d_M_pages_242 rfl (nI_1 i) rfl ?_
                                refine v_goto hX d_M_pages_245 (tgt := 134) (by decide) ?_
                                exact ih134 (i + 1) (some (.int (nI j))) C10 (soPo oL175 (upd (ooPo oL175) i ((ooPa oL175) j))) va19 (by omega) hM19 ⟨⟨hOL175.1.1, hOL175.1.2.1, hOL175.1.2.2.1, hOL175.1.2.2.2.1, (by have q9 := hOL175.1.2.2.2.2; first | exact q9 | omega | (show (ooSm oL175) ≤ 4300; omega))⟩, hOL175.2⟩ (hfL175.trans hf19) rfl (by omega)
                            · refine v_iinc (y := (nI (j + 1))) (lv' := [some (.ref (ob 48)), some (.int r), some (.int (nI cn)), some (.int (nI (ttCo T))), some (.int (nI i)), some (.int (nI (j + 1)))]) hX d_M_pages_204 rfl (nI_1 j) rfl ?_
                              refine v_goto hX d_M_pages_207 (tgt := 175) (by decide) ?_
                              exact ih175 (j + 1) C10 oL175 vaL175 (by omega) hML175 ⟨hOL175.1, hOL175.2⟩ hfL175 rfl hl175 (by omega)
                    exact loop175 _ kn C10 oL134 vaL134 (Nat.lt_succ_self _) hML134 ⟨hOL134.1, hOL134.2⟩ hfL134 rfl rfl hkn
                  · obtain ⟨kn, hkn, hke⟩ := nI_of c150
                    refine v_aload_n hX d_M_pages_153 rfl rfl ?_
                    refine v_mget hX hML134 25 (v := .ref (ob 64)) (by decide) fl_M_58 rfl rfl d_M_pages_154 ?_
                    refine v_iload hX d_M_pages_157 rfl ?_
                    refine v_mild hX hML134 15 (i := i) (v := (nI kn)) ((na_columns 15).trans ga_start) (by omega) (by decide) hke d_M_pages_159 ?_
                    refine v_goto hX d_M_pages_160 (tgt := 173) (by decide) ?_
                    refine v_istore (lv' := [some (.ref (ob 48)), some (.int r), some (.int (nI cn)), some (.int (nI (ttCo T))), some (.int (nI i)), some (.int (nI kn))]) hX d_M_pages_173 (Nat.le_of_ble_eq_true rfl) rfl ?_
                    have loop175 : ∀ (m9 : Nat) (j : Nat) (CL175 : CT) (oL175 : OS) (vaL175 : Nat → va_E), ooLi oL134 - j < m9 → ModI cI cB cZ ob CL175 (sxCo T cn) oL175 dom loc vaL175 → (OI oL175 ∧ ooCt oL175 = 0) → frM val vaL175 → (C10 = CL175) → (ooLi oL175 = ooLi oL134) → (j < 2 ^ 31) → V X D CL A dom loc vaL175 0 0 175 [some (.ref (ob 48)), some (.int r), some (.int (nI cn)), some (.int (nI (ttCo T))), some (.int (nI i)), some (.int (nI j))] [] := by
                      intro m9
                      induction m9 with
                      | zero => intro j CL175 oL175 vaL175 hk175 hML175 hOL175 hfL175 hC175 hl175 hj175; exact absurd hk175 (Nat.not_lt_zero _)
                      | succ m9 ih175 =>
                        intro j CL175 oL175 vaL175 hk175 hML175 hOL175 hfL175 hC175 hl175 hj175
                        subst hC175
                        have hli2 := hOL175.1.2.2.1
                        refine v_iload hX d_M_pages_175 rfl ?_
                        refine v_aload_n hX d_M_pages_177 rfl rfl ?_
                        refine v_mget hX hML175 18 (v := .int (nI (ooLi oL175))) (by decide) fl_M_113 rfl ((nf_columns 18 (by decide)).trans gf_lines) d_M_pages_178 ?_
                        refine v_icmp_ge hX d_M_pages_181 (tgt := 210) (by decide) (fun c181 => ?_) (fun c181 => ?_)
                        · have f181 : (ooLi oL175) ≤ j := (nI_leI (a := (ooLi oL175)) (b := j) (by omega) (by omega)).mp c181
                          refine v_aload_n hX d_M_pages_210 rfl rfl ?_
                          refine v_mget hX hML175 24 (v := .ref (ob 63)) (by decide) fl_M_55 rfl rfl d_M_pages_211 ?_
                          refine v_iload hX d_M_pages_214 rfl ?_
                          refine v_iload hX d_M_pages_216 rfl ?_
                          refine v_aload_n hX d_M_pages_218 rfl rfl ?_
                          refine v_mget hX hML175 18 (v := .int (nI (ooLi oL175))) (by decide) fl_M_113 rfl ((nf_columns 18 (by decide)).trans gf_lines) d_M_pages_219 ?_
                          refine v_icmp_ge hX d_M_pages_222 (tgt := 235) (by decide) (fun c222 => ?_) (fun c222 => ?_)
                          · have f222 : (ooLi oL175) ≤ j := (nI_leI (a := (ooLi oL175)) (b := j) (by omega) (by omega)).mp c222
                            refine v_aload_n hX d_M_pages_235 rfl rfl ?_
                            refine v_mget hX hML175 19 (v := .int (ooPm oL175)) (by decide) fl_M_110 rfl ((nf_columns 19 (by decide)).trans gf_pageMany) d_M_pages_236 ?_
                            refine v_iconst (v := 1) hX d_M_pages_239 (by decide) ?_
                            refine v_isub hX d_M_pages_240 ?_
                            refine v_mist hX hML175 14 C10 (sxCo T cn) (soPo oL175 (upd (ooPo oL175) i ((ooPm oL175) - 1))) (i := i) (by decide) ((na_columns 14).trans ga_pageOf) (by omega) (by decide) qf_pageOf qa_pageOf d_M_pages_241 (fun va20 hM20 hf20 => ?_)
                            refine v_iinc (y := (nI (i + 1))) (lv' := [some (.ref (ob 48)), some (.int r), some (.int (nI cn)), some (.int (nI (ttCo T))), some (.int (nI (i + 1))), some (.int (nI j))]) hX d_M_pages_242 rfl (nI_1 i) rfl ?_
                            refine v_goto hX d_M_pages_245 (tgt := 134) (by decide) ?_
                            exact ih134 (i + 1) (some (.int (nI j))) C10 (soPo oL175 (upd (ooPo oL175) i ((ooPm oL175) - 1))) va20 (by omega) hM20 ⟨⟨hOL175.1.1, hOL175.1.2.1, hOL175.1.2.2.1, hOL175.1.2.2.2.1, (by have q9 := hOL175.1.2.2.2.2; first | exact q9 | omega | (show (ooSm oL175) ≤ 4300; omega))⟩, hOL175.2⟩ (hfL175.trans hf20) rfl (by omega)
                          · have f222 : ¬ (ooLi oL175) ≤ j := fun z => c222 ((nI_leI (a := (ooLi oL175)) (b := j) (by omega) (by omega)).mpr z)
                            refine v_aload_n hX d_M_pages_225 rfl rfl ?_
                            refine v_mget hX hML175 14 (v := .ref (ob 59)) (by decide) fl_M_41 rfl rfl d_M_pages_226 ?_
                            refine v_iload hX d_M_pages_229 rfl ?_
                            refine v_mild hX hML175 10 (i := j) (v := ((ooPa oL175) j)) ((na_columns 10).trans ga_page) (by omega) (by decide) rfl d_M_pages_231 ?_
                            refine v_goto hX d_M_pages_232 (tgt := 241) (by decide) ?_
                            refine v_mist hX hML175 14 C10 (sxCo T cn) (soPo oL175 (upd (ooPo oL175) i ((ooPa oL175) j))) (i := i) (by decide) ((na_columns 14).trans ga_pageOf) (by omega) (by decide) qf_pageOf qa_pageOf d_M_pages_241 (fun va21 hM21 hf21 => ?_)
                            refine v_iinc (y := (nI (i + 1))) (lv' := [some (.ref (ob 48)), some (.int r), some (.int (nI cn)), some (.int (nI (ttCo T))), some (.int (nI (i + 1))), some (.int (nI j))]) hX d_M_pages_242 rfl (nI_1 i) rfl ?_
                            refine v_goto hX d_M_pages_245 (tgt := 134) (by decide) ?_
                            exact ih134 (i + 1) (some (.int (nI j))) C10 (soPo oL175 (upd (ooPo oL175) i ((ooPa oL175) j))) va21 (by omega) hM21 ⟨⟨hOL175.1.1, hOL175.1.2.1, hOL175.1.2.2.1, hOL175.1.2.2.2.1, (by have q9 := hOL175.1.2.2.2.2; first | exact q9 | omega | (show (ooSm oL175) ≤ 4300; omega))⟩, hOL175.2⟩ (hfL175.trans hf21) rfl (by omega)
                        · have f181 : ¬ (ooLi oL175) ≤ j := fun z => c181 ((nI_leI (a := (ooLi oL175)) (b := j) (by omega) (by omega)).mpr z)
                          refine v_aload_n hX d_M_pages_184 rfl rfl ?_
                          refine v_mget hX hML175 14 (v := .ref (ob 59)) (by decide) fl_M_41 rfl rfl d_M_pages_185 ?_
                          refine v_iload hX d_M_pages_188 rfl ?_
                          refine v_mild hX hML175 10 (i := j) (v := ((ooPa oL175) j)) ((na_columns 10).trans ga_page) (by omega) (by decide) rfl d_M_pages_190 ?_
                          refine v_if_lt hX d_M_pages_191 (tgt := 204) (by decide) (fun c191 => ?_) (fun c191 => ?_)
                          · refine v_iinc (y := (nI (j + 1))) (lv' := [some (.ref (ob 48)), some (.int r), some (.int (nI cn)), some (.int (nI (ttCo T))), some (.int (nI i)), some (.int (nI (j + 1)))]) hX d_M_pages_204 rfl (nI_1 j) rfl ?_
                            refine v_goto hX d_M_pages_207 (tgt := 175) (by decide) ?_
                            exact ih175 (j + 1) C10 oL175 vaL175 (by omega) hML175 ⟨hOL175.1, hOL175.2⟩ hfL175 rfl hl175 (by omega)
                          · refine v_aload_n hX d_M_pages_194 rfl rfl ?_
                            refine v_mget hX hML175 16 (v := .ref (ob 61)) (by decide) fl_M_47 rfl rfl d_M_pages_195 ?_
                            refine v_iload hX d_M_pages_198 rfl ?_
                            refine v_mzld hX hML175 12 (i := j) (v := ((ooBe oL175) j)) ((na_columns 12).trans ga_between) (by omega) (by decide) rfl d_M_pages_200 ?_
                            refine v_if_eq hX d_M_pages_201 (tgt := 210) (by decide) (fun c201 => ?_) (fun c201 => ?_)
                            · refine v_aload_n hX d_M_pages_210 rfl rfl ?_
                              refine v_mget hX hML175 24 (v := .ref (ob 63)) (by decide) fl_M_55 rfl rfl d_M_pages_211 ?_
                              refine v_iload hX d_M_pages_214 rfl ?_
                              refine v_iload hX d_M_pages_216 rfl ?_
                              refine v_aload_n hX d_M_pages_218 rfl rfl ?_
                              refine v_mget hX hML175 18 (v := .int (nI (ooLi oL175))) (by decide) fl_M_113 rfl ((nf_columns 18 (by decide)).trans gf_lines) d_M_pages_219 ?_
                              refine v_icmp_ge hX d_M_pages_222 (tgt := 235) (by decide) (fun c222 => ?_) (fun c222 => ?_)
                              · have f222 : (ooLi oL175) ≤ j := (nI_leI (a := (ooLi oL175)) (b := j) (by omega) (by omega)).mp c222
                                refine v_aload_n hX d_M_pages_235 rfl rfl ?_
                                refine v_mget hX hML175 19 (v := .int (ooPm oL175)) (by decide) fl_M_110 rfl ((nf_columns 19 (by decide)).trans gf_pageMany) d_M_pages_236 ?_
                                refine v_iconst (v := 1) hX d_M_pages_239 (by decide) ?_
                                refine v_isub hX d_M_pages_240 ?_
                                refine v_mist hX hML175 14 C10 (sxCo T cn) (soPo oL175 (upd (ooPo oL175) i ((ooPm oL175) - 1))) (i := i) (by decide) ((na_columns 14).trans ga_pageOf) (by omega) (by decide) qf_pageOf qa_pageOf d_M_pages_241 (fun va22 hM22 hf22 => ?_)
                                refine v_iinc (y := (nI (i + 1))) (lv' := [some (.ref (ob 48)), some (.int r), some (.int (nI cn)), some (.int (nI (ttCo T))), some (.int (nI (i + 1))), some (.int (nI j))]) hX d_M_pages_242 rfl (nI_1 i) rfl ?_
                                refine v_goto hX d_M_pages_245 (tgt := 134) (by decide) ?_
                                exact ih134 (i + 1) (some (.int (nI j))) C10 (soPo oL175 (upd (ooPo oL175) i ((ooPm oL175) - 1))) va22 (by omega) hM22 ⟨⟨hOL175.1.1, hOL175.1.2.1, hOL175.1.2.2.1, hOL175.1.2.2.2.1, (by have q9 := hOL175.1.2.2.2.2; first | exact q9 | omega | (show (ooSm oL175) ≤ 4300; omega))⟩, hOL175.2⟩ (hfL175.trans hf22) rfl (by omega)
                              · have f222 : ¬ (ooLi oL175) ≤ j := fun z => c222 ((nI_leI (a := (ooLi oL175)) (b := j) (by omega) (by omega)).mpr z)
                                refine v_aload_n hX d_M_pages_225 rfl rfl ?_
                                refine v_mget hX hML175 14 (v := .ref (ob 59)) (by decide) fl_M_41 rfl rfl d_M_pages_226 ?_
                                refine v_iload hX d_M_pages_229 rfl ?_
                                refine v_mild hX hML175 10 (i := j) (v := ((ooPa oL175) j)) ((na_columns 10).trans ga_page) (by omega) (by decide) rfl d_M_pages_231 ?_
                                refine v_goto hX d_M_pages_232 (tgt := 241) (by decide) ?_
                                refine v_mist hX hML175 14 C10 (sxCo T cn) (soPo oL175 (upd (ooPo oL175) i ((ooPa oL175) j))) (i := i) (by decide) ((na_columns 14).trans ga_pageOf) (by omega) (by decide) qf_pageOf qa_pageOf d_M_pages_241 (fun va23 hM23 hf23 => ?_)
                                refine v_iinc (y := (nI (i + 1))) (lv' := [some (.ref (ob 48)), some (.int r), some (.int (nI cn)), some (.int (nI (ttCo T))), some (.int (nI (i + 1))), some (.int (nI j))]) hX d_M_pages_242 rfl (nI_1 i) rfl ?_
                                refine v_goto hX d_M_pages_245 (tgt := 134) (by decide) ?_
                                exact ih134 (i + 1) (some (.int (nI j))) C10 (soPo oL175 (upd (ooPo oL175) i ((ooPa oL175) j))) va23 (by omega) hM23 ⟨⟨hOL175.1.1, hOL175.1.2.1, hOL175.1.2.2.1, hOL175.1.2.2.2.1, (by have q9 := hOL175.1.2.2.2.2; first | exact q9 | omega | (show (ooSm oL175) ≤ 4300; omega))⟩, hOL175.2⟩ (hfL175.trans hf23) rfl (by omega)
                            · refine v_iinc (y := (nI (j + 1))) (lv' := [some (.ref (ob 48)), some (.int r), some (.int (nI cn)), some (.int (nI (ttCo T))), some (.int (nI i)), some (.int (nI (j + 1)))]) hX d_M_pages_204 rfl (nI_1 j) rfl ?_
                              refine v_goto hX d_M_pages_207 (tgt := 175) (by decide) ?_
                              exact ih175 (j + 1) C10 oL175 vaL175 (by omega) hML175 ⟨hOL175.1, hOL175.2⟩ hfL175 rfl hl175 (by omega)
                    exact loop175 _ kn C10 oL134 vaL134 (Nat.lt_succ_self _) hML134 ⟨hOL134.1, hOL134.2⟩ hfL134 rfl rfl hkn
            exact loop134 _ 0 none C10 (soPm o14 pv) va15 (Nat.lt_succ_self _) hM15 ⟨⟨hO14.1.1, hO14.1.2.1, hO14.1.2.2.1, hO14.1.2.2.2.1, (by have q9 := hO14.1.2.2.2.2; first | exact q9 | omega | (show (ooSm o14) ≤ 4300; omega))⟩, (hO14.2.trans (hO10.2.trans rfl))⟩ ((((((((((((frM.rf.trans hf4).trans hf5).trans hf6).trans hf7).trans hf8).trans hf9).trans hf10).trans hf11).trans hf12).trans hf13).trans hf14).trans hf15) rfl (Nat.zero_le _)
          · have f68 : ¬ (zCnt C7) ≤ 1500 := fun z => c68 ((nI_leI (a := (zCnt C7)) (b := 1500) (by omega) (by omega)).mpr z)
            refine v_iconst (v := 2) hX d_M_pages_71 (by decide) ?_
            refine v_goto hX d_M_pages_72 (tgt := 76) (by decide) ?_
            refine v_mput hX hM7 0 C7 (sxCo T cn) (soTh o7 2) (by decide) fl_M_97 rfl rfl rfl rfl pf_thrown pa_thrown d_M_pages_76 (fun va24 hM24 hf24 => ?_)
            refine v_aload_n hX d_M_pages_79 rfl rfl ?_
            refine v_mget hX hM24 0 (v := .int 2) (by decide) fl_M_97 rfl ((nf_columns 0 (by decide)).trans hf_thrown) d_M_pages_80 ?_
            refine v_if_le hX d_M_pages_83 (tgt := 93) (by decide) (fun c => absurd c (by decide)) (fun _ => ?_)
            refine v_aload_n hX d_M_pages_86 rfl rfl ?_
            refine v_iload_n hX d_M_pages_87 rfl rfl ?_
            refine v_mput hX hM24 21 C7 (sxCo (sxCo T cn) (ttCo T)) (soTh o7 2) (by decide) fl_M_119 rfl rfl rfl rfl pf_columns pa_columns d_M_pages_88 (fun va25 hM25 hf25 => ?_)
            refine v_iconst (v := 0) hX d_M_pages_91 (by decide) ?_
            exact v_iret hX hE d_M_pages_92 (Nat.le_of_ble_eq_true rfl) (Nat.le_of_ble_eq_true rfl) ⟨rfl, rfl, rfl, rfl, C7, (soTh o7 2), (ttCo T), ⟨⟨_, rfl⟩, by first | exact hcn2 | exact hX9⟩, hM25, ⟨hO7.1.1, hO7.1.2.1, hO7.1.2.2.1, hO7.1.2.2.2.1, (by have q9 := hO7.1.2.2.2.2; first | exact q9 | omega | (show (ooSm o7) ≤ 4300; omega))⟩, ((((((frM.rf.trans hf4).trans hf5).trans hf6).trans hf7).trans hf24).trans hf25)⟩
        · refine v_iconst (v := 1) hX d_M_pages_24 (by decide) ?_
          refine v_goto hX d_M_pages_25 (tgt := 29) (by decide) ?_
          refine v_mput hX hM 0 C T (soTh O 1) (by decide) fl_M_97 rfl rfl rfl rfl pf_thrown pa_thrown d_M_pages_29 (fun va26 hM26 hf26 => ?_)
          refine v_aload_n hX d_M_pages_32 rfl rfl ?_
          refine v_mget hX hM26 0 (v := .int 1) (by decide) fl_M_97 rfl hf_thrown d_M_pages_33 ?_
          refine v_if_le hX d_M_pages_36 (tgt := 41) (by decide) (fun c => absurd c (by decide)) (fun _ => ?_)
          refine v_iconst (v := 0) hX d_M_pages_39 (by decide) ?_
          exact v_iret hX hE d_M_pages_40 (Nat.le_of_ble_eq_true rfl) (Nat.le_of_ble_eq_true rfl) ⟨rfl, rfl, rfl, rfl, C, (soTh O 1), (ttCo T), ⟨⟨_, rfl⟩, by first | exact hcn2 | exact hX9⟩, hM26, ⟨hO.1, hO.2.1, hO.2.2.1, hO.2.2.2.1, (by have q9 := hO.2.2.2.2; first | exact q9 | omega | (show (ooSm O) ≤ 4300; omega))⟩, (frM.rf.trans hf26)⟩
