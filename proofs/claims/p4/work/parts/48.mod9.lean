set_option maxHeartbeats 4000000 in
set_option maxRecDepth 100000 in
theorem c_M_hear {l : Launch} {D : va_G} {A : Nat → Prop} {cI cB cZ cJ cN : ClassId} {ob : Nat → Nat} {C : CT} {T : TS} {O : OS} {dom : Nat → Prop} {loc : Nat → Nat} {val : Nat → va_E} (hM : ModI cI cB cZ ob C T O dom loc val) (hO : OI O) (x : Int32) (hHo : zHo C ≤ 13) (hlw : 4 ≤ zLw C ∧ zLw C ≤ 60) (hnm : zNm C ≤ zLw C) (hwm : zWm C < 4010) (hc : ooCt O = 0 → zCnt (hearF x C) ≤ 1501) : kM l y_M_hear (Cond.code y_M_hear b_M_hear 2 none :: TT) (rmM 7) D CL (TY cI cB cZ cJ cN) A [.ref (ob 48), .int x] dom loc val (PMo cI cB cZ ob T O dom loc val (fun rv C2 O2 => rv = none ∧ hearF x C = C2)) := by
  refine kM_of (lv0 := [some (.ref (ob 48)), some (.int x)]) (own := "ProsePagesModel") (by decide) rfl (List.forall_mem_cons.mpr ⟨rfl, List.forall_mem_cons.mpr ⟨rfl, fun _ h => nomatch h⟩⟩) (Nat.le_of_ble_eq_true rfl) rfl (Nat.le_of_ble_eq_true rfl) (fun X hl hX hE hin0 => ?_)
  refine v_iload_n hX d_M_hear_0 rfl rfl ?_
  refine v_bipush (v := 9) hX d_M_hear_1 (by decide) ?_
  refine v_icmp_eq hX d_M_hear_3 (tgt := 24) (by decide) (fun c3 => ?_) (fun c3 => ?_)
  · refine v_aload_n hX d_M_hear_24 rfl rfl ?_
    refine c_V hX 48 (rest := []) hl (c_M_endWord hM hO (by omega) ⟨by omega, by omega⟩ (by omega) (by omega) (fun z => by have q1 := hc (rfl.symm.trans z); unfold hearF at q1; rw [if_pos (Or.inl c3)] at q1; exact q1)) ml_M_195 im_M_endWord se_M_endWord in_M cd_M_endWord rfl q_M_endWord ⟨(Nat.le_of_ble_eq_true rfl), (Nat.le_of_ble_eq_true rfl)⟩ hM.1.1 hM.1.2.1 hM.1.2.2 rfl rfl rfl rfl (Nat.le_of_ble_eq_true rfl) d_M_hear_25 ⟨(Nat.le_of_ble_eq_true rfl), (Nat.le_of_ble_eq_true rfl)⟩ (fun rv d2 lo2 va1 kc ns hp => ?_)
    obtain ⟨rfl, rfl, rfl, rfl, C1, o1, ⟨rfl, hC1⟩, hM1, hO1, hf1⟩ := hp
    show V X D CL A _ _ _ _ _ _ _ []
    have hg1 := ew_ok C (by omega) (by omega)
    rw [hC1] at hg1
    obtain ⟨hk1, hw1, hn1, hu1, hv1⟩ := hg1
    obtain ⟨hk1h, hk1l, -⟩ := hk1
    refine v_goto hX d_M_hear_28 (tgt := 51) (by decide) ?_
    exact v_vret hX hE d_M_hear_51 (Nat.le_of_ble_eq_true rfl) (Nat.le_of_ble_eq_true rfl) ⟨rfl, rfl, rfl, rfl, C1, o1, ⟨rfl, (by unfold hearF; rw [if_pos (Or.inl c3)]; exact hC1)⟩, hM1, ⟨hO1.1, (hO1.2.trans rfl)⟩, (frM.rf.trans hf1)⟩
  · refine v_iload_n hX d_M_hear_6 rfl rfl ?_
    refine v_bipush (v := 10) hX d_M_hear_7 (by decide) ?_
    refine v_icmp_eq hX d_M_hear_9 (tgt := 24) (by decide) (fun c9 => ?_) (fun c9 => ?_)
    · refine v_aload_n hX d_M_hear_24 rfl rfl ?_
      refine c_V hX 48 (rest := []) hl (c_M_endWord hM hO (by omega) ⟨by omega, by omega⟩ (by omega) (by omega) (fun z => by have q1 := hc (rfl.symm.trans z); unfold hearF at q1; rw [if_pos (Or.inr (Or.inl c9))] at q1; exact q1)) ml_M_195 im_M_endWord se_M_endWord in_M cd_M_endWord rfl q_M_endWord ⟨(Nat.le_of_ble_eq_true rfl), (Nat.le_of_ble_eq_true rfl)⟩ hM.1.1 hM.1.2.1 hM.1.2.2 rfl rfl rfl rfl (Nat.le_of_ble_eq_true rfl) d_M_hear_25 ⟨(Nat.le_of_ble_eq_true rfl), (Nat.le_of_ble_eq_true rfl)⟩ (fun rv d2 lo2 va2 kc ns hp => ?_)
      obtain ⟨rfl, rfl, rfl, rfl, C2, o2, ⟨rfl, hC2⟩, hM2, hO2, hf2⟩ := hp
      show V X D CL A _ _ _ _ _ _ _ []
      have hg2 := ew_ok C (by omega) (by omega)
      rw [hC2] at hg2
      obtain ⟨hk2, hw2, hn2, hu2, hv2⟩ := hg2
      obtain ⟨hk2h, hk2l, -⟩ := hk2
      refine v_goto hX d_M_hear_28 (tgt := 51) (by decide) ?_
      exact v_vret hX hE d_M_hear_51 (Nat.le_of_ble_eq_true rfl) (Nat.le_of_ble_eq_true rfl) ⟨rfl, rfl, rfl, rfl, C2, o2, ⟨rfl, (by unfold hearF; rw [if_pos (Or.inr (Or.inl c9))]; exact hC2)⟩, hM2, ⟨hO2.1, (hO2.2.trans rfl)⟩, (frM.rf.trans hf2)⟩
    · refine v_iload_n hX d_M_hear_12 rfl rfl ?_
      refine v_bipush (v := 13) hX d_M_hear_13 (by decide) ?_
      refine v_icmp_eq hX d_M_hear_15 (tgt := 24) (by decide) (fun c15 => ?_) (fun c15 => ?_)
      · refine v_aload_n hX d_M_hear_24 rfl rfl ?_
        refine c_V hX 48 (rest := []) hl (c_M_endWord hM hO (by omega) ⟨by omega, by omega⟩ (by omega) (by omega) (fun z => by have q1 := hc (rfl.symm.trans z); unfold hearF at q1; rw [if_pos (Or.inr (Or.inr (Or.inl c15)))] at q1; exact q1)) ml_M_195 im_M_endWord se_M_endWord in_M cd_M_endWord rfl q_M_endWord ⟨(Nat.le_of_ble_eq_true rfl), (Nat.le_of_ble_eq_true rfl)⟩ hM.1.1 hM.1.2.1 hM.1.2.2 rfl rfl rfl rfl (Nat.le_of_ble_eq_true rfl) d_M_hear_25 ⟨(Nat.le_of_ble_eq_true rfl), (Nat.le_of_ble_eq_true rfl)⟩ (fun rv d2 lo2 va3 kc ns hp => ?_)
        obtain ⟨rfl, rfl, rfl, rfl, C3, o3, ⟨rfl, hC3⟩, hM3, hO3, hf3⟩ := hp
        show V X D CL A _ _ _ _ _ _ _ []
        have hg3 := ew_ok C (by omega) (by omega)
        rw [hC3] at hg3
        obtain ⟨hk3, hw3, hn3, hu3, hv3⟩ := hg3
        obtain ⟨hk3h, hk3l, -⟩ := hk3
        refine v_goto hX d_M_hear_28 (tgt := 51) (by decide) ?_
        exact v_vret hX hE d_M_hear_51 (Nat.le_of_ble_eq_true rfl) (Nat.le_of_ble_eq_true rfl) ⟨rfl, rfl, rfl, rfl, C3, o3, ⟨rfl, (by unfold hearF; rw [if_pos (Or.inr (Or.inr (Or.inl c15)))]; exact hC3)⟩, hM3, ⟨hO3.1, (hO3.2.trans rfl)⟩, (frM.rf.trans hf3)⟩
      · refine v_iload_n hX d_M_hear_18 rfl rfl ?_
        refine v_bipush (v := 32) hX d_M_hear_19 (by decide) ?_
        refine v_icmp_ne hX d_M_hear_21 (tgt := 31) (by decide) (fun c21 => ?_) (fun c21 => ?_)
        · refine v_aload_n hX d_M_hear_31 rfl rfl ?_
          refine v_mget hX hM 35 (v := .ref (ob 73)) (by decide) fl_M_85 rfl rfl d_M_hear_32 ?_
          refine v_aload_n hX d_M_hear_35 rfl rfl ?_
          refine v_mget hX hM 38 (v := .int (nI (zWm C))) (by decide) fl_M_186 rfl gf_wordMany d_M_hear_36 ?_
          refine v_iload_n hX d_M_hear_39 rfl rfl ?_
          refine v_mist hX hM 24 C T (soWo O (upd (ooWo O) (zWm C) x)) (i := (zWm C)) (by decide) ga_word (by omega) (by decide) qf_word qa_word d_M_hear_40 (fun va4 hM4 hf4 => ?_)
          refine v_aload_n hX d_M_hear_41 rfl rfl ?_
          refine v_dup hX d_M_hear_42 rfl ?_
          refine v_mget hX hM4 38 (v := .int (nI (zWm C))) (by decide) fl_M_186 rfl ((nf_word 38).trans gf_wordMany) d_M_hear_43 ?_
          refine v_iconst (v := 1) hX d_M_hear_46 (by decide) ?_
          refine v_iaddE (v := nI ((zWm C) + 1)) hX d_M_hear_47 (nI_add (zWm C) 1) ?_
          refine v_mput hX hM4 38 (szWm C ((zWm C) + 1)) T (soWo O (upd (ooWo O) (zWm C) x)) (by decide) fl_M_186 rfl rfl rfl rfl pf_wordMany pa_wordMany d_M_hear_48 (fun va5 hM5 hf5 => ?_)
          exact v_vret hX hE d_M_hear_51 (Nat.le_of_ble_eq_true rfl) (Nat.le_of_ble_eq_true rfl) ⟨rfl, rfl, rfl, rfl, (szWm C ((zWm C) + 1)), (soWo O (upd (ooWo O) (zWm C) x)), ⟨rfl, (by unfold hearF; rw [if_neg (fun z => z.elim c3 (fun z => z.elim c9 (fun z => z.elim c15 c21)))])⟩, hM5, ⟨⟨hO.1, hO.2.1, hO.2.2.1, hO.2.2.2.1, (by have q9 := hO.2.2.2.2; first | exact q9 | omega | (show (ooSm O) ≤ 4300; omega))⟩, rfl⟩, ((frM.rf.trans hf4).trans hf5)⟩
        · refine v_aload_n hX d_M_hear_24 rfl rfl ?_
          refine c_V hX 48 (rest := []) hl (c_M_endWord hM hO (by omega) ⟨by omega, by omega⟩ (by omega) (by omega) (fun z => by have q1 := hc (rfl.symm.trans z); unfold hearF at q1; rw [if_pos (Or.inr (Or.inr (Or.inr c21)))] at q1; exact q1)) ml_M_195 im_M_endWord se_M_endWord in_M cd_M_endWord rfl q_M_endWord ⟨(Nat.le_of_ble_eq_true rfl), (Nat.le_of_ble_eq_true rfl)⟩ hM.1.1 hM.1.2.1 hM.1.2.2 rfl rfl rfl rfl (Nat.le_of_ble_eq_true rfl) d_M_hear_25 ⟨(Nat.le_of_ble_eq_true rfl), (Nat.le_of_ble_eq_true rfl)⟩ (fun rv d2 lo2 va6 kc ns hp => ?_)
          obtain ⟨rfl, rfl, rfl, rfl, C6, o6, ⟨rfl, hC6⟩, hM6, hO6, hf6⟩ := hp
          show V X D CL A _ _ _ _ _ _ _ []
          have hg6 := ew_ok C (by omega) (by omega)
          rw [hC6] at hg6
          obtain ⟨hk6, hw6, hn6, hu6, hv6⟩ := hg6
          obtain ⟨hk6h, hk6l, -⟩ := hk6
          refine v_goto hX d_M_hear_28 (tgt := 51) (by decide) ?_
          exact v_vret hX hE d_M_hear_51 (Nat.le_of_ble_eq_true rfl) (Nat.le_of_ble_eq_true rfl) ⟨rfl, rfl, rfl, rfl, C6, o6, ⟨rfl, (by unfold hearF; rw [if_pos (Or.inr (Or.inr (Or.inr c21)))]; exact hC6)⟩, hM6, ⟨hO6.1, (hO6.2.trans rfl)⟩, (frM.rf.trans hf6)⟩
set_option maxHeartbeats 4000000 in
set_option maxRecDepth 100000 in
theorem c_M_beginLeaf {l : Launch} {D : va_G} {A : Nat → Prop} {cI cB cZ cJ cN : ClassId} {ob : Nat → Nat} {C : CT} {T : TS} {O : OS} {dom : Nat → Prop} {loc : Nat → Nat} {val : Nat → va_E} (hM : ModI cI cB cZ ob C T O dom loc val) (hO : OI O) (hHo : 1 ≤ zHo C ∧ zHo C ≤ 13) (hw : zW C (zHo C - 1) = nI (wdt C)) : kM l y_M_beginLeaf (Cond.code y_M_beginLeaf b_M_beginLeaf 1 none :: TT) (rmM 1) D CL (TY cI cB cZ cJ cN) A [.ref (ob 48)] dom loc val (PMo cI cB cZ ob T O dom loc val (fun rv C2 O2 => rv = none ∧ bl C = C2)) := by
  refine kM_of (lv0 := [some (.ref (ob 48))]) (own := "ProsePagesModel") (by decide) rfl (List.forall_mem_cons.mpr ⟨rfl, fun _ h => nomatch h⟩) (Nat.le_of_ble_eq_true rfl) rfl (Nat.le_of_ble_eq_true rfl) (fun X hl hX hE hin0 => ?_)
  have e1 := nar1
  refine v_aload_n hX d_M_beginLeaf_0 rfl rfl ?_
  refine v_mget hX hM 33 (v := .ref (ob 72)) (by decide) fl_M_82 rfl rfl d_M_beginLeaf_1 ?_
  refine v_aload_n hX d_M_beginLeaf_4 rfl rfl ?_
  refine v_mget hX hM 34 (v := .int (nI (zHo C))) (by decide) fl_M_166 rfl gf_holders d_M_beginLeaf_5 ?_
  refine v_iconst (v := 1) hX d_M_beginLeaf_8 (by decide) ?_
  refine v_isubE (v := nI ((zHo C) - 1)) hX d_M_beginLeaf_9 (nI_sub (a := (zHo C)) (b := 1) (by omega)) ?_
  refine v_iconst (v := 1) hX d_M_beginLeaf_10 (by decide) ?_
  refine v_mzst hX hM 23 (szF C (upd (zF C) ((zHo C) - 1) (vp_nar .boolean 1))) T O (i := ((zHo C) - 1)) (by decide) ga_hFresh (by omega) (by decide) qf_hFresh qa_hFresh d_M_beginLeaf_11 (fun va1 hM1 hf1 => ?_)
  refine v_aload_n hX d_M_beginLeaf_12 rfl rfl ?_
  refine v_iconst (v := 1) hX d_M_beginLeaf_13 (by decide) ?_
  refine v_mput hX hM1 43 (szLo (szF C (upd (zF C) ((zHo C) - 1) (vp_nar .boolean 1))) 1) T O (by decide) fl_M_198 rfl rfl (by first | rfl | decide | assumption) rfl pf_leafOpen pa_leafOpen d_M_beginLeaf_14 (fun va2 hM2 hf2 => ?_)
  refine v_aload_n hX d_M_beginLeaf_17 rfl rfl ?_
  refine v_iconst (v := (-1)) hX d_M_beginLeaf_18 (by decide) ?_
  refine v_mput hX hM2 42 (szLl (szLo (szF C (upd (zF C) ((zHo C) - 1) (vp_nar .boolean 1))) 1) (-1)) T O (by decide) fl_M_176 rfl rfl rfl rfl pf_leafLine pa_leafLine d_M_beginLeaf_19 (fun va3 hM3 hf3 => ?_)
  refine v_aload_n hX d_M_beginLeaf_22 rfl rfl ?_
  refine v_aload_n hX d_M_beginLeaf_23 rfl rfl ?_
  refine v_mget hX hM3 27 (v := .ref (ob 66)) (by decide) fl_M_64 rfl rfl d_M_beginLeaf_24 ?_
  refine v_aload_n hX d_M_beginLeaf_27 rfl rfl ?_
  refine v_mget hX hM3 34 (v := .int (nI (zHo C))) (by decide) fl_M_166 rfl ((nf_leafLine 34 (by decide)).trans ((nf_leafOpen 34 (by decide)).trans ((nf_hFresh 34).trans gf_holders))) d_M_beginLeaf_28 ?_
  refine v_iconst (v := 1) hX d_M_beginLeaf_31 (by decide) ?_
  refine v_isubE (v := nI ((zHo C) - 1)) hX d_M_beginLeaf_32 (nI_sub (a := (zHo C)) (b := 1) (by omega)) ?_
  refine v_mild hX hM3 17 (i := ((zHo C) - 1)) (v := (nI (wdt C))) ((na_leafLine 17).trans ((na_leafOpen 17).trans ((na_hFresh 17 (by decide)).trans ga_hWidth))) (by omega) (by decide) hw d_M_beginLeaf_33 ?_
  refine v_mput hX hM3 41 (szLw (szLl (szLo (szF C (upd (zF C) ((zHo C) - 1) (vp_nar .boolean 1))) 1) (-1)) (wdt C)) T O (by decide) fl_M_189 rfl rfl rfl rfl pf_leafWidth pa_leafWidth d_M_beginLeaf_34 (fun va4 hM4 hf4 => ?_)
  refine v_aload_n hX d_M_beginLeaf_37 rfl rfl ?_
  refine v_iconst (v := 0) hX d_M_beginLeaf_38 (by decide) ?_
  refine v_mput hX hM4 38 (szWm (szLw (szLl (szLo (szF C (upd (zF C) ((zHo C) - 1) (vp_nar .boolean 1))) 1) (-1)) (wdt C)) 0) T O (by decide) fl_M_186 rfl rfl rfl rfl pf_wordMany pa_wordMany d_M_beginLeaf_39 (fun va5 hM5 hf5 => ?_)
  refine v_aload_n hX d_M_beginLeaf_42 rfl rfl ?_
  refine v_iconst (v := 0) hX d_M_beginLeaf_43 (by decide) ?_
  refine v_mput hX hM5 39 (szNm (szWm (szLw (szLl (szLo (szF C (upd (zF C) ((zHo C) - 1) (vp_nar .boolean 1))) 1) (-1)) (wdt C)) 0) 0) T O (by decide) fl_M_179 rfl rfl rfl rfl pf_nowMany pa_nowMany d_M_beginLeaf_44 (fun va6 hM6 hf6 => ?_)
  exact v_vret hX hE d_M_beginLeaf_47 (Nat.le_of_ble_eq_true rfl) (Nat.le_of_ble_eq_true rfl) ⟨rfl, rfl, rfl, rfl, (szNm (szWm (szLw (szLl (szLo (szF C (upd (zF C) ((zHo C) - 1) (vp_nar .boolean 1))) 1) (-1)) (wdt C)) 0) 0), O, ⟨rfl, (by unfold bl; rw [nar1])⟩, hM6, ⟨hO, rfl⟩, ((((((frM.rf.trans hf1).trans hf2).trans hf3).trans hf4).trans hf5).trans hf6)⟩
set_option maxHeartbeats 4000000 in
set_option maxRecDepth 100000 in
theorem c_M_endLeaf {l : Launch} {D : va_G} {A : Nat → Prop} {cI cB cZ cJ cN : ClassId} {ob : Nat → Nat} {C : CT} {T : TS} {O : OS} {dom : Nat → Prop} {loc : Nat → Nat} {val : Nat → va_E} (hM : ModI cI cB cZ ob C T O dom loc val) (hO : OI O) (hHo : zHo C ≤ 13) (hlw : 4 ≤ zLw C ∧ zLw C ≤ 60) (hnm : zNm C ≤ zLw C) (hwm : zWm C ≤ 4010) (hc : ooCt O = 0 → zCnt (el C) ≤ 1501) : kM l y_M_endLeaf (Cond.code y_M_endLeaf b_M_endLeaf 1 none :: TT) (rmM 7) D CL (TY cI cB cZ cJ cN) A [.ref (ob 48)] dom loc val (PMo cI cB cZ ob T O dom loc val (fun rv C2 O2 => rv = none ∧ el C = C2)) := by
  refine kM_of (lv0 := [some (.ref (ob 48))]) (own := "ProsePagesModel") (by decide) rfl (List.forall_mem_cons.mpr ⟨rfl, fun _ h => nomatch h⟩) (Nat.le_of_ble_eq_true rfl) rfl (Nat.le_of_ble_eq_true rfl) (fun X hl hX hE hin0 => ?_)
  refine v_aload_n hX d_M_endLeaf_0 rfl rfl ?_
  refine c_V hX 48 (rest := []) hl (c_M_endWord hM hO (by omega) ⟨by omega, by omega⟩ (by omega) (by omega) (fun z => by have q1 := hc (rfl.symm.trans z); have q2 := el_mono C; omega)) ml_M_195 im_M_endWord se_M_endWord in_M cd_M_endWord rfl q_M_endWord ⟨(Nat.le_of_ble_eq_true rfl), (Nat.le_of_ble_eq_true rfl)⟩ hM.1.1 hM.1.2.1 hM.1.2.2 rfl rfl rfl rfl (Nat.le_of_ble_eq_true rfl) d_M_endLeaf_1 ⟨(Nat.le_of_ble_eq_true rfl), (Nat.le_of_ble_eq_true rfl)⟩ (fun rv d2 lo2 va1 kc ns hp => ?_)
  obtain ⟨rfl, rfl, rfl, rfl, C1, o1, ⟨rfl, hC1⟩, hM1, hO1, hf1⟩ := hp
  show V X D CL A _ _ _ _ _ _ _ []
  have hg1 := ew_ok C (by omega) (by omega)
  rw [hC1] at hg1
  obtain ⟨hk1, hw1, hn1, hu1, hv1⟩ := hg1
  obtain ⟨hk1h, hk1l, -⟩ := hk1
  refine v_aload_n hX d_M_endLeaf_4 rfl rfl ?_
  refine v_mget hX hM1 39 (v := .int (nI (zNm C1))) (by decide) fl_M_179 rfl gf_nowMany d_M_endLeaf_5 ?_
  refine v_if_le hX d_M_endLeaf_8 (tgt := 15) (by decide) (fun c8 => ?_) (fun c8 => ?_)
  · have f8 : (zNm C1) ≤ 0 := (nI_leI (a := (zNm C1)) (b := 0) (by omega) (by omega)).mp c8
    refine v_aload_n hX d_M_endLeaf_15 rfl rfl ?_
    refine v_iconst (v := 0) hX d_M_endLeaf_16 (by decide) ?_
    refine v_mput hX hM1 43 (szLo C1 0) T o1 (by decide) fl_M_198 rfl rfl (by first | rfl | decide | assumption) rfl pf_leafOpen pa_leafOpen d_M_endLeaf_17 (fun va2 hM2 hf2 => ?_)
    exact v_vret hX hE d_M_endLeaf_20 (Nat.le_of_ble_eq_true rfl) (Nat.le_of_ble_eq_true rfl) ⟨rfl, rfl, rfl, rfl, (szLo C1 0), o1, ⟨rfl, (by unfold el; rw [hC1, if_neg (show ¬ 0 < zNm C1 by omega)])⟩, hM2, ⟨hO1.1, (hO1.2.trans rfl)⟩, ((frM.rf.trans hf1).trans hf2)⟩
  · have f8 : ¬ (zNm C1) ≤ 0 := fun z => c8 ((nI_leI (a := (zNm C1)) (b := 0) (by omega) (by omega)).mpr z)
    refine v_aload_n hX d_M_endLeaf_11 rfl rfl ?_
    refine c_V hX 48 (rest := []) hl (c_M_giveNow hM1 hO1.1 (by omega) (by omega) (fun z => by have q1 := hc ((hO1.2.trans rfl).symm.trans z); have q2 : zCnt (el C) = zCnt (gn (ew C)) := (by unfold el; rw [hC1, if_pos (show 0 < zNm C1 by omega)]); rw [hC1] at q2; have q3 : zCnt (gn C1) = zCnt (gl C1) := szNm_cnt _ _; omega)) ml_M_192 im_M_giveNow se_M_giveNow in_M cd_M_giveNow rfl q_M_giveNow ⟨(Nat.le_of_ble_eq_true rfl), (Nat.le_of_ble_eq_true rfl)⟩ hM1.1.1 hM1.1.2.1 hM1.1.2.2 rfl rfl rfl rfl (Nat.le_of_ble_eq_true rfl) d_M_endLeaf_12 ⟨(Nat.le_of_ble_eq_true rfl), (Nat.le_of_ble_eq_true rfl)⟩ (fun rv d2 lo2 va3 kc ns hp => ?_)
    obtain ⟨rfl, rfl, rfl, rfl, C3, o3, ⟨rfl, hC3⟩, hM3, hO3, hf3⟩ := hp
    show V X D CL A _ _ _ _ _ _ _ []
    have hg3 := gn_ok C1
    rw [hC3] at hg3
    obtain ⟨hk3, hw3, hn3, hu3, hv3⟩ := hg3
    obtain ⟨hk3h, hk3l, -⟩ := hk3
    refine v_aload_n hX d_M_endLeaf_15 rfl rfl ?_
    refine v_iconst (v := 0) hX d_M_endLeaf_16 (by decide) ?_
    refine v_mput hX hM3 43 (szLo C3 0) T o3 (by decide) fl_M_198 rfl rfl (by first | rfl | decide | assumption) rfl pf_leafOpen pa_leafOpen d_M_endLeaf_17 (fun va4 hM4 hf4 => ?_)
    exact v_vret hX hE d_M_endLeaf_20 (Nat.le_of_ble_eq_true rfl) (Nat.le_of_ble_eq_true rfl) ⟨rfl, rfl, rfl, rfl, (szLo C3 0), o3, ⟨rfl, (by unfold el; rw [hC1, if_pos (show 0 < zNm C1 by omega), hC3])⟩, hM4, ⟨hO3.1, (hO3.2.trans (hO1.2.trans rfl))⟩, (((frM.rf.trans hf1).trans hf3).trans hf4)⟩
set_option maxHeartbeats 4000000 in
set_option maxRecDepth 100000 in
theorem c_M_hold {l : Launch} {D : va_G} {A : Nat → Prop} {cI cB cZ cJ cN : ClassId} {ob : Nat → Nat} {C : CT} {T : TS} {O : OS} {dom : Nat → Prop} {loc : Nat → Nat} {val : Nat → va_E} (hM : ModI cI cB cZ ob C T O dom loc val) (hO : OI O) (k x sg wi : Int32) (hHo : zHo C ≤ 13) : kM l y_M_hold (Cond.code y_M_hold b_M_hold 6 none :: TT) (rmM 1) D CL (TY cI cB cZ cJ cN) A [.ref (ob 48), .int k, .int x, .int sg, .int wi] dom loc val (PMo cI cB cZ ob T O dom loc val (fun rv C2 O2 => rv = none ∧ hd k x sg wi C = C2)) := by
  refine kM_of (lv0 := [some (.ref (ob 48)), some (.int k), some (.int x), some (.int sg), some (.int wi), none]) (own := "ProsePagesModel") (by decide) rfl (List.forall_mem_cons.mpr ⟨rfl, List.forall_mem_cons.mpr ⟨rfl, List.forall_mem_cons.mpr ⟨rfl, List.forall_mem_cons.mpr ⟨rfl, List.forall_mem_cons.mpr ⟨rfl, fun _ h => nomatch h⟩⟩⟩⟩⟩) (Nat.le_of_ble_eq_true rfl) rfl (Nat.le_of_ble_eq_true rfl) (fun X hl hX hE hin0 => ?_)
  refine v_aload_n hX d_M_hold_0 rfl rfl ?_
  refine v_mget hX hM 34 (v := .int (nI (zHo C))) (by decide) fl_M_166 rfl gf_holders d_M_hold_1 ?_
  refine v_if_le hX d_M_hold_4 (tgt := 19) (by decide) (fun c4 => ?_) (fun c4 => ?_)
  · have f4 : (zHo C) ≤ 0 := (nI_leI (a := (zHo C)) (b := 0) (by omega) (by omega)).mp c4
    refine v_aload_n hX d_M_hold_19 rfl rfl ?_
    refine v_mget hX hM 34 (v := .int (nI (zHo C))) (by decide) fl_M_166 rfl gf_holders d_M_hold_20 ?_
    refine v_istore (lv' := [some (.ref (ob 48)), some (.int k), some (.int x), some (.int sg), some (.int wi), some (.int (nI (zHo C)))]) hX d_M_hold_23 (Nat.le_of_ble_eq_true rfl) rfl ?_
    refine v_aload_n hX d_M_hold_25 rfl rfl ?_
    refine v_mget hX hM 26 (v := .ref (ob 65)) (by decide) fl_M_61 rfl rfl d_M_hold_26 ?_
    refine v_iload hX d_M_hold_29 rfl ?_
    refine v_iload_n hX d_M_hold_31 rfl rfl ?_
    refine v_mist hX hM 16 (szK C (upd (zK C) (zHo C) k)) T O (i := (zHo C)) (by decide) ga_hKind (by omega) (by decide) qf_hKind qa_hKind d_M_hold_32 (fun va1 hM1 hf1 => ?_)
    refine v_aload_n hX d_M_hold_33 rfl rfl ?_
    refine v_mget hX hM1 27 (v := .ref (ob 66)) (by decide) fl_M_64 rfl rfl d_M_hold_34 ?_
    refine v_iload hX d_M_hold_37 rfl ?_
    refine v_iload_n hX d_M_hold_39 rfl rfl ?_
    refine v_iconst (v := 4) hX d_M_hold_40 (by decide) ?_
    refine v_icmp_ge hX d_M_hold_41 (tgt := 48) (by decide) (fun c41 => ?_) (fun c41 => ?_)
    · refine v_iload_n hX d_M_hold_48 rfl rfl ?_
      refine v_mist hX hM1 17 (szW (szK C (upd (zK C) (zHo C) k)) (upd (zW C) (zHo C) x)) T O (i := (zHo C)) (by decide) ((na_hKind 17 (by decide)).trans ga_hWidth) (by omega) (by decide) qf_hWidth qa_hWidth d_M_hold_49 (fun va2 hM2 hf2 => ?_)
      refine v_aload_n hX d_M_hold_50 rfl rfl ?_
      refine v_mget hX hM2 28 (v := .ref (ob 67)) (by decide) fl_M_67 rfl rfl d_M_hold_51 ?_
      refine v_iload hX d_M_hold_54 rfl ?_
      refine v_iload_n hX d_M_hold_56 rfl rfl ?_
      refine v_mist hX hM2 18 (szS (szW (szK C (upd (zK C) (zHo C) k)) (upd (zW C) (zHo C) x)) (upd (zS C) (zHo C) sg)) T O (i := (zHo C)) (by decide) ((na_hWidth 18 (by decide)).trans ((na_hKind 18 (by decide)).trans ga_hSign)) (by omega) (by decide) qf_hSign qa_hSign d_M_hold_57 (fun va3 hM3 hf3 => ?_)
      refine v_aload_n hX d_M_hold_58 rfl rfl ?_
      refine v_mget hX hM3 29 (v := .ref (ob 68)) (by decide) fl_M_70 rfl rfl d_M_hold_59 ?_
      refine v_iload hX d_M_hold_62 rfl ?_
      refine v_iload_n hX d_M_hold_64 rfl rfl ?_
      refine v_mist hX hM3 19 (szX (szS (szW (szK C (upd (zK C) (zHo C) k)) (upd (zW C) (zHo C) x)) (upd (zS C) (zHo C) sg)) (upd (zX C) (zHo C) sg)) T O (i := (zHo C)) (by decide) ((na_hSign 19 (by decide)).trans ((na_hWidth 19 (by decide)).trans ((na_hKind 19 (by decide)).trans ga_hNext))) (by omega) (by decide) qf_hNext qa_hNext d_M_hold_65 (fun va4 hM4 hf4 => ?_)
      refine v_aload_n hX d_M_hold_66 rfl rfl ?_
      refine v_mget hX hM4 30 (v := .ref (ob 69)) (by decide) fl_M_73 rfl rfl d_M_hold_67 ?_
      refine v_iload hX d_M_hold_70 rfl ?_
      refine v_iload_n hX d_M_hold_72 rfl rfl ?_
      refine v_bipush (v := 7) hX d_M_hold_73 (by decide) ?_
      refine v_icmp_ne hX d_M_hold_75 (tgt := 82) (by decide) (fun c75 => ?_) (fun c75 => ?_)
      · refine v_iconst (v := 0) hX d_M_hold_82 (by decide) ?_
        refine v_mzst hX hM4 20 (szD (szX (szS (szW (szK C (upd (zK C) (zHo C) k)) (upd (zW C) (zHo C) x)) (upd (zS C) (zHo C) sg)) (upd (zX C) (zHo C) sg)) (upd (zD C) (zHo C) (vp_nar .boolean 0))) T O (i := (zHo C)) (by decide) ((na_hNext 20 (by decide)).trans ((na_hSign 20 (by decide)).trans ((na_hWidth 20 (by decide)).trans ((na_hKind 20 (by decide)).trans ga_hDue)))) (by omega) (by decide) qf_hDue qa_hDue d_M_hold_83 (fun va5 hM5 hf5 => ?_)
        refine v_aload_n hX d_M_hold_84 rfl rfl ?_
        refine v_mget hX hM5 31 (v := .ref (ob 70)) (by decide) fl_M_76 rfl rfl d_M_hold_85 ?_
        refine v_iload hX d_M_hold_88 rfl ?_
        refine v_iload hX d_M_hold_90 rfl ?_
        refine v_mzst hX hM5 21 (szI (szD (szX (szS (szW (szK C (upd (zK C) (zHo C) k)) (upd (zW C) (zHo C) x)) (upd (zS C) (zHo C) sg)) (upd (zX C) (zHo C) sg)) (upd (zD C) (zHo C) (vp_nar .boolean 0))) (upd (zI C) (zHo C) (vp_nar .boolean wi))) T O (i := (zHo C)) (by decide) ((na_hDue 21 (by decide)).trans ((na_hNext 21 (by decide)).trans ((na_hSign 21 (by decide)).trans ((na_hWidth 21 (by decide)).trans ((na_hKind 21 (by decide)).trans ga_hWide))))) (by omega) (by decide) qf_hWide qa_hWide d_M_hold_92 (fun va6 hM6 hf6 => ?_)
        refine v_aload_n hX d_M_hold_93 rfl rfl ?_
        refine v_mget hX hM6 32 (v := .ref (ob 71)) (by decide) fl_M_79 rfl rfl d_M_hold_94 ?_
        refine v_iload hX d_M_hold_97 rfl ?_
        refine v_iconst (v := 0) hX d_M_hold_99 (by decide) ?_
        refine v_mzst hX hM6 22 (szH (szI (szD (szX (szS (szW (szK C (upd (zK C) (zHo C) k)) (upd (zW C) (zHo C) x)) (upd (zS C) (zHo C) sg)) (upd (zX C) (zHo C) sg)) (upd (zD C) (zHo C) (vp_nar .boolean 0))) (upd (zI C) (zHo C) (vp_nar .boolean wi))) (upd (zH C) (zHo C) (vp_nar .boolean 0))) T O (i := (zHo C)) (by decide) ((na_hWide 22 (by decide)).trans ((na_hDue 22 (by decide)).trans ((na_hNext 22 (by decide)).trans ((na_hSign 22 (by decide)).trans ((na_hWidth 22 (by decide)).trans ((na_hKind 22 (by decide)).trans ga_hHad)))))) (by omega) (by decide) qf_hHad qa_hHad d_M_hold_100 (fun va7 hM7 hf7 => ?_)
        refine v_aload_n hX d_M_hold_101 rfl rfl ?_
        refine v_mget hX hM7 33 (v := .ref (ob 72)) (by decide) fl_M_82 rfl rfl d_M_hold_102 ?_
        refine v_iload hX d_M_hold_105 rfl ?_
        refine v_iconst (v := 0) hX d_M_hold_107 (by decide) ?_
        refine v_mzst hX hM7 23 (szF (szH (szI (szD (szX (szS (szW (szK C (upd (zK C) (zHo C) k)) (upd (zW C) (zHo C) x)) (upd (zS C) (zHo C) sg)) (upd (zX C) (zHo C) sg)) (upd (zD C) (zHo C) (vp_nar .boolean 0))) (upd (zI C) (zHo C) (vp_nar .boolean wi))) (upd (zH C) (zHo C) (vp_nar .boolean 0))) (upd (zF C) (zHo C) (vp_nar .boolean 0))) T O (i := (zHo C)) (by decide) ((na_hHad 23 (by decide)).trans ((na_hWide 23 (by decide)).trans ((na_hDue 23 (by decide)).trans ((na_hNext 23 (by decide)).trans ((na_hSign 23 (by decide)).trans ((na_hWidth 23 (by decide)).trans ((na_hKind 23 (by decide)).trans ga_hFresh))))))) (by omega) (by decide) qf_hFresh qa_hFresh d_M_hold_108 (fun va8 hM8 hf8 => ?_)
        refine v_aload_n hX d_M_hold_109 rfl rfl ?_
        refine v_dup hX d_M_hold_110 rfl ?_
        refine v_mget hX hM8 34 (v := .int (nI (zHo C))) (by decide) fl_M_166 rfl ((nf_hFresh 34).trans ((nf_hHad 34).trans ((nf_hWide 34).trans ((nf_hDue 34).trans ((nf_hNext 34).trans ((nf_hSign 34).trans ((nf_hWidth 34).trans ((nf_hKind 34).trans gf_holders)))))))) d_M_hold_111 ?_
        refine v_iconst (v := 1) hX d_M_hold_114 (by decide) ?_
        refine v_iaddE (v := nI ((zHo C) + 1)) hX d_M_hold_115 (nI_add (zHo C) 1) ?_
        refine v_mput hX hM8 34 (szHo (szF (szH (szI (szD (szX (szS (szW (szK C (upd (zK C) (zHo C) k)) (upd (zW C) (zHo C) x)) (upd (zS C) (zHo C) sg)) (upd (zX C) (zHo C) sg)) (upd (zD C) (zHo C) (vp_nar .boolean 0))) (upd (zI C) (zHo C) (vp_nar .boolean wi))) (upd (zH C) (zHo C) (vp_nar .boolean 0))) (upd (zF C) (zHo C) (vp_nar .boolean 0))) ((zHo C) + 1)) T O (by decide) fl_M_166 rfl rfl rfl rfl pf_holders pa_holders d_M_hold_116 (fun va9 hM9 hf9 => ?_)
        exact v_vret hX hE d_M_hold_119 (Nat.le_of_ble_eq_true rfl) (Nat.le_of_ble_eq_true rfl) ⟨rfl, rfl, rfl, rfl, (szHo (szF (szH (szI (szD (szX (szS (szW (szK C (upd (zK C) (zHo C) k)) (upd (zW C) (zHo C) x)) (upd (zS C) (zHo C) sg)) (upd (zX C) (zHo C) sg)) (upd (zD C) (zHo C) (vp_nar .boolean 0))) (upd (zI C) (zHo C) (vp_nar .boolean wi))) (upd (zH C) (zHo C) (vp_nar .boolean 0))) (upd (zF C) (zHo C) (vp_nar .boolean 0))) ((zHo C) + 1)), O, ⟨rfl, (by unfold hd; simp only [if_neg (show ¬ 0 < zHo C by omega), if_neg (Int32.not_lt.mpr c41), if_neg c75, nar0, nar1])⟩, hM9, ⟨hO, rfl⟩, (((((((((frM.rf.trans hf1).trans hf2).trans hf3).trans hf4).trans hf5).trans hf6).trans hf7).trans hf8).trans hf9)⟩
      · refine v_iconst (v := 1) hX d_M_hold_78 (by decide) ?_
        refine v_goto hX d_M_hold_79 (tgt := 83) (by decide) ?_
        refine v_mzst hX hM4 20 (szD (szX (szS (szW (szK C (upd (zK C) (zHo C) k)) (upd (zW C) (zHo C) x)) (upd (zS C) (zHo C) sg)) (upd (zX C) (zHo C) sg)) (upd (zD C) (zHo C) (vp_nar .boolean 1))) T O (i := (zHo C)) (by decide) ((na_hNext 20 (by decide)).trans ((na_hSign 20 (by decide)).trans ((na_hWidth 20 (by decide)).trans ((na_hKind 20 (by decide)).trans ga_hDue)))) (by omega) (by decide) qf_hDue qa_hDue d_M_hold_83 (fun va10 hM10 hf10 => ?_)
        refine v_aload_n hX d_M_hold_84 rfl rfl ?_
        refine v_mget hX hM10 31 (v := .ref (ob 70)) (by decide) fl_M_76 rfl rfl d_M_hold_85 ?_
        refine v_iload hX d_M_hold_88 rfl ?_
        refine v_iload hX d_M_hold_90 rfl ?_
        refine v_mzst hX hM10 21 (szI (szD (szX (szS (szW (szK C (upd (zK C) (zHo C) k)) (upd (zW C) (zHo C) x)) (upd (zS C) (zHo C) sg)) (upd (zX C) (zHo C) sg)) (upd (zD C) (zHo C) (vp_nar .boolean 1))) (upd (zI C) (zHo C) (vp_nar .boolean wi))) T O (i := (zHo C)) (by decide) ((na_hDue 21 (by decide)).trans ((na_hNext 21 (by decide)).trans ((na_hSign 21 (by decide)).trans ((na_hWidth 21 (by decide)).trans ((na_hKind 21 (by decide)).trans ga_hWide))))) (by omega) (by decide) qf_hWide qa_hWide d_M_hold_92 (fun va11 hM11 hf11 => ?_)
        refine v_aload_n hX d_M_hold_93 rfl rfl ?_
        refine v_mget hX hM11 32 (v := .ref (ob 71)) (by decide) fl_M_79 rfl rfl d_M_hold_94 ?_
        refine v_iload hX d_M_hold_97 rfl ?_
        refine v_iconst (v := 0) hX d_M_hold_99 (by decide) ?_
        refine v_mzst hX hM11 22 (szH (szI (szD (szX (szS (szW (szK C (upd (zK C) (zHo C) k)) (upd (zW C) (zHo C) x)) (upd (zS C) (zHo C) sg)) (upd (zX C) (zHo C) sg)) (upd (zD C) (zHo C) (vp_nar .boolean 1))) (upd (zI C) (zHo C) (vp_nar .boolean wi))) (upd (zH C) (zHo C) (vp_nar .boolean 0))) T O (i := (zHo C)) (by decide) ((na_hWide 22 (by decide)).trans ((na_hDue 22 (by decide)).trans ((na_hNext 22 (by decide)).trans ((na_hSign 22 (by decide)).trans ((na_hWidth 22 (by decide)).trans ((na_hKind 22 (by decide)).trans ga_hHad)))))) (by omega) (by decide) qf_hHad qa_hHad d_M_hold_100 (fun va12 hM12 hf12 => ?_)
        refine v_aload_n hX d_M_hold_101 rfl rfl ?_
        refine v_mget hX hM12 33 (v := .ref (ob 72)) (by decide) fl_M_82 rfl rfl d_M_hold_102 ?_
        refine v_iload hX d_M_hold_105 rfl ?_
        refine v_iconst (v := 0) hX d_M_hold_107 (by decide) ?_
        refine v_mzst hX hM12 23 (szF (szH (szI (szD (szX (szS (szW (szK C (upd (zK C) (zHo C) k)) (upd (zW C) (zHo C) x)) (upd (zS C) (zHo C) sg)) (upd (zX C) (zHo C) sg)) (upd (zD C) (zHo C) (vp_nar .boolean 1))) (upd (zI C) (zHo C) (vp_nar .boolean wi))) (upd (zH C) (zHo C) (vp_nar .boolean 0))) (upd (zF C) (zHo C) (vp_nar .boolean 0))) T O (i := (zHo C)) (by decide) ((na_hHad 23 (by decide)).trans ((na_hWide 23 (by decide)).trans ((na_hDue 23 (by decide)).trans ((na_hNext 23 (by decide)).trans ((na_hSign 23 (by decide)).trans ((na_hWidth 23 (by decide)).trans ((na_hKind 23 (by decide)).trans ga_hFresh))))))) (by omega) (by decide) qf_hFresh qa_hFresh d_M_hold_108 (fun va13 hM13 hf13 => ?_)
        refine v_aload_n hX d_M_hold_109 rfl rfl ?_
        refine v_dup hX d_M_hold_110 rfl ?_
        refine v_mget hX hM13 34 (v := .int (nI (zHo C))) (by decide) fl_M_166 rfl ((nf_hFresh 34).trans ((nf_hHad 34).trans ((nf_hWide 34).trans ((nf_hDue 34).trans ((nf_hNext 34).trans ((nf_hSign 34).trans ((nf_hWidth 34).trans ((nf_hKind 34).trans gf_holders)))))))) d_M_hold_111 ?_
        refine v_iconst (v := 1) hX d_M_hold_114 (by decide) ?_
        refine v_iaddE (v := nI ((zHo C) + 1)) hX d_M_hold_115 (nI_add (zHo C) 1) ?_
        refine v_mput hX hM13 34 (szHo (szF (szH (szI (szD (szX (szS (szW (szK C (upd (zK C) (zHo C) k)) (upd (zW C) (zHo C) x)) (upd (zS C) (zHo C) sg)) (upd (zX C) (zHo C) sg)) (upd (zD C) (zHo C) (vp_nar .boolean 1))) (upd (zI C) (zHo C) (vp_nar .boolean wi))) (upd (zH C) (zHo C) (vp_nar .boolean 0))) (upd (zF C) (zHo C) (vp_nar .boolean 0))) ((zHo C) + 1)) T O (by decide) fl_M_166 rfl rfl rfl rfl pf_holders pa_holders d_M_hold_116 (fun va14 hM14 hf14 => ?_)
        exact v_vret hX hE d_M_hold_119 (Nat.le_of_ble_eq_true rfl) (Nat.le_of_ble_eq_true rfl) ⟨rfl, rfl, rfl, rfl, (szHo (szF (szH (szI (szD (szX (szS (szW (szK C (upd (zK C) (zHo C) k)) (upd (zW C) (zHo C) x)) (upd (zS C) (zHo C) sg)) (upd (zX C) (zHo C) sg)) (upd (zD C) (zHo C) (vp_nar .boolean 1))) (upd (zI C) (zHo C) (vp_nar .boolean wi))) (upd (zH C) (zHo C) (vp_nar .boolean 0))) (upd (zF C) (zHo C) (vp_nar .boolean 0))) ((zHo C) + 1)), O, ⟨rfl, (by unfold hd; simp only [if_neg (show ¬ 0 < zHo C by omega), if_neg (Int32.not_lt.mpr c41), if_pos c75, nar0, nar1])⟩, hM14, ⟨hO, rfl⟩, (((((((((frM.rf.trans hf1).trans hf2).trans hf3).trans hf4).trans hf10).trans hf11).trans hf12).trans hf13).trans hf14)⟩
    · refine v_iconst (v := 4) hX d_M_hold_44 (by decide) ?_
      refine v_goto hX d_M_hold_45 (tgt := 49) (by decide) ?_
      refine v_mist hX hM1 17 (szW (szK C (upd (zK C) (zHo C) k)) (upd (zW C) (zHo C) 4)) T O (i := (zHo C)) (by decide) ((na_hKind 17 (by decide)).trans ga_hWidth) (by omega) (by decide) qf_hWidth qa_hWidth d_M_hold_49 (fun va15 hM15 hf15 => ?_)
      refine v_aload_n hX d_M_hold_50 rfl rfl ?_
      refine v_mget hX hM15 28 (v := .ref (ob 67)) (by decide) fl_M_67 rfl rfl d_M_hold_51 ?_
      refine v_iload hX d_M_hold_54 rfl ?_
      refine v_iload_n hX d_M_hold_56 rfl rfl ?_
      refine v_mist hX hM15 18 (szS (szW (szK C (upd (zK C) (zHo C) k)) (upd (zW C) (zHo C) 4)) (upd (zS C) (zHo C) sg)) T O (i := (zHo C)) (by decide) ((na_hWidth 18 (by decide)).trans ((na_hKind 18 (by decide)).trans ga_hSign)) (by omega) (by decide) qf_hSign qa_hSign d_M_hold_57 (fun va16 hM16 hf16 => ?_)
      refine v_aload_n hX d_M_hold_58 rfl rfl ?_
      refine v_mget hX hM16 29 (v := .ref (ob 68)) (by decide) fl_M_70 rfl rfl d_M_hold_59 ?_
      refine v_iload hX d_M_hold_62 rfl ?_
      refine v_iload_n hX d_M_hold_64 rfl rfl ?_
      refine v_mist hX hM16 19 (szX (szS (szW (szK C (upd (zK C) (zHo C) k)) (upd (zW C) (zHo C) 4)) (upd (zS C) (zHo C) sg)) (upd (zX C) (zHo C) sg)) T O (i := (zHo C)) (by decide) ((na_hSign 19 (by decide)).trans ((na_hWidth 19 (by decide)).trans ((na_hKind 19 (by decide)).trans ga_hNext))) (by omega) (by decide) qf_hNext qa_hNext d_M_hold_65 (fun va17 hM17 hf17 => ?_)
      refine v_aload_n hX d_M_hold_66 rfl rfl ?_
      refine v_mget hX hM17 30 (v := .ref (ob 69)) (by decide) fl_M_73 rfl rfl d_M_hold_67 ?_
      refine v_iload hX d_M_hold_70 rfl ?_
      refine v_iload_n hX d_M_hold_72 rfl rfl ?_
      refine v_bipush (v := 7) hX d_M_hold_73 (by decide) ?_
      refine v_icmp_ne hX d_M_hold_75 (tgt := 82) (by decide) (fun c75 => ?_) (fun c75 => ?_)
      · refine v_iconst (v := 0) hX d_M_hold_82 (by decide) ?_
        refine v_mzst hX hM17 20 (szD (szX (szS (szW (szK C (upd (zK C) (zHo C) k)) (upd (zW C) (zHo C) 4)) (upd (zS C) (zHo C) sg)) (upd (zX C) (zHo C) sg)) (upd (zD C) (zHo C) (vp_nar .boolean 0))) T O (i := (zHo C)) (by decide) ((na_hNext 20 (by decide)).trans ((na_hSign 20 (by decide)).trans ((na_hWidth 20 (by decide)).trans ((na_hKind 20 (by decide)).trans ga_hDue)))) (by omega) (by decide) qf_hDue qa_hDue d_M_hold_83 (fun va18 hM18 hf18 => ?_)
        refine v_aload_n hX d_M_hold_84 rfl rfl ?_
        refine v_mget hX hM18 31 (v := .ref (ob 70)) (by decide) fl_M_76 rfl rfl d_M_hold_85 ?_
        refine v_iload hX d_M_hold_88 rfl ?_
        refine v_iload hX d_M_hold_90 rfl ?_
        refine v_mzst hX hM18 21 (szI (szD (szX (szS (szW (szK C (upd (zK C) (zHo C) k)) (upd (zW C) (zHo C) 4)) (upd (zS C) (zHo C) sg)) (upd (zX C) (zHo C) sg)) (upd (zD C) (zHo C) (vp_nar .boolean 0))) (upd (zI C) (zHo C) (vp_nar .boolean wi))) T O (i := (zHo C)) (by decide) ((na_hDue 21 (by decide)).trans ((na_hNext 21 (by decide)).trans ((na_hSign 21 (by decide)).trans ((na_hWidth 21 (by decide)).trans ((na_hKind 21 (by decide)).trans ga_hWide))))) (by omega) (by decide) qf_hWide qa_hWide d_M_hold_92 (fun va19 hM19 hf19 => ?_)
        refine v_aload_n hX d_M_hold_93 rfl rfl ?_
        refine v_mget hX hM19 32 (v := .ref (ob 71)) (by decide) fl_M_79 rfl rfl d_M_hold_94 ?_
        refine v_iload hX d_M_hold_97 rfl ?_
        refine v_iconst (v := 0) hX d_M_hold_99 (by decide) ?_
        refine v_mzst hX hM19 22 (szH (szI (szD (szX (szS (szW (szK C (upd (zK C) (zHo C) k)) (upd (zW C) (zHo C) 4)) (upd (zS C) (zHo C) sg)) (upd (zX C) (zHo C) sg)) (upd (zD C) (zHo C) (vp_nar .boolean 0))) (upd (zI C) (zHo C) (vp_nar .boolean wi))) (upd (zH C) (zHo C) (vp_nar .boolean 0))) T O (i := (zHo C)) (by decide) ((na_hWide 22 (by decide)).trans ((na_hDue 22 (by decide)).trans ((na_hNext 22 (by decide)).trans ((na_hSign 22 (by decide)).trans ((na_hWidth 22 (by decide)).trans ((na_hKind 22 (by decide)).trans ga_hHad)))))) (by omega) (by decide) qf_hHad qa_hHad d_M_hold_100 (fun va20 hM20 hf20 => ?_)
        refine v_aload_n hX d_M_hold_101 rfl rfl ?_
        refine v_mget hX hM20 33 (v := .ref (ob 72)) (by decide) fl_M_82 rfl rfl d_M_hold_102 ?_
        refine v_iload hX d_M_hold_105 rfl ?_
        refine v_iconst (v := 0) hX d_M_hold_107 (by decide) ?_
        refine v_mzst hX hM20 23 (szF (szH (szI (szD (szX (szS (szW (szK C (upd (zK C) (zHo C) k)) (upd (zW C) (zHo C) 4)) (upd (zS C) (zHo C) sg)) (upd (zX C) (zHo C) sg)) (upd (zD C) (zHo C) (vp_nar .boolean 0))) (upd (zI C) (zHo C) (vp_nar .boolean wi))) (upd (zH C) (zHo C) (vp_nar .boolean 0))) (upd (zF C) (zHo C) (vp_nar .boolean 0))) T O (i := (zHo C)) (by decide) ((na_hHad 23 (by decide)).trans ((na_hWide 23 (by decide)).trans ((na_hDue 23 (by decide)).trans ((na_hNext 23 (by decide)).trans ((na_hSign 23 (by decide)).trans ((na_hWidth 23 (by decide)).trans ((na_hKind 23 (by decide)).trans ga_hFresh))))))) (by omega) (by decide) qf_hFresh qa_hFresh d_M_hold_108 (fun va21 hM21 hf21 => ?_)
        refine v_aload_n hX d_M_hold_109 rfl rfl ?_
        refine v_dup hX d_M_hold_110 rfl ?_
        refine v_mget hX hM21 34 (v := .int (nI (zHo C))) (by decide) fl_M_166 rfl ((nf_hFresh 34).trans ((nf_hHad 34).trans ((nf_hWide 34).trans ((nf_hDue 34).trans ((nf_hNext 34).trans ((nf_hSign 34).trans ((nf_hWidth 34).trans ((nf_hKind 34).trans gf_holders)))))))) d_M_hold_111 ?_
        refine v_iconst (v := 1) hX d_M_hold_114 (by decide) ?_
        refine v_iaddE (v := nI ((zHo C) + 1)) hX d_M_hold_115 (nI_add (zHo C) 1) ?_
        refine v_mput hX hM21 34 (szHo (szF (szH (szI (szD (szX (szS (szW (szK C (upd (zK C) (zHo C) k)) (upd (zW C) (zHo C) 4)) (upd (zS C) (zHo C) sg)) (upd (zX C) (zHo C) sg)) (upd (zD C) (zHo C) (vp_nar .boolean 0))) (upd (zI C) (zHo C) (vp_nar .boolean wi))) (upd (zH C) (zHo C) (vp_nar .boolean 0))) (upd (zF C) (zHo C) (vp_nar .boolean 0))) ((zHo C) + 1)) T O (by decide) fl_M_166 rfl rfl rfl rfl pf_holders pa_holders d_M_hold_116 (fun va22 hM22 hf22 => ?_)
        exact v_vret hX hE d_M_hold_119 (Nat.le_of_ble_eq_true rfl) (Nat.le_of_ble_eq_true rfl) ⟨rfl, rfl, rfl, rfl, (szHo (szF (szH (szI (szD (szX (szS (szW (szK C (upd (zK C) (zHo C) k)) (upd (zW C) (zHo C) 4)) (upd (zS C) (zHo C) sg)) (upd (zX C) (zHo C) sg)) (upd (zD C) (zHo C) (vp_nar .boolean 0))) (upd (zI C) (zHo C) (vp_nar .boolean wi))) (upd (zH C) (zHo C) (vp_nar .boolean 0))) (upd (zF C) (zHo C) (vp_nar .boolean 0))) ((zHo C) + 1)), O, ⟨rfl, (by unfold hd; simp only [if_neg (show ¬ 0 < zHo C by omega), if_pos (Int32.not_le.mp c41), if_neg c75, nar0, nar1])⟩, hM22, ⟨hO, rfl⟩, (((((((((frM.rf.trans hf1).trans hf15).trans hf16).trans hf17).trans hf18).trans hf19).trans hf20).trans hf21).trans hf22)⟩
      · refine v_iconst (v := 1) hX d_M_hold_78 (by decide) ?_
        refine v_goto hX d_M_hold_79 (tgt := 83) (by decide) ?_
        refine v_mzst hX hM17 20 (szD (szX (szS (szW (szK C (upd (zK C) (zHo C) k)) (upd (zW C) (zHo C) 4)) (upd (zS C) (zHo C) sg)) (upd (zX C) (zHo C) sg)) (upd (zD C) (zHo C) (vp_nar .boolean 1))) T O (i := (zHo C)) (by decide) ((na_hNext 20 (by decide)).trans ((na_hSign 20 (by decide)).trans ((na_hWidth 20 (by decide)).trans ((na_hKind 20 (by decide)).trans ga_hDue)))) (by omega) (by decide) qf_hDue qa_hDue d_M_hold_83 (fun va23 hM23 hf23 => ?_)
        refine v_aload_n hX d_M_hold_84 rfl rfl ?_
        refine v_mget hX hM23 31 (v := .ref (ob 70)) (by decide) fl_M_76 rfl rfl d_M_hold_85 ?_
        refine v_iload hX d_M_hold_88 rfl ?_
        refine v_iload hX d_M_hold_90 rfl ?_
        refine v_mzst hX hM23 21 (szI (szD (szX (szS (szW (szK C (upd (zK C) (zHo C) k)) (upd (zW C) (zHo C) 4)) (upd (zS C) (zHo C) sg)) (upd (zX C) (zHo C) sg)) (upd (zD C) (zHo C) (vp_nar .boolean 1))) (upd (zI C) (zHo C) (vp_nar .boolean wi))) T O (i := (zHo C)) (by decide) ((na_hDue 21 (by decide)).trans ((na_hNext 21 (by decide)).trans ((na_hSign 21 (by decide)).trans ((na_hWidth 21 (by decide)).trans ((na_hKind 21 (by decide)).trans ga_hWide))))) (by omega) (by decide) qf_hWide qa_hWide d_M_hold_92 (fun va24 hM24 hf24 => ?_)
        refine v_aload_n hX d_M_hold_93 rfl rfl ?_
        refine v_mget hX hM24 32 (v := .ref (ob 71)) (by decide) fl_M_79 rfl rfl d_M_hold_94 ?_
        refine v_iload hX d_M_hold_97 rfl ?_
        refine v_iconst (v := 0) hX d_M_hold_99 (by decide) ?_
        refine v_mzst hX hM24 22 (szH (szI (szD (szX (szS (szW (szK C (upd (zK C) (zHo C) k)) (upd (zW C) (zHo C) 4)) (upd (zS C) (zHo C) sg)) (upd (zX C) (zHo C) sg)) (upd (zD C) (zHo C) (vp_nar .boolean 1))) (upd (zI C) (zHo C) (vp_nar .boolean wi))) (upd (zH C) (zHo C) (vp_nar .boolean 0))) T O (i := (zHo C)) (by decide) ((na_hWide 22 (by decide)).trans ((na_hDue 22 (by decide)).trans ((na_hNext 22 (by decide)).trans ((na_hSign 22 (by decide)).trans ((na_hWidth 22 (by decide)).trans ((na_hKind 22 (by decide)).trans ga_hHad)))))) (by omega) (by decide) qf_hHad qa_hHad d_M_hold_100 (fun va25 hM25 hf25 => ?_)
        refine v_aload_n hX d_M_hold_101 rfl rfl ?_
        refine v_mget hX hM25 33 (v := .ref (ob 72)) (by decide) fl_M_82 rfl rfl d_M_hold_102 ?_
        refine v_iload hX d_M_hold_105 rfl ?_
        refine v_iconst (v := 0) hX d_M_hold_107 (by decide) ?_
        refine v_mzst hX hM25 23 (szF (szH (szI (szD (szX (szS (szW (szK C (upd (zK C) (zHo C) k)) (upd (zW C) (zHo C) 4)) (upd (zS C) (zHo C) sg)) (upd (zX C) (zHo C) sg)) (upd (zD C) (zHo C) (vp_nar .boolean 1))) (upd (zI C) (zHo C) (vp_nar .boolean wi))) (upd (zH C) (zHo C) (vp_nar .boolean 0))) (upd (zF C) (zHo C) (vp_nar .boolean 0))) T O (i := (zHo C)) (by decide) ((na_hHad 23 (by decide)).trans ((na_hWide 23 (by decide)).trans ((na_hDue 23 (by decide)).trans ((na_hNext 23 (by decide)).trans ((na_hSign 23 (by decide)).trans ((na_hWidth 23 (by decide)).trans ((na_hKind 23 (by decide)).trans ga_hFresh))))))) (by omega) (by decide) qf_hFresh qa_hFresh d_M_hold_108 (fun va26 hM26 hf26 => ?_)
        refine v_aload_n hX d_M_hold_109 rfl rfl ?_
        refine v_dup hX d_M_hold_110 rfl ?_
        refine v_mget hX hM26 34 (v := .int (nI (zHo C))) (by decide) fl_M_166 rfl ((nf_hFresh 34).trans ((nf_hHad 34).trans ((nf_hWide 34).trans ((nf_hDue 34).trans ((nf_hNext 34).trans ((nf_hSign 34).trans ((nf_hWidth 34).trans ((nf_hKind 34).trans gf_holders)))))))) d_M_hold_111 ?_
        refine v_iconst (v := 1) hX d_M_hold_114 (by decide) ?_
        refine v_iaddE (v := nI ((zHo C) + 1)) hX d_M_hold_115 (nI_add (zHo C) 1) ?_
        refine v_mput hX hM26 34 (szHo (szF (szH (szI (szD (szX (szS (szW (szK C (upd (zK C) (zHo C) k)) (upd (zW C) (zHo C) 4)) (upd (zS C) (zHo C) sg)) (upd (zX C) (zHo C) sg)) (upd (zD C) (zHo C) (vp_nar .boolean 1))) (upd (zI C) (zHo C) (vp_nar .boolean wi))) (upd (zH C) (zHo C) (vp_nar .boolean 0))) (upd (zF C) (zHo C) (vp_nar .boolean 0))) ((zHo C) + 1)) T O (by decide) fl_M_166 rfl rfl rfl rfl pf_holders pa_holders d_M_hold_116 (fun va27 hM27 hf27 => ?_)
        exact v_vret hX hE d_M_hold_119 (Nat.le_of_ble_eq_true rfl) (Nat.le_of_ble_eq_true rfl) ⟨rfl, rfl, rfl, rfl, (szHo (szF (szH (szI (szD (szX (szS (szW (szK C (upd (zK C) (zHo C) k)) (upd (zW C) (zHo C) 4)) (upd (zS C) (zHo C) sg)) (upd (zX C) (zHo C) sg)) (upd (zD C) (zHo C) (vp_nar .boolean 1))) (upd (zI C) (zHo C) (vp_nar .boolean wi))) (upd (zH C) (zHo C) (vp_nar .boolean 0))) (upd (zF C) (zHo C) (vp_nar .boolean 0))) ((zHo C) + 1)), O, ⟨rfl, (by unfold hd; simp only [if_neg (show ¬ 0 < zHo C by omega), if_pos (Int32.not_le.mp c41), if_pos c75, nar0, nar1])⟩, hM27, ⟨hO, rfl⟩, (((((((((frM.rf.trans hf1).trans hf15).trans hf16).trans hf17).trans hf23).trans hf24).trans hf25).trans hf26).trans hf27)⟩
  · have f4 : ¬ (zHo C) ≤ 0 := fun z => c4 ((nI_leI (a := (zHo C)) (b := 0) (by omega) (by omega)).mpr z)
    refine v_aload_n hX d_M_hold_7 rfl rfl ?_
    refine v_mget hX hM 33 (v := .ref (ob 72)) (by decide) fl_M_82 rfl rfl d_M_hold_8 ?_
    refine v_aload_n hX d_M_hold_11 rfl rfl ?_
    refine v_mget hX hM 34 (v := .int (nI (zHo C))) (by decide) fl_M_166 rfl gf_holders d_M_hold_12 ?_
    refine v_iconst (v := 1) hX d_M_hold_15 (by decide) ?_
    refine v_isubE (v := nI ((zHo C) - 1)) hX d_M_hold_16 (nI_sub (a := (zHo C)) (b := 1) (by omega)) ?_
    refine v_iconst (v := 1) hX d_M_hold_17 (by decide) ?_
    refine v_mzst hX hM 23 (szF C (upd (zF C) ((zHo C) - 1) (vp_nar .boolean 1))) T O (i := ((zHo C) - 1)) (by decide) ga_hFresh (by omega) (by decide) qf_hFresh qa_hFresh d_M_hold_18 (fun va28 hM28 hf28 => ?_)
    refine v_aload_n hX d_M_hold_19 rfl rfl ?_
    refine v_mget hX hM28 34 (v := .int (nI (zHo C))) (by decide) fl_M_166 rfl ((nf_hFresh 34).trans gf_holders) d_M_hold_20 ?_
    refine v_istore (lv' := [some (.ref (ob 48)), some (.int k), some (.int x), some (.int sg), some (.int wi), some (.int (nI (zHo C)))]) hX d_M_hold_23 (Nat.le_of_ble_eq_true rfl) rfl ?_
    refine v_aload_n hX d_M_hold_25 rfl rfl ?_
    refine v_mget hX hM28 26 (v := .ref (ob 65)) (by decide) fl_M_61 rfl rfl d_M_hold_26 ?_
    refine v_iload hX d_M_hold_29 rfl ?_
    refine v_iload_n hX d_M_hold_31 rfl rfl ?_
    refine v_mist hX hM28 16 (szK (szF C (upd (zF C) ((zHo C) - 1) (vp_nar .boolean 1))) (upd (zK C) (zHo C) k)) T O (i := (zHo C)) (by decide) ((na_hFresh 16 (by decide)).trans ga_hKind) (by omega) (by decide) qf_hKind qa_hKind d_M_hold_32 (fun va29 hM29 hf29 => ?_)
    refine v_aload_n hX d_M_hold_33 rfl rfl ?_
    refine v_mget hX hM29 27 (v := .ref (ob 66)) (by decide) fl_M_64 rfl rfl d_M_hold_34 ?_
    refine v_iload hX d_M_hold_37 rfl ?_
    refine v_iload_n hX d_M_hold_39 rfl rfl ?_
    refine v_iconst (v := 4) hX d_M_hold_40 (by decide) ?_
    refine v_icmp_ge hX d_M_hold_41 (tgt := 48) (by decide) (fun c41 => ?_) (fun c41 => ?_)
    · refine v_iload_n hX d_M_hold_48 rfl rfl ?_
      refine v_mist hX hM29 17 (szW (szK (szF C (upd (zF C) ((zHo C) - 1) (vp_nar .boolean 1))) (upd (zK C) (zHo C) k)) (upd (zW C) (zHo C) x)) T O (i := (zHo C)) (by decide) ((na_hKind 17 (by decide)).trans ((na_hFresh 17 (by decide)).trans ga_hWidth)) (by omega) (by decide) qf_hWidth qa_hWidth d_M_hold_49 (fun va30 hM30 hf30 => ?_)
      refine v_aload_n hX d_M_hold_50 rfl rfl ?_
      refine v_mget hX hM30 28 (v := .ref (ob 67)) (by decide) fl_M_67 rfl rfl d_M_hold_51 ?_
      refine v_iload hX d_M_hold_54 rfl ?_
      refine v_iload_n hX d_M_hold_56 rfl rfl ?_
      refine v_mist hX hM30 18 (szS (szW (szK (szF C (upd (zF C) ((zHo C) - 1) (vp_nar .boolean 1))) (upd (zK C) (zHo C) k)) (upd (zW C) (zHo C) x)) (upd (zS C) (zHo C) sg)) T O (i := (zHo C)) (by decide) ((na_hWidth 18 (by decide)).trans ((na_hKind 18 (by decide)).trans ((na_hFresh 18 (by decide)).trans ga_hSign))) (by omega) (by decide) qf_hSign qa_hSign d_M_hold_57 (fun va31 hM31 hf31 => ?_)
      refine v_aload_n hX d_M_hold_58 rfl rfl ?_
      refine v_mget hX hM31 29 (v := .ref (ob 68)) (by decide) fl_M_70 rfl rfl d_M_hold_59 ?_
      refine v_iload hX d_M_hold_62 rfl ?_
      refine v_iload_n hX d_M_hold_64 rfl rfl ?_
      refine v_mist hX hM31 19 (szX (szS (szW (szK (szF C (upd (zF C) ((zHo C) - 1) (vp_nar .boolean 1))) (upd (zK C) (zHo C) k)) (upd (zW C) (zHo C) x)) (upd (zS C) (zHo C) sg)) (upd (zX C) (zHo C) sg)) T O (i := (zHo C)) (by decide) ((na_hSign 19 (by decide)).trans ((na_hWidth 19 (by decide)).trans ((na_hKind 19 (by decide)).trans ((na_hFresh 19 (by decide)).trans ga_hNext)))) (by omega) (by decide) qf_hNext qa_hNext d_M_hold_65 (fun va32 hM32 hf32 => ?_)
      refine v_aload_n hX d_M_hold_66 rfl rfl ?_
      refine v_mget hX hM32 30 (v := .ref (ob 69)) (by decide) fl_M_73 rfl rfl d_M_hold_67 ?_
      refine v_iload hX d_M_hold_70 rfl ?_
      refine v_iload_n hX d_M_hold_72 rfl rfl ?_
      refine v_bipush (v := 7) hX d_M_hold_73 (by decide) ?_
      refine v_icmp_ne hX d_M_hold_75 (tgt := 82) (by decide) (fun c75 => ?_) (fun c75 => ?_)
      · refine v_iconst (v := 0) hX d_M_hold_82 (by decide) ?_
        refine v_mzst hX hM32 20 (szD (szX (szS (szW (szK (szF C (upd (zF C) ((zHo C) - 1) (vp_nar .boolean 1))) (upd (zK C) (zHo C) k)) (upd (zW C) (zHo C) x)) (upd (zS C) (zHo C) sg)) (upd (zX C) (zHo C) sg)) (upd (zD C) (zHo C) (vp_nar .boolean 0))) T O (i := (zHo C)) (by decide) ((na_hNext 20 (by decide)).trans ((na_hSign 20 (by decide)).trans ((na_hWidth 20 (by decide)).trans ((na_hKind 20 (by decide)).trans ((na_hFresh 20 (by decide)).trans ga_hDue))))) (by omega) (by decide) qf_hDue qa_hDue d_M_hold_83 (fun va33 hM33 hf33 => ?_)
        refine v_aload_n hX d_M_hold_84 rfl rfl ?_
        refine v_mget hX hM33 31 (v := .ref (ob 70)) (by decide) fl_M_76 rfl rfl d_M_hold_85 ?_
        refine v_iload hX d_M_hold_88 rfl ?_
        refine v_iload hX d_M_hold_90 rfl ?_
        refine v_mzst hX hM33 21 (szI (szD (szX (szS (szW (szK (szF C (upd (zF C) ((zHo C) - 1) (vp_nar .boolean 1))) (upd (zK C) (zHo C) k)) (upd (zW C) (zHo C) x)) (upd (zS C) (zHo C) sg)) (upd (zX C) (zHo C) sg)) (upd (zD C) (zHo C) (vp_nar .boolean 0))) (upd (zI C) (zHo C) (vp_nar .boolean wi))) T O (i := (zHo C)) (by decide) ((na_hDue 21 (by decide)).trans ((na_hNext 21 (by decide)).trans ((na_hSign 21 (by decide)).trans ((na_hWidth 21 (by decide)).trans ((na_hKind 21 (by decide)).trans ((na_hFresh 21 (by decide)).trans ga_hWide)))))) (by omega) (by decide) qf_hWide qa_hWide d_M_hold_92 (fun va34 hM34 hf34 => ?_)
        refine v_aload_n hX d_M_hold_93 rfl rfl ?_
        refine v_mget hX hM34 32 (v := .ref (ob 71)) (by decide) fl_M_79 rfl rfl d_M_hold_94 ?_
        refine v_iload hX d_M_hold_97 rfl ?_
        refine v_iconst (v := 0) hX d_M_hold_99 (by decide) ?_
        refine v_mzst hX hM34 22 (szH (szI (szD (szX (szS (szW (szK (szF C (upd (zF C) ((zHo C) - 1) (vp_nar .boolean 1))) (upd (zK C) (zHo C) k)) (upd (zW C) (zHo C) x)) (upd (zS C) (zHo C) sg)) (upd (zX C) (zHo C) sg)) (upd (zD C) (zHo C) (vp_nar .boolean 0))) (upd (zI C) (zHo C) (vp_nar .boolean wi))) (upd (zH C) (zHo C) (vp_nar .boolean 0))) T O (i := (zHo C)) (by decide) ((na_hWide 22 (by decide)).trans ((na_hDue 22 (by decide)).trans ((na_hNext 22 (by decide)).trans ((na_hSign 22 (by decide)).trans ((na_hWidth 22 (by decide)).trans ((na_hKind 22 (by decide)).trans ((na_hFresh 22 (by decide)).trans ga_hHad))))))) (by omega) (by decide) qf_hHad qa_hHad d_M_hold_100 (fun va35 hM35 hf35 => ?_)
        refine v_aload_n hX d_M_hold_101 rfl rfl ?_
        refine v_mget hX hM35 33 (v := .ref (ob 72)) (by decide) fl_M_82 rfl rfl d_M_hold_102 ?_
        refine v_iload hX d_M_hold_105 rfl ?_
        refine v_iconst (v := 0) hX d_M_hold_107 (by decide) ?_
        refine v_mzst hX hM35 23 (szF (szH (szI (szD (szX (szS (szW (szK (szF C (upd (zF C) ((zHo C) - 1) (vp_nar .boolean 1))) (upd (zK C) (zHo C) k)) (upd (zW C) (zHo C) x)) (upd (zS C) (zHo C) sg)) (upd (zX C) (zHo C) sg)) (upd (zD C) (zHo C) (vp_nar .boolean 0))) (upd (zI C) (zHo C) (vp_nar .boolean wi))) (upd (zH C) (zHo C) (vp_nar .boolean 0))) (upd (upd (zF C) ((zHo C) - 1) (vp_nar .boolean 1)) (zHo C) (vp_nar .boolean 0))) T O (i := (zHo C)) (by decide) ((na_hHad 23 (by decide)).trans ((na_hWide 23 (by decide)).trans ((na_hDue 23 (by decide)).trans ((na_hNext 23 (by decide)).trans ((na_hSign 23 (by decide)).trans ((na_hWidth 23 (by decide)).trans ((na_hKind 23 (by decide)).trans ha_hFresh))))))) (by omega) (by decide) qf_hFresh qa_hFresh d_M_hold_108 (fun va36 hM36 hf36 => ?_)
        refine v_aload_n hX d_M_hold_109 rfl rfl ?_
        refine v_dup hX d_M_hold_110 rfl ?_
        refine v_mget hX hM36 34 (v := .int (nI (zHo C))) (by decide) fl_M_166 rfl ((nf_hFresh 34).trans ((nf_hHad 34).trans ((nf_hWide 34).trans ((nf_hDue 34).trans ((nf_hNext 34).trans ((nf_hSign 34).trans ((nf_hWidth 34).trans ((nf_hKind 34).trans ((nf_hFresh 34).trans gf_holders))))))))) d_M_hold_111 ?_
        refine v_iconst (v := 1) hX d_M_hold_114 (by decide) ?_
        refine v_iaddE (v := nI ((zHo C) + 1)) hX d_M_hold_115 (nI_add (zHo C) 1) ?_
        refine v_mput hX hM36 34 (szHo (szF (szH (szI (szD (szX (szS (szW (szK (szF C (upd (zF C) ((zHo C) - 1) (vp_nar .boolean 1))) (upd (zK C) (zHo C) k)) (upd (zW C) (zHo C) x)) (upd (zS C) (zHo C) sg)) (upd (zX C) (zHo C) sg)) (upd (zD C) (zHo C) (vp_nar .boolean 0))) (upd (zI C) (zHo C) (vp_nar .boolean wi))) (upd (zH C) (zHo C) (vp_nar .boolean 0))) (upd (upd (zF C) ((zHo C) - 1) (vp_nar .boolean 1)) (zHo C) (vp_nar .boolean 0))) ((zHo C) + 1)) T O (by decide) fl_M_166 rfl rfl rfl rfl pf_holders pa_holders d_M_hold_116 (fun va37 hM37 hf37 => ?_)
        exact v_vret hX hE d_M_hold_119 (Nat.le_of_ble_eq_true rfl) (Nat.le_of_ble_eq_true rfl) ⟨rfl, rfl, rfl, rfl, (szHo (szF (szH (szI (szD (szX (szS (szW (szK (szF C (upd (zF C) ((zHo C) - 1) (vp_nar .boolean 1))) (upd (zK C) (zHo C) k)) (upd (zW C) (zHo C) x)) (upd (zS C) (zHo C) sg)) (upd (zX C) (zHo C) sg)) (upd (zD C) (zHo C) (vp_nar .boolean 0))) (upd (zI C) (zHo C) (vp_nar .boolean wi))) (upd (zH C) (zHo C) (vp_nar .boolean 0))) (upd (upd (zF C) ((zHo C) - 1) (vp_nar .boolean 1)) (zHo C) (vp_nar .boolean 0))) ((zHo C) + 1)), O, ⟨rfl, (by unfold hd; simp only [if_pos (show 0 < zHo C by omega), if_neg (Int32.not_lt.mpr c41), if_neg c75, nar0, nar1])⟩, hM37, ⟨hO, rfl⟩, ((((((((((frM.rf.trans hf28).trans hf29).trans hf30).trans hf31).trans hf32).trans hf33).trans hf34).trans hf35).trans hf36).trans hf37)⟩
      · refine v_iconst (v := 1) hX d_M_hold_78 (by decide) ?_
        refine v_goto hX d_M_hold_79 (tgt := 83) (by decide) ?_
        refine v_mzst hX hM32 20 (szD (szX (szS (szW (szK (szF C (upd (zF C) ((zHo C) - 1) (vp_nar .boolean 1))) (upd (zK C) (zHo C) k)) (upd (zW C) (zHo C) x)) (upd (zS C) (zHo C) sg)) (upd (zX C) (zHo C) sg)) (upd (zD C) (zHo C) (vp_nar .boolean 1))) T O (i := (zHo C)) (by decide) ((na_hNext 20 (by decide)).trans ((na_hSign 20 (by decide)).trans ((na_hWidth 20 (by decide)).trans ((na_hKind 20 (by decide)).trans ((na_hFresh 20 (by decide)).trans ga_hDue))))) (by omega) (by decide) qf_hDue qa_hDue d_M_hold_83 (fun va38 hM38 hf38 => ?_)
        refine v_aload_n hX d_M_hold_84 rfl rfl ?_
        refine v_mget hX hM38 31 (v := .ref (ob 70)) (by decide) fl_M_76 rfl rfl d_M_hold_85 ?_
        refine v_iload hX d_M_hold_88 rfl ?_
        refine v_iload hX d_M_hold_90 rfl ?_
        refine v_mzst hX hM38 21 (szI (szD (szX (szS (szW (szK (szF C (upd (zF C) ((zHo C) - 1) (vp_nar .boolean 1))) (upd (zK C) (zHo C) k)) (upd (zW C) (zHo C) x)) (upd (zS C) (zHo C) sg)) (upd (zX C) (zHo C) sg)) (upd (zD C) (zHo C) (vp_nar .boolean 1))) (upd (zI C) (zHo C) (vp_nar .boolean wi))) T O (i := (zHo C)) (by decide) ((na_hDue 21 (by decide)).trans ((na_hNext 21 (by decide)).trans ((na_hSign 21 (by decide)).trans ((na_hWidth 21 (by decide)).trans ((na_hKind 21 (by decide)).trans ((na_hFresh 21 (by decide)).trans ga_hWide)))))) (by omega) (by decide) qf_hWide qa_hWide d_M_hold_92 (fun va39 hM39 hf39 => ?_)
        refine v_aload_n hX d_M_hold_93 rfl rfl ?_
        refine v_mget hX hM39 32 (v := .ref (ob 71)) (by decide) fl_M_79 rfl rfl d_M_hold_94 ?_
        refine v_iload hX d_M_hold_97 rfl ?_
        refine v_iconst (v := 0) hX d_M_hold_99 (by decide) ?_
        refine v_mzst hX hM39 22 (szH (szI (szD (szX (szS (szW (szK (szF C (upd (zF C) ((zHo C) - 1) (vp_nar .boolean 1))) (upd (zK C) (zHo C) k)) (upd (zW C) (zHo C) x)) (upd (zS C) (zHo C) sg)) (upd (zX C) (zHo C) sg)) (upd (zD C) (zHo C) (vp_nar .boolean 1))) (upd (zI C) (zHo C) (vp_nar .boolean wi))) (upd (zH C) (zHo C) (vp_nar .boolean 0))) T O (i := (zHo C)) (by decide) ((na_hWide 22 (by decide)).trans ((na_hDue 22 (by decide)).trans ((na_hNext 22 (by decide)).trans ((na_hSign 22 (by decide)).trans ((na_hWidth 22 (by decide)).trans ((na_hKind 22 (by decide)).trans ((na_hFresh 22 (by decide)).trans ga_hHad))))))) (by omega) (by decide) qf_hHad qa_hHad d_M_hold_100 (fun va40 hM40 hf40 => ?_)
        refine v_aload_n hX d_M_hold_101 rfl rfl ?_
        refine v_mget hX hM40 33 (v := .ref (ob 72)) (by decide) fl_M_82 rfl rfl d_M_hold_102 ?_
        refine v_iload hX d_M_hold_105 rfl ?_
        refine v_iconst (v := 0) hX d_M_hold_107 (by decide) ?_
        refine v_mzst hX hM40 23 (szF (szH (szI (szD (szX (szS (szW (szK (szF C (upd (zF C) ((zHo C) - 1) (vp_nar .boolean 1))) (upd (zK C) (zHo C) k)) (upd (zW C) (zHo C) x)) (upd (zS C) (zHo C) sg)) (upd (zX C) (zHo C) sg)) (upd (zD C) (zHo C) (vp_nar .boolean 1))) (upd (zI C) (zHo C) (vp_nar .boolean wi))) (upd (zH C) (zHo C) (vp_nar .boolean 0))) (upd (upd (zF C) ((zHo C) - 1) (vp_nar .boolean 1)) (zHo C) (vp_nar .boolean 0))) T O (i := (zHo C)) (by decide) ((na_hHad 23 (by decide)).trans ((na_hWide 23 (by decide)).trans ((na_hDue 23 (by decide)).trans ((na_hNext 23 (by decide)).trans ((na_hSign 23 (by decide)).trans ((na_hWidth 23 (by decide)).trans ((na_hKind 23 (by decide)).trans ha_hFresh))))))) (by omega) (by decide) qf_hFresh qa_hFresh d_M_hold_108 (fun va41 hM41 hf41 => ?_)
        refine v_aload_n hX d_M_hold_109 rfl rfl ?_
        refine v_dup hX d_M_hold_110 rfl ?_
        refine v_mget hX hM41 34 (v := .int (nI (zHo C))) (by decide) fl_M_166 rfl ((nf_hFresh 34).trans ((nf_hHad 34).trans ((nf_hWide 34).trans ((nf_hDue 34).trans ((nf_hNext 34).trans ((nf_hSign 34).trans ((nf_hWidth 34).trans ((nf_hKind 34).trans ((nf_hFresh 34).trans gf_holders))))))))) d_M_hold_111 ?_
        refine v_iconst (v := 1) hX d_M_hold_114 (by decide) ?_
        refine v_iaddE (v := nI ((zHo C) + 1)) hX d_M_hold_115 (nI_add (zHo C) 1) ?_
        refine v_mput hX hM41 34 (szHo (szF (szH (szI (szD (szX (szS (szW (szK (szF C (upd (zF C) ((zHo C) - 1) (vp_nar .boolean 1))) (upd (zK C) (zHo C) k)) (upd (zW C) (zHo C) x)) (upd (zS C) (zHo C) sg)) (upd (zX C) (zHo C) sg)) (upd (zD C) (zHo C) (vp_nar .boolean 1))) (upd (zI C) (zHo C) (vp_nar .boolean wi))) (upd (zH C) (zHo C) (vp_nar .boolean 0))) (upd (upd (zF C) ((zHo C) - 1) (vp_nar .boolean 1)) (zHo C) (vp_nar .boolean 0))) ((zHo C) + 1)) T O (by decide) fl_M_166 rfl rfl rfl rfl pf_holders pa_holders d_M_hold_116 (fun va42 hM42 hf42 => ?_)
        exact v_vret hX hE d_M_hold_119 (Nat.le_of_ble_eq_true rfl) (Nat.le_of_ble_eq_true rfl) ⟨rfl, rfl, rfl, rfl, (szHo (szF (szH (szI (szD (szX (szS (szW (szK (szF C (upd (zF C) ((zHo C) - 1) (vp_nar .boolean 1))) (upd (zK C) (zHo C) k)) (upd (zW C) (zHo C) x)) (upd (zS C) (zHo C) sg)) (upd (zX C) (zHo C) sg)) (upd (zD C) (zHo C) (vp_nar .boolean 1))) (upd (zI C) (zHo C) (vp_nar .boolean wi))) (upd (zH C) (zHo C) (vp_nar .boolean 0))) (upd (upd (zF C) ((zHo C) - 1) (vp_nar .boolean 1)) (zHo C) (vp_nar .boolean 0))) ((zHo C) + 1)), O, ⟨rfl, (by unfold hd; simp only [if_pos (show 0 < zHo C by omega), if_neg (Int32.not_lt.mpr c41), if_pos c75, nar0, nar1])⟩, hM42, ⟨hO, rfl⟩, ((((((((((frM.rf.trans hf28).trans hf29).trans hf30).trans hf31).trans hf32).trans hf38).trans hf39).trans hf40).trans hf41).trans hf42)⟩
    · refine v_iconst (v := 4) hX d_M_hold_44 (by decide) ?_
      refine v_goto hX d_M_hold_45 (tgt := 49) (by decide) ?_
      refine v_mist hX hM29 17 (szW (szK (szF C (upd (zF C) ((zHo C) - 1) (vp_nar .boolean 1))) (upd (zK C) (zHo C) k)) (upd (zW C) (zHo C) 4)) T O (i := (zHo C)) (by decide) ((na_hKind 17 (by decide)).trans ((na_hFresh 17 (by decide)).trans ga_hWidth)) (by omega) (by decide) qf_hWidth qa_hWidth d_M_hold_49 (fun va43 hM43 hf43 => ?_)
      refine v_aload_n hX d_M_hold_50 rfl rfl ?_
      refine v_mget hX hM43 28 (v := .ref (ob 67)) (by decide) fl_M_67 rfl rfl d_M_hold_51 ?_
      refine v_iload hX d_M_hold_54 rfl ?_
      refine v_iload_n hX d_M_hold_56 rfl rfl ?_
      refine v_mist hX hM43 18 (szS (szW (szK (szF C (upd (zF C) ((zHo C) - 1) (vp_nar .boolean 1))) (upd (zK C) (zHo C) k)) (upd (zW C) (zHo C) 4)) (upd (zS C) (zHo C) sg)) T O (i := (zHo C)) (by decide) ((na_hWidth 18 (by decide)).trans ((na_hKind 18 (by decide)).trans ((na_hFresh 18 (by decide)).trans ga_hSign))) (by omega) (by decide) qf_hSign qa_hSign d_M_hold_57 (fun va44 hM44 hf44 => ?_)
      refine v_aload_n hX d_M_hold_58 rfl rfl ?_
      refine v_mget hX hM44 29 (v := .ref (ob 68)) (by decide) fl_M_70 rfl rfl d_M_hold_59 ?_
      refine v_iload hX d_M_hold_62 rfl ?_
      refine v_iload_n hX d_M_hold_64 rfl rfl ?_
      refine v_mist hX hM44 19 (szX (szS (szW (szK (szF C (upd (zF C) ((zHo C) - 1) (vp_nar .boolean 1))) (upd (zK C) (zHo C) k)) (upd (zW C) (zHo C) 4)) (upd (zS C) (zHo C) sg)) (upd (zX C) (zHo C) sg)) T O (i := (zHo C)) (by decide) ((na_hSign 19 (by decide)).trans ((na_hWidth 19 (by decide)).trans ((na_hKind 19 (by decide)).trans ((na_hFresh 19 (by decide)).trans ga_hNext)))) (by omega) (by decide) qf_hNext qa_hNext d_M_hold_65 (fun va45 hM45 hf45 => ?_)
      refine v_aload_n hX d_M_hold_66 rfl rfl ?_
      refine v_mget hX hM45 30 (v := .ref (ob 69)) (by decide) fl_M_73 rfl rfl d_M_hold_67 ?_
      refine v_iload hX d_M_hold_70 rfl ?_
      refine v_iload_n hX d_M_hold_72 rfl rfl ?_
      refine v_bipush (v := 7) hX d_M_hold_73 (by decide) ?_
      refine v_icmp_ne hX d_M_hold_75 (tgt := 82) (by decide) (fun c75 => ?_) (fun c75 => ?_)
      · refine v_iconst (v := 0) hX d_M_hold_82 (by decide) ?_
        refine v_mzst hX hM45 20 (szD (szX (szS (szW (szK (szF C (upd (zF C) ((zHo C) - 1) (vp_nar .boolean 1))) (upd (zK C) (zHo C) k)) (upd (zW C) (zHo C) 4)) (upd (zS C) (zHo C) sg)) (upd (zX C) (zHo C) sg)) (upd (zD C) (zHo C) (vp_nar .boolean 0))) T O (i := (zHo C)) (by decide) ((na_hNext 20 (by decide)).trans ((na_hSign 20 (by decide)).trans ((na_hWidth 20 (by decide)).trans ((na_hKind 20 (by decide)).trans ((na_hFresh 20 (by decide)).trans ga_hDue))))) (by omega) (by decide) qf_hDue qa_hDue d_M_hold_83 (fun va46 hM46 hf46 => ?_)
        refine v_aload_n hX d_M_hold_84 rfl rfl ?_
        refine v_mget hX hM46 31 (v := .ref (ob 70)) (by decide) fl_M_76 rfl rfl d_M_hold_85 ?_
        refine v_iload hX d_M_hold_88 rfl ?_
        refine v_iload hX d_M_hold_90 rfl ?_
        refine v_mzst hX hM46 21 (szI (szD (szX (szS (szW (szK (szF C (upd (zF C) ((zHo C) - 1) (vp_nar .boolean 1))) (upd (zK C) (zHo C) k)) (upd (zW C) (zHo C) 4)) (upd (zS C) (zHo C) sg)) (upd (zX C) (zHo C) sg)) (upd (zD C) (zHo C) (vp_nar .boolean 0))) (upd (zI C) (zHo C) (vp_nar .boolean wi))) T O (i := (zHo C)) (by decide) ((na_hDue 21 (by decide)).trans ((na_hNext 21 (by decide)).trans ((na_hSign 21 (by decide)).trans ((na_hWidth 21 (by decide)).trans ((na_hKind 21 (by decide)).trans ((na_hFresh 21 (by decide)).trans ga_hWide)))))) (by omega) (by decide) qf_hWide qa_hWide d_M_hold_92 (fun va47 hM47 hf47 => ?_)
        refine v_aload_n hX d_M_hold_93 rfl rfl ?_
        refine v_mget hX hM47 32 (v := .ref (ob 71)) (by decide) fl_M_79 rfl rfl d_M_hold_94 ?_
        refine v_iload hX d_M_hold_97 rfl ?_
        refine v_iconst (v := 0) hX d_M_hold_99 (by decide) ?_
        refine v_mzst hX hM47 22 (szH (szI (szD (szX (szS (szW (szK (szF C (upd (zF C) ((zHo C) - 1) (vp_nar .boolean 1))) (upd (zK C) (zHo C) k)) (upd (zW C) (zHo C) 4)) (upd (zS C) (zHo C) sg)) (upd (zX C) (zHo C) sg)) (upd (zD C) (zHo C) (vp_nar .boolean 0))) (upd (zI C) (zHo C) (vp_nar .boolean wi))) (upd (zH C) (zHo C) (vp_nar .boolean 0))) T O (i := (zHo C)) (by decide) ((na_hWide 22 (by decide)).trans ((na_hDue 22 (by decide)).trans ((na_hNext 22 (by decide)).trans ((na_hSign 22 (by decide)).trans ((na_hWidth 22 (by decide)).trans ((na_hKind 22 (by decide)).trans ((na_hFresh 22 (by decide)).trans ga_hHad))))))) (by omega) (by decide) qf_hHad qa_hHad d_M_hold_100 (fun va48 hM48 hf48 => ?_)
        refine v_aload_n hX d_M_hold_101 rfl rfl ?_
        refine v_mget hX hM48 33 (v := .ref (ob 72)) (by decide) fl_M_82 rfl rfl d_M_hold_102 ?_
        refine v_iload hX d_M_hold_105 rfl ?_
        refine v_iconst (v := 0) hX d_M_hold_107 (by decide) ?_
        refine v_mzst hX hM48 23 (szF (szH (szI (szD (szX (szS (szW (szK (szF C (upd (zF C) ((zHo C) - 1) (vp_nar .boolean 1))) (upd (zK C) (zHo C) k)) (upd (zW C) (zHo C) 4)) (upd (zS C) (zHo C) sg)) (upd (zX C) (zHo C) sg)) (upd (zD C) (zHo C) (vp_nar .boolean 0))) (upd (zI C) (zHo C) (vp_nar .boolean wi))) (upd (zH C) (zHo C) (vp_nar .boolean 0))) (upd (upd (zF C) ((zHo C) - 1) (vp_nar .boolean 1)) (zHo C) (vp_nar .boolean 0))) T O (i := (zHo C)) (by decide) ((na_hHad 23 (by decide)).trans ((na_hWide 23 (by decide)).trans ((na_hDue 23 (by decide)).trans ((na_hNext 23 (by decide)).trans ((na_hSign 23 (by decide)).trans ((na_hWidth 23 (by decide)).trans ((na_hKind 23 (by decide)).trans ha_hFresh))))))) (by omega) (by decide) qf_hFresh qa_hFresh d_M_hold_108 (fun va49 hM49 hf49 => ?_)
        refine v_aload_n hX d_M_hold_109 rfl rfl ?_
        refine v_dup hX d_M_hold_110 rfl ?_
        refine v_mget hX hM49 34 (v := .int (nI (zHo C))) (by decide) fl_M_166 rfl ((nf_hFresh 34).trans ((nf_hHad 34).trans ((nf_hWide 34).trans ((nf_hDue 34).trans ((nf_hNext 34).trans ((nf_hSign 34).trans ((nf_hWidth 34).trans ((nf_hKind 34).trans ((nf_hFresh 34).trans gf_holders))))))))) d_M_hold_111 ?_
        refine v_iconst (v := 1) hX d_M_hold_114 (by decide) ?_
        refine v_iaddE (v := nI ((zHo C) + 1)) hX d_M_hold_115 (nI_add (zHo C) 1) ?_
        refine v_mput hX hM49 34 (szHo (szF (szH (szI (szD (szX (szS (szW (szK (szF C (upd (zF C) ((zHo C) - 1) (vp_nar .boolean 1))) (upd (zK C) (zHo C) k)) (upd (zW C) (zHo C) 4)) (upd (zS C) (zHo C) sg)) (upd (zX C) (zHo C) sg)) (upd (zD C) (zHo C) (vp_nar .boolean 0))) (upd (zI C) (zHo C) (vp_nar .boolean wi))) (upd (zH C) (zHo C) (vp_nar .boolean 0))) (upd (upd (zF C) ((zHo C) - 1) (vp_nar .boolean 1)) (zHo C) (vp_nar .boolean 0))) ((zHo C) + 1)) T O (by decide) fl_M_166 rfl rfl rfl rfl pf_holders pa_holders d_M_hold_116 (fun va50 hM50 hf50 => ?_)
        exact v_vret hX hE d_M_hold_119 (Nat.le_of_ble_eq_true rfl) (Nat.le_of_ble_eq_true rfl) ⟨rfl, rfl, rfl, rfl, (szHo (szF (szH (szI (szD (szX (szS (szW (szK (szF C (upd (zF C) ((zHo C) - 1) (vp_nar .boolean 1))) (upd (zK C) (zHo C) k)) (upd (zW C) (zHo C) 4)) (upd (zS C) (zHo C) sg)) (upd (zX C) (zHo C) sg)) (upd (zD C) (zHo C) (vp_nar .boolean 0))) (upd (zI C) (zHo C) (vp_nar .boolean wi))) (upd (zH C) (zHo C) (vp_nar .boolean 0))) (upd (upd (zF C) ((zHo C) - 1) (vp_nar .boolean 1)) (zHo C) (vp_nar .boolean 0))) ((zHo C) + 1)), O, ⟨rfl, (by unfold hd; simp only [if_pos (show 0 < zHo C by omega), if_pos (Int32.not_le.mp c41), if_neg c75, nar0, nar1])⟩, hM50, ⟨hO, rfl⟩, ((((((((((frM.rf.trans hf28).trans hf29).trans hf43).trans hf44).trans hf45).trans hf46).trans hf47).trans hf48).trans hf49).trans hf50)⟩
      · refine v_iconst (v := 1) hX d_M_hold_78 (by decide) ?_
        refine v_goto hX d_M_hold_79 (tgt := 83) (by decide) ?_
        refine v_mzst hX hM45 20 (szD (szX (szS (szW (szK (szF C (upd (zF C) ((zHo C) - 1) (vp_nar .boolean 1))) (upd (zK C) (zHo C) k)) (upd (zW C) (zHo C) 4)) (upd (zS C) (zHo C) sg)) (upd (zX C) (zHo C) sg)) (upd (zD C) (zHo C) (vp_nar .boolean 1))) T O (i := (zHo C)) (by decide) ((na_hNext 20 (by decide)).trans ((na_hSign 20 (by decide)).trans ((na_hWidth 20 (by decide)).trans ((na_hKind 20 (by decide)).trans ((na_hFresh 20 (by decide)).trans ga_hDue))))) (by omega) (by decide) qf_hDue qa_hDue d_M_hold_83 (fun va51 hM51 hf51 => ?_)
        refine v_aload_n hX d_M_hold_84 rfl rfl ?_
        refine v_mget hX hM51 31 (v := .ref (ob 70)) (by decide) fl_M_76 rfl rfl d_M_hold_85 ?_
        refine v_iload hX d_M_hold_88 rfl ?_
        refine v_iload hX d_M_hold_90 rfl ?_
        refine v_mzst hX hM51 21 (szI (szD (szX (szS (szW (szK (szF C (upd (zF C) ((zHo C) - 1) (vp_nar .boolean 1))) (upd (zK C) (zHo C) k)) (upd (zW C) (zHo C) 4)) (upd (zS C) (zHo C) sg)) (upd (zX C) (zHo C) sg)) (upd (zD C) (zHo C) (vp_nar .boolean 1))) (upd (zI C) (zHo C) (vp_nar .boolean wi))) T O (i := (zHo C)) (by decide) ((na_hDue 21 (by decide)).trans ((na_hNext 21 (by decide)).trans ((na_hSign 21 (by decide)).trans ((na_hWidth 21 (by decide)).trans ((na_hKind 21 (by decide)).trans ((na_hFresh 21 (by decide)).trans ga_hWide)))))) (by omega) (by decide) qf_hWide qa_hWide d_M_hold_92 (fun va52 hM52 hf52 => ?_)
        refine v_aload_n hX d_M_hold_93 rfl rfl ?_
        refine v_mget hX hM52 32 (v := .ref (ob 71)) (by decide) fl_M_79 rfl rfl d_M_hold_94 ?_
        refine v_iload hX d_M_hold_97 rfl ?_
        refine v_iconst (v := 0) hX d_M_hold_99 (by decide) ?_
        refine v_mzst hX hM52 22 (szH (szI (szD (szX (szS (szW (szK (szF C (upd (zF C) ((zHo C) - 1) (vp_nar .boolean 1))) (upd (zK C) (zHo C) k)) (upd (zW C) (zHo C) 4)) (upd (zS C) (zHo C) sg)) (upd (zX C) (zHo C) sg)) (upd (zD C) (zHo C) (vp_nar .boolean 1))) (upd (zI C) (zHo C) (vp_nar .boolean wi))) (upd (zH C) (zHo C) (vp_nar .boolean 0))) T O (i := (zHo C)) (by decide) ((na_hWide 22 (by decide)).trans ((na_hDue 22 (by decide)).trans ((na_hNext 22 (by decide)).trans ((na_hSign 22 (by decide)).trans ((na_hWidth 22 (by decide)).trans ((na_hKind 22 (by decide)).trans ((na_hFresh 22 (by decide)).trans ga_hHad))))))) (by omega) (by decide) qf_hHad qa_hHad d_M_hold_100 (fun va53 hM53 hf53 => ?_)
        refine v_aload_n hX d_M_hold_101 rfl rfl ?_
        refine v_mget hX hM53 33 (v := .ref (ob 72)) (by decide) fl_M_82 rfl rfl d_M_hold_102 ?_
        refine v_iload hX d_M_hold_105 rfl ?_
        refine v_iconst (v := 0) hX d_M_hold_107 (by decide) ?_
        refine v_mzst hX hM53 23 (szF (szH (szI (szD (szX (szS (szW (szK (szF C (upd (zF C) ((zHo C) - 1) (vp_nar .boolean 1))) (upd (zK C) (zHo C) k)) (upd (zW C) (zHo C) 4)) (upd (zS C) (zHo C) sg)) (upd (zX C) (zHo C) sg)) (upd (zD C) (zHo C) (vp_nar .boolean 1))) (upd (zI C) (zHo C) (vp_nar .boolean wi))) (upd (zH C) (zHo C) (vp_nar .boolean 0))) (upd (upd (zF C) ((zHo C) - 1) (vp_nar .boolean 1)) (zHo C) (vp_nar .boolean 0))) T O (i := (zHo C)) (by decide) ((na_hHad 23 (by decide)).trans ((na_hWide 23 (by decide)).trans ((na_hDue 23 (by decide)).trans ((na_hNext 23 (by decide)).trans ((na_hSign 23 (by decide)).trans ((na_hWidth 23 (by decide)).trans ((na_hKind 23 (by decide)).trans ha_hFresh))))))) (by omega) (by decide) qf_hFresh qa_hFresh d_M_hold_108 (fun va54 hM54 hf54 => ?_)
        refine v_aload_n hX d_M_hold_109 rfl rfl ?_
        refine v_dup hX d_M_hold_110 rfl ?_
        refine v_mget hX hM54 34 (v := .int (nI (zHo C))) (by decide) fl_M_166 rfl ((nf_hFresh 34).trans ((nf_hHad 34).trans ((nf_hWide 34).trans ((nf_hDue 34).trans ((nf_hNext 34).trans ((nf_hSign 34).trans ((nf_hWidth 34).trans ((nf_hKind 34).trans ((nf_hFresh 34).trans gf_holders))))))))) d_M_hold_111 ?_
        refine v_iconst (v := 1) hX d_M_hold_114 (by decide) ?_
        refine v_iaddE (v := nI ((zHo C) + 1)) hX d_M_hold_115 (nI_add (zHo C) 1) ?_
        refine v_mput hX hM54 34 (szHo (szF (szH (szI (szD (szX (szS (szW (szK (szF C (upd (zF C) ((zHo C) - 1) (vp_nar .boolean 1))) (upd (zK C) (zHo C) k)) (upd (zW C) (zHo C) 4)) (upd (zS C) (zHo C) sg)) (upd (zX C) (zHo C) sg)) (upd (zD C) (zHo C) (vp_nar .boolean 1))) (upd (zI C) (zHo C) (vp_nar .boolean wi))) (upd (zH C) (zHo C) (vp_nar .boolean 0))) (upd (upd (zF C) ((zHo C) - 1) (vp_nar .boolean 1)) (zHo C) (vp_nar .boolean 0))) ((zHo C) + 1)) T O (by decide) fl_M_166 rfl rfl rfl rfl pf_holders pa_holders d_M_hold_116 (fun va55 hM55 hf55 => ?_)
        exact v_vret hX hE d_M_hold_119 (Nat.le_of_ble_eq_true rfl) (Nat.le_of_ble_eq_true rfl) ⟨rfl, rfl, rfl, rfl, (szHo (szF (szH (szI (szD (szX (szS (szW (szK (szF C (upd (zF C) ((zHo C) - 1) (vp_nar .boolean 1))) (upd (zK C) (zHo C) k)) (upd (zW C) (zHo C) 4)) (upd (zS C) (zHo C) sg)) (upd (zX C) (zHo C) sg)) (upd (zD C) (zHo C) (vp_nar .boolean 1))) (upd (zI C) (zHo C) (vp_nar .boolean wi))) (upd (zH C) (zHo C) (vp_nar .boolean 0))) (upd (upd (zF C) ((zHo C) - 1) (vp_nar .boolean 1)) (zHo C) (vp_nar .boolean 0))) ((zHo C) + 1)), O, ⟨rfl, (by unfold hd; simp only [if_pos (show 0 < zHo C by omega), if_pos (Int32.not_le.mp c41), if_pos c75, nar0, nar1])⟩, hM55, ⟨hO, rfl⟩, ((((((((((frM.rf.trans hf28).trans hf29).trans hf43).trans hf44).trans hf45).trans hf51).trans hf52).trans hf53).trans hf54).trans hf55)⟩
set_option maxHeartbeats 4000000 in
set_option maxRecDepth 100000 in
theorem c_M_layPieces {l : Launch} {D : va_G} {A : Nat → Prop} {cI cB cZ cJ cN : ClassId} {ob : Nat → Nat} {C : CT} {T : TS} {O : OS} {dom : Nat → Prop} {loc : Nat → Nat} {val : Nat → va_E} (hM : ModI cI cB cZ ob C T O dom loc val) (hO : OI O) (hHo : zHo C ≤ 13) (hlw : 4 ≤ zLw C ∧ zLw C ≤ 60) (hwm : zWm C ≤ 4010) (hc : ooCt O = 0 → zCnt (lp C) ≤ 1501) : kM l y_M_layPieces (Cond.code y_M_layPieces b_M_layPieces 3 none :: TT) (rmM 5) D CL (TY cI cB cZ cJ cN) A [.ref (ob 48)] dom loc val (PMo cI cB cZ ob T O dom loc val (fun rv C2 O2 => rv = none ∧ lp C = C2)) := by
  refine kM_of (lv0 := [some (.ref (ob 48)), none, none]) (own := "ProsePagesModel") (by decide) rfl (List.forall_mem_cons.mpr ⟨rfl, fun _ h => nomatch h⟩) (Nat.le_of_ble_eq_true rfl) rfl (Nat.le_of_ble_eq_true rfl) (fun X hl hX hE hin0 => ?_)
  refine v_iconst (v := 0) hX d_M_layPieces_0 (by decide) ?_
  refine v_istore_n (lv' := [some (.ref (ob 48)), some (.int 0), none]) hX d_M_layPieces_1 rfl (Nat.le_of_ble_eq_true rfl) rfl ?_
  have loop2 : ∀ (m9 : Nat) (p k : Nat) (o2 : Option Value) (CL2 : CT) (oL2 : OS) (vaL2 : Nat → va_E), zWm C - p < m9 → ModI cI cB cZ ob CL2 T oL2 dom loc vaL2 → (OI oL2 ∧ ooCt oL2 = ooCt O) → frM val vaL2 → (p ≤ zWm C ∧ zWm C - p < k ∧ (0 < p → p < zWm C)) → (lpL k p CL2 = lpL (zWm C + 1) 0 C) → (zHo CL2 = zHo C ∧ zLw CL2 = zLw C ∧ zWm CL2 = zWm C) → V X D CL A dom loc vaL2 0 0 2 [some (.ref (ob 48)), some (.int (nI p)), o2] [] := by
    intro m9
    induction m9 with
    | zero => intro p k o2 CL2 oL2 vaL2 hk2 hML2 hOL2 hfL2 hp2 hL2 hc2; exact absurd hk2 (Nat.not_lt_zero _)
    | succ m9 ih2 =>
      intro p k o2 CL2 oL2 vaL2 hk2 hML2 hOL2 hfL2 hp2 hL2 hc2
      obtain ⟨hp2a, hp2b, hp2c⟩ := hp2
      obtain ⟨hm1, hm2, hm3⟩ := hc2
      obtain ⟨k2, rfl⟩ : ∃ k2, k = k2 + 1 := ⟨k - 1, by omega⟩
      refine v_aload_n hX d_M_layPieces_2 rfl rfl ?_
      refine v_mget hX hML2 38 (v := .int (nI (zWm CL2))) (by decide) fl_M_186 rfl gf_wordMany d_M_layPieces_3 ?_
      refine v_iload_n hX d_M_layPieces_6 rfl rfl ?_
      refine v_isubE (v := nI ((zWm CL2) - p)) hX d_M_layPieces_7 (nI_sub (a := (zWm CL2)) (b := p) (by omega)) ?_
      refine v_aload_n hX d_M_layPieces_8 rfl rfl ?_
      refine v_mget hX hML2 41 (v := .int (nI (zLw CL2))) (by decide) fl_M_189 rfl gf_leafWidth d_M_layPieces_9 ?_
      refine v_icmp_ge hX d_M_layPieces_12 (tgt := 24) (by decide) (fun c12 => ?_) (fun c12 => ?_)
      · have f12 : (zLw CL2) ≤ ((zWm CL2) - p) := (nI_leI (a := (zLw CL2)) (b := ((zWm CL2) - p)) (by omega) (by omega)).mp c12
        refine v_aload_n hX d_M_layPieces_24 rfl rfl ?_
        refine v_mget hX hML2 41 (v := .int (nI (zLw CL2))) (by decide) fl_M_189 rfl gf_leafWidth d_M_layPieces_25 ?_
        refine v_istore_n (lv' := [some (.ref (ob 48)), some (.int (nI p)), some (.int (nI (zLw CL2)))]) hX d_M_layPieces_28 rfl (Nat.le_of_ble_eq_true rfl) rfl ?_
        refine v_aload_n hX d_M_layPieces_29 rfl rfl ?_
        refine v_aload_n hX d_M_layPieces_30 rfl rfl ?_
        refine v_mget hX hML2 35 (v := .ref (ob 73)) (by decide) fl_M_85 rfl rfl d_M_layPieces_31 ?_
        refine v_iload_n hX d_M_layPieces_34 rfl rfl ?_
        refine v_iload_n hX d_M_layPieces_35 rfl rfl ?_
        refine c_V hX 48 (rest := []) hl (c_M_giveLine hML2 hOL2.1 (j := 24) (p := p) (q := (zLw CL2)) (Or.inl rfl) (by omega) (by omega) (fun z => by have q1 := hc (hOL2.2.symm.trans z); have q2 : zCnt (lp C) = zCnt (lpL (zWm C + 1) 0 C) := rfl; rw [← hL2] at q2; have q3 := lpL_gl k2 p CL2; omega)) ml_M_182 im_M_giveLine se_M_giveLine in_M cd_M_giveLine rfl q_M_giveLine ⟨(Nat.le_of_ble_eq_true rfl), (Nat.le_of_ble_eq_true rfl)⟩ hML2.1.1 hML2.1.2.1 hML2.1.2.2 rfl rfl rfl rfl (Nat.le_of_ble_eq_true rfl) d_M_layPieces_36 ⟨(Nat.le_of_ble_eq_true rfl), (Nat.le_of_ble_eq_true rfl)⟩ (fun rv d2 lo2 va1 kc ns hp => ?_)
        obtain ⟨rfl, rfl, rfl, rfl, C1, o1, ⟨rfl, hC1⟩, hM1, hO1, hf1⟩ := hp
        show V X D CL A _ _ _ _ _ _ _ []
        have hg1 := gl_ok CL2
        rw [hC1] at hg1
        obtain ⟨hk1, hu1, hv1⟩ := hg1
        obtain ⟨hk1h, hk1l, hk1w, hk1n, -⟩ := hk1
        have hN9 : lpN p CL2 = (zLw CL2) := by (unfold lpN; first | rw [if_pos (by omega)] | rw [if_neg (by omega)])
        refine v_iload_n hX d_M_layPieces_39 rfl rfl ?_
        refine v_iload_n hX d_M_layPieces_40 rfl rfl ?_
        refine v_iaddE (v := nI (p + (zLw CL2))) hX d_M_layPieces_41 (nI_add p (zLw CL2)) ?_
        refine v_istore_n (lv' := [some (.ref (ob 48)), some (.int (nI (p + (zLw CL2)))), some (.int (nI (zLw CL2)))]) hX d_M_layPieces_42 rfl (Nat.le_of_ble_eq_true rfl) rfl ?_
        refine v_iload_n hX d_M_layPieces_43 rfl rfl ?_
        refine v_aload_n hX d_M_layPieces_44 rfl rfl ?_
        refine v_mget hX hM1 38 (v := .int (nI (zWm C1))) (by decide) fl_M_186 rfl gf_wordMany d_M_layPieces_45 ?_
        refine v_icmp_lt hX d_M_layPieces_48 (tgt := 2) (by decide) (fun c48 => ?_) (fun c48 => ?_)
        · have f48 : (p + (zLw CL2)) < (zWm C1) := (nI_ltI (a := (p + (zLw CL2))) (b := (zWm C1)) (by omega) (by omega)).mp c48
          have hL2b : lpL k2 (p + lpN p CL2) (gl CL2) = lpL (zWm C + 1) 0 C := by rw [← hL2, lpL_go k2 (by omega)]
          rw [show (p + (zLw CL2)) = p + lpN p CL2 by rw [hN9]]
          exact ih2 (p + lpN p CL2) k2 (some (.int (nI (zLw CL2)))) C1 o1 va1 (by have := lpN_le p CL2; omega) hM1 ⟨hO1.1, (hO1.2.trans hOL2.2)⟩ (hfL2.trans hf1) (by have := lpN_le p CL2; omega) (by rw [← hC1]; exact hL2b) ⟨by omega, by omega, by omega⟩
        · have f48 : ¬ (p + (zLw CL2)) < (zWm C1) := fun z => c48 ((nI_ltI (a := (p + (zLw CL2))) (b := (zWm C1)) (by omega) (by omega)).mpr z)
          refine v_aload_n hX d_M_layPieces_51 rfl rfl ?_
          refine v_iconst (v := 0) hX d_M_layPieces_52 (by decide) ?_
          refine v_mput hX hM1 38 (szWm C1 0) T o1 (by decide) fl_M_186 rfl rfl rfl rfl pf_wordMany pa_wordMany d_M_layPieces_53 (fun va2 hM2 hf2 => ?_)
          exact v_vret hX hE d_M_layPieces_56 (Nat.le_of_ble_eq_true rfl) (Nat.le_of_ble_eq_true rfl) ⟨rfl, rfl, rfl, rfl, (szWm C1 0), o1, ⟨rfl, (by show szWm (lpL (zWm C + 1) 0 C) 0 = _; rw [← hL2, lpL_end k2 (by omega), hC1])⟩, hM2, ⟨hO1.1, (hO1.2.trans hOL2.2)⟩, ((hfL2.trans hf1).trans hf2)⟩
      · have f12 : ¬ (zLw CL2) ≤ ((zWm CL2) - p) := fun z => c12 ((nI_leI (a := (zLw CL2)) (b := ((zWm CL2) - p)) (by omega) (by omega)).mpr z)
        refine v_aload_n hX d_M_layPieces_15 rfl rfl ?_
        refine v_mget hX hML2 38 (v := .int (nI (zWm CL2))) (by decide) fl_M_186 rfl gf_wordMany d_M_layPieces_16 ?_
        refine v_iload_n hX d_M_layPieces_19 rfl rfl ?_
        refine v_isubE (v := nI ((zWm CL2) - p)) hX d_M_layPieces_20 (nI_sub (a := (zWm CL2)) (b := p) (by omega)) ?_
        refine v_goto hX d_M_layPieces_21 (tgt := 28) (by decide) ?_
        refine v_istore_n (lv' := [some (.ref (ob 48)), some (.int (nI p)), some (.int (nI ((zWm CL2) - p)))]) hX d_M_layPieces_28 rfl (Nat.le_of_ble_eq_true rfl) rfl ?_
        refine v_aload_n hX d_M_layPieces_29 rfl rfl ?_
        refine v_aload_n hX d_M_layPieces_30 rfl rfl ?_
        refine v_mget hX hML2 35 (v := .ref (ob 73)) (by decide) fl_M_85 rfl rfl d_M_layPieces_31 ?_
        refine v_iload_n hX d_M_layPieces_34 rfl rfl ?_
        refine v_iload_n hX d_M_layPieces_35 rfl rfl ?_
        refine c_V hX 48 (rest := []) hl (c_M_giveLine hML2 hOL2.1 (j := 24) (p := p) (q := ((zWm CL2) - p)) (Or.inl rfl) (by omega) (by omega) (fun z => by have q1 := hc (hOL2.2.symm.trans z); have q2 : zCnt (lp C) = zCnt (lpL (zWm C + 1) 0 C) := rfl; rw [← hL2] at q2; have q3 := lpL_gl k2 p CL2; omega)) ml_M_182 im_M_giveLine se_M_giveLine in_M cd_M_giveLine rfl q_M_giveLine ⟨(Nat.le_of_ble_eq_true rfl), (Nat.le_of_ble_eq_true rfl)⟩ hML2.1.1 hML2.1.2.1 hML2.1.2.2 rfl rfl rfl rfl (Nat.le_of_ble_eq_true rfl) d_M_layPieces_36 ⟨(Nat.le_of_ble_eq_true rfl), (Nat.le_of_ble_eq_true rfl)⟩ (fun rv d2 lo2 va3 kc ns hp => ?_)
        obtain ⟨rfl, rfl, rfl, rfl, C3, o3, ⟨rfl, hC3⟩, hM3, hO3, hf3⟩ := hp
        show V X D CL A _ _ _ _ _ _ _ []
        have hg3 := gl_ok CL2
        rw [hC3] at hg3
        obtain ⟨hk3, hu3, hv3⟩ := hg3
        obtain ⟨hk3h, hk3l, hk3w, hk3n, -⟩ := hk3
        have hN9 : lpN p CL2 = ((zWm CL2) - p) := by (unfold lpN; first | rw [if_pos (by omega)] | rw [if_neg (by omega)])
        refine v_iload_n hX d_M_layPieces_39 rfl rfl ?_
        refine v_iload_n hX d_M_layPieces_40 rfl rfl ?_
        refine v_iaddE (v := nI (p + ((zWm CL2) - p))) hX d_M_layPieces_41 (nI_add p ((zWm CL2) - p)) ?_
        refine v_istore_n (lv' := [some (.ref (ob 48)), some (.int (nI (p + ((zWm CL2) - p)))), some (.int (nI ((zWm CL2) - p)))]) hX d_M_layPieces_42 rfl (Nat.le_of_ble_eq_true rfl) rfl ?_
        refine v_iload_n hX d_M_layPieces_43 rfl rfl ?_
        refine v_aload_n hX d_M_layPieces_44 rfl rfl ?_
        refine v_mget hX hM3 38 (v := .int (nI (zWm C3))) (by decide) fl_M_186 rfl gf_wordMany d_M_layPieces_45 ?_
        refine v_icmp_lt hX d_M_layPieces_48 (tgt := 2) (by decide) (fun c48 => ?_) (fun c48 => ?_)
        · have f48 : (p + ((zWm CL2) - p)) < (zWm C3) := (nI_ltI (a := (p + ((zWm CL2) - p))) (b := (zWm C3)) (by omega) (by omega)).mp c48
          have hL2b : lpL k2 (p + lpN p CL2) (gl CL2) = lpL (zWm C + 1) 0 C := by rw [← hL2, lpL_go k2 (by omega)]
          rw [show (p + ((zWm CL2) - p)) = p + lpN p CL2 by rw [hN9]]
          exact ih2 (p + lpN p CL2) k2 (some (.int (nI ((zWm CL2) - p)))) C3 o3 va3 (by have := lpN_le p CL2; omega) hM3 ⟨hO3.1, (hO3.2.trans hOL2.2)⟩ (hfL2.trans hf3) (by have := lpN_le p CL2; omega) (by rw [← hC3]; exact hL2b) ⟨by omega, by omega, by omega⟩
        · have f48 : ¬ (p + ((zWm CL2) - p)) < (zWm C3) := fun z => c48 ((nI_ltI (a := (p + ((zWm CL2) - p))) (b := (zWm C3)) (by omega) (by omega)).mpr z)
          refine v_aload_n hX d_M_layPieces_51 rfl rfl ?_
          refine v_iconst (v := 0) hX d_M_layPieces_52 (by decide) ?_
          refine v_mput hX hM3 38 (szWm C3 0) T o3 (by decide) fl_M_186 rfl rfl rfl rfl pf_wordMany pa_wordMany d_M_layPieces_53 (fun va4 hM4 hf4 => ?_)
          exact v_vret hX hE d_M_layPieces_56 (Nat.le_of_ble_eq_true rfl) (Nat.le_of_ble_eq_true rfl) ⟨rfl, rfl, rfl, rfl, (szWm C3 0), o3, ⟨rfl, (by show szWm (lpL (zWm C + 1) 0 C) 0 = _; rw [← hL2, lpL_end k2 (by omega), hC3])⟩, hM4, ⟨hO3.1, (hO3.2.trans hOL2.2)⟩, ((hfL2.trans hf3).trans hf4)⟩
  exact loop2 _ 0 (zWm C + 1) none C O val (Nat.lt_succ_self _) hM ⟨hO, rfl⟩ frM.rf ⟨Nat.zero_le _, by omega, by omega⟩ rfl ⟨rfl, rfl, rfl⟩
