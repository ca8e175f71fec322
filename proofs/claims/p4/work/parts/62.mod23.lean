set_option maxHeartbeats 4000000 in
set_option maxRecDepth 100000 in
theorem c_M_layOut {l : Launch} {D : va_G} {A : Nat → Prop} {cI cB cZ cJ cN : ClassId} {ob : Nat → Nat} {C : CT} {T : TS} {O : OS} {dom : Nat → Prop} {loc : Nat → Nat} {val : Nat → va_E} (hM : ModI cI cB cZ ob C T O dom loc val) (hO : OI O) (hT : TrI T) (hco : 8 ≤ ttCo T ∧ ttCo T ≤ 60) (hc : ooCt O = 0 → zCnt (ly T (ttN T + 1) 0 (ly0 C)) ≤ 1501) : kM l y_M_layOut (Cond.code y_M_layOut b_M_layOut 4 none :: TT) (rmM 9) D CL (TY cI cB cZ cJ cN) A [.ref (ob 48)] dom loc val (PMo cI cB cZ ob T O dom loc val (fun rv C2 O2 => rv = none ∧ ly T (ttN T + 1) 0 (ly0 C) = C2)) := by
  refine kM_of (lv0 := [some (.ref (ob 48)), none, none, none]) (own := "ProsePagesModel") (by decide) rfl (List.forall_mem_cons.mpr ⟨rfl, fun _ h => nomatch h⟩) (Nat.le_of_ble_eq_true rfl) rfl (Nat.le_of_ble_eq_true rfl) (fun X hl hX hE hin0 => ?_)
  have hTn := hT.1
  refine v_aload_n hX d_M_layOut_0 rfl rfl ?_
  refine v_iconst (v := 0) hX d_M_layOut_1 (by decide) ?_
  refine v_mput hX hM 23 (szCnt C 0) T O (by decide) fl_M_159 rfl rfl rfl rfl pf_counted pa_counted d_M_layOut_2 (fun va1 hM1 hf1 => ?_)
  refine v_aload_n hX d_M_layOut_5 rfl rfl ?_
  refine v_iconst (v := 0) hX d_M_layOut_6 (by decide) ?_
  refine v_mput hX hM1 34 (szHo (szCnt C 0) 0) T O (by decide) fl_M_166 rfl rfl rfl rfl pf_holders pa_holders d_M_layOut_7 (fun va2 hM2 hf2 => ?_)
  refine v_aload_n hX d_M_layOut_10 rfl rfl ?_
  refine v_iconst (v := 0) hX d_M_layOut_11 (by decide) ?_
  refine v_mput hX hM2 43 (szLo (szHo (szCnt C 0) 0) 0) T O (by decide) fl_M_198 rfl rfl (by first | rfl | decide | assumption) rfl pf_leafOpen pa_leafOpen d_M_layOut_12 (fun va3 hM3 hf3 => ?_)
  refine v_aload_n hX d_M_layOut_15 rfl rfl ?_
  refine v_iconst (v := (-1)) hX d_M_layOut_16 (by decide) ?_
  refine v_mput hX hM3 42 (szLl (szLo (szHo (szCnt C 0) 0) 0) (-1)) T O (by decide) fl_M_176 rfl rfl rfl rfl pf_leafLine pa_leafLine d_M_layOut_17 (fun va4 hM4 hf4 => ?_)
  refine v_aload_n hX d_M_layOut_20 rfl rfl ?_
  refine v_iconst (v := 0) hX d_M_layOut_21 (by decide) ?_
  refine v_mput hX hM4 38 (szWm (szLl (szLo (szHo (szCnt C 0) 0) 0) (-1)) 0) T O (by decide) fl_M_186 rfl rfl rfl rfl pf_wordMany pa_wordMany d_M_layOut_22 (fun va5 hM5 hf5 => ?_)
  refine v_aload_n hX d_M_layOut_25 rfl rfl ?_
  refine v_iconst (v := 0) hX d_M_layOut_26 (by decide) ?_
  refine v_mput hX hM5 39 (szNm (szWm (szLl (szLo (szHo (szCnt C 0) 0) 0) (-1)) 0) 0) T O (by decide) fl_M_179 rfl rfl rfl rfl pf_nowMany pa_nowMany d_M_layOut_27 (fun va6 hM6 hf6 => ?_)
  refine v_iconst (v := (-1)) hX d_M_layOut_30 (by decide) ?_
  refine v_istore_n (lv' := [some (.ref (ob 48)), some (.int (-1)), none, none]) hX d_M_layOut_31 rfl (Nat.le_of_ble_eq_true rfl) rfl ?_
  refine v_iconst (v := 0) hX d_M_layOut_32 (by decide) ?_
  refine v_istore_n (lv' := [some (.ref (ob 48)), some (.int (-1)), some (.int 0), none]) hX d_M_layOut_33 rfl (Nat.le_of_ble_eq_true rfl) rfl ?_
  refine v_iload_n hX d_M_layOut_34 rfl rfl ?_
  refine v_aload_n hX d_M_layOut_35 rfl rfl ?_
  refine v_mget hX hM6 9 (v := .int (nI (ttN T))) (by decide) fl_M_101 rfl ((nf_nowMany 9 (by decide)).trans ((nf_wordMany 9 (by decide)).trans ((nf_leafLine 9 (by decide)).trans ((nf_leafOpen 9 (by decide)).trans ((nf_holders 9 (by decide)).trans ((nf_counted 9 (by decide)).trans gf_nodes)))))) d_M_layOut_36 ?_
  refine v_icmp_gt hX d_M_layOut_39 (tgt := 115) (by decide) (fun c => absurd c (nI_pos (by omega))) (fun _ => ?_)
  refine v_aload_n hX d_M_layOut_42 rfl rfl ?_
  refine v_mget hX hM6 23 (v := .int 0) (by decide) fl_M_159 rfl ((nf_nowMany 23 (by decide)).trans ((nf_wordMany 23 (by decide)).trans ((nf_leafLine 23 (by decide)).trans ((nf_leafOpen 23 (by decide)).trans ((nf_holders 23 (by decide)).trans hf_counted))))) d_M_layOut_43 ?_
  refine v_sipush (v := 1500) hX d_M_layOut_46 (by decide) ?_
  refine v_icmp_gt hX d_M_layOut_49 (tgt := 115) (by decide) (fun c => absurd c (by decide)) (fun _ => ?_)
  refine v_iload_n hX d_M_layOut_52 rfl rfl ?_
  refine v_aload_n hX d_M_layOut_53 rfl rfl ?_
  refine v_mget hX hM6 9 (v := .int (nI (ttN T))) (by decide) fl_M_101 rfl ((nf_nowMany 9 (by decide)).trans ((nf_wordMany 9 (by decide)).trans ((nf_leafLine 9 (by decide)).trans ((nf_leafOpen 9 (by decide)).trans ((nf_holders 9 (by decide)).trans ((nf_counted 9 (by decide)).trans gf_nodes)))))) d_M_layOut_54 ?_
  refine v_icmp_ge hX d_M_layOut_57 (tgt := 69) (by decide) (fun c => absurd c (nI_nle (by omega) (by omega))) (fun _ => ?_)
  refine v_aload_n hX d_M_layOut_60 rfl rfl ?_
  refine v_mget hX hM6 2 (v := .ref (ob 50)) (by decide) fl_M_13 rfl rfl d_M_layOut_61 ?_
  refine v_iload_n hX d_M_layOut_64 rfl rfl ?_
  refine v_mild hX hM6 1 (i := 0) (v := (-1)) ((na_nowMany 1).trans ((na_wordMany 1).trans ((na_leafLine 1).trans ((na_leafOpen 1).trans ((na_holders 1).trans ((na_counted 1).trans ga_up)))))) (by omega) (by decide) hT.2.1.2.1 d_M_layOut_65 ?_
  refine v_goto hX d_M_layOut_66 (tgt := 70) (by decide) ?_
  refine v_istore_n (lv' := [some (.ref (ob 48)), some (.int (-1)), some (.int 0), some (.int (-1))]) hX d_M_layOut_70 rfl (Nat.le_of_ble_eq_true rfl) rfl ?_
  refine v_iload_n hX d_M_layOut_71 rfl rfl ?_
  refine v_iload_n hX d_M_layOut_72 rfl rfl ?_
  refine v_icmp_eq hX d_M_layOut_73 (tgt := 91) (by decide) (fun _ => ?_) (fun c => absurd (by decide) c)
  refine v_iload_n hX d_M_layOut_91 rfl rfl ?_
  refine v_aload_n hX d_M_layOut_92 rfl rfl ?_
  refine v_mget hX hM6 9 (v := .int (nI (ttN T))) (by decide) fl_M_101 rfl ((nf_nowMany 9 (by decide)).trans ((nf_wordMany 9 (by decide)).trans ((nf_leafLine 9 (by decide)).trans ((nf_leafOpen 9 (by decide)).trans ((nf_holders 9 (by decide)).trans ((nf_counted 9 (by decide)).trans gf_nodes)))))) d_M_layOut_93 ?_
  refine v_icmp_ne hX d_M_layOut_96 (tgt := 102) (by decide) (fun _ => ?_) (fun c => absurd c (fun z => nI_ne0 (by omega) (by omega) z.symm))
  refine v_aload_n hX d_M_layOut_102 rfl rfl ?_
  refine v_iload_n hX d_M_layOut_103 rfl rfl ?_
  refine c_V hX 48 (rest := []) hl (c_M_beginNode0 hM6 hO hT rfl (by show 0 ≤ 300000000; omega)) ml_M_229 im_M_beginNode se_M_beginNode in_M cd_M_beginNode rfl q_M_beginNode ⟨(Nat.le_of_ble_eq_true rfl), (Nat.le_of_ble_eq_true rfl)⟩ hM6.1.1 hM6.1.2.1 hM6.1.2.2 rfl rfl rfl rfl (Nat.le_of_ble_eq_true rfl) d_M_layOut_104 ⟨(Nat.le_of_ble_eq_true rfl), (Nat.le_of_ble_eq_true rfl)⟩ (fun rv d2 lo2 va7 kc ns hp => ?_)
  obtain ⟨rfl, rfl, rfl, rfl, C7, o7, ⟨rfl, hC7⟩, hM7, hO7, hf7⟩ := hp
  show V X D CL A _ _ _ _ _ _ _ []
  refine v_iload_n hX d_M_layOut_107 rfl rfl ?_
  refine v_istore_n (lv' := [some (.ref (ob 48)), some (.int 0), some (.int 0), some (.int (-1))]) hX d_M_layOut_108 rfl (Nat.le_of_ble_eq_true rfl) rfl ?_
  refine v_iinc (y := 1) (lv' := [some (.ref (ob 48)), some (.int 0), some (.int 1), some (.int (-1))]) hX d_M_layOut_109 rfl (by decide) rfl ?_
  refine v_goto hX d_M_layOut_112 (tgt := 34) (by decide) ?_
  have loop34 : ∀ (m9 : Nat) (i : Nat) (la : Int32) (o3 : Option Value) (CL34 : CT) (oL34 : OS) (vaL34 : Nat → va_E), ttN T + 1 - i < m9 → ModI cI cB cZ ob CL34 T oL34 dom loc vaL34 → (OI oL34 ∧ ooCt oL34 = ooCt O) → frM val vaL34 → (1 ≤ i ∧ i ≤ ttN T + 1) → (i ≤ ttN T → la = nI (i - 1)) → (LY T i CL34) → (ly T (ttN T + 1 - i) i CL34 = ly T (ttN T + 1) 0 (ly0 C)) → V X D CL A dom loc vaL34 0 0 34 [some (.ref (ob 48)), some (.int la), some (.int (nI i)), o3] [] := by
    intro m9
    induction m9 with
    | zero => intro i la o3 CL34 oL34 vaL34 hk34 hML34 hOL34 hfL34 hi34 hla hLY hL34; exact absurd hk34 (Nat.not_lt_zero _)
    | succ m9 ih34 =>
      intro i la o3 CL34 oL34 vaL34 hk34 hML34 hOL34 hfL34 hi34 hla hLY hL34
      obtain ⟨hi34a, hi34b⟩ := hi34
      have hcb34 := hLY.2.2
      refine v_iload_n hX d_M_layOut_34 rfl rfl ?_
      refine v_aload_n hX d_M_layOut_35 rfl rfl ?_
      refine v_mget hX hML34 9 (v := .int (nI (ttN T))) (by decide) fl_M_101 rfl gf_nodes d_M_layOut_36 ?_
      refine v_icmp_gt hX d_M_layOut_39 (tgt := 115) (by decide) (fun c39 => ?_) (fun c39 => ?_)
      · have f39 : (ttN T) < i := (nI_ltI (a := (ttN T)) (b := i) (by omega) (by omega)).mp c39
        exact v_vret hX hE d_M_layOut_115 (Nat.le_of_ble_eq_true rfl) (Nat.le_of_ble_eq_true rfl) ⟨rfl, rfl, rfl, rfl, CL34, oL34, ⟨rfl, (by rw [← hL34, show ttN T + 1 - i = 0 by omega]; rfl)⟩, hML34, ⟨hOL34.1, hOL34.2⟩, hfL34⟩
      · have f39 : ¬ (ttN T) < i := fun z => c39 ((nI_ltI (a := (ttN T)) (b := i) (by omega) (by omega)).mpr z)
        refine v_aload_n hX d_M_layOut_42 rfl rfl ?_
        refine v_mget hX hML34 23 (v := .int (nI (zCnt CL34))) (by decide) fl_M_159 rfl gf_counted d_M_layOut_43 ?_
        refine v_sipush (v := 1500) hX d_M_layOut_46 (by decide) ?_
        refine v_icmp_gt hX d_M_layOut_49 (tgt := 115) (by decide) (fun c49 => ?_) (fun c49 => ?_)
        · have f49 : 1500 < (zCnt CL34) := (nI_ltI (a := 1500) (b := (zCnt CL34)) (by omega) (by omega)).mp c49
          exact v_vret hX hE d_M_layOut_115 (Nat.le_of_ble_eq_true rfl) (Nat.le_of_ble_eq_true rfl) ⟨rfl, rfl, rfl, rfl, CL34, oL34, ⟨rfl, (by rw [← hL34, show ttN T + 1 - i = ttN T - i + 1 by omega, ly_s, if_pos f49])⟩, hML34, ⟨hOL34.1, hOL34.2⟩, hfL34⟩
        · have f49 : ¬ 1500 < (zCnt CL34) := fun z => c49 ((nI_ltI (a := 1500) (b := (zCnt CL34)) (by omega) (by omega)).mpr z)
          obtain rfl := hla (by omega)
          have hR : ly T (ttN T + 1 - (i + 1)) (i + 1) (lyS T i CL34) = ly T (ttN T + 1) 0 (ly0 C) := by rw [← hL34, show ttN T + 1 - i = ttN T + 1 - (i + 1) + 1 by omega, ly_s, if_neg f49]
          have hmono := (ly_ok hT hco (ttN T + 1 - (i + 1)) (i + 1) (lyS T i CL34) (by omega) (lyS_ok hT hco (i := i) (by omega) hLY (by omega)).1).1
          obtain ⟨hSI0, hwm0⟩ := hLY.2.1 (by omega) (by omega)
          have hsi := hT.sumi (i := i) (by omega)
          refine v_iload_n hX d_M_layOut_52 rfl rfl ?_
          refine v_aload_n hX d_M_layOut_53 rfl rfl ?_
          refine v_mget hX hML34 9 (v := .int (nI (ttN T))) (by decide) fl_M_101 rfl gf_nodes d_M_layOut_54 ?_
          refine v_icmp_ge hX d_M_layOut_57 (tgt := 69) (by decide) (fun c57 => ?_) (fun c57 => ?_)
          · have f57 : (ttN T) ≤ i := (nI_leI (a := (ttN T)) (b := i) (by omega) (by omega)).mp c57
            have hiN : i = ttN T := by omega
            have hlyS : lyS T i CL34 = ue T (-1) i (i - 1) CL34 := by unfold lyS; rw [if_neg (by omega), if_pos hiN]
            refine v_iconst (v := (-1)) hX d_M_layOut_69 (by decide) ?_
            refine v_istore_n (lv' := [some (.ref (ob 48)), some (.int (nI (i - 1))), some (.int (nI i)), some (.int (-1))]) hX d_M_layOut_70 rfl (Nat.le_of_ble_eq_true rfl) rfl ?_
            have loop71 : ∀ (m9 : Nat) (x f : Nat) (CL71 : CT) (oL71 : OS) (vaL71 : Nat → va_E), x < m9 → ModI cI cB cZ ob CL71 T oL71 dom loc vaL71 → (OI oL71 ∧ ooCt oL71 = ooCt O) → frM val vaL71 → (x < f ∧ x < ttN T) → (SI T x CL71) → (zWm CL71 ≤ sumN (ttMa T) i) → (ue T (-1) f x CL71 = ue T (-1) i (i - 1) CL34) → (zCnt CL71 + f * 60020 < 30000000) → V X D CL A dom loc vaL71 0 0 71 [some (.ref (ob 48)), some (.int (nI x)), some (.int (nI i)), some (.int (-1))] [] := by
              intro m9
              induction m9 with
              | zero => intro x f CL71 oL71 vaL71 hk71 hML71 hOL71 hfL71 hx71 hS71 hw71 hu71 hb71; exact absurd hk71 (Nat.not_lt_zero _)
              | succ m9 ih71 =>
                intro x f CL71 oL71 vaL71 hk71 hML71 hOL71 hfL71 hx71 hS71 hw71 hu71 hb71
                obtain ⟨hx71a, hx71b⟩ := hx71
                obtain ⟨f, rfl⟩ : ∃ f2, f = f2 + 1 := ⟨f - 1, by omega⟩
                rw [Nat.succ_mul] at hb71
                have hb71c : zCnt CL71 < 30000000 := Nat.lt_of_le_of_lt (Nat.le_add_right _ _) hb71
                refine v_iload_n hX d_M_layOut_71 rfl rfl ?_
                refine v_iload_n hX d_M_layOut_72 rfl rfl ?_
                refine v_icmp_eq hX d_M_layOut_73 (tgt := 91) (by decide) (fun c => absurd c (nI_nm1 (by omega))) (fun _ => ?_)
                rw [ue_s, if_neg (nI_nm1 (by omega))] at hu71
                obtain ⟨cn1, cn2, cn3⟩ := en_cnt hT (by omega) hS71 (by omega) hb71c
                have hmu : zCnt (en T x CL71) ≤ zCnt (lyS T i CL34) := by
                  rw [hlyS, ← hu71]
                  by_cases hx0 : x = 0
                  · rw [if_pos hx0, hx0]; exact Nat.le_refl _
                  · rw [if_neg hx0]
                    have bx1 := (hT.2.2.1 x (by omega) (by omega)).1
                    exact (ueE_ok hT f (pu T x) (en T x CL71) (by omega) (by omega) (en_ok hT ⟨by omega, by omega⟩ hS71 (by omega) hb71c) (by omega) (by omega)).1
                refine v_aload_n hX d_M_layOut_76 rfl rfl ?_
                refine v_iload_n hX d_M_layOut_77 rfl rfl ?_
                refine c_V hX 48 (rest := []) hl (c_M_endNode hML71 hOL71.1 (x := x) (by omega) hT hS71 (by omega) (by omega) (fun z => by have q1 := hc (hOL71.2.symm.trans z); rw [hR] at hmono; omega)) ml_M_226 im_M_endNode se_M_endNode in_M cd_M_endNode rfl q_M_endNode ⟨(Nat.le_of_ble_eq_true rfl), (Nat.le_of_ble_eq_true rfl)⟩ hML71.1.1 hML71.1.2.1 hML71.1.2.2 rfl rfl rfl rfl (Nat.le_of_ble_eq_true rfl) d_M_layOut_78 ⟨(Nat.le_of_ble_eq_true rfl), (Nat.le_of_ble_eq_true rfl)⟩ (fun rv d2 lo2 va8 kc ns hp => ?_)
                obtain ⟨rfl, rfl, rfl, rfl, C8, o8, ⟨rfl, hC8⟩, hM8, hO8, hf8⟩ := hp
                show V X D CL A _ _ _ _ _ _ _ []
                by_cases hx0 : x = 0
                · subst hx0
                  have hU0 : ue T (-1) i (i - 1) CL34 = en T 0 CL71 := by rw [← hu71, if_pos rfl]
                  refine v_aload_n hX d_M_layOut_81 rfl rfl ?_
                  refine v_mget hX hM8 2 (v := .ref (ob 50)) (by decide) fl_M_13 rfl rfl d_M_layOut_82 ?_
                  refine v_iload_n hX d_M_layOut_85 rfl rfl ?_
                  refine v_mild hX hM8 1 (i := 0) (v := (-1)) ga_up (by omega) (by decide) hT.2.1.2.1 d_M_layOut_86 ?_
                  refine v_istore_n (lv' := [some (.ref (ob 48)), some (.int (-1)), some (.int (nI i)), some (.int (-1))]) hX d_M_layOut_87 rfl (Nat.le_of_ble_eq_true rfl) rfl ?_
                  refine v_goto hX d_M_layOut_88 (tgt := 71) (by decide) ?_
                  refine v_iload_n hX d_M_layOut_71 rfl rfl ?_
                  refine v_iload_n hX d_M_layOut_72 rfl rfl ?_
                  refine v_icmp_eq hX d_M_layOut_73 (tgt := 91) (by decide) (fun _ => ?_) (fun c => absurd (by decide) c)
                  refine v_iload_n hX d_M_layOut_91 rfl rfl ?_
                  refine v_aload_n hX d_M_layOut_92 rfl rfl ?_
                  refine v_mget hX hM8 9 (v := .int (nI (ttN T))) (by decide) fl_M_101 rfl gf_nodes d_M_layOut_93 ?_
                  refine v_icmp_ne hX d_M_layOut_96 (tgt := 102) (by decide) (fun c => absurd (show nI i = nI (ttN T) by rw [hiN]) c) (fun _ => ?_)
                  refine v_goto hX d_M_layOut_99 (tgt := 109) (by decide) ?_
                  refine v_iinc (y := (nI (i + 1))) (lv' := [some (.ref (ob 48)), some (.int (-1)), some (.int (nI (i + 1))), some (.int (-1))]) hX d_M_layOut_109 rfl (nI_1 i) rfl ?_
                  refine v_goto hX d_M_layOut_112 (tgt := 34) (by decide) ?_
                  have hLYn := (lyS_ok hT hco (i := i) (by omega) hLY (by omega)).1
                  rw [hlyS, hU0, hC8] at hLYn
                  rw [hlyS, hU0, hC8] at hR
                  exact ih34 (i + 1) (-1) (some (.int (-1))) C8 o8 va8 (by omega) hM8 ⟨hO8.1, (hO8.2.trans hOL71.2)⟩ (hfL71.trans hf8) ⟨by omega, by omega⟩ (fun z => by omega) hLYn hR
                · rw [if_neg hx0] at hu71
                  have hu2 := hu71
                  have sn := en_ok hT ⟨by omega, by omega⟩ hS71 (by omega) hb71c
                  obtain ⟨bx1, bx2, bx3⟩ := hT.2.2.1 x (by omega) (by omega)
                  refine v_aload_n hX d_M_layOut_81 rfl rfl ?_
                  refine v_mget hX hM8 2 (v := .ref (ob 50)) (by decide) fl_M_13 rfl rfl d_M_layOut_82 ?_
                  refine v_iload_n hX d_M_layOut_85 rfl rfl ?_
                  refine v_mild hX hM8 1 (i := x) (v := (nI (pu T x))) ga_up (by omega) (by decide) bx2 d_M_layOut_86 ?_
                  refine v_istore_n (lv' := [some (.ref (ob 48)), some (.int (nI (pu T x))), some (.int (nI i)), some (.int (-1))]) hX d_M_layOut_87 rfl (Nat.le_of_ble_eq_true rfl) rfl ?_
                  refine v_goto hX d_M_layOut_88 (tgt := 71) (by decide) ?_
                  exact ih71 (pu T x) f C8 o8 va8 (by omega) hM8 ⟨hO8.1, (hO8.2.trans hOL71.2)⟩ (hfL71.trans hf8) ⟨by omega, by omega⟩ (by rw [← hC8]; exact sn) (by rw [← hC8]; omega) (by rw [← hC8]; exact hu2) (by rw [← hC8]; omega)
            exact loop71 _ (i - 1) i CL34 oL34 vaL34 (Nat.lt_succ_self _) hML34 ⟨hOL34.1, hOL34.2⟩ hfL34 ⟨by omega, by omega⟩ hSI0 hwm0 rfl (by omega)
          · have f57 : ¬ (ttN T) ≤ i := fun z => c57 ((nI_leI (a := (ttN T)) (b := i) (by omega) (by omega)).mpr z)
            obtain ⟨b1, b2, b3⟩ := hT.2.2.1 i (by omega) (by omega)
            have hlyU := lyU_ok hT (i := i) ⟨by omega, by omega⟩ hLY (by omega)
            rw [b2] at hlyU
            have hbn := bn_ok hT (i := i) ⟨by omega, by omega⟩ hlyU.1 hlyU.2.1 hlyU.2.2.2
            have hlyS0 : lyS T i CL34 = bn T i (ue T (nI (pu T i)) i (i - 1) CL34) := by unfold lyS; rw [if_neg (by omega), if_neg (by omega), b2]
            refine v_aload_n hX d_M_layOut_60 rfl rfl ?_
            refine v_mget hX hML34 2 (v := .ref (ob 50)) (by decide) fl_M_13 rfl rfl d_M_layOut_61 ?_
            refine v_iload_n hX d_M_layOut_64 rfl rfl ?_
            refine v_mild hX hML34 1 (i := i) (v := (nI (pu T i))) ga_up (by omega) (by decide) b2 d_M_layOut_65 ?_
            refine v_goto hX d_M_layOut_66 (tgt := 70) (by decide) ?_
            refine v_istore_n (lv' := [some (.ref (ob 48)), some (.int (nI (i - 1))), some (.int (nI i)), some (.int (nI (pu T i)))]) hX d_M_layOut_70 rfl (Nat.le_of_ble_eq_true rfl) rfl ?_
            have loop71 : ∀ (m9 : Nat) (x f : Nat) (CL71 : CT) (oL71 : OS) (vaL71 : Nat → va_E), x < m9 → ModI cI cB cZ ob CL71 T oL71 dom loc vaL71 → (OI oL71 ∧ ooCt oL71 = ooCt O) → frM val vaL71 → (x < f ∧ x < ttN T) → (∃ k, itr T k x = pu T i) → (SI T x CL71) → (zWm CL71 ≤ sumN (ttMa T) i) → (ue T (nI (pu T i)) f x CL71 = ue T (nI (pu T i)) i (i - 1) CL34) → (zCnt CL71 + f * 60020 < 30000000) → V X D CL A dom loc vaL71 0 0 71 [some (.ref (ob 48)), some (.int (nI x)), some (.int (nI i)), some (.int (nI (pu T i)))] [] := by
              intro m9
              induction m9 with
              | zero => intro x f CL71 oL71 vaL71 hk71 hML71 hOL71 hfL71 hx71 hanc hS71 hw71 hu71 hb71; exact absurd hk71 (Nat.not_lt_zero _)
              | succ m9 ih71 =>
                intro x f CL71 oL71 vaL71 hk71 hML71 hOL71 hfL71 hx71 hanc hS71 hw71 hu71 hb71
                obtain ⟨hx71a, hx71b⟩ := hx71
                obtain ⟨f, rfl⟩ : ∃ f2, f = f2 + 1 := ⟨f - 1, by omega⟩
                rw [Nat.succ_mul] at hb71
                have hb71c : zCnt CL71 < 30000000 := Nat.lt_of_le_of_lt (Nat.le_add_right _ _) hb71
                refine v_iload_n hX d_M_layOut_71 rfl rfl ?_
                refine v_iload_n hX d_M_layOut_72 rfl rfl ?_
                refine v_icmp_eq hX d_M_layOut_73 (tgt := 91) (by decide) (fun c73 => ?_) (fun c73 => ?_)
                · have f73 : x = (pu T i) := (nI_eq (a := x) (b := (pu T i)) (by omega) (by omega)).mp c73
                  have hU : ue T (nI (pu T i)) i (i - 1) CL34 = CL71 := by rw [← hu71, ue_s, if_pos (by rw [f73])]
                  have hlyS : lyS T i CL34 = bn T i CL71 := by rw [hlyS0, hU]
                  subst f73
                  refine v_iload_n hX d_M_layOut_91 rfl rfl ?_
                  refine v_aload_n hX d_M_layOut_92 rfl rfl ?_
                  refine v_mget hX hML71 9 (v := .int (nI (ttN T))) (by decide) fl_M_101 rfl gf_nodes d_M_layOut_93 ?_
                  refine v_icmp_ne hX d_M_layOut_96 (tgt := 102) (by decide) (fun _ => ?_) (fun c => absurd c (fun z => by have := (nI_eq (by omega) (by omega)).mp z; omega))
                  refine v_aload_n hX d_M_layOut_102 rfl rfl ?_
                  refine v_iload_n hX d_M_layOut_103 rfl rfl ?_
                  refine c_V hX 48 (rest := []) hl (c_M_beginNode hML71 hOL71.1 (i := i) ⟨by omega, by omega⟩ hT hS71 hw71 (by omega) (fun z => by have q1 := hc (hOL71.2.symm.trans z); rw [hR, hlyS] at hmono; omega)) ml_M_229 im_M_beginNode se_M_beginNode in_M cd_M_beginNode rfl q_M_beginNode ⟨(Nat.le_of_ble_eq_true rfl), (Nat.le_of_ble_eq_true rfl)⟩ hML71.1.1 hML71.1.2.1 hML71.1.2.2 rfl rfl rfl rfl (Nat.le_of_ble_eq_true rfl) d_M_layOut_104 ⟨(Nat.le_of_ble_eq_true rfl), (Nat.le_of_ble_eq_true rfl)⟩ (fun rv d2 lo2 va9 kc ns hp => ?_)
                  obtain ⟨rfl, rfl, rfl, rfl, C9, o9, ⟨rfl, hC9⟩, hM9, hO9, hf9⟩ := hp
                  show V X D CL A _ _ _ _ _ _ _ []
                  refine v_iload_n hX d_M_layOut_107 rfl rfl ?_
                  refine v_istore_n (lv' := [some (.ref (ob 48)), some (.int (nI i)), some (.int (nI i)), some (.int (nI (pu T i)))]) hX d_M_layOut_108 rfl (Nat.le_of_ble_eq_true rfl) rfl ?_
                  refine v_iinc (y := (nI (i + 1))) (lv' := [some (.ref (ob 48)), some (.int (nI i)), some (.int (nI (i + 1))), some (.int (nI (pu T i)))]) hX d_M_layOut_109 rfl (nI_1 i) rfl ?_
                  refine v_goto hX d_M_layOut_112 (tgt := 34) (by decide) ?_
                  have hLYn := (lyS_ok hT hco (i := i) (by omega) hLY (by omega)).1
                  rw [hlyS, hC9] at hLYn
                  rw [hlyS, hC9] at hR
                  exact ih34 (i + 1) (nI i) (some (.int (nI (pu T i)))) C9 o9 va9 (by omega) hM9 ⟨hO9.1, (hO9.2.trans hOL71.2)⟩ (hfL71.trans hf9) ⟨by omega, by omega⟩ (fun _ => by rw [Nat.add_sub_cancel]) hLYn hR
                · have f73 : ¬ x = (pu T i) := fun z => c73 ((nI_eq (a := x) (b := (pu T i)) (by omega) (by omega)).mpr z)
                  rw [ue_s, if_neg (fun z => f73 ((nI_eq (by omega) (by omega)).mp z))] at hu71
                  have hx0 : x ≠ 0 := fun z => by obtain ⟨k, hk9⟩ := hanc; rw [z, itr0 hT k] at hk9; rw [z] at f73; exact f73 hk9
                  have hk2 : ∃ k, itr T k (pu T x) = pu T i := by obtain ⟨k, hk9⟩ := hanc; cases k with | zero => exact absurd hk9 f73 | succ k => exact ⟨k, hk9⟩
                  have hu2 : ue T (nI (pu T i)) f (pu T x) (en T x CL71) = ue T (nI (pu T i)) i (i - 1) CL34 := by rw [if_neg hx0] at hu71; exact hu71
                  obtain ⟨bx1, bx2, bx3⟩ := hT.2.2.1 x (by omega) (by omega)
                  have sn := en_ok hT ⟨by omega, by omega⟩ hS71 (by omega) hb71c
                  obtain ⟨cn1, cn2, cn3⟩ := en_cnt hT (by omega) hS71 (by omega) hb71c
                  have hmu := (ue_ok hT (a := pu T i) (by omega) f (pu T x) (en T x CL71) (by omega) (by omega) hk2 sn (by omega) (by omega)).2.2.1
                  rw [hu2] at hmu
                  have hmb := hbn.2.2.1
                  rw [← hlyS0] at hmb
                  refine v_aload_n hX d_M_layOut_76 rfl rfl ?_
                  refine v_iload_n hX d_M_layOut_77 rfl rfl ?_
                  refine c_V hX 48 (rest := []) hl (c_M_endNode hML71 hOL71.1 (x := x) (by omega) hT hS71 (by omega) (by omega) (fun z => by have q1 := hc (hOL71.2.symm.trans z); rw [hR] at hmono; omega)) ml_M_226 im_M_endNode se_M_endNode in_M cd_M_endNode rfl q_M_endNode ⟨(Nat.le_of_ble_eq_true rfl), (Nat.le_of_ble_eq_true rfl)⟩ hML71.1.1 hML71.1.2.1 hML71.1.2.2 rfl rfl rfl rfl (Nat.le_of_ble_eq_true rfl) d_M_layOut_78 ⟨(Nat.le_of_ble_eq_true rfl), (Nat.le_of_ble_eq_true rfl)⟩ (fun rv d2 lo2 va10 kc ns hp => ?_)
                  obtain ⟨rfl, rfl, rfl, rfl, C10, o10, ⟨rfl, hC10⟩, hM10, hO10, hf10⟩ := hp
                  show V X D CL A _ _ _ _ _ _ _ []
                  refine v_aload_n hX d_M_layOut_81 rfl rfl ?_
                  refine v_mget hX hM10 2 (v := .ref (ob 50)) (by decide) fl_M_13 rfl rfl d_M_layOut_82 ?_
                  refine v_iload_n hX d_M_layOut_85 rfl rfl ?_
                  refine v_mild hX hM10 1 (i := x) (v := (nI (pu T x))) ga_up (by omega) (by decide) bx2 d_M_layOut_86 ?_
                  refine v_istore_n (lv' := [some (.ref (ob 48)), some (.int (nI (pu T x))), some (.int (nI i)), some (.int (nI (pu T i)))]) hX d_M_layOut_87 rfl (Nat.le_of_ble_eq_true rfl) rfl ?_
                  refine v_goto hX d_M_layOut_88 (tgt := 71) (by decide) ?_
                  exact ih71 (pu T x) f C10 o10 va10 (by omega) hM10 ⟨hO10.1, (hO10.2.trans hOL71.2)⟩ (hfL71.trans hf10) ⟨by omega, by omega⟩ hk2 (by rw [← hC10]; exact sn) (by rw [← hC10]; omega) (by rw [← hC10]; exact hu2) (by rw [← hC10]; omega)
            exact loop71 _ (i - 1) i CL34 oL34 vaL34 (Nat.lt_succ_self _) hML34 ⟨hOL34.1, hOL34.2⟩ hfL34 ⟨by omega, by omega⟩ (hT.2.2.2.2.2.1 i (by omega) (by omega)) hSI0 hwm0 rfl (by omega)
  exact loop34 _ 1 0 (some (.int (-1))) C7 o7 va7 (Nat.lt_succ_self _) hM7 ⟨hO7.1, (hO7.2.trans rfl)⟩ (((((((frM.rf.trans hf1).trans hf2).trans hf3).trans hf4).trans hf5).trans hf6).trans hf7) ⟨by omega, by omega⟩ (fun _ => by decide) (by have q := (lyS_ok hT hco (i := 0) (Nat.zero_le _) (LY0 T C) (by rw [(ly0_ok C).2.2.2.2]; omega)).1; rw [show lyS T 0 (ly0 C) = C7 from (if_pos rfl).trans hC7] at q; exact q) (by rw [ly_s, if_neg (by rw [(ly0_ok C).2.2.2.2]; omega), show lyS T 0 (ly0 C) = C7 from (if_pos rfl).trans hC7, Nat.add_sub_cancel])
