set_option maxHeartbeats 4000000 in
set_option maxRecDepth 100000 in
theorem c_M_layCode {l : Launch} {D : va_G} {A : Nat → Prop} {cI cB cZ cJ cN : ClassId} {ob : Nat → Nat} {C : CT} {T : TS} {O : OS} {dom : Nat → Prop} {loc : Nat → Nat} {val : Nat → va_E} (hM : ModI cI cB cZ ob C T O dom loc val) (hO : OI O) {i : Nat} (hi : i < ttN T) (hT : TrI T) (hHo : 1 ≤ zHo C ∧ zHo C ≤ 13) (hw : zW C (zHo C - 1) = nI (wdt C)) (hwd : 4 ≤ wdt C ∧ wdt C ≤ 60) (hc : ooCt O = 0 → zCnt (lc T i C) ≤ 1501) : kM l y_M_layCode (Cond.code y_M_layCode b_M_layCode 5 none :: TT) (rmM 6) D CL (TY cI cB cZ cJ cN) A [.ref (ob 48), .int (nI i)] dom loc val (PMo cI cB cZ ob T O dom loc val (fun rv C2 O2 => rv = none ∧ lc T i C = C2)) := by
  refine kM_of (lv0 := [some (.ref (ob 48)), some (.int (nI i)), none, none, none]) (own := "ProsePagesModel") (by decide) rfl (List.forall_mem_cons.mpr ⟨rfl, List.forall_mem_cons.mpr ⟨rfl, fun _ h => nomatch h⟩⟩) (Nat.le_of_ble_eq_true rfl) rfl (Nat.le_of_ble_eq_true rfl) (fun X hl hX hE hin0 => ?_)
  have hTn := hT.1
  refine v_aload_n hX d_M_layCode_0 rfl rfl ?_
  refine c_V hX 48 (rest := []) hl (c_M_beginLeaf hM hO ⟨by omega, by omega⟩ hw) ml_M_204 im_M_beginLeaf se_M_beginLeaf in_M cd_M_beginLeaf rfl q_M_beginLeaf ⟨(Nat.le_of_ble_eq_true rfl), (Nat.le_of_ble_eq_true rfl)⟩ hM.1.1 hM.1.2.1 hM.1.2.2 rfl rfl rfl rfl (Nat.le_of_ble_eq_true rfl) d_M_layCode_1 ⟨(Nat.le_of_ble_eq_true rfl), (Nat.le_of_ble_eq_true rfl)⟩ (fun rv d2 lo2 va1 kc ns hp => ?_)
  obtain ⟨rfl, rfl, rfl, rfl, C1, o1, ⟨rfl, hC1⟩, hM1, hO1, hf1⟩ := hp
  show V X D CL A _ _ _ _ _ _ _ []
  have hg1 := bl_ok C
  rw [hC1] at hg1
  obtain ⟨hk1h, hk1l, hw1, hn1, hu1, hz1, hy1, hx1⟩ := hg1
  refine v_iload_n hX d_M_layCode_4 rfl rfl ?_
  refine v_iconst (v := 1) hX d_M_layCode_5 (by decide) ?_
  refine v_iaddE (v := nI (i + 1)) hX d_M_layCode_6 (nI_add i 1) ?_
  refine v_istore_n (lv' := [some (.ref (ob 48)), some (.int (nI i)), some (.int (nI (i + 1))), none, none]) hX d_M_layCode_7 rfl (Nat.le_of_ble_eq_true rfl) rfl ?_
  have loop8 : ∀ (m9 : Nat) (p : Nat) (o3 o4 : Option Value) (CL8 : CT) (oL8 : OS) (vaL8 : Nat → va_E), ttN T - p < m9 → ModI cI cB cZ ob CL8 T oL8 dom loc vaL8 → (OI oL8 ∧ ooCt oL8 = ooCt O) → frM val vaL8 → (i + 1 ≤ p ∧ p ≤ ttN T) → (lcL T i (ttN T - p) p CL8 = lcL T i (ttN T - (i + 1)) (i + 1) (bl C)) → (zHo CL8 = zHo C ∧ zLw CL8 = wdt C ∧ zWm CL8 ≤ sumN (ttMa T) p) → V X D CL A dom loc vaL8 0 0 8 [some (.ref (ob 48)), some (.int (nI i)), some (.int (nI p)), o3, o4] [] := by
    intro m9
    induction m9 with
    | zero => intro p o3 o4 CL8 oL8 vaL8 hk8 hML8 hOL8 hfL8 hp8 hL8 hc8; exact absurd hk8 (Nat.not_lt_zero _)
    | succ m9 ih8 =>
      intro p o3 o4 CL8 oL8 vaL8 hk8 hML8 hOL8 hfL8 hp8 hL8 hc8
      obtain ⟨hm1, hm2, hm3⟩ := hc8
      have hTn := hT.1
      have hTs := hT.2.2.2.2.1
      have hsm8 := sumN_mono (ttMa T) hp8.2
      refine v_iload_n hX d_M_layCode_8 rfl rfl ?_
      refine v_aload_n hX d_M_layCode_9 rfl rfl ?_
      refine v_mget hX hML8 9 (v := .int (nI (ttN T))) (by decide) fl_M_101 rfl gf_nodes d_M_layCode_10 ?_
      refine v_icmp_ge hX d_M_layCode_13 (tgt := 107) (by decide) (fun c13 => ?_) (fun c13 => ?_)
      · have f13 : (ttN T) ≤ p := (nI_leI (a := (ttN T)) (b := p) (by omega) (by omega)).mp c13
        have hLe : CL8 = lcL T i (ttN T - (i + 1)) (i + 1) (bl C) := by rw [← hL8, show ttN T - p = 0 by omega]; rfl
        refine v_aload_n hX d_M_layCode_107 rfl rfl ?_
        refine v_mget hX hML8 38 (v := .int (nI (zWm CL8))) (by decide) fl_M_186 rfl gf_wordMany d_M_layCode_108 ?_
        refine v_if_le hX d_M_layCode_111 (tgt := 118) (by decide) (fun c111 => ?_) (fun c111 => ?_)
        · have f111 : (zWm CL8) ≤ 0 := (nI_leI (a := (zWm CL8)) (b := 0) (by omega) (by omega)).mp c111
          refine v_aload_n hX d_M_layCode_118 rfl rfl ?_
          refine v_iconst (v := 0) hX d_M_layCode_119 (by decide) ?_
          refine v_mput hX hML8 43 (szLo CL8 0) T oL8 (by decide) fl_M_198 rfl rfl (by first | rfl | decide | assumption) rfl pf_leafOpen pa_leafOpen d_M_layCode_120 (fun va2 hM2 hf2 => ?_)
          exact v_vret hX hE d_M_layCode_123 (Nat.le_of_ble_eq_true rfl) (Nat.le_of_ble_eq_true rfl) ⟨rfl, rfl, rfl, rfl, (szLo CL8 0), oL8, ⟨rfl, (by show lcE (lcL T i (ttN T - (i + 1)) (i + 1) (bl C)) = _; rw [← hLe]; unfold lcE; rw [if_neg (by omega)])⟩, hM2, ⟨hOL8.1, hOL8.2⟩, (hfL8.trans hf2)⟩
        · have f111 : ¬ (zWm CL8) ≤ 0 := fun z => c111 ((nI_leI (a := (zWm CL8)) (b := 0) (by omega) (by omega)).mpr z)
          refine v_aload_n hX d_M_layCode_114 rfl rfl ?_
          refine c_V hX 48 (rest := []) hl (c_M_layPieces hML8 hOL8.1 (by omega) ⟨by omega, by omega⟩ (by omega) (fun z => by have q1 := hc (hOL8.2.symm.trans z); have q5 : zCnt (lc T i C) = zCnt (lcE (lcL T i (ttN T - (i + 1)) (i + 1) (bl C))) := rfl; rw [← hLe] at q5; have q6 : zCnt (lcE CL8) = zCnt (lp CL8) := (by unfold lcE; rw [if_pos (by omega)]); omega)) ml_M_207 im_M_layPieces se_M_layPieces in_M cd_M_layPieces rfl q_M_layPieces ⟨(Nat.le_of_ble_eq_true rfl), (Nat.le_of_ble_eq_true rfl)⟩ hML8.1.1 hML8.1.2.1 hML8.1.2.2 rfl rfl rfl rfl (Nat.le_of_ble_eq_true rfl) d_M_layCode_115 ⟨(Nat.le_of_ble_eq_true rfl), (Nat.le_of_ble_eq_true rfl)⟩ (fun rv d2 lo2 va3 kc ns hp => ?_)
          obtain ⟨rfl, rfl, rfl, rfl, C3, o3, ⟨rfl, hC3⟩, hM3, hO3, hf3⟩ := hp
          show V X D CL A _ _ _ _ _ _ _ []
          have hg3 := lp_ok CL8
          rw [hC3] at hg3
          obtain ⟨hk3, hw3, hn3, hu3, hv3⟩ := hg3
          obtain ⟨hk3h, hk3l, -⟩ := hk3
          refine v_aload_n hX d_M_layCode_118 rfl rfl ?_
          refine v_iconst (v := 0) hX d_M_layCode_119 (by decide) ?_
          refine v_mput hX hM3 43 (szLo C3 0) T o3 (by decide) fl_M_198 rfl rfl (by first | rfl | decide | assumption) rfl pf_leafOpen pa_leafOpen d_M_layCode_120 (fun va4 hM4 hf4 => ?_)
          exact v_vret hX hE d_M_layCode_123 (Nat.le_of_ble_eq_true rfl) (Nat.le_of_ble_eq_true rfl) ⟨rfl, rfl, rfl, rfl, (szLo C3 0), o3, ⟨rfl, (by show lcE (lcL T i (ttN T - (i + 1)) (i + 1) (bl C)) = _; rw [← hLe]; unfold lcE; rw [if_pos (by omega), hC3])⟩, hM4, ⟨hO3.1, (hO3.2.trans hOL8.2)⟩, ((hfL8.trans hf3).trans hf4)⟩
      · have f13 : ¬ (ttN T) ≤ p := fun z => c13 ((nI_leI (a := (ttN T)) (b := p) (by omega) (by omega)).mpr z)
        have hsp := hT.sum (show p < ttN T by omega)
        refine v_aload_n hX d_M_layCode_16 rfl rfl ?_
        refine v_mget hX hML8 2 (v := .ref (ob 50)) (by decide) fl_M_13 rfl rfl d_M_layCode_17 ?_
        refine v_iload_n hX d_M_layCode_20 rfl rfl ?_
        refine v_mild hX hML8 1 (i := p) (v := ((ttU T) p)) ga_up (by omega) (by decide) rfl d_M_layCode_21 ?_
        refine v_iload_n hX d_M_layCode_22 rfl rfl ?_
        refine v_icmp_eq hX d_M_layCode_23 (tgt := 29) (by decide) (fun c23 => ?_) (fun c23 => ?_)
        · have hL8b := lcL_1 hL8 (show p < ttN T by omega)
          rw [if_pos c23] at hL8b
          have hq8 : zWm (lcI T (ttMa T p) (ttFr T p) CL8) ≤ sumN (ttMa T) (p + 1) := by have q := (lcI_ok T (ttMa T p) (ttFr T p) CL8 (by omega) (by omega)).2.2.1; have : sumN (ttMa T) (p + 1) = sumN (ttMa T) p + ttMa T p := rfl; omega
          have hq8h : zHo (lcI T (ttMa T p) (ttFr T p) CL8) ≤ 13 := by rw [(lcI_ok T (ttMa T p) (ttFr T p) CL8 (by omega) (by omega)).1.1]; omega
          refine v_iconst (v := 0) hX d_M_layCode_29 (by decide) ?_
          refine v_istore_n (lv' := [some (.ref (ob 48)), some (.int (nI i)), some (.int (nI p)), some (.int 0), o4]) hX d_M_layCode_30 rfl (Nat.le_of_ble_eq_true rfl) rfl ?_
          have loop31 : ∀ (m9 : Nat) (j : Nat) (o4 : Option Value) (CL31 : CT) (oL31 : OS) (vaL31 : Nat → va_E), ttMa T p - j < m9 → ModI cI cB cZ ob CL31 T oL31 dom loc vaL31 → (OI oL31 ∧ ooCt oL31 = ooCt O) → frM val vaL31 → (j ≤ ttMa T p) → (lcI T (ttMa T p - j) (ttFr T p + j) CL31 = lcI T (ttMa T p) (ttFr T p) CL8) → (zHo CL31 = zHo C ∧ zLw CL31 = wdt C ∧ zWm CL31 ≤ sumN (ttMa T) p + j) → V X D CL A dom loc vaL31 0 0 31 [some (.ref (ob 48)), some (.int (nI i)), some (.int (nI p)), some (.int (nI j)), o4] [] := by
            intro m9
            induction m9 with
            | zero => intro j o4 CL31 oL31 vaL31 hk31 hML31 hOL31 hfL31 hj31 hI31 hc31; exact absurd hk31 (Nat.not_lt_zero _)
            | succ m9 ih31 =>
              intro j o4 CL31 oL31 vaL31 hk31 hML31 hOL31 hfL31 hj31 hI31 hc31
              obtain ⟨hn1, hn2, hn3⟩ := hc31
              refine v_iload_n hX d_M_layCode_31 rfl rfl ?_
              refine v_aload_n hX d_M_layCode_32 rfl rfl ?_
              refine v_mget hX hML31 6 (v := .ref (ob 54)) (by decide) fl_M_25 rfl rfl d_M_layCode_33 ?_
              refine v_iload_n hX d_M_layCode_36 rfl rfl ?_
              refine v_mild hX hML31 5 (i := p) (v := (nI ((ttMa T) p))) ga_many (by omega) (by decide) rfl d_M_layCode_37 ?_
              refine v_icmp_ge hX d_M_layCode_38 (tgt := 101) (by decide) (fun c38 => ?_) (fun c38 => ?_)
              · have f38 : ((ttMa T) p) ≤ j := (nI_leI (a := ((ttMa T) p)) (b := j) (by omega) (by omega)).mp c38
                refine v_iinc (y := (nI (p + 1))) (lv' := [some (.ref (ob 48)), some (.int (nI i)), some (.int (nI (p + 1))), some (.int (nI j)), o4]) hX d_M_layCode_101 rfl (nI_1 p) rfl ?_
                refine v_goto hX d_M_layCode_104 (tgt := 8) (by decide) ?_
                have hje : CL31 = lcI T (ttMa T p) (ttFr T p) CL8 := by rw [← hI31, show ttMa T p - j = 0 by omega]; rfl
                exact ih8 (p + 1) (some (.int (nI j))) o4 CL31 oL31 vaL31 (by omega) hML31 ⟨hOL31.1, hOL31.2⟩ hfL31 (by omega) (by rw [hje]; exact hL8b) ⟨by omega, by omega, by have : sumN (ttMa T) (p + 1) = sumN (ttMa T) p + ttMa T p := rfl; omega⟩
              · have f38 : ¬ ((ttMa T) p) ≤ j := fun z => c38 ((nI_leI (a := ((ttMa T) p)) (b := j) (by omega) (by omega)).mpr z)
                refine v_aload_n hX d_M_layCode_41 rfl rfl ?_
                refine v_mget hX hML31 8 (v := .ref (ob 56)) (by decide) fl_M_31 rfl rfl d_M_layCode_42 ?_
                refine v_aload_n hX d_M_layCode_45 rfl rfl ?_
                refine v_mget hX hML31 5 (v := .ref (ob 53)) (by decide) fl_M_22 rfl rfl d_M_layCode_46 ?_
                refine v_iload_n hX d_M_layCode_49 rfl rfl ?_
                refine v_mild hX hML31 4 (i := p) (v := (nI ((ttFr T) p))) ga_from (by omega) (by decide) rfl d_M_layCode_50 ?_
                refine v_iload_n hX d_M_layCode_51 rfl rfl ?_
                refine v_iaddE (v := nI (((ttFr T) p) + j)) hX d_M_layCode_52 (nI_add ((ttFr T) p) j) ?_
                refine v_mbld hX hML31 7 (i := (((ttFr T) p) + j)) (v := ((ttTe T) (((ttFr T) p) + j))) ga_text (by omega) (by decide) rfl d_M_layCode_53 ?_
                refine v_sipush (v := 255) hX d_M_layCode_54 (by decide) ?_
                refine v_iand hX d_M_layCode_57 ?_
                refine v_istore (lv' := [some (.ref (ob 48)), some (.int (nI i)), some (.int (nI p)), some (.int (nI j)), some (.int (((ttTe T) (((ttFr T) p) + j)) &&& 255))]) hX d_M_layCode_58 (Nat.le_of_ble_eq_true rfl) rfl ?_
                refine v_iload hX d_M_layCode_60 rfl ?_
                refine v_bipush (v := 10) hX d_M_layCode_62 (by decide) ?_
                refine v_icmp_ne hX d_M_layCode_64 (tgt := 74) (by decide) (fun c64 => ?_) (fun c64 => ?_)
                · refine v_aload_n hX d_M_layCode_74 rfl rfl ?_
                  refine v_mget hX hML31 35 (v := .ref (ob 73)) (by decide) fl_M_85 rfl rfl d_M_layCode_75 ?_
                  refine v_aload_n hX d_M_layCode_78 rfl rfl ?_
                  refine v_mget hX hML31 38 (v := .int (nI (zWm CL31))) (by decide) fl_M_186 rfl gf_wordMany d_M_layCode_79 ?_
                  refine v_iload hX d_M_layCode_82 rfl ?_
                  refine v_mist hX hML31 24 CL31 T (soWo oL31 (upd (ooWo oL31) (zWm CL31) (((ttTe T) (((ttFr T) p) + j)) &&& 255))) (i := (zWm CL31)) (by decide) ga_word (by omega) (by decide) qf_word qa_word d_M_layCode_84 (fun va5 hM5 hf5 => ?_)
                  refine v_aload_n hX d_M_layCode_85 rfl rfl ?_
                  refine v_dup hX d_M_layCode_86 rfl ?_
                  refine v_mget hX hM5 38 (v := .int (nI (zWm CL31))) (by decide) fl_M_186 rfl ((nf_word 38).trans gf_wordMany) d_M_layCode_87 ?_
                  refine v_iconst (v := 1) hX d_M_layCode_90 (by decide) ?_
                  refine v_iaddE (v := nI ((zWm CL31) + 1)) hX d_M_layCode_91 (nI_add (zWm CL31) 1) ?_
                  refine v_mput hX hM5 38 (szWm CL31 ((zWm CL31) + 1)) T (soWo oL31 (upd (ooWo oL31) (zWm CL31) (((ttTe T) (((ttFr T) p) + j)) &&& 255))) (by decide) fl_M_186 rfl rfl rfl rfl pf_wordMany pa_wordMany d_M_layCode_92 (fun va6 hM6 hf6 => ?_)
                  refine v_iinc (y := (nI (j + 1))) (lv' := [some (.ref (ob 48)), some (.int (nI i)), some (.int (nI p)), some (.int (nI (j + 1))), some (.int (((ttTe T) (((ttFr T) p) + j)) &&& 255))]) hX d_M_layCode_95 rfl (nI_1 j) rfl ?_
                  refine v_goto hX d_M_layCode_98 (tgt := 31) (by decide) ?_
                  have hI31b := lcI_1 hI31 (show j < ttMa T p by omega)
                  rw [if_neg c64] at hI31b
                  exact ih31 (j + 1) (some (.int (((ttTe T) (((ttFr T) p) + j)) &&& 255))) (szWm CL31 ((zWm CL31) + 1)) (soWo oL31 (upd (ooWo oL31) (zWm CL31) (((ttTe T) (((ttFr T) p) + j)) &&& 255))) va6 (by omega) hM6 ⟨⟨hOL31.1.1, hOL31.1.2.1, hOL31.1.2.2.1, hOL31.1.2.2.2.1, (by have q9 := hOL31.1.2.2.2.2; first | exact q9 | omega | (show (ooSm oL31) ≤ 4300; omega))⟩, hOL31.2⟩ ((hfL31.trans hf5).trans hf6) (by omega) hI31b ⟨hn1, hn2, by show zWm CL31 + 1 ≤ _; omega⟩
                · have hI31b := lcI_1 hI31 (show j < ttMa T p by omega)
                  rw [if_pos c64] at hI31b
                  refine v_aload_n hX d_M_layCode_67 rfl rfl ?_
                  refine c_V hX 48 (rest := []) hl (c_M_layPieces hML31 hOL31.1 (by omega) ⟨by omega, by omega⟩ (by omega) (fun z => by have q1 := hc (hOL31.2.symm.trans z); have q2 := (lcI_ok T (ttMa T p - (j + 1)) (ttFr T p + (j + 1)) (lp CL31) (by have := (lp_ok CL31).2.1; omega) (by rw [(lp_ok CL31).1.1]; omega)).2.2.2.1; rw [hI31b] at q2; have q3 := (lcL_ok T i (ttN T - (p + 1)) (p + 1) (lcI T (ttMa T p) (ttFr T p) CL8) hq8 (by rw [show p + 1 + (ttN T - (p + 1)) = ttN T by omega]; omega) hq8h).2.2.2.1; rw [hL8b] at q3; have q4 := lcE_mono (lcL T i (ttN T - (i + 1)) (i + 1) (bl C)); have q5 : zCnt (lc T i C) = zCnt (lcE (lcL T i (ttN T - (i + 1)) (i + 1) (bl C))) := rfl; omega)) ml_M_207 im_M_layPieces se_M_layPieces in_M cd_M_layPieces rfl q_M_layPieces ⟨(Nat.le_of_ble_eq_true rfl), (Nat.le_of_ble_eq_true rfl)⟩ hML31.1.1 hML31.1.2.1 hML31.1.2.2 rfl rfl rfl rfl (Nat.le_of_ble_eq_true rfl) d_M_layCode_68 ⟨(Nat.le_of_ble_eq_true rfl), (Nat.le_of_ble_eq_true rfl)⟩ (fun rv d2 lo2 va7 kc ns hp => ?_)
                  obtain ⟨rfl, rfl, rfl, rfl, C7, o7, ⟨rfl, hC7⟩, hM7, hO7, hf7⟩ := hp
                  show V X D CL A _ _ _ _ _ _ _ []
                  have hg7 := lp_ok CL31
                  rw [hC7] at hg7
                  obtain ⟨hk7, hw7, hn7, hu7, hv7⟩ := hg7
                  obtain ⟨hk7h, hk7l, -⟩ := hk7
                  refine v_goto hX d_M_layCode_71 (tgt := 95) (by decide) ?_
                  refine v_iinc (y := (nI (j + 1))) (lv' := [some (.ref (ob 48)), some (.int (nI i)), some (.int (nI p)), some (.int (nI (j + 1))), some (.int (((ttTe T) (((ttFr T) p) + j)) &&& 255))]) hX d_M_layCode_95 rfl (nI_1 j) rfl ?_
                  refine v_goto hX d_M_layCode_98 (tgt := 31) (by decide) ?_
                  exact ih31 (j + 1) (some (.int (((ttTe T) (((ttFr T) p) + j)) &&& 255))) C7 o7 va7 (by omega) hM7 ⟨hO7.1, (hO7.2.trans hOL31.2)⟩ (hfL31.trans hf7) (by omega) (by rw [← hC7]; exact hI31b) ⟨by omega, by omega, by omega⟩
          exact loop31 _ 0 o4 CL8 oL8 vaL8 (Nat.lt_succ_self _) hML8 ⟨hOL8.1, hOL8.2⟩ hfL8 (Nat.zero_le _) rfl ⟨hm1, hm2, hm3⟩
        · refine v_goto hX d_M_layCode_26 (tgt := 101) (by decide) ?_
          refine v_iinc (y := (nI (p + 1))) (lv' := [some (.ref (ob 48)), some (.int (nI i)), some (.int (nI (p + 1))), o3, o4]) hX d_M_layCode_101 rfl (nI_1 p) rfl ?_
          refine v_goto hX d_M_layCode_104 (tgt := 8) (by decide) ?_
          have hL8c := lcL_1 hL8 (show p < ttN T by omega)
          rw [if_neg c23] at hL8c
          exact ih8 (p + 1) o3 o4 CL8 oL8 vaL8 (by omega) hML8 ⟨hOL8.1, hOL8.2⟩ hfL8 (by omega) hL8c ⟨by omega, by omega, by have : sumN (ttMa T) (p + 1) = sumN (ttMa T) p + ttMa T p := rfl; omega⟩
  exact loop8 _ (i + 1) none none C1 o1 va1 (Nat.lt_succ_self _) hM1 ⟨hO1.1, (hO1.2.trans rfl)⟩ (frM.rf.trans hf1) ⟨Nat.le_refl _, by omega⟩ (by rw [hC1]) ⟨by omega, by omega, by omega⟩
