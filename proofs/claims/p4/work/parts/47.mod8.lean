set_option maxHeartbeats 4000000 in
set_option maxRecDepth 100000 in
theorem c_M_giveNow {l : Launch} {D : va_G} {A : Nat → Prop} {cI cB cZ cJ cN : ClassId} {ob : Nat → Nat} {C : CT} {T : TS} {O : OS} {dom : Nat → Prop} {loc : Nat → Nat} {val : Nat → va_E} (hM : ModI cI cB cZ ob C T O dom loc val) (hO : OI O) (hHo : zHo C ≤ 13) (hnm : zNm C ≤ 4010) (hc : ooCt O = 0 → zCnt (gl C) ≤ 1501) : kM l y_M_giveNow (Cond.code y_M_giveNow b_M_giveNow 1 none :: TT) (rmM 5) D CL (TY cI cB cZ cJ cN) A [.ref (ob 48)] dom loc val (PMo cI cB cZ ob T O dom loc val (fun rv C2 O2 => rv = none ∧ gn C = C2)) := by
  refine kM_of (lv0 := [some (.ref (ob 48))]) (own := "ProsePagesModel") (by decide) rfl (List.forall_mem_cons.mpr ⟨rfl, fun _ h => nomatch h⟩) (Nat.le_of_ble_eq_true rfl) rfl (Nat.le_of_ble_eq_true rfl) (fun X hl hX hE hin0 => ?_)
  refine v_aload_n hX d_M_giveNow_0 rfl rfl ?_
  refine v_aload_n hX d_M_giveNow_1 rfl rfl ?_
  refine v_mget hX hM 36 (v := .ref (ob 74)) (by decide) fl_M_88 rfl rfl d_M_giveNow_2 ?_
  refine v_iconst (v := 0) hX d_M_giveNow_5 (by decide) ?_
  refine v_aload_n hX d_M_giveNow_6 rfl rfl ?_
  refine v_mget hX hM 39 (v := .int (nI (zNm C))) (by decide) fl_M_179 rfl gf_nowMany d_M_giveNow_7 ?_
  refine c_V hX 48 (rest := []) hl (c_M_giveLine hM hO (j := 25) (p := 0) (q := (zNm C)) (Or.inr rfl) (by omega) (by omega) (fun z => hc (rfl.symm.trans z))) ml_M_182 im_M_giveLine se_M_giveLine in_M cd_M_giveLine rfl q_M_giveLine ⟨(Nat.le_of_ble_eq_true rfl), (Nat.le_of_ble_eq_true rfl)⟩ hM.1.1 hM.1.2.1 hM.1.2.2 rfl rfl rfl rfl (Nat.le_of_ble_eq_true rfl) d_M_giveNow_10 ⟨(Nat.le_of_ble_eq_true rfl), (Nat.le_of_ble_eq_true rfl)⟩ (fun rv d2 lo2 va1 kc ns hp => ?_)
  obtain ⟨rfl, rfl, rfl, rfl, C1, o1, ⟨rfl, hC1⟩, hM1, hO1, hf1⟩ := hp
  show V X D CL A _ _ _ _ _ _ _ []
  have hg1 := gl_ok C
  rw [hC1] at hg1
  obtain ⟨hk1, hu1, hv1⟩ := hg1
  obtain ⟨hk1h, hk1l, hk1w, hk1n, -⟩ := hk1
  refine v_aload_n hX d_M_giveNow_13 rfl rfl ?_
  refine v_iconst (v := 0) hX d_M_giveNow_14 (by decide) ?_
  refine v_mput hX hM1 39 (szNm C1 0) T o1 (by decide) fl_M_179 rfl rfl rfl rfl pf_nowMany pa_nowMany d_M_giveNow_15 (fun va2 hM2 hf2 => ?_)
  exact v_vret hX hE d_M_giveNow_18 (Nat.le_of_ble_eq_true rfl) (Nat.le_of_ble_eq_true rfl) ⟨rfl, rfl, rfl, rfl, (szNm C1 0), o1, ⟨rfl, (by rw [← hC1]; rfl)⟩, hM2, ⟨hO1.1, (hO1.2.trans rfl)⟩, ((frM.rf.trans hf1).trans hf2)⟩
set_option maxHeartbeats 4000000 in
set_option maxRecDepth 100000 in
theorem c_M_endWord {l : Launch} {D : va_G} {A : Nat → Prop} {cI cB cZ cJ cN : ClassId} {ob : Nat → Nat} {C : CT} {T : TS} {O : OS} {dom : Nat → Prop} {loc : Nat → Nat} {val : Nat → va_E} (hM : ModI cI cB cZ ob C T O dom loc val) (hO : OI O) (hHo : zHo C ≤ 13) (hlw : 4 ≤ zLw C ∧ zLw C ≤ 60) (hnm : zNm C ≤ zLw C) (hwm : zWm C ≤ 4010) (hc : ooCt O = 0 → zCnt (ew C) ≤ 1501) : kM l y_M_endWord (Cond.code y_M_endWord b_M_endWord 2 none :: TT) (rmM 6) D CL (TY cI cB cZ cJ cN) A [.ref (ob 48)] dom loc val (PMo cI cB cZ ob T O dom loc val (fun rv C2 O2 => rv = none ∧ ew C = C2)) := by
  refine kM_of (lv0 := [some (.ref (ob 48)), none]) (own := "ProsePagesModel") (by decide) rfl (List.forall_mem_cons.mpr ⟨rfl, fun _ h => nomatch h⟩) (Nat.le_of_ble_eq_true rfl) rfl (Nat.le_of_ble_eq_true rfl) (fun X hl hX hE hin0 => ?_)
  refine v_aload_n hX d_M_endWord_0 rfl rfl ?_
  refine v_mget hX hM 38 (v := .int (nI (zWm C))) (by decide) fl_M_186 rfl gf_wordMany d_M_endWord_1 ?_
  refine v_if_ne hX d_M_endWord_4 (tgt := 8) (by decide) (fun c4 => ?_) (fun c4 => ?_)
  · have f4 : ¬ (zWm C) = 0 := fun z => c4 ((nI_eq (a := (zWm C)) (b := 0) (by omega) (by omega)).mpr z)
    refine v_iconst (v := 0) hX d_M_endWord_8 (by decide) ?_
    refine v_istore_n (lv' := [some (.ref (ob 48)), some (.int 0)]) hX d_M_endWord_9 rfl (Nat.le_of_ble_eq_true rfl) rfl ?_
    refine v_aload_n hX d_M_endWord_10 rfl rfl ?_
    refine v_mget hX hM 39 (v := .int (nI (zNm C))) (by decide) fl_M_179 rfl gf_nowMany d_M_endWord_11 ?_
    refine v_if_le hX d_M_endWord_14 (tgt := 59) (by decide) (fun c14 => ?_) (fun c14 => ?_)
    · have f14 : (zNm C) ≤ 0 := (nI_leI (a := (zNm C)) (b := 0) (by omega) (by omega)).mp c14
      have hew : ew C = ewE (ewL (zWm C) 0 (if 0 < zNm C then gn C else C)) := by unfold ew; rw [if_neg f4, if_neg (fun z => by omega)]
      have f14n : 0 < zNm C ∨ ¬ 0 < zNm C := by omega
      refine v_aload_n hX d_M_endWord_59 rfl rfl ?_
      refine v_mget hX hM 39 (v := .int (nI (zNm C))) (by decide) fl_M_179 rfl gf_nowMany d_M_endWord_60 ?_
      refine v_if_le hX d_M_endWord_63 (tgt := 70) (by decide) (fun c63 => ?_) (fun c63 => ?_)
      · have f63 : (zNm C) ≤ 0 := (nI_leI (a := (zNm C)) (b := 0) (by omega) (by omega)).mp c63
        have hst : (if 0 < zNm C then gn C else C) = C ∧ zNm C = 0 ∧ zHo C = zHo C ∧ zLw C = zLw C ∧ zWm C = zWm C := ⟨if_neg (by omega), by omega, rfl, rfl, rfl⟩
        have loop70 : ∀ (m9 : Nat) (p k : Nat) (CL70 : CT) (oL70 : OS) (vaL70 : Nat → va_E), zWm C - p < m9 → ModI cI cB cZ ob CL70 T oL70 dom loc vaL70 → (OI oL70 ∧ ooCt oL70 = ooCt O) → frM val vaL70 → (p ≤ zWm C ∧ zWm C - p ≤ k) → (ewL k p CL70 = ewL (zWm C) 0 (if 0 < zNm C then gn C else C)) → (zNm CL70 = 0 ∧ zHo CL70 = zHo C ∧ zLw CL70 = zLw C ∧ zWm CL70 = zWm C) → V X D CL A dom loc vaL70 0 0 70 [some (.ref (ob 48)), some (.int (nI p))] [] := by
          intro m9
          induction m9 with
          | zero => intro p k CL70 oL70 vaL70 hk70 hML70 hOL70 hfL70 hk2 hE70 hc70; exact absurd hk70 (Nat.not_lt_zero _)
          | succ m9 ih70 =>
            intro p k CL70 oL70 vaL70 hk70 hML70 hOL70 hfL70 hk2 hE70 hc70
            obtain ⟨hk2a, hk2b⟩ := hk2
            obtain ⟨hm1, hm2, hm3, hm4⟩ := hc70
            refine v_aload_n hX d_M_endWord_70 rfl rfl ?_
            refine v_mget hX hML70 38 (v := .int (nI (zWm CL70))) (by decide) fl_M_186 rfl gf_wordMany d_M_endWord_71 ?_
            refine v_iload_n hX d_M_endWord_74 rfl rfl ?_
            refine v_isubE (v := nI ((zWm CL70) - p)) hX d_M_endWord_75 (nI_sub (a := (zWm CL70)) (b := p) (by omega)) ?_
            refine v_aload_n hX d_M_endWord_76 rfl rfl ?_
            refine v_mget hX hML70 41 (v := .int (nI (zLw CL70))) (by decide) fl_M_189 rfl gf_leafWidth d_M_endWord_77 ?_
            refine v_icmp_le hX d_M_endWord_80 (tgt := 106) (by decide) (fun c80 => ?_) (fun c80 => ?_)
            · have f80 : ((zWm CL70) - p) ≤ (zLw CL70) := (nI_leI (a := ((zWm CL70) - p)) (b := (zLw CL70)) (by omega) (by omega)).mp c80
              have htot : ew C = szWm (szNm CL70 (zWm CL70 - p)) 0 := by rw [hew, ← hE70, ewL_stop (by omega)]; rfl
              obtain ⟨p0, hp0⟩ : ∃ p0, p0 = p := ⟨_, rfl⟩
              rw [← hp0] at htot
              have loop106 : ∀ (m9 : Nat) (p x : Nat) (CL106 : CT) (oL106 : OS) (vaL106 : Nat → va_E), zWm C - p < m9 → ModI cI cB cZ ob CL106 T oL106 dom loc vaL106 → (OI oL106 ∧ ooCt oL106 = ooCt O) → frM val vaL106 → (p ≤ zWm C) → (szNm CL70 x = CL106) → (x + (zWm C - p) = zWm CL70 - p0) → V X D CL A dom loc vaL106 0 0 106 [some (.ref (ob 48)), some (.int (nI p))] [] := by
                intro m9
                induction m9 with
                | zero => intro p x CL106 oL106 vaL106 hk106 hML106 hOL106 hfL106 hk3 hC106 hx; exact absurd hk106 (Nat.not_lt_zero _)
                | succ m9 ih106 =>
                  intro p x CL106 oL106 vaL106 hk106 hML106 hOL106 hfL106 hk3 hC106 hx
                  subst hC106
                  refine v_iload_n hX d_M_endWord_106 rfl rfl ?_
                  refine v_aload_n hX d_M_endWord_107 rfl rfl ?_
                  refine v_mget hX hML106 38 (v := .int (nI (zWm CL70))) (by decide) fl_M_186 rfl ((nf_nowMany 38 (by decide)).trans gf_wordMany) d_M_endWord_108 ?_
                  refine v_icmp_ge hX d_M_endWord_111 (tgt := 145) (by decide) (fun c111 => ?_) (fun c111 => ?_)
                  · have f111 : (zWm CL70) ≤ p := (nI_leI (a := (zWm CL70)) (b := p) (by omega) (by omega)).mp c111
                    refine v_aload_n hX d_M_endWord_145 rfl rfl ?_
                    refine v_iconst (v := 0) hX d_M_endWord_146 (by decide) ?_
                    refine v_mput hX hML106 38 (szWm (szNm CL70 x) 0) T oL106 (by decide) fl_M_186 rfl rfl rfl rfl pf_wordMany pa_wordMany d_M_endWord_147 (fun va1 hM1 hf1 => ?_)
                    exact v_vret hX hE d_M_endWord_150 (Nat.le_of_ble_eq_true rfl) (Nat.le_of_ble_eq_true rfl) ⟨rfl, rfl, rfl, rfl, (szWm (szNm CL70 x) 0), oL106, ⟨rfl, (by rw [htot, show zWm CL70 - p0 = x by omega])⟩, hM1, ⟨hOL106.1, hOL106.2⟩, (hfL106.trans hf1)⟩
                  · have f111 : ¬ (zWm CL70) ≤ p := fun z => c111 ((nI_leI (a := (zWm CL70)) (b := p) (by omega) (by omega)).mpr z)
                    refine v_aload_n hX d_M_endWord_114 rfl rfl ?_
                    refine v_mget hX hML106 36 (v := .ref (ob 74)) (by decide) fl_M_88 rfl rfl d_M_endWord_115 ?_
                    refine v_aload_n hX d_M_endWord_118 rfl rfl ?_
                    refine v_mget hX hML106 39 (v := .int (nI x)) (by decide) fl_M_179 rfl hf_nowMany d_M_endWord_119 ?_
                    refine v_aload_n hX d_M_endWord_122 rfl rfl ?_
                    refine v_mget hX hML106 35 (v := .ref (ob 73)) (by decide) fl_M_85 rfl rfl d_M_endWord_123 ?_
                    refine v_iload_n hX d_M_endWord_126 rfl rfl ?_
                    refine v_mild hX hML106 24 (i := p) (v := ((ooWo oL106) p)) ((na_nowMany 24).trans ga_word) (by omega) (by decide) rfl d_M_endWord_127 ?_
                    refine v_mist hX hML106 25 (szNm CL70 x) T (soLn oL106 (upd (ooLn oL106) x ((ooWo oL106) p))) (i := x) (by decide) ((na_nowMany 25).trans ga_lineNow) (by omega) (by decide) qf_lineNow qa_lineNow d_M_endWord_128 (fun va2 hM2 hf2 => ?_)
                    refine v_aload_n hX d_M_endWord_129 rfl rfl ?_
                    refine v_dup hX d_M_endWord_130 rfl ?_
                    refine v_mget hX hM2 39 (v := .int (nI x)) (by decide) fl_M_179 rfl ((nf_lineNow 39).trans hf_nowMany) d_M_endWord_131 ?_
                    refine v_iconst (v := 1) hX d_M_endWord_134 (by decide) ?_
                    refine v_iaddE (v := nI (x + 1)) hX d_M_endWord_135 (nI_add x 1) ?_
                    refine v_mput hX hM2 39 (szNm (szNm CL70 x) (x + 1)) T (soLn oL106 (upd (ooLn oL106) x ((ooWo oL106) p))) (by decide) fl_M_179 rfl rfl rfl rfl pf_nowMany pa_nowMany d_M_endWord_136 (fun va3 hM3 hf3 => ?_)
                    refine v_iinc (y := (nI (p + 1))) (lv' := [some (.ref (ob 48)), some (.int (nI (p + 1)))]) hX d_M_endWord_139 rfl (nI_1 p) rfl ?_
                    refine v_goto hX d_M_endWord_142 (tgt := 106) (by decide) ?_
                    exact ih106 (p + 1) (x + 1) (szNm (szNm CL70 x) (x + 1)) (soLn oL106 (upd (ooLn oL106) x ((ooWo oL106) p))) va3 (by omega) hM3 ⟨⟨hOL106.1.1, hOL106.1.2.1, hOL106.1.2.2.1, hOL106.1.2.2.2.1, (by have q9 := hOL106.1.2.2.2.2; first | exact q9 | omega | (show (ooSm oL106) ≤ 4300; omega))⟩, hOL106.2⟩ ((hfL106.trans hf2).trans hf3) (by omega) (szNm2 _ _ _).symm (by omega)
              exact loop106 _ p 0 CL70 oL70 vaL70 (Nat.lt_succ_self _) hML70 ⟨hOL70.1, hOL70.2⟩ hfL70 (by omega) (szNm_id hm1) (by omega)
            · have f80 : ¬ ((zWm CL70) - p) ≤ (zLw CL70) := fun z => c80 ((nI_leI (a := ((zWm CL70) - p)) (b := (zLw CL70)) (by omega) (by omega)).mpr z)
              obtain ⟨k2, rfl⟩ : ∃ k2, k = k2 + 1 := ⟨k - 1, by omega⟩
              have hE70b : ewL k2 (p + zLw CL70) (gl CL70) = ewL (zWm C) 0 (if 0 < zNm C then gn C else C) := by rw [← hE70, ewL_step k2 (by omega)]
              refine v_aload_n hX d_M_endWord_83 rfl rfl ?_
              refine v_aload_n hX d_M_endWord_84 rfl rfl ?_
              refine v_mget hX hML70 35 (v := .ref (ob 73)) (by decide) fl_M_85 rfl rfl d_M_endWord_85 ?_
              refine v_iload_n hX d_M_endWord_88 rfl rfl ?_
              refine v_aload_n hX d_M_endWord_89 rfl rfl ?_
              refine v_mget hX hML70 41 (v := .int (nI (zLw CL70))) (by decide) fl_M_189 rfl gf_leafWidth d_M_endWord_90 ?_
              refine c_V hX 48 (rest := []) hl (c_M_giveLine hML70 hOL70.1 (j := 24) (p := p) (q := (zLw CL70)) (Or.inl rfl) (by omega) (by omega) (fun z => by have q1 := hc (hOL70.2.symm.trans z); rw [hew] at q1; have q2 := (ewL_ok k2 (p + zLw CL70) (gl CL70)).2.1; rw [hE70b] at q2; have q3 : zCnt (ewE (ewL (zWm C) 0 (if 0 < zNm C then gn C else C))) = zCnt (ewL (zWm C) 0 (if 0 < zNm C then gn C else C)).1 := rfl; omega)) ml_M_182 im_M_giveLine se_M_giveLine in_M cd_M_giveLine rfl q_M_giveLine ⟨(Nat.le_of_ble_eq_true rfl), (Nat.le_of_ble_eq_true rfl)⟩ hML70.1.1 hML70.1.2.1 hML70.1.2.2 rfl rfl rfl rfl (Nat.le_of_ble_eq_true rfl) d_M_endWord_93 ⟨(Nat.le_of_ble_eq_true rfl), (Nat.le_of_ble_eq_true rfl)⟩ (fun rv d2 lo2 va4 kc ns hp => ?_)
              obtain ⟨rfl, rfl, rfl, rfl, C4, o4, ⟨rfl, hC4⟩, hM4, hO4, hf4⟩ := hp
              show V X D CL A _ _ _ _ _ _ _ []
              have hg4 := gl_ok CL70
              rw [hC4] at hg4
              obtain ⟨hk4, hu4, hv4⟩ := hg4
              obtain ⟨hk4h, hk4l, hk4w, hk4n, -⟩ := hk4
              refine v_iload_n hX d_M_endWord_96 rfl rfl ?_
              refine v_aload_n hX d_M_endWord_97 rfl rfl ?_
              refine v_mget hX hM4 41 (v := .int (nI (zLw C4))) (by decide) fl_M_189 rfl gf_leafWidth d_M_endWord_98 ?_
              refine v_iaddE (v := nI (p + (zLw C4))) hX d_M_endWord_101 (nI_add p (zLw C4)) ?_
              refine v_istore_n (lv' := [some (.ref (ob 48)), some (.int (nI (p + (zLw C4))))]) hX d_M_endWord_102 rfl (Nat.le_of_ble_eq_true rfl) rfl ?_
              refine v_goto hX d_M_endWord_103 (tgt := 70) (by decide) ?_
              rw [hk4l]
              exact ih70 (p + zLw CL70) k2 C4 o4 va4 (by omega) hM4 ⟨hO4.1, (hO4.2.trans hOL70.2)⟩ (hfL70.trans hf4) (by omega) (by rw [← hC4]; exact hE70b) ⟨by omega, by omega, by omega, by omega⟩
        exact loop70 _ 0 (zWm C) C O val (Nat.lt_succ_self _) hM ⟨hO, rfl⟩ frM.rf ⟨Nat.zero_le _, Nat.sub_le _ _⟩ (by rw [hst.1]) hst.2
      · have f63 : ¬ (zNm C) ≤ 0 := fun z => c63 ((nI_leI (a := (zNm C)) (b := 0) (by omega) (by omega)).mpr z)
        have f14n : 0 < zNm C := by omega
        refine v_aload_n hX d_M_endWord_66 rfl rfl ?_
        refine c_V hX 48 (rest := []) hl (c_M_giveNow hM hO (by omega) (by omega) (fun z => by have q1 := hc (rfl.symm.trans z); have q2 := (ewE_ok (zWm C) 0 (gn C) (by rw [(gn_ok C).2.1]; omega) (by rw [(gn_ok C).1.2.1]; omega)).2.2.2.1; rw [hew, if_pos f14n] at q1; have q3 : zCnt (gn C) = zCnt (gl C) := szNm_cnt _ _; omega)) ml_M_192 im_M_giveNow se_M_giveNow in_M cd_M_giveNow rfl q_M_giveNow ⟨(Nat.le_of_ble_eq_true rfl), (Nat.le_of_ble_eq_true rfl)⟩ hM.1.1 hM.1.2.1 hM.1.2.2 rfl rfl rfl rfl (Nat.le_of_ble_eq_true rfl) d_M_endWord_67 ⟨(Nat.le_of_ble_eq_true rfl), (Nat.le_of_ble_eq_true rfl)⟩ (fun rv d2 lo2 va5 kc ns hp => ?_)
        obtain ⟨rfl, rfl, rfl, rfl, C5, o5, ⟨rfl, hC5⟩, hM5, hO5, hf5⟩ := hp
        show V X D CL A _ _ _ _ _ _ _ []
        have hg5 := gn_ok C
        rw [hC5] at hg5
        obtain ⟨hk5, hw5, hn5, hu5, hv5⟩ := hg5
        obtain ⟨hk5h, hk5l, -⟩ := hk5
        have hst : (if 0 < zNm C then gn C else C) = C5 ∧ zNm C5 = 0 ∧ zHo C5 = zHo C ∧ zLw C5 = zLw C ∧ zWm C5 = zWm C := ⟨by rw [if_pos f14n, hC5], hn5, hk5h, hk5l, hw5⟩
        have loop70 : ∀ (m9 : Nat) (p k : Nat) (CL70 : CT) (oL70 : OS) (vaL70 : Nat → va_E), zWm C - p < m9 → ModI cI cB cZ ob CL70 T oL70 dom loc vaL70 → (OI oL70 ∧ ooCt oL70 = ooCt O) → frM val vaL70 → (p ≤ zWm C ∧ zWm C - p ≤ k) → (ewL k p CL70 = ewL (zWm C) 0 (if 0 < zNm C then gn C else C)) → (zNm CL70 = 0 ∧ zHo CL70 = zHo C ∧ zLw CL70 = zLw C ∧ zWm CL70 = zWm C) → V X D CL A dom loc vaL70 0 0 70 [some (.ref (ob 48)), some (.int (nI p))] [] := by
          intro m9
          induction m9 with
          | zero => intro p k CL70 oL70 vaL70 hk70 hML70 hOL70 hfL70 hk2 hE70 hc70; exact absurd hk70 (Nat.not_lt_zero _)
          | succ m9 ih70 =>
            intro p k CL70 oL70 vaL70 hk70 hML70 hOL70 hfL70 hk2 hE70 hc70
            obtain ⟨hk2a, hk2b⟩ := hk2
            obtain ⟨hm1, hm2, hm3, hm4⟩ := hc70
            refine v_aload_n hX d_M_endWord_70 rfl rfl ?_
            refine v_mget hX hML70 38 (v := .int (nI (zWm CL70))) (by decide) fl_M_186 rfl gf_wordMany d_M_endWord_71 ?_
            refine v_iload_n hX d_M_endWord_74 rfl rfl ?_
            refine v_isubE (v := nI ((zWm CL70) - p)) hX d_M_endWord_75 (nI_sub (a := (zWm CL70)) (b := p) (by omega)) ?_
            refine v_aload_n hX d_M_endWord_76 rfl rfl ?_
            refine v_mget hX hML70 41 (v := .int (nI (zLw CL70))) (by decide) fl_M_189 rfl gf_leafWidth d_M_endWord_77 ?_
            refine v_icmp_le hX d_M_endWord_80 (tgt := 106) (by decide) (fun c80 => ?_) (fun c80 => ?_)
            · have f80 : ((zWm CL70) - p) ≤ (zLw CL70) := (nI_leI (a := ((zWm CL70) - p)) (b := (zLw CL70)) (by omega) (by omega)).mp c80
              have htot : ew C = szWm (szNm CL70 (zWm CL70 - p)) 0 := by rw [hew, ← hE70, ewL_stop (by omega)]; rfl
              obtain ⟨p0, hp0⟩ : ∃ p0, p0 = p := ⟨_, rfl⟩
              rw [← hp0] at htot
              have loop106 : ∀ (m9 : Nat) (p x : Nat) (CL106 : CT) (oL106 : OS) (vaL106 : Nat → va_E), zWm C - p < m9 → ModI cI cB cZ ob CL106 T oL106 dom loc vaL106 → (OI oL106 ∧ ooCt oL106 = ooCt O) → frM val vaL106 → (p ≤ zWm C) → (szNm CL70 x = CL106) → (x + (zWm C - p) = zWm CL70 - p0) → V X D CL A dom loc vaL106 0 0 106 [some (.ref (ob 48)), some (.int (nI p))] [] := by
                intro m9
                induction m9 with
                | zero => intro p x CL106 oL106 vaL106 hk106 hML106 hOL106 hfL106 hk3 hC106 hx; exact absurd hk106 (Nat.not_lt_zero _)
                | succ m9 ih106 =>
                  intro p x CL106 oL106 vaL106 hk106 hML106 hOL106 hfL106 hk3 hC106 hx
                  subst hC106
                  refine v_iload_n hX d_M_endWord_106 rfl rfl ?_
                  refine v_aload_n hX d_M_endWord_107 rfl rfl ?_
                  refine v_mget hX hML106 38 (v := .int (nI (zWm CL70))) (by decide) fl_M_186 rfl ((nf_nowMany 38 (by decide)).trans gf_wordMany) d_M_endWord_108 ?_
                  refine v_icmp_ge hX d_M_endWord_111 (tgt := 145) (by decide) (fun c111 => ?_) (fun c111 => ?_)
                  · have f111 : (zWm CL70) ≤ p := (nI_leI (a := (zWm CL70)) (b := p) (by omega) (by omega)).mp c111
                    refine v_aload_n hX d_M_endWord_145 rfl rfl ?_
                    refine v_iconst (v := 0) hX d_M_endWord_146 (by decide) ?_
                    refine v_mput hX hML106 38 (szWm (szNm CL70 x) 0) T oL106 (by decide) fl_M_186 rfl rfl rfl rfl pf_wordMany pa_wordMany d_M_endWord_147 (fun va6 hM6 hf6 => ?_)
                    exact v_vret hX hE d_M_endWord_150 (Nat.le_of_ble_eq_true rfl) (Nat.le_of_ble_eq_true rfl) ⟨rfl, rfl, rfl, rfl, (szWm (szNm CL70 x) 0), oL106, ⟨rfl, (by rw [htot, show zWm CL70 - p0 = x by omega])⟩, hM6, ⟨hOL106.1, hOL106.2⟩, (hfL106.trans hf6)⟩
                  · have f111 : ¬ (zWm CL70) ≤ p := fun z => c111 ((nI_leI (a := (zWm CL70)) (b := p) (by omega) (by omega)).mpr z)
                    refine v_aload_n hX d_M_endWord_114 rfl rfl ?_
                    refine v_mget hX hML106 36 (v := .ref (ob 74)) (by decide) fl_M_88 rfl rfl d_M_endWord_115 ?_
                    refine v_aload_n hX d_M_endWord_118 rfl rfl ?_
                    refine v_mget hX hML106 39 (v := .int (nI x)) (by decide) fl_M_179 rfl hf_nowMany d_M_endWord_119 ?_
                    refine v_aload_n hX d_M_endWord_122 rfl rfl ?_
                    refine v_mget hX hML106 35 (v := .ref (ob 73)) (by decide) fl_M_85 rfl rfl d_M_endWord_123 ?_
                    refine v_iload_n hX d_M_endWord_126 rfl rfl ?_
                    refine v_mild hX hML106 24 (i := p) (v := ((ooWo oL106) p)) ((na_nowMany 24).trans ga_word) (by omega) (by decide) rfl d_M_endWord_127 ?_
                    refine v_mist hX hML106 25 (szNm CL70 x) T (soLn oL106 (upd (ooLn oL106) x ((ooWo oL106) p))) (i := x) (by decide) ((na_nowMany 25).trans ga_lineNow) (by omega) (by decide) qf_lineNow qa_lineNow d_M_endWord_128 (fun va7 hM7 hf7 => ?_)
                    refine v_aload_n hX d_M_endWord_129 rfl rfl ?_
                    refine v_dup hX d_M_endWord_130 rfl ?_
                    refine v_mget hX hM7 39 (v := .int (nI x)) (by decide) fl_M_179 rfl ((nf_lineNow 39).trans hf_nowMany) d_M_endWord_131 ?_
                    refine v_iconst (v := 1) hX d_M_endWord_134 (by decide) ?_
                    refine v_iaddE (v := nI (x + 1)) hX d_M_endWord_135 (nI_add x 1) ?_
                    refine v_mput hX hM7 39 (szNm (szNm CL70 x) (x + 1)) T (soLn oL106 (upd (ooLn oL106) x ((ooWo oL106) p))) (by decide) fl_M_179 rfl rfl rfl rfl pf_nowMany pa_nowMany d_M_endWord_136 (fun va8 hM8 hf8 => ?_)
                    refine v_iinc (y := (nI (p + 1))) (lv' := [some (.ref (ob 48)), some (.int (nI (p + 1)))]) hX d_M_endWord_139 rfl (nI_1 p) rfl ?_
                    refine v_goto hX d_M_endWord_142 (tgt := 106) (by decide) ?_
                    exact ih106 (p + 1) (x + 1) (szNm (szNm CL70 x) (x + 1)) (soLn oL106 (upd (ooLn oL106) x ((ooWo oL106) p))) va8 (by omega) hM8 ⟨⟨hOL106.1.1, hOL106.1.2.1, hOL106.1.2.2.1, hOL106.1.2.2.2.1, (by have q9 := hOL106.1.2.2.2.2; first | exact q9 | omega | (show (ooSm oL106) ≤ 4300; omega))⟩, hOL106.2⟩ ((hfL106.trans hf7).trans hf8) (by omega) (szNm2 _ _ _).symm (by omega)
              exact loop106 _ p 0 CL70 oL70 vaL70 (Nat.lt_succ_self _) hML70 ⟨hOL70.1, hOL70.2⟩ hfL70 (by omega) (szNm_id hm1) (by omega)
            · have f80 : ¬ ((zWm CL70) - p) ≤ (zLw CL70) := fun z => c80 ((nI_leI (a := ((zWm CL70) - p)) (b := (zLw CL70)) (by omega) (by omega)).mpr z)
              obtain ⟨k2, rfl⟩ : ∃ k2, k = k2 + 1 := ⟨k - 1, by omega⟩
              have hE70b : ewL k2 (p + zLw CL70) (gl CL70) = ewL (zWm C) 0 (if 0 < zNm C then gn C else C) := by rw [← hE70, ewL_step k2 (by omega)]
              refine v_aload_n hX d_M_endWord_83 rfl rfl ?_
              refine v_aload_n hX d_M_endWord_84 rfl rfl ?_
              refine v_mget hX hML70 35 (v := .ref (ob 73)) (by decide) fl_M_85 rfl rfl d_M_endWord_85 ?_
              refine v_iload_n hX d_M_endWord_88 rfl rfl ?_
              refine v_aload_n hX d_M_endWord_89 rfl rfl ?_
              refine v_mget hX hML70 41 (v := .int (nI (zLw CL70))) (by decide) fl_M_189 rfl gf_leafWidth d_M_endWord_90 ?_
              refine c_V hX 48 (rest := []) hl (c_M_giveLine hML70 hOL70.1 (j := 24) (p := p) (q := (zLw CL70)) (Or.inl rfl) (by omega) (by omega) (fun z => by have q1 := hc (hOL70.2.symm.trans z); rw [hew] at q1; have q2 := (ewL_ok k2 (p + zLw CL70) (gl CL70)).2.1; rw [hE70b] at q2; have q3 : zCnt (ewE (ewL (zWm C) 0 (if 0 < zNm C then gn C else C))) = zCnt (ewL (zWm C) 0 (if 0 < zNm C then gn C else C)).1 := rfl; omega)) ml_M_182 im_M_giveLine se_M_giveLine in_M cd_M_giveLine rfl q_M_giveLine ⟨(Nat.le_of_ble_eq_true rfl), (Nat.le_of_ble_eq_true rfl)⟩ hML70.1.1 hML70.1.2.1 hML70.1.2.2 rfl rfl rfl rfl (Nat.le_of_ble_eq_true rfl) d_M_endWord_93 ⟨(Nat.le_of_ble_eq_true rfl), (Nat.le_of_ble_eq_true rfl)⟩ (fun rv d2 lo2 va9 kc ns hp => ?_)
              obtain ⟨rfl, rfl, rfl, rfl, C9, o9, ⟨rfl, hC9⟩, hM9, hO9, hf9⟩ := hp
              show V X D CL A _ _ _ _ _ _ _ []
              have hg9 := gl_ok CL70
              rw [hC9] at hg9
              obtain ⟨hk9, hu9, hv9⟩ := hg9
              obtain ⟨hk9h, hk9l, hk9w, hk9n, -⟩ := hk9
              refine v_iload_n hX d_M_endWord_96 rfl rfl ?_
              refine v_aload_n hX d_M_endWord_97 rfl rfl ?_
              refine v_mget hX hM9 41 (v := .int (nI (zLw C9))) (by decide) fl_M_189 rfl gf_leafWidth d_M_endWord_98 ?_
              refine v_iaddE (v := nI (p + (zLw C9))) hX d_M_endWord_101 (nI_add p (zLw C9)) ?_
              refine v_istore_n (lv' := [some (.ref (ob 48)), some (.int (nI (p + (zLw C9))))]) hX d_M_endWord_102 rfl (Nat.le_of_ble_eq_true rfl) rfl ?_
              refine v_goto hX d_M_endWord_103 (tgt := 70) (by decide) ?_
              rw [hk9l]
              exact ih70 (p + zLw CL70) k2 C9 o9 va9 (by omega) hM9 ⟨hO9.1, (hO9.2.trans hOL70.2)⟩ (hfL70.trans hf9) (by omega) (by rw [← hC9]; exact hE70b) ⟨by omega, by omega, by omega, by omega⟩
        exact loop70 _ 0 (zWm C) C5 o5 va5 (Nat.lt_succ_self _) hM5 ⟨hO5.1, (hO5.2.trans rfl)⟩ (frM.rf.trans hf5) ⟨Nat.zero_le _, Nat.sub_le _ _⟩ (by rw [hst.1]) hst.2
    · have f14 : ¬ (zNm C) ≤ 0 := fun z => c14 ((nI_leI (a := (zNm C)) (b := 0) (by omega) (by omega)).mpr z)
      refine v_aload_n hX d_M_endWord_17 rfl rfl ?_
      refine v_mget hX hM 39 (v := .int (nI (zNm C))) (by decide) fl_M_179 rfl gf_nowMany d_M_endWord_18 ?_
      refine v_iconst (v := 1) hX d_M_endWord_21 (by decide) ?_
      refine v_iaddE (v := nI ((zNm C) + 1)) hX d_M_endWord_22 (nI_add (zNm C) 1) ?_
      refine v_aload_n hX d_M_endWord_23 rfl rfl ?_
      refine v_mget hX hM 38 (v := .int (nI (zWm C))) (by decide) fl_M_186 rfl gf_wordMany d_M_endWord_24 ?_
      refine v_iaddE (v := nI (((zNm C) + 1) + (zWm C))) hX d_M_endWord_27 (nI_add ((zNm C) + 1) (zWm C)) ?_
      refine v_aload_n hX d_M_endWord_28 rfl rfl ?_
      refine v_mget hX hM 41 (v := .int (nI (zLw C))) (by decide) fl_M_189 rfl gf_leafWidth d_M_endWord_29 ?_
      refine v_icmp_gt hX d_M_endWord_32 (tgt := 59) (by decide) (fun c32 => ?_) (fun c32 => ?_)
      · have f32 : (zLw C) < (((zNm C) + 1) + (zWm C)) := (nI_ltI (a := (zLw C)) (b := (((zNm C) + 1) + (zWm C))) (by omega) (by omega)).mp c32
        have hew : ew C = ewE (ewL (zWm C) 0 (if 0 < zNm C then gn C else C)) := by unfold ew; rw [if_neg f4, if_neg (fun z => by omega)]
        have f14n : 0 < zNm C ∨ ¬ 0 < zNm C := by omega
        refine v_aload_n hX d_M_endWord_59 rfl rfl ?_
        refine v_mget hX hM 39 (v := .int (nI (zNm C))) (by decide) fl_M_179 rfl gf_nowMany d_M_endWord_60 ?_
        refine v_if_le hX d_M_endWord_63 (tgt := 70) (by decide) (fun c63 => ?_) (fun c63 => ?_)
        · have f63 : (zNm C) ≤ 0 := (nI_leI (a := (zNm C)) (b := 0) (by omega) (by omega)).mp c63
          have hst : (if 0 < zNm C then gn C else C) = C ∧ zNm C = 0 ∧ zHo C = zHo C ∧ zLw C = zLw C ∧ zWm C = zWm C := ⟨if_neg (by omega), by omega, rfl, rfl, rfl⟩
          have loop70 : ∀ (m9 : Nat) (p k : Nat) (CL70 : CT) (oL70 : OS) (vaL70 : Nat → va_E), zWm C - p < m9 → ModI cI cB cZ ob CL70 T oL70 dom loc vaL70 → (OI oL70 ∧ ooCt oL70 = ooCt O) → frM val vaL70 → (p ≤ zWm C ∧ zWm C - p ≤ k) → (ewL k p CL70 = ewL (zWm C) 0 (if 0 < zNm C then gn C else C)) → (zNm CL70 = 0 ∧ zHo CL70 = zHo C ∧ zLw CL70 = zLw C ∧ zWm CL70 = zWm C) → V X D CL A dom loc vaL70 0 0 70 [some (.ref (ob 48)), some (.int (nI p))] [] := by
            intro m9
            induction m9 with
            | zero => intro p k CL70 oL70 vaL70 hk70 hML70 hOL70 hfL70 hk2 hE70 hc70; exact absurd hk70 (Nat.not_lt_zero _)
            | succ m9 ih70 =>
              intro p k CL70 oL70 vaL70 hk70 hML70 hOL70 hfL70 hk2 hE70 hc70
              obtain ⟨hk2a, hk2b⟩ := hk2
              obtain ⟨hm1, hm2, hm3, hm4⟩ := hc70
              refine v_aload_n hX d_M_endWord_70 rfl rfl ?_
              refine v_mget hX hML70 38 (v := .int (nI (zWm CL70))) (by decide) fl_M_186 rfl gf_wordMany d_M_endWord_71 ?_
              refine v_iload_n hX d_M_endWord_74 rfl rfl ?_
              refine v_isubE (v := nI ((zWm CL70) - p)) hX d_M_endWord_75 (nI_sub (a := (zWm CL70)) (b := p) (by omega)) ?_
              refine v_aload_n hX d_M_endWord_76 rfl rfl ?_
              refine v_mget hX hML70 41 (v := .int (nI (zLw CL70))) (by decide) fl_M_189 rfl gf_leafWidth d_M_endWord_77 ?_
              refine v_icmp_le hX d_M_endWord_80 (tgt := 106) (by decide) (fun c80 => ?_) (fun c80 => ?_)
              · have f80 : ((zWm CL70) - p) ≤ (zLw CL70) := (nI_leI (a := ((zWm CL70) - p)) (b := (zLw CL70)) (by omega) (by omega)).mp c80
                have htot : ew C = szWm (szNm CL70 (zWm CL70 - p)) 0 := by rw [hew, ← hE70, ewL_stop (by omega)]; rfl
                obtain ⟨p0, hp0⟩ : ∃ p0, p0 = p := ⟨_, rfl⟩
                rw [← hp0] at htot
                have loop106 : ∀ (m9 : Nat) (p x : Nat) (CL106 : CT) (oL106 : OS) (vaL106 : Nat → va_E), zWm C - p < m9 → ModI cI cB cZ ob CL106 T oL106 dom loc vaL106 → (OI oL106 ∧ ooCt oL106 = ooCt O) → frM val vaL106 → (p ≤ zWm C) → (szNm CL70 x = CL106) → (x + (zWm C - p) = zWm CL70 - p0) → V X D CL A dom loc vaL106 0 0 106 [some (.ref (ob 48)), some (.int (nI p))] [] := by
                  intro m9
                  induction m9 with
                  | zero => intro p x CL106 oL106 vaL106 hk106 hML106 hOL106 hfL106 hk3 hC106 hx; exact absurd hk106 (Nat.not_lt_zero _)
                  | succ m9 ih106 =>
                    intro p x CL106 oL106 vaL106 hk106 hML106 hOL106 hfL106 hk3 hC106 hx
                    subst hC106
                    refine v_iload_n hX d_M_endWord_106 rfl rfl ?_
                    refine v_aload_n hX d_M_endWord_107 rfl rfl ?_
                    refine v_mget hX hML106 38 (v := .int (nI (zWm CL70))) (by decide) fl_M_186 rfl ((nf_nowMany 38 (by decide)).trans gf_wordMany) d_M_endWord_108 ?_
                    refine v_icmp_ge hX d_M_endWord_111 (tgt := 145) (by decide) (fun c111 => ?_) (fun c111 => ?_)
                    · have f111 : (zWm CL70) ≤ p := (nI_leI (a := (zWm CL70)) (b := p) (by omega) (by omega)).mp c111
                      refine v_aload_n hX d_M_endWord_145 rfl rfl ?_
                      refine v_iconst (v := 0) hX d_M_endWord_146 (by decide) ?_
                      refine v_mput hX hML106 38 (szWm (szNm CL70 x) 0) T oL106 (by decide) fl_M_186 rfl rfl rfl rfl pf_wordMany pa_wordMany d_M_endWord_147 (fun va10 hM10 hf10 => ?_)
                      exact v_vret hX hE d_M_endWord_150 (Nat.le_of_ble_eq_true rfl) (Nat.le_of_ble_eq_true rfl) ⟨rfl, rfl, rfl, rfl, (szWm (szNm CL70 x) 0), oL106, ⟨rfl, (by rw [htot, show zWm CL70 - p0 = x by omega])⟩, hM10, ⟨hOL106.1, hOL106.2⟩, (hfL106.trans hf10)⟩
                    · have f111 : ¬ (zWm CL70) ≤ p := fun z => c111 ((nI_leI (a := (zWm CL70)) (b := p) (by omega) (by omega)).mpr z)
                      refine v_aload_n hX d_M_endWord_114 rfl rfl ?_
                      refine v_mget hX hML106 36 (v := .ref (ob 74)) (by decide) fl_M_88 rfl rfl d_M_endWord_115 ?_
                      refine v_aload_n hX d_M_endWord_118 rfl rfl ?_
                      refine v_mget hX hML106 39 (v := .int (nI x)) (by decide) fl_M_179 rfl hf_nowMany d_M_endWord_119 ?_
                      refine v_aload_n hX d_M_endWord_122 rfl rfl ?_
                      refine v_mget hX hML106 35 (v := .ref (ob 73)) (by decide) fl_M_85 rfl rfl d_M_endWord_123 ?_
                      refine v_iload_n hX d_M_endWord_126 rfl rfl ?_
                      refine v_mild hX hML106 24 (i := p) (v := ((ooWo oL106) p)) ((na_nowMany 24).trans ga_word) (by omega) (by decide) rfl d_M_endWord_127 ?_
                      refine v_mist hX hML106 25 (szNm CL70 x) T (soLn oL106 (upd (ooLn oL106) x ((ooWo oL106) p))) (i := x) (by decide) ((na_nowMany 25).trans ga_lineNow) (by omega) (by decide) qf_lineNow qa_lineNow d_M_endWord_128 (fun va11 hM11 hf11 => ?_)
                      refine v_aload_n hX d_M_endWord_129 rfl rfl ?_
                      refine v_dup hX d_M_endWord_130 rfl ?_
                      refine v_mget hX hM11 39 (v := .int (nI x)) (by decide) fl_M_179 rfl ((nf_lineNow 39).trans hf_nowMany) d_M_endWord_131 ?_
                      refine v_iconst (v := 1) hX d_M_endWord_134 (by decide) ?_
                      refine v_iaddE (v := nI (x + 1)) hX d_M_endWord_135 (nI_add x 1) ?_
                      refine v_mput hX hM11 39 (szNm (szNm CL70 x) (x + 1)) T (soLn oL106 (upd (ooLn oL106) x ((ooWo oL106) p))) (by decide) fl_M_179 rfl rfl rfl rfl pf_nowMany pa_nowMany d_M_endWord_136 (fun va12 hM12 hf12 => ?_)
                      refine v_iinc (y := (nI (p + 1))) (lv' := [some (.ref (ob 48)), some (.int (nI (p + 1)))]) hX d_M_endWord_139 rfl (nI_1 p) rfl ?_
                      refine v_goto hX d_M_endWord_142 (tgt := 106) (by decide) ?_
                      exact ih106 (p + 1) (x + 1) (szNm (szNm CL70 x) (x + 1)) (soLn oL106 (upd (ooLn oL106) x ((ooWo oL106) p))) va12 (by omega) hM12 ⟨⟨hOL106.1.1, hOL106.1.2.1, hOL106.1.2.2.1, hOL106.1.2.2.2.1, (by have q9 := hOL106.1.2.2.2.2; first | exact q9 | omega | (show (ooSm oL106) ≤ 4300; omega))⟩, hOL106.2⟩ ((hfL106.trans hf11).trans hf12) (by omega) (szNm2 _ _ _).symm (by omega)
                exact loop106 _ p 0 CL70 oL70 vaL70 (Nat.lt_succ_self _) hML70 ⟨hOL70.1, hOL70.2⟩ hfL70 (by omega) (szNm_id hm1) (by omega)
              · have f80 : ¬ ((zWm CL70) - p) ≤ (zLw CL70) := fun z => c80 ((nI_leI (a := ((zWm CL70) - p)) (b := (zLw CL70)) (by omega) (by omega)).mpr z)
                obtain ⟨k2, rfl⟩ : ∃ k2, k = k2 + 1 := ⟨k - 1, by omega⟩
                have hE70b : ewL k2 (p + zLw CL70) (gl CL70) = ewL (zWm C) 0 (if 0 < zNm C then gn C else C) := by rw [← hE70, ewL_step k2 (by omega)]
                refine v_aload_n hX d_M_endWord_83 rfl rfl ?_
                refine v_aload_n hX d_M_endWord_84 rfl rfl ?_
                refine v_mget hX hML70 35 (v := .ref (ob 73)) (by decide) fl_M_85 rfl rfl d_M_endWord_85 ?_
                refine v_iload_n hX d_M_endWord_88 rfl rfl ?_
                refine v_aload_n hX d_M_endWord_89 rfl rfl ?_
                refine v_mget hX hML70 41 (v := .int (nI (zLw CL70))) (by decide) fl_M_189 rfl gf_leafWidth d_M_endWord_90 ?_
                refine c_V hX 48 (rest := []) hl (c_M_giveLine hML70 hOL70.1 (j := 24) (p := p) (q := (zLw CL70)) (Or.inl rfl) (by omega) (by omega) (fun z => by have q1 := hc (hOL70.2.symm.trans z); rw [hew] at q1; have q2 := (ewL_ok k2 (p + zLw CL70) (gl CL70)).2.1; rw [hE70b] at q2; have q3 : zCnt (ewE (ewL (zWm C) 0 (if 0 < zNm C then gn C else C))) = zCnt (ewL (zWm C) 0 (if 0 < zNm C then gn C else C)).1 := rfl; omega)) ml_M_182 im_M_giveLine se_M_giveLine in_M cd_M_giveLine rfl q_M_giveLine ⟨(Nat.le_of_ble_eq_true rfl), (Nat.le_of_ble_eq_true rfl)⟩ hML70.1.1 hML70.1.2.1 hML70.1.2.2 rfl rfl rfl rfl (Nat.le_of_ble_eq_true rfl) d_M_endWord_93 ⟨(Nat.le_of_ble_eq_true rfl), (Nat.le_of_ble_eq_true rfl)⟩ (fun rv d2 lo2 va13 kc ns hp => ?_)
                obtain ⟨rfl, rfl, rfl, rfl, C13, o13, ⟨rfl, hC13⟩, hM13, hO13, hf13⟩ := hp
                show V X D CL A _ _ _ _ _ _ _ []
                have hg13 := gl_ok CL70
                rw [hC13] at hg13
                obtain ⟨hk13, hu13, hv13⟩ := hg13
                obtain ⟨hk13h, hk13l, hk13w, hk13n, -⟩ := hk13
                refine v_iload_n hX d_M_endWord_96 rfl rfl ?_
                refine v_aload_n hX d_M_endWord_97 rfl rfl ?_
                refine v_mget hX hM13 41 (v := .int (nI (zLw C13))) (by decide) fl_M_189 rfl gf_leafWidth d_M_endWord_98 ?_
                refine v_iaddE (v := nI (p + (zLw C13))) hX d_M_endWord_101 (nI_add p (zLw C13)) ?_
                refine v_istore_n (lv' := [some (.ref (ob 48)), some (.int (nI (p + (zLw C13))))]) hX d_M_endWord_102 rfl (Nat.le_of_ble_eq_true rfl) rfl ?_
                refine v_goto hX d_M_endWord_103 (tgt := 70) (by decide) ?_
                rw [hk13l]
                exact ih70 (p + zLw CL70) k2 C13 o13 va13 (by omega) hM13 ⟨hO13.1, (hO13.2.trans hOL70.2)⟩ (hfL70.trans hf13) (by omega) (by rw [← hC13]; exact hE70b) ⟨by omega, by omega, by omega, by omega⟩
          exact loop70 _ 0 (zWm C) C O val (Nat.lt_succ_self _) hM ⟨hO, rfl⟩ frM.rf ⟨Nat.zero_le _, Nat.sub_le _ _⟩ (by rw [hst.1]) hst.2
        · have f63 : ¬ (zNm C) ≤ 0 := fun z => c63 ((nI_leI (a := (zNm C)) (b := 0) (by omega) (by omega)).mpr z)
          have f14n : 0 < zNm C := by omega
          refine v_aload_n hX d_M_endWord_66 rfl rfl ?_
          refine c_V hX 48 (rest := []) hl (c_M_giveNow hM hO (by omega) (by omega) (fun z => by have q1 := hc (rfl.symm.trans z); have q2 := (ewE_ok (zWm C) 0 (gn C) (by rw [(gn_ok C).2.1]; omega) (by rw [(gn_ok C).1.2.1]; omega)).2.2.2.1; rw [hew, if_pos f14n] at q1; have q3 : zCnt (gn C) = zCnt (gl C) := szNm_cnt _ _; omega)) ml_M_192 im_M_giveNow se_M_giveNow in_M cd_M_giveNow rfl q_M_giveNow ⟨(Nat.le_of_ble_eq_true rfl), (Nat.le_of_ble_eq_true rfl)⟩ hM.1.1 hM.1.2.1 hM.1.2.2 rfl rfl rfl rfl (Nat.le_of_ble_eq_true rfl) d_M_endWord_67 ⟨(Nat.le_of_ble_eq_true rfl), (Nat.le_of_ble_eq_true rfl)⟩ (fun rv d2 lo2 va14 kc ns hp => ?_)
          obtain ⟨rfl, rfl, rfl, rfl, C14, o14, ⟨rfl, hC14⟩, hM14, hO14, hf14⟩ := hp
          show V X D CL A _ _ _ _ _ _ _ []
          have hg14 := gn_ok C
          rw [hC14] at hg14
          obtain ⟨hk14, hw14, hn14, hu14, hv14⟩ := hg14
          obtain ⟨hk14h, hk14l, -⟩ := hk14
          have hst : (if 0 < zNm C then gn C else C) = C14 ∧ zNm C14 = 0 ∧ zHo C14 = zHo C ∧ zLw C14 = zLw C ∧ zWm C14 = zWm C := ⟨by rw [if_pos f14n, hC14], hn14, hk14h, hk14l, hw14⟩
          have loop70 : ∀ (m9 : Nat) (p k : Nat) (CL70 : CT) (oL70 : OS) (vaL70 : Nat → va_E), zWm C - p < m9 → ModI cI cB cZ ob CL70 T oL70 dom loc vaL70 → (OI oL70 ∧ ooCt oL70 = ooCt O) → frM val vaL70 → (p ≤ zWm C ∧ zWm C - p ≤ k) → (ewL k p CL70 = ewL (zWm C) 0 (if 0 < zNm C then gn C else C)) → (zNm CL70 = 0 ∧ zHo CL70 = zHo C ∧ zLw CL70 = zLw C ∧ zWm CL70 = zWm C) → V X D CL A dom loc vaL70 0 0 70 [some (.ref (ob 48)), some (.int (nI p))] [] := by
            intro m9
            induction m9 with
            | zero => intro p k CL70 oL70 vaL70 hk70 hML70 hOL70 hfL70 hk2 hE70 hc70; exact absurd hk70 (Nat.not_lt_zero _)
            | succ m9 ih70 =>
              intro p k CL70 oL70 vaL70 hk70 hML70 hOL70 hfL70 hk2 hE70 hc70
              obtain ⟨hk2a, hk2b⟩ := hk2
              obtain ⟨hm1, hm2, hm3, hm4⟩ := hc70
              refine v_aload_n hX d_M_endWord_70 rfl rfl ?_
              refine v_mget hX hML70 38 (v := .int (nI (zWm CL70))) (by decide) fl_M_186 rfl gf_wordMany d_M_endWord_71 ?_
              refine v_iload_n hX d_M_endWord_74 rfl rfl ?_
              refine v_isubE (v := nI ((zWm CL70) - p)) hX d_M_endWord_75 (nI_sub (a := (zWm CL70)) (b := p) (by omega)) ?_
              refine v_aload_n hX d_M_endWord_76 rfl rfl ?_
              refine v_mget hX hML70 41 (v := .int (nI (zLw CL70))) (by decide) fl_M_189 rfl gf_leafWidth d_M_endWord_77 ?_
              refine v_icmp_le hX d_M_endWord_80 (tgt := 106) (by decide) (fun c80 => ?_) (fun c80 => ?_)
              · have f80 : ((zWm CL70) - p) ≤ (zLw CL70) := (nI_leI (a := ((zWm CL70) - p)) (b := (zLw CL70)) (by omega) (by omega)).mp c80
                have htot : ew C = szWm (szNm CL70 (zWm CL70 - p)) 0 := by rw [hew, ← hE70, ewL_stop (by omega)]; rfl
                obtain ⟨p0, hp0⟩ : ∃ p0, p0 = p := ⟨_, rfl⟩
                rw [← hp0] at htot
                have loop106 : ∀ (m9 : Nat) (p x : Nat) (CL106 : CT) (oL106 : OS) (vaL106 : Nat → va_E), zWm C - p < m9 → ModI cI cB cZ ob CL106 T oL106 dom loc vaL106 → (OI oL106 ∧ ooCt oL106 = ooCt O) → frM val vaL106 → (p ≤ zWm C) → (szNm CL70 x = CL106) → (x + (zWm C - p) = zWm CL70 - p0) → V X D CL A dom loc vaL106 0 0 106 [some (.ref (ob 48)), some (.int (nI p))] [] := by
                  intro m9
                  induction m9 with
                  | zero => intro p x CL106 oL106 vaL106 hk106 hML106 hOL106 hfL106 hk3 hC106 hx; exact absurd hk106 (Nat.not_lt_zero _)
                  | succ m9 ih106 =>
                    intro p x CL106 oL106 vaL106 hk106 hML106 hOL106 hfL106 hk3 hC106 hx
                    subst hC106
                    refine v_iload_n hX d_M_endWord_106 rfl rfl ?_
                    refine v_aload_n hX d_M_endWord_107 rfl rfl ?_
                    refine v_mget hX hML106 38 (v := .int (nI (zWm CL70))) (by decide) fl_M_186 rfl ((nf_nowMany 38 (by decide)).trans gf_wordMany) d_M_endWord_108 ?_
                    refine v_icmp_ge hX d_M_endWord_111 (tgt := 145) (by decide) (fun c111 => ?_) (fun c111 => ?_)
                    · have f111 : (zWm CL70) ≤ p := (nI_leI (a := (zWm CL70)) (b := p) (by omega) (by omega)).mp c111
                      refine v_aload_n hX d_M_endWord_145 rfl rfl ?_
                      refine v_iconst (v := 0) hX d_M_endWord_146 (by decide) ?_
                      refine v_mput hX hML106 38 (szWm (szNm CL70 x) 0) T oL106 (by decide) fl_M_186 rfl rfl rfl rfl pf_wordMany pa_wordMany d_M_endWord_147 (fun va15 hM15 hf15 => ?_)
                      exact v_vret hX hE d_M_endWord_150 (Nat.le_of_ble_eq_true rfl) (Nat.le_of_ble_eq_true rfl) ⟨rfl, rfl, rfl, rfl, (szWm (szNm CL70 x) 0), oL106, ⟨rfl, (by rw [htot, show zWm CL70 - p0 = x by omega])⟩, hM15, ⟨hOL106.1, hOL106.2⟩, (hfL106.trans hf15)⟩
                    · have f111 : ¬ (zWm CL70) ≤ p := fun z => c111 ((nI_leI (a := (zWm CL70)) (b := p) (by omega) (by omega)).mpr z)
                      refine v_aload_n hX d_M_endWord_114 rfl rfl ?_
                      refine v_mget hX hML106 36 (v := .ref (ob 74)) (by decide) fl_M_88 rfl rfl d_M_endWord_115 ?_
                      refine v_aload_n hX d_M_endWord_118 rfl rfl ?_
                      refine v_mget hX hML106 39 (v := .int (nI x)) (by decide) fl_M_179 rfl hf_nowMany d_M_endWord_119 ?_
                      refine v_aload_n hX d_M_endWord_122 rfl rfl ?_
                      refine v_mget hX hML106 35 (v := .ref (ob 73)) (by decide) fl_M_85 rfl rfl d_M_endWord_123 ?_
                      refine v_iload_n hX d_M_endWord_126 rfl rfl ?_
                      refine v_mild hX hML106 24 (i := p) (v := ((ooWo oL106) p)) ((na_nowMany 24).trans ga_word) (by omega) (by decide) rfl d_M_endWord_127 ?_
                      refine v_mist hX hML106 25 (szNm CL70 x) T (soLn oL106 (upd (ooLn oL106) x ((ooWo oL106) p))) (i := x) (by decide) ((na_nowMany 25).trans ga_lineNow) (by omega) (by decide) qf_lineNow qa_lineNow d_M_endWord_128 (fun va16 hM16 hf16 => ?_)
                      refine v_aload_n hX d_M_endWord_129 rfl rfl ?_
                      refine v_dup hX d_M_endWord_130 rfl ?_
                      refine v_mget hX hM16 39 (v := .int (nI x)) (by decide) fl_M_179 rfl ((nf_lineNow 39).trans hf_nowMany) d_M_endWord_131 ?_
                      refine v_iconst (v := 1) hX d_M_endWord_134 (by decide) ?_
                      refine v_iaddE (v := nI (x + 1)) hX d_M_endWord_135 (nI_add x 1) ?_
                      refine v_mput hX hM16 39 (szNm (szNm CL70 x) (x + 1)) T (soLn oL106 (upd (ooLn oL106) x ((ooWo oL106) p))) (by decide) fl_M_179 rfl rfl rfl rfl pf_nowMany pa_nowMany d_M_endWord_136 (fun va17 hM17 hf17 => ?_)
                      refine v_iinc (y := (nI (p + 1))) (lv' := [some (.ref (ob 48)), some (.int (nI (p + 1)))]) hX d_M_endWord_139 rfl (nI_1 p) rfl ?_
                      refine v_goto hX d_M_endWord_142 (tgt := 106) (by decide) ?_
                      exact ih106 (p + 1) (x + 1) (szNm (szNm CL70 x) (x + 1)) (soLn oL106 (upd (ooLn oL106) x ((ooWo oL106) p))) va17 (by omega) hM17 ⟨⟨hOL106.1.1, hOL106.1.2.1, hOL106.1.2.2.1, hOL106.1.2.2.2.1, (by have q9 := hOL106.1.2.2.2.2; first | exact q9 | omega | (show (ooSm oL106) ≤ 4300; omega))⟩, hOL106.2⟩ ((hfL106.trans hf16).trans hf17) (by omega) (szNm2 _ _ _).symm (by omega)
                exact loop106 _ p 0 CL70 oL70 vaL70 (Nat.lt_succ_self _) hML70 ⟨hOL70.1, hOL70.2⟩ hfL70 (by omega) (szNm_id hm1) (by omega)
              · have f80 : ¬ ((zWm CL70) - p) ≤ (zLw CL70) := fun z => c80 ((nI_leI (a := ((zWm CL70) - p)) (b := (zLw CL70)) (by omega) (by omega)).mpr z)
                obtain ⟨k2, rfl⟩ : ∃ k2, k = k2 + 1 := ⟨k - 1, by omega⟩
                have hE70b : ewL k2 (p + zLw CL70) (gl CL70) = ewL (zWm C) 0 (if 0 < zNm C then gn C else C) := by rw [← hE70, ewL_step k2 (by omega)]
                refine v_aload_n hX d_M_endWord_83 rfl rfl ?_
                refine v_aload_n hX d_M_endWord_84 rfl rfl ?_
                refine v_mget hX hML70 35 (v := .ref (ob 73)) (by decide) fl_M_85 rfl rfl d_M_endWord_85 ?_
                refine v_iload_n hX d_M_endWord_88 rfl rfl ?_
                refine v_aload_n hX d_M_endWord_89 rfl rfl ?_
                refine v_mget hX hML70 41 (v := .int (nI (zLw CL70))) (by decide) fl_M_189 rfl gf_leafWidth d_M_endWord_90 ?_
                refine c_V hX 48 (rest := []) hl (c_M_giveLine hML70 hOL70.1 (j := 24) (p := p) (q := (zLw CL70)) (Or.inl rfl) (by omega) (by omega) (fun z => by have q1 := hc (hOL70.2.symm.trans z); rw [hew] at q1; have q2 := (ewL_ok k2 (p + zLw CL70) (gl CL70)).2.1; rw [hE70b] at q2; have q3 : zCnt (ewE (ewL (zWm C) 0 (if 0 < zNm C then gn C else C))) = zCnt (ewL (zWm C) 0 (if 0 < zNm C then gn C else C)).1 := rfl; omega)) ml_M_182 im_M_giveLine se_M_giveLine in_M cd_M_giveLine rfl q_M_giveLine ⟨(Nat.le_of_ble_eq_true rfl), (Nat.le_of_ble_eq_true rfl)⟩ hML70.1.1 hML70.1.2.1 hML70.1.2.2 rfl rfl rfl rfl (Nat.le_of_ble_eq_true rfl) d_M_endWord_93 ⟨(Nat.le_of_ble_eq_true rfl), (Nat.le_of_ble_eq_true rfl)⟩ (fun rv d2 lo2 va18 kc ns hp => ?_)
                obtain ⟨rfl, rfl, rfl, rfl, C18, o18, ⟨rfl, hC18⟩, hM18, hO18, hf18⟩ := hp
                show V X D CL A _ _ _ _ _ _ _ []
                have hg18 := gl_ok CL70
                rw [hC18] at hg18
                obtain ⟨hk18, hu18, hv18⟩ := hg18
                obtain ⟨hk18h, hk18l, hk18w, hk18n, -⟩ := hk18
                refine v_iload_n hX d_M_endWord_96 rfl rfl ?_
                refine v_aload_n hX d_M_endWord_97 rfl rfl ?_
                refine v_mget hX hM18 41 (v := .int (nI (zLw C18))) (by decide) fl_M_189 rfl gf_leafWidth d_M_endWord_98 ?_
                refine v_iaddE (v := nI (p + (zLw C18))) hX d_M_endWord_101 (nI_add p (zLw C18)) ?_
                refine v_istore_n (lv' := [some (.ref (ob 48)), some (.int (nI (p + (zLw C18))))]) hX d_M_endWord_102 rfl (Nat.le_of_ble_eq_true rfl) rfl ?_
                refine v_goto hX d_M_endWord_103 (tgt := 70) (by decide) ?_
                rw [hk18l]
                exact ih70 (p + zLw CL70) k2 C18 o18 va18 (by omega) hM18 ⟨hO18.1, (hO18.2.trans hOL70.2)⟩ (hfL70.trans hf18) (by omega) (by rw [← hC18]; exact hE70b) ⟨by omega, by omega, by omega, by omega⟩
          exact loop70 _ 0 (zWm C) C14 o14 va14 (Nat.lt_succ_self _) hM14 ⟨hO14.1, (hO14.2.trans rfl)⟩ (frM.rf.trans hf14) ⟨Nat.zero_le _, Nat.sub_le _ _⟩ (by rw [hst.1]) hst.2
      · have f32 : ¬ (zLw C) < (((zNm C) + 1) + (zWm C)) := fun z => c32 ((nI_ltI (a := (zLw C)) (b := (((zNm C) + 1) + (zWm C))) (by omega) (by omega)).mpr z)
        refine v_aload_n hX d_M_endWord_35 rfl rfl ?_
        refine v_mget hX hM 36 (v := .ref (ob 74)) (by decide) fl_M_88 rfl rfl d_M_endWord_36 ?_
        refine v_aload_n hX d_M_endWord_39 rfl rfl ?_
        refine v_mget hX hM 39 (v := .int (nI (zNm C))) (by decide) fl_M_179 rfl gf_nowMany d_M_endWord_40 ?_
        refine v_bipush (v := 32) hX d_M_endWord_43 (by decide) ?_
        refine v_mist hX hM 25 C T (soLn O (upd (ooLn O) (zNm C) 32)) (i := (zNm C)) (by decide) ga_lineNow (by omega) (by decide) qf_lineNow qa_lineNow d_M_endWord_45 (fun va19 hM19 hf19 => ?_)
        refine v_aload_n hX d_M_endWord_46 rfl rfl ?_
        refine v_dup hX d_M_endWord_47 rfl ?_
        refine v_mget hX hM19 39 (v := .int (nI (zNm C))) (by decide) fl_M_179 rfl ((nf_lineNow 39).trans gf_nowMany) d_M_endWord_48 ?_
        refine v_iconst (v := 1) hX d_M_endWord_51 (by decide) ?_
        refine v_iaddE (v := nI ((zNm C) + 1)) hX d_M_endWord_52 (nI_add (zNm C) 1) ?_
        refine v_mput hX hM19 39 (szNm C ((zNm C) + 1)) T (soLn O (upd (ooLn O) (zNm C) 32)) (by decide) fl_M_179 rfl rfl rfl rfl pf_nowMany pa_nowMany d_M_endWord_53 (fun va20 hM20 hf20 => ?_)
        refine v_goto hX d_M_endWord_56 (tgt := 106) (by decide) ?_
        have htot : ew C = szWm (szNm C (zNm C + 1 + zWm C)) 0 := by unfold ew; rw [if_neg f4, if_pos ⟨by omega, by omega⟩]
        have loop106 : ∀ (m9 : Nat) (p x : Nat) (CL106 : CT) (oL106 : OS) (vaL106 : Nat → va_E), zWm C - p < m9 → ModI cI cB cZ ob CL106 T oL106 dom loc vaL106 → (OI oL106 ∧ ooCt oL106 = ooCt O) → frM val vaL106 → (p ≤ zWm C) → (szNm C x = CL106) → (x + (zWm C - p) = zNm C + 1 + zWm C) → V X D CL A dom loc vaL106 0 0 106 [some (.ref (ob 48)), some (.int (nI p))] [] := by
          intro m9
          induction m9 with
          | zero => intro p x CL106 oL106 vaL106 hk106 hML106 hOL106 hfL106 hk2 hC106 hx; exact absurd hk106 (Nat.not_lt_zero _)
          | succ m9 ih106 =>
            intro p x CL106 oL106 vaL106 hk106 hML106 hOL106 hfL106 hk2 hC106 hx
            subst hC106
            refine v_iload_n hX d_M_endWord_106 rfl rfl ?_
            refine v_aload_n hX d_M_endWord_107 rfl rfl ?_
            refine v_mget hX hML106 38 (v := .int (nI (zWm C))) (by decide) fl_M_186 rfl ((nf_nowMany 38 (by decide)).trans gf_wordMany) d_M_endWord_108 ?_
            refine v_icmp_ge hX d_M_endWord_111 (tgt := 145) (by decide) (fun c111 => ?_) (fun c111 => ?_)
            · have f111 : (zWm C) ≤ p := (nI_leI (a := (zWm C)) (b := p) (by omega) (by omega)).mp c111
              refine v_aload_n hX d_M_endWord_145 rfl rfl ?_
              refine v_iconst (v := 0) hX d_M_endWord_146 (by decide) ?_
              refine v_mput hX hML106 38 (szWm (szNm C x) 0) T oL106 (by decide) fl_M_186 rfl rfl rfl rfl pf_wordMany pa_wordMany d_M_endWord_147 (fun va21 hM21 hf21 => ?_)
              exact v_vret hX hE d_M_endWord_150 (Nat.le_of_ble_eq_true rfl) (Nat.le_of_ble_eq_true rfl) ⟨rfl, rfl, rfl, rfl, (szWm (szNm C x) 0), oL106, ⟨rfl, (by rw [htot, show zNm C + 1 + zWm C = x by omega])⟩, hM21, ⟨hOL106.1, hOL106.2⟩, (hfL106.trans hf21)⟩
            · have f111 : ¬ (zWm C) ≤ p := fun z => c111 ((nI_leI (a := (zWm C)) (b := p) (by omega) (by omega)).mpr z)
              refine v_aload_n hX d_M_endWord_114 rfl rfl ?_
              refine v_mget hX hML106 36 (v := .ref (ob 74)) (by decide) fl_M_88 rfl rfl d_M_endWord_115 ?_
              refine v_aload_n hX d_M_endWord_118 rfl rfl ?_
              refine v_mget hX hML106 39 (v := .int (nI x)) (by decide) fl_M_179 rfl hf_nowMany d_M_endWord_119 ?_
              refine v_aload_n hX d_M_endWord_122 rfl rfl ?_
              refine v_mget hX hML106 35 (v := .ref (ob 73)) (by decide) fl_M_85 rfl rfl d_M_endWord_123 ?_
              refine v_iload_n hX d_M_endWord_126 rfl rfl ?_
              refine v_mild hX hML106 24 (i := p) (v := ((ooWo oL106) p)) ((na_nowMany 24).trans ga_word) (by omega) (by decide) rfl d_M_endWord_127 ?_
              refine v_mist hX hML106 25 (szNm C x) T (soLn oL106 (upd (ooLn oL106) x ((ooWo oL106) p))) (i := x) (by decide) ((na_nowMany 25).trans ga_lineNow) (by omega) (by decide) qf_lineNow qa_lineNow d_M_endWord_128 (fun va22 hM22 hf22 => ?_)
              refine v_aload_n hX d_M_endWord_129 rfl rfl ?_
              refine v_dup hX d_M_endWord_130 rfl ?_
              refine v_mget hX hM22 39 (v := .int (nI x)) (by decide) fl_M_179 rfl ((nf_lineNow 39).trans hf_nowMany) d_M_endWord_131 ?_
              refine v_iconst (v := 1) hX d_M_endWord_134 (by decide) ?_
              refine v_iaddE (v := nI (x + 1)) hX d_M_endWord_135 (nI_add x 1) ?_
              refine v_mput hX hM22 39 (szNm (szNm C x) (x + 1)) T (soLn oL106 (upd (ooLn oL106) x ((ooWo oL106) p))) (by decide) fl_M_179 rfl rfl rfl rfl pf_nowMany pa_nowMany d_M_endWord_136 (fun va23 hM23 hf23 => ?_)
              refine v_iinc (y := (nI (p + 1))) (lv' := [some (.ref (ob 48)), some (.int (nI (p + 1)))]) hX d_M_endWord_139 rfl (nI_1 p) rfl ?_
              refine v_goto hX d_M_endWord_142 (tgt := 106) (by decide) ?_
              exact ih106 (p + 1) (x + 1) (szNm (szNm C x) (x + 1)) (soLn oL106 (upd (ooLn oL106) x ((ooWo oL106) p))) va23 (by omega) hM23 ⟨⟨hOL106.1.1, hOL106.1.2.1, hOL106.1.2.2.1, hOL106.1.2.2.2.1, (by have q9 := hOL106.1.2.2.2.2; first | exact q9 | omega | (show (ooSm oL106) ≤ 4300; omega))⟩, hOL106.2⟩ ((hfL106.trans hf22).trans hf23) (by omega) (szNm2 _ _ _).symm (by omega)
        exact loop106 _ 0 (zNm C + 1) (szNm C ((zNm C) + 1)) (soLn O (upd (ooLn O) (zNm C) 32)) va20 (Nat.lt_succ_self _) hM20 ⟨⟨hO.1, hO.2.1, hO.2.2.1, hO.2.2.2.1, (by have q9 := hO.2.2.2.2; first | exact q9 | omega | (show (ooSm O) ≤ 4300; omega))⟩, rfl⟩ ((frM.rf.trans hf19).trans hf20) (Nat.zero_le _) rfl (by omega)
  · have f4 : (zWm C) = 0 := (nI_eq (a := (zWm C)) (b := 0) (by omega) (by omega)).mp c4
    exact v_vret hX hE d_M_endWord_7 (Nat.le_of_ble_eq_true rfl) (Nat.le_of_ble_eq_true rfl) ⟨rfl, rfl, rfl, rfl, C, O, ⟨rfl, (by unfold ew; rw [if_pos f4])⟩, hM, ⟨hO, rfl⟩, frM.rf⟩
