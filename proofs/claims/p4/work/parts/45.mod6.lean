set_option maxHeartbeats 4000000 in
set_option maxRecDepth 100000 in
theorem c_M_giveLine {l : Launch} {D : va_G} {A : Nat → Prop} {cI cB cZ cJ cN : ClassId} {ob : Nat → Nat} {C : CT} {T : TS} {O : OS} {dom : Nat → Prop} {loc : Nat → Nat} {val : Nat → va_E} (hM : ModI cI cB cZ ob C T O dom loc val) (hO : OI O) {j p q : Nat} (hj : j = 24 ∨ j = 25) (hpq : p + q ≤ 4010) (hHo : zHo C ≤ 13) (hc : ooCt O = 0 → zCnt (gl C) ≤ 1501) : kM l y_M_giveLine (Cond.code y_M_giveLine b_M_giveLine 5 none :: TT) (rmM 4) D CL (TY cI cB cZ cJ cN) A [.ref (ob 48), .ref (ob (49 + j)), .int (nI p), .int (nI q)] dom loc val (PMo cI cB cZ ob T O dom loc val (fun rv C2 O2 => rv = none ∧ gl C = C2)) := by
  refine kM_of (lv0 := [some (.ref (ob 48)), some (.ref (ob (49 + j))), some (.int (nI p)), some (.int (nI q)), none]) (own := "ProsePagesModel") (by decide) rfl (List.forall_mem_cons.mpr ⟨rfl, List.forall_mem_cons.mpr ⟨rfl, List.forall_mem_cons.mpr ⟨rfl, List.forall_mem_cons.mpr ⟨rfl, fun _ h => nomatch h⟩⟩⟩⟩) (Nat.le_of_ble_eq_true rfl) rfl (Nat.le_of_ble_eq_true rfl) (fun X hl hX hE hin0 => ?_)
  refine v_iconst (v := 0) hX d_M_giveLine_0 (by decide) ?_
  refine v_istore (lv' := [some (.ref (ob 48)), some (.ref (ob (49 + j))), some (.int (nI p)), some (.int (nI q)), some (.int 0)]) hX d_M_giveLine_1 (Nat.le_of_ble_eq_true rfl) rfl ?_
  have loop3 : ∀ (m9 : Nat) (h : Nat) (CL3 : CT) (oL3 : OS) (vaL3 : Nat → va_E), zHo C - h < m9 → ModI cI cB cZ ob CL3 T oL3 dom loc vaL3 → (OI oL3 ∧ ooCt oL3 = ooCt O) → frM val vaL3 → (h ≤ zHo C) → (glL (zHo C - h) h CL3 = glL (zHo C) 0 C) → (zHo CL3 = zHo C) → V X D CL A dom loc vaL3 0 0 3 [some (.ref (ob 48)), some (.ref (ob (49 + j))), some (.int (nI p)), some (.int (nI q)), some (.int (nI h))] [] := by
    intro m9
    induction m9 with
    | zero => intro h CL3 oL3 vaL3 hk3 hML3 hOL3 hfL3 hh hC3 hho; exact absurd hk3 (Nat.not_lt_zero _)
    | succ m9 ih3 =>
      intro h CL3 oL3 vaL3 hk3 hML3 hOL3 hfL3 hh hC3 hho
      refine v_iload hX d_M_giveLine_3 rfl ?_
      refine v_aload_n hX d_M_giveLine_5 rfl rfl ?_
      refine v_mget hX hML3 34 (v := .int (nI (zHo CL3))) (by decide) fl_M_166 rfl gf_holders d_M_giveLine_6 ?_
      refine v_icmp_ge hX d_M_giveLine_9 (tgt := 80) (by decide) (fun c9 => ?_) (fun c9 => ?_)
      · have f9 : (zHo CL3) ≤ h := (nI_leI (a := (zHo CL3)) (b := h) (by omega) (by omega)).mp c9
        have hCg : CL3 = glL (zHo C) 0 C := by rw [show zHo C - h = 0 by omega] at hC3; exact hC3
        refine v_aload_n hX d_M_giveLine_80 rfl rfl ?_
        refine v_mget hX hML3 42 (v := .int (zLl CL3)) (by decide) fl_M_176 rfl gf_leafLine d_M_giveLine_81 ?_
        refine v_if_ge hX d_M_giveLine_84 (tgt := 95) (by decide) (fun c84 => ?_) (fun c84 => ?_)
        · refine v_aload_n hX d_M_giveLine_95 rfl rfl ?_
          refine v_aload_n hX d_M_giveLine_96 rfl rfl ?_
          refine v_mget hX hML3 34 (v := .int (nI (zHo CL3))) (by decide) fl_M_166 rfl gf_holders d_M_giveLine_97 ?_
          refine c_V hX 48 (rest := []) hl (c_M_showHolders hML3 hOL3.1 (n := (zHo CL3)) (by omega)) ml_M_169 im_M_showHolders se_M_showHolders in_M cd_M_showHolders rfl q_M_showHolders ⟨(Nat.le_of_ble_eq_true rfl), (Nat.le_of_ble_eq_true rfl)⟩ hML3.1.1 hML3.1.2.1 hML3.1.2.2 rfl rfl rfl rfl (Nat.le_of_ble_eq_true rfl) d_M_giveLine_100 ⟨(Nat.le_of_ble_eq_true rfl), (Nat.le_of_ble_eq_true rfl)⟩ (fun rv d2 lo2 va1 kc ns hp => ?_)
          obtain ⟨rfl, rfl, rfl, rfl, C1, o1, ⟨rfl, hC1, hs1⟩, hM1, hO1, hf1⟩ := hp
          show V X D CL A _ _ _ _ _ _ _ []
          have hk1 : kp CL3 C1 ∧ zCnt C1 = zCnt CL3 := by rw [← hC1]; exact due_ok _ _
          obtain ⟨hk1a, hk1b⟩ := hk1
          have hk1c := hk1a.1
          refine v_iconst (v := 0) hX d_M_giveLine_103 (by decide) ?_
          refine v_istore (lv' := [some (.ref (ob 48)), some (.ref (ob (49 + j))), some (.int (nI p)), some (.int (nI q)), some (.int 0)]) hX d_M_giveLine_104 (Nat.le_of_ble_eq_true rfl) rfl ?_
          have loop106 : ∀ (m9 : Nat) (k : Nat) (CL106 : CT) (oL106 : OS) (vaL106 : Nat → va_E), q - k < m9 → ModI cI cB cZ ob CL106 T oL106 dom loc vaL106 → (OI oL106 ∧ ooCt oL106 = ooCt O) → frM val vaL106 → (k ≤ q) → (C1 = CL106) → (ooSm oL106 ≤ 200 + k) → V X D CL A dom loc vaL106 0 0 106 [some (.ref (ob 48)), some (.ref (ob (49 + j))), some (.int (nI p)), some (.int (nI q)), some (.int (nI k))] [] := by
            intro m9
            induction m9 with
            | zero => intro k CL106 oL106 vaL106 hk106 hML106 hOL106 hfL106 hk2 hC106 hs106; exact absurd hk106 (Nat.not_lt_zero _)
            | succ m9 ih106 =>
              intro k CL106 oL106 vaL106 hk106 hML106 hOL106 hfL106 hk2 hC106 hs106
              subst hC106
              refine v_iload hX d_M_giveLine_106 rfl ?_
              refine v_iload_n hX d_M_giveLine_108 rfl rfl ?_
              refine v_icmp_ge hX d_M_giveLine_109 (tgt := 128) (by decide) (fun c109 => ?_) (fun c109 => ?_)
              · have f109 : q ≤ k := (nI_leI (a := q) (b := k) (by omega) (by omega)).mp c109
                refine v_aload_n hX d_M_giveLine_128 rfl rfl ?_
                refine v_iconst (v := 0) hX d_M_giveLine_129 (by decide) ?_
                refine c_V hX 48 (rest := []) hl (c_M_endLine hML106 hOL106.1 0 (fun z => by have q1 := hc (hOL106.2.symm.trans z); have q3 : zCnt (gl C) = zCnt (glL (zHo C) 0 C) + 1 := (glE_ok _).2.1; rw [← hCg] at q3; have q5 : zCnt C1 = zCnt CL3 := hk1b; omega)) ml_M_172 im_M_endLine se_M_endLine in_M cd_M_endLine rfl q_M_endLine ⟨(Nat.le_of_ble_eq_true rfl), (Nat.le_of_ble_eq_true rfl)⟩ hML106.1.1 hML106.1.2.1 hML106.1.2.2 rfl rfl rfl rfl (Nat.le_of_ble_eq_true rfl) d_M_giveLine_130 ⟨(Nat.le_of_ble_eq_true rfl), (Nat.le_of_ble_eq_true rfl)⟩ (fun rv d2 lo2 va2 kc ns hp => ?_)
                obtain ⟨rfl, rfl, rfl, rfl, C2, o2, ⟨rfl, hC2⟩, hM2, hO2, hf2⟩ := hp
                show V X D CL A _ _ _ _ _ _ _ []
                exact v_vret hX hE d_M_giveLine_133 (Nat.le_of_ble_eq_true rfl) (Nat.le_of_ble_eq_true rfl) ⟨rfl, rfl, rfl, rfl, C2, o2, ⟨rfl, (by show glE (glL (zHo C) 0 C) = _; rw [← hCg, ← hC2, hk1b, ← hC1]; unfold glE; rw [if_neg (Int32.not_lt.mpr c84)])⟩, hM2, ⟨hO2.1, (hO2.2.trans hOL106.2)⟩, (hfL106.trans hf2)⟩
              · have f109 : ¬ q ≤ k := fun z => c109 ((nI_leI (a := q) (b := k) (by omega) (by omega)).mpr z)
                refine v_aload_n hX d_M_giveLine_112 rfl rfl ?_
                refine v_aload_n hX d_M_giveLine_113 rfl rfl ?_
                refine v_iload_n hX d_M_giveLine_114 rfl rfl ?_
                refine v_iload hX d_M_giveLine_115 rfl ?_
                refine v_iaddE (v := nI (p + k)) hX d_M_giveLine_117 (nI_add p k) ?_
                obtain ⟨f3, hf3⟩ := mar_of (cI := cI) (cB := cB) (cZ := cZ) (C := C1) (T := T) (O := oL106) hj
                refine v_mild hX hML106 j (i := (p + k)) (v := f3 ((p + k))) hf3 (by omega) (by decide) rfl d_M_giveLine_118 ?_
                refine c_V hX 48 (rest := []) hl (c_M_show hML106 hOL106.1 (f3 ((p + k))) (by omega)) ml_M_148 im_M_show se_M_show in_M cd_M_show rfl q_M_show ⟨(Nat.le_of_ble_eq_true rfl), (Nat.le_of_ble_eq_true rfl)⟩ hML106.1.1 hML106.1.2.1 hML106.1.2.2 rfl rfl rfl rfl (Nat.le_of_ble_eq_true rfl) d_M_giveLine_119 ⟨(Nat.le_of_ble_eq_true rfl), (Nat.le_of_ble_eq_true rfl)⟩ (fun rv d2 lo2 va4 kc ns hp => ?_)
                obtain ⟨rfl, rfl, rfl, rfl, _, o4, ⟨rfl, rfl, hs4⟩, hM4, hO4, hf4⟩ := hp
                show V X D CL A _ _ _ _ _ _ _ []
                refine v_iinc (y := (nI (k + 1))) (lv' := [some (.ref (ob 48)), some (.ref (ob (49 + j))), some (.int (nI p)), some (.int (nI q)), some (.int (nI (k + 1)))]) hX d_M_giveLine_122 rfl (nI_1 k) rfl ?_
                refine v_goto hX d_M_giveLine_125 (tgt := 106) (by decide) ?_
                exact ih106 (k + 1) C1 o4 va4 (by omega) hM4 ⟨hO4.1, (hO4.2.trans hOL106.2)⟩ (hfL106.trans hf4) (by omega) rfl (by omega)
          exact loop106 _ 0 C1 o1 va1 (Nat.lt_succ_self _) hM1 ⟨hO1.1, (hO1.2.trans hOL3.2)⟩ (hfL3.trans hf1) (Nat.zero_le _) rfl (by omega)
        · refine v_aload_n hX d_M_giveLine_87 rfl rfl ?_
          refine v_aload_n hX d_M_giveLine_88 rfl rfl ?_
          refine v_mget hX hML3 23 (v := .int (nI (zCnt CL3))) (by decide) fl_M_159 rfl gf_counted d_M_giveLine_89 ?_
          refine v_mput hX hML3 42 (szLl CL3 (nI (zCnt CL3))) T oL3 (by decide) fl_M_176 rfl rfl rfl rfl pf_leafLine pa_leafLine d_M_giveLine_92 (fun va5 hM5 hf5 => ?_)
          refine v_aload_n hX d_M_giveLine_95 rfl rfl ?_
          refine v_aload_n hX d_M_giveLine_96 rfl rfl ?_
          refine v_mget hX hM5 34 (v := .int (nI (zHo CL3))) (by decide) fl_M_166 rfl ((nf_leafLine 34 (by decide)).trans gf_holders) d_M_giveLine_97 ?_
          refine c_V hX 48 (rest := []) hl (c_M_showHolders hM5 hOL3.1 (n := (zHo CL3)) (by omega)) ml_M_169 im_M_showHolders se_M_showHolders in_M cd_M_showHolders rfl q_M_showHolders ⟨(Nat.le_of_ble_eq_true rfl), (Nat.le_of_ble_eq_true rfl)⟩ hM5.1.1 hM5.1.2.1 hM5.1.2.2 rfl rfl rfl rfl (Nat.le_of_ble_eq_true rfl) d_M_giveLine_100 ⟨(Nat.le_of_ble_eq_true rfl), (Nat.le_of_ble_eq_true rfl)⟩ (fun rv d2 lo2 va6 kc ns hp => ?_)
          obtain ⟨rfl, rfl, rfl, rfl, C6, o6, ⟨rfl, hC6, hs6⟩, hM6, hO6, hf6⟩ := hp
          show V X D CL A _ _ _ _ _ _ _ []
          have hk6 : kp (szLl CL3 (nI (zCnt CL3))) C6 ∧ zCnt C6 = zCnt (szLl CL3 (nI (zCnt CL3))) := by rw [← hC6]; exact due_ok _ _
          obtain ⟨hk6a, hk6b⟩ := hk6
          have hk6c := hk6a.1
          refine v_iconst (v := 0) hX d_M_giveLine_103 (by decide) ?_
          refine v_istore (lv' := [some (.ref (ob 48)), some (.ref (ob (49 + j))), some (.int (nI p)), some (.int (nI q)), some (.int 0)]) hX d_M_giveLine_104 (Nat.le_of_ble_eq_true rfl) rfl ?_
          have loop106 : ∀ (m9 : Nat) (k : Nat) (CL106 : CT) (oL106 : OS) (vaL106 : Nat → va_E), q - k < m9 → ModI cI cB cZ ob CL106 T oL106 dom loc vaL106 → (OI oL106 ∧ ooCt oL106 = ooCt O) → frM val vaL106 → (k ≤ q) → (C6 = CL106) → (ooSm oL106 ≤ 200 + k) → V X D CL A dom loc vaL106 0 0 106 [some (.ref (ob 48)), some (.ref (ob (49 + j))), some (.int (nI p)), some (.int (nI q)), some (.int (nI k))] [] := by
            intro m9
            induction m9 with
            | zero => intro k CL106 oL106 vaL106 hk106 hML106 hOL106 hfL106 hk2 hC106 hs106; exact absurd hk106 (Nat.not_lt_zero _)
            | succ m9 ih106 =>
              intro k CL106 oL106 vaL106 hk106 hML106 hOL106 hfL106 hk2 hC106 hs106
              subst hC106
              refine v_iload hX d_M_giveLine_106 rfl ?_
              refine v_iload_n hX d_M_giveLine_108 rfl rfl ?_
              refine v_icmp_ge hX d_M_giveLine_109 (tgt := 128) (by decide) (fun c109 => ?_) (fun c109 => ?_)
              · have f109 : q ≤ k := (nI_leI (a := q) (b := k) (by omega) (by omega)).mp c109
                refine v_aload_n hX d_M_giveLine_128 rfl rfl ?_
                refine v_iconst (v := 0) hX d_M_giveLine_129 (by decide) ?_
                refine c_V hX 48 (rest := []) hl (c_M_endLine hML106 hOL106.1 0 (fun z => by have q1 := hc (hOL106.2.symm.trans z); have q3 : zCnt (gl C) = zCnt (glL (zHo C) 0 C) + 1 := (glE_ok _).2.1; rw [← hCg] at q3; have q5 : zCnt C6 = zCnt CL3 := hk6b.trans (szLl_cnt _ _); omega)) ml_M_172 im_M_endLine se_M_endLine in_M cd_M_endLine rfl q_M_endLine ⟨(Nat.le_of_ble_eq_true rfl), (Nat.le_of_ble_eq_true rfl)⟩ hML106.1.1 hML106.1.2.1 hML106.1.2.2 rfl rfl rfl rfl (Nat.le_of_ble_eq_true rfl) d_M_giveLine_130 ⟨(Nat.le_of_ble_eq_true rfl), (Nat.le_of_ble_eq_true rfl)⟩ (fun rv d2 lo2 va7 kc ns hp => ?_)
                obtain ⟨rfl, rfl, rfl, rfl, C7, o7, ⟨rfl, hC7⟩, hM7, hO7, hf7⟩ := hp
                show V X D CL A _ _ _ _ _ _ _ []
                exact v_vret hX hE d_M_giveLine_133 (Nat.le_of_ble_eq_true rfl) (Nat.le_of_ble_eq_true rfl) ⟨rfl, rfl, rfl, rfl, C7, o7, ⟨rfl, (by show glE (glL (zHo C) 0 C) = _; rw [← hCg, ← hC7, hk6b, ← hC6, szLl_cnt]; unfold glE; rw [if_pos (Int32.not_le.mp c84)])⟩, hM7, ⟨hO7.1, (hO7.2.trans hOL106.2)⟩, (hfL106.trans hf7)⟩
              · have f109 : ¬ q ≤ k := fun z => c109 ((nI_leI (a := q) (b := k) (by omega) (by omega)).mpr z)
                refine v_aload_n hX d_M_giveLine_112 rfl rfl ?_
                refine v_aload_n hX d_M_giveLine_113 rfl rfl ?_
                refine v_iload_n hX d_M_giveLine_114 rfl rfl ?_
                refine v_iload hX d_M_giveLine_115 rfl ?_
                refine v_iaddE (v := nI (p + k)) hX d_M_giveLine_117 (nI_add p k) ?_
                obtain ⟨f8, hf8⟩ := mar_of (cI := cI) (cB := cB) (cZ := cZ) (C := C6) (T := T) (O := oL106) hj
                refine v_mild hX hML106 j (i := (p + k)) (v := f8 ((p + k))) hf8 (by omega) (by decide) rfl d_M_giveLine_118 ?_
                refine c_V hX 48 (rest := []) hl (c_M_show hML106 hOL106.1 (f8 ((p + k))) (by omega)) ml_M_148 im_M_show se_M_show in_M cd_M_show rfl q_M_show ⟨(Nat.le_of_ble_eq_true rfl), (Nat.le_of_ble_eq_true rfl)⟩ hML106.1.1 hML106.1.2.1 hML106.1.2.2 rfl rfl rfl rfl (Nat.le_of_ble_eq_true rfl) d_M_giveLine_119 ⟨(Nat.le_of_ble_eq_true rfl), (Nat.le_of_ble_eq_true rfl)⟩ (fun rv d2 lo2 va9 kc ns hp => ?_)
                obtain ⟨rfl, rfl, rfl, rfl, _, o9, ⟨rfl, rfl, hs9⟩, hM9, hO9, hf9⟩ := hp
                show V X D CL A _ _ _ _ _ _ _ []
                refine v_iinc (y := (nI (k + 1))) (lv' := [some (.ref (ob 48)), some (.ref (ob (49 + j))), some (.int (nI p)), some (.int (nI q)), some (.int (nI (k + 1)))]) hX d_M_giveLine_122 rfl (nI_1 k) rfl ?_
                refine v_goto hX d_M_giveLine_125 (tgt := 106) (by decide) ?_
                exact ih106 (k + 1) C6 o9 va9 (by omega) hM9 ⟨hO9.1, (hO9.2.trans hOL106.2)⟩ (hfL106.trans hf9) (by omega) rfl (by omega)
          exact loop106 _ 0 C6 o6 va6 (Nat.lt_succ_self _) hM6 ⟨hO6.1, (hO6.2.trans hOL3.2)⟩ ((hfL3.trans hf5).trans hf6) (Nat.zero_le _) rfl (by omega)
      · have f9 : ¬ (zHo CL3) ≤ h := fun z => c9 ((nI_leI (a := (zHo CL3)) (b := h) (by omega) (by omega)).mpr z)
        have hC3b : glL (zHo C - (h + 1)) (h + 1) (glS h CL3) = glL (zHo C) 0 C := by rw [← hC3, show zHo C - h = (zHo C - (h + 1)) + 1 by omega, glL_succ]
        refine v_aload_n hX d_M_giveLine_12 rfl rfl ?_
        refine v_mget hX hML3 33 (v := .ref (ob 72)) (by decide) fl_M_82 rfl rfl d_M_giveLine_13 ?_
        refine v_iload hX d_M_giveLine_16 rfl ?_
        refine v_mzld hX hML3 23 (i := h) (v := ((zF CL3) h)) ga_hFresh (by omega) (by decide) rfl d_M_giveLine_18 ?_
        refine v_if_ne hX d_M_giveLine_19 (tgt := 25) (by decide) (fun c19 => ?_) (fun c19 => ?_)
        · refine v_aload_n hX d_M_giveLine_25 rfl rfl ?_
          refine v_mget hX hML3 32 (v := .ref (ob 71)) (by decide) fl_M_79 rfl rfl d_M_giveLine_26 ?_
          refine v_iload hX d_M_giveLine_29 rfl ?_
          refine v_mzld hX hML3 22 (i := h) (v := ((zH CL3) h)) ga_hHad (by omega) (by decide) rfl d_M_giveLine_31 ?_
          refine v_if_eq hX d_M_giveLine_32 (tgt := 58) (by decide) (fun c32 => ?_) (fun c32 => ?_)
          · refine v_aload_n hX d_M_giveLine_58 rfl rfl ?_
            refine v_mget hX hML3 33 (v := .ref (ob 72)) (by decide) fl_M_82 rfl rfl d_M_giveLine_59 ?_
            refine v_iload hX d_M_giveLine_62 rfl ?_
            refine v_iconst (v := 0) hX d_M_giveLine_64 (by decide) ?_
            refine v_mzst hX hML3 23 (szF CL3 (upd (zF CL3) h (vp_nar .boolean 0))) T oL3 (i := h) (by decide) ga_hFresh (by omega) (by decide) qf_hFresh qa_hFresh d_M_giveLine_65 (fun va10 hM10 hf10 => ?_)
            refine v_aload_n hX d_M_giveLine_66 rfl rfl ?_
            refine v_mget hX hM10 32 (v := .ref (ob 71)) (by decide) fl_M_79 rfl rfl d_M_giveLine_67 ?_
            refine v_iload hX d_M_giveLine_70 rfl ?_
            refine v_iconst (v := 1) hX d_M_giveLine_72 (by decide) ?_
            refine v_mzst hX hM10 22 (szH (szF CL3 (upd (zF CL3) h (vp_nar .boolean 0))) (upd (zH CL3) h (vp_nar .boolean 1))) T oL3 (i := h) (by decide) ((na_hFresh 22 (by decide)).trans ga_hHad) (by omega) (by decide) qf_hHad qa_hHad d_M_giveLine_73 (fun va11 hM11 hf11 => ?_)
            refine v_iinc (y := (nI (h + 1))) (lv' := [some (.ref (ob 48)), some (.ref (ob (49 + j))), some (.int (nI p)), some (.int (nI q)), some (.int (nI (h + 1)))]) hX d_M_giveLine_74 rfl (nI_1 h) rfl ?_
            refine v_goto hX d_M_giveLine_77 (tgt := 3) (by decide) ?_
            have e8 : glS h CL3 = (szH (szF CL3 (upd (zF CL3) h (vp_nar .boolean 0))) (upd (zH CL3) h (vp_nar .boolean 1))) := by unfold glS; rw [if_neg c19, if_pos c32, nar0, nar1]
            exact ih3 (h + 1) (szH (szF CL3 (upd (zF CL3) h (vp_nar .boolean 0))) (upd (zH CL3) h (vp_nar .boolean 1))) oL3 va11 (by omega) hM11 ⟨hOL3.1, hOL3.2⟩ ((hfL3.trans hf10).trans hf11) (by omega) (by rw [← e8]; exact hC3b) (by rw [← e8]; exact (glS_ok h CL3).1.1.trans hho)
          · refine v_aload_n hX d_M_giveLine_35 rfl rfl ?_
            refine v_mget hX hML3 31 (v := .ref (ob 70)) (by decide) fl_M_76 rfl rfl d_M_giveLine_36 ?_
            refine v_iload hX d_M_giveLine_39 rfl ?_
            refine v_mzld hX hML3 21 (i := h) (v := ((zI CL3) h)) ga_hWide (by omega) (by decide) rfl d_M_giveLine_41 ?_
            refine v_if_eq hX d_M_giveLine_42 (tgt := 58) (by decide) (fun c42 => ?_) (fun c42 => ?_)
            · refine v_aload_n hX d_M_giveLine_58 rfl rfl ?_
              refine v_mget hX hML3 33 (v := .ref (ob 72)) (by decide) fl_M_82 rfl rfl d_M_giveLine_59 ?_
              refine v_iload hX d_M_giveLine_62 rfl ?_
              refine v_iconst (v := 0) hX d_M_giveLine_64 (by decide) ?_
              refine v_mzst hX hML3 23 (szF CL3 (upd (zF CL3) h (vp_nar .boolean 0))) T oL3 (i := h) (by decide) ga_hFresh (by omega) (by decide) qf_hFresh qa_hFresh d_M_giveLine_65 (fun va12 hM12 hf12 => ?_)
              refine v_aload_n hX d_M_giveLine_66 rfl rfl ?_
              refine v_mget hX hM12 32 (v := .ref (ob 71)) (by decide) fl_M_79 rfl rfl d_M_giveLine_67 ?_
              refine v_iload hX d_M_giveLine_70 rfl ?_
              refine v_iconst (v := 1) hX d_M_giveLine_72 (by decide) ?_
              refine v_mzst hX hM12 22 (szH (szF CL3 (upd (zF CL3) h (vp_nar .boolean 0))) (upd (zH CL3) h (vp_nar .boolean 1))) T oL3 (i := h) (by decide) ((na_hFresh 22 (by decide)).trans ga_hHad) (by omega) (by decide) qf_hHad qa_hHad d_M_giveLine_73 (fun va13 hM13 hf13 => ?_)
              refine v_iinc (y := (nI (h + 1))) (lv' := [some (.ref (ob 48)), some (.ref (ob (49 + j))), some (.int (nI p)), some (.int (nI q)), some (.int (nI (h + 1)))]) hX d_M_giveLine_74 rfl (nI_1 h) rfl ?_
              refine v_goto hX d_M_giveLine_77 (tgt := 3) (by decide) ?_
              have e8 : glS h CL3 = (szH (szF CL3 (upd (zF CL3) h (vp_nar .boolean 0))) (upd (zH CL3) h (vp_nar .boolean 1))) := by unfold glS; rw [if_neg c19, if_neg c32, if_pos c42, nar0, nar1]
              exact ih3 (h + 1) (szH (szF CL3 (upd (zF CL3) h (vp_nar .boolean 0))) (upd (zH CL3) h (vp_nar .boolean 1))) oL3 va13 (by omega) hM13 ⟨hOL3.1, hOL3.2⟩ ((hfL3.trans hf12).trans hf13) (by omega) (by rw [← e8]; exact hC3b) (by rw [← e8]; exact (glS_ok h CL3).1.1.trans hho)
            · refine v_aload_n hX d_M_giveLine_45 rfl rfl ?_
              refine v_iload hX d_M_giveLine_46 rfl ?_
              refine v_iconst (v := 1) hX d_M_giveLine_48 (by decide) ?_
              refine v_iaddE (v := nI (h + 1)) hX d_M_giveLine_49 (nI_add h 1) ?_
              refine c_V hX 48 (rest := []) hl (c_M_showHolders hML3 hOL3.1 (n := (h + 1)) (by omega)) ml_M_169 im_M_showHolders se_M_showHolders in_M cd_M_showHolders rfl q_M_showHolders ⟨(Nat.le_of_ble_eq_true rfl), (Nat.le_of_ble_eq_true rfl)⟩ hML3.1.1 hML3.1.2.1 hML3.1.2.2 rfl rfl rfl rfl (Nat.le_of_ble_eq_true rfl) d_M_giveLine_50 ⟨(Nat.le_of_ble_eq_true rfl), (Nat.le_of_ble_eq_true rfl)⟩ (fun rv d2 lo2 va14 kc ns hp => ?_)
              obtain ⟨rfl, rfl, rfl, rfl, C14, o14, ⟨rfl, hC14, hs14⟩, hM14, hO14, hf14⟩ := hp
              show V X D CL A _ _ _ _ _ _ _ []
              have hk14 : kp CL3 C14 ∧ zCnt C14 = zCnt CL3 := by rw [← hC14]; exact due_ok _ _
              obtain ⟨hk14a, hk14b⟩ := hk14
              have hk14c := hk14a.1
              refine v_aload_n hX d_M_giveLine_53 rfl rfl ?_
              refine v_iconst (v := 1) hX d_M_giveLine_54 (by decide) ?_
              refine c_V hX 48 (rest := []) hl (c_M_endLine hM14 hO14.1 1 (fun z => by have q1 := hc ((hO14.2.trans hOL3.2).symm.trans z); have q2 := (glL_ok (zHo C - (h + 1)) (h + 1) (glS h CL3)).2.1; rw [hC3b] at q2; have q3 : zCnt (gl C) = zCnt (glL (zHo C) 0 C) + 1 := (glE_ok _).2.1; have q4 : zCnt (glS h CL3) = zCnt CL3 + 1 := (by unfold glS; rw [if_neg c19, if_neg c32, if_neg c42]); have q5 := hk14b; omega)) ml_M_172 im_M_endLine se_M_endLine in_M cd_M_endLine rfl q_M_endLine ⟨(Nat.le_of_ble_eq_true rfl), (Nat.le_of_ble_eq_true rfl)⟩ hM14.1.1 hM14.1.2.1 hM14.1.2.2 rfl rfl rfl rfl (Nat.le_of_ble_eq_true rfl) d_M_giveLine_55 ⟨(Nat.le_of_ble_eq_true rfl), (Nat.le_of_ble_eq_true rfl)⟩ (fun rv d2 lo2 va15 kc ns hp => ?_)
              obtain ⟨rfl, rfl, rfl, rfl, C15, o15, ⟨rfl, hC15⟩, hM15, hO15, hf15⟩ := hp
              show V X D CL A _ _ _ _ _ _ _ []
              refine v_aload_n hX d_M_giveLine_58 rfl rfl ?_
              refine v_mget hX hM15 33 (v := .ref (ob 72)) (by decide) fl_M_82 rfl rfl d_M_giveLine_59 ?_
              refine v_iload hX d_M_giveLine_62 rfl ?_
              refine v_iconst (v := 0) hX d_M_giveLine_64 (by decide) ?_
              refine v_mzst hX hM15 23 (szF C15 (upd (zF C15) h (vp_nar .boolean 0))) T o15 (i := h) (by decide) ga_hFresh (by omega) (by decide) qf_hFresh qa_hFresh d_M_giveLine_65 (fun va16 hM16 hf16 => ?_)
              refine v_aload_n hX d_M_giveLine_66 rfl rfl ?_
              refine v_mget hX hM16 32 (v := .ref (ob 71)) (by decide) fl_M_79 rfl rfl d_M_giveLine_67 ?_
              refine v_iload hX d_M_giveLine_70 rfl ?_
              refine v_iconst (v := 1) hX d_M_giveLine_72 (by decide) ?_
              refine v_mzst hX hM16 22 (szH (szF C15 (upd (zF C15) h (vp_nar .boolean 0))) (upd (zH C15) h (vp_nar .boolean 1))) T o15 (i := h) (by decide) ((na_hFresh 22 (by decide)).trans ga_hHad) (by omega) (by decide) qf_hHad qa_hHad d_M_giveLine_73 (fun va17 hM17 hf17 => ?_)
              refine v_iinc (y := (nI (h + 1))) (lv' := [some (.ref (ob 48)), some (.ref (ob (49 + j))), some (.int (nI p)), some (.int (nI q)), some (.int (nI (h + 1)))]) hX d_M_giveLine_74 rfl (nI_1 h) rfl ?_
              refine v_goto hX d_M_giveLine_77 (tgt := 3) (by decide) ?_
              have e8 : glS h CL3 = (szH (szF C15 (upd (zF C15) h (vp_nar .boolean 0))) (upd (zH C15) h (vp_nar .boolean 1))) := by rw [← hC15, hk14b, ← hC14]; unfold glS; rw [if_neg c19, if_neg c32, if_neg c42, nar0, nar1]
              exact ih3 (h + 1) (szH (szF C15 (upd (zF C15) h (vp_nar .boolean 0))) (upd (zH C15) h (vp_nar .boolean 1))) o15 va17 (by omega) hM17 ⟨hO15.1, (hO15.2.trans (hO14.2.trans hOL3.2))⟩ ((((hfL3.trans hf14).trans hf15).trans hf16).trans hf17) (by omega) (by rw [← e8]; exact hC3b) (by rw [← e8]; exact (glS_ok h CL3).1.1.trans hho)
        · refine v_goto hX d_M_giveLine_22 (tgt := 74) (by decide) ?_
          refine v_iinc (y := (nI (h + 1))) (lv' := [some (.ref (ob 48)), some (.ref (ob (49 + j))), some (.int (nI p)), some (.int (nI q)), some (.int (nI (h + 1)))]) hX d_M_giveLine_74 rfl (nI_1 h) rfl ?_
          refine v_goto hX d_M_giveLine_77 (tgt := 3) (by decide) ?_
          exact ih3 (h + 1) CL3 oL3 vaL3 (by omega) hML3 ⟨hOL3.1, hOL3.2⟩ hfL3 (by omega) (by have e8 : glS h CL3 = CL3 := if_pos c19; rw [e8] at hC3b; exact hC3b) hho
  exact loop3 _ 0 C O val (Nat.lt_succ_self _) hM ⟨hO, rfl⟩ frM.rf (Nat.zero_le _) rfl rfl
