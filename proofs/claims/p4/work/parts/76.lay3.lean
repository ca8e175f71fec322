set_option maxHeartbeats 4000000 in
set_option maxRecDepth 100000 in
theorem c_S_layItems {l : Launch} {D : va_G} {A : Nat → Prop} {cI cB cZ cJ cN : ClassId} {ob : Nat → Nat} {td a nl pf tl ph : Nat} {dom : Nat → Prop} {loc : Nat → Nat} {val : Nat → va_E} (hS : LayS cI ob td 0 0 a a nl pf tl ph dom loc val) {T : TR} {n : Nat} (hN : NodesI ob T n dom loc val) (hT : TreeI T n) (k : Nat) (H : KLP l D A cI cB cZ cJ cN ob T n td pf tl dom k) {i : Nat} (hi : i < n) (hd : 13 ≤ tD T i + (k + 1)) {wd : Nat} (hwd : 4 ≤ wd ∧ wd ≤ 60) (ha : a + 12 * (12 - tD T i) ≤ 144) : kM l y_S_layItems (Cond.code y_S_layItems b_S_layItems 8 none :: TT) (rmP (12 + 4 * k) ph) D CL (TY cI cB cZ cJ cN) A [.ref (ob 2), .ref (ob (1000 + i)), .int (nI wd)] dom loc val (PSn cI ob T n td a nl pf tl ph dom loc val) := by
  refine kM_of (lv0 := [some (.ref (ob 2)), some (.ref (ob (1000 + i))), some (.int (nI wd)), none, none, none, none, none]) (own := "ProsePages$Setter") (by decide) rfl (List.forall_mem_cons.mpr ⟨rfl, List.forall_mem_cons.mpr ⟨rfl, List.forall_mem_cons.mpr ⟨rfl, fun _ h => nomatch h⟩⟩⟩) (Nat.le_of_ble_eq_true rfl) rfl (Nat.le_of_ble_eq_true rfl) (fun X hl hX hE hin0 => ?_)
  have hP : 0 + ph ≤ ph ∧ 16 * 0 + ph ≤ ph := ⟨by omega, by omega⟩
  have hx : ph ≤ 2663816 := hS.phi
  have hz := hS.hnl
  have hdd := (hT.2.2 i hi).2
  refine v_iconst (v := 0) hX d_S_layItems_0 (by decide) ?_
  refine v_istore_n (lv' := [some (.ref (ob 2)), some (.ref (ob (1000 + i))), some (.int (nI wd)), some (.int 0), none, none, none, none]) hX d_S_layItems_1 rfl (Nat.le_of_ble_eq_true rfl) rfl ?_
  refine v_aload_n hX d_S_layItems_2 rfl rfl ?_
  refine v_get hX (1000 + i) (v := orf ob (tF T i)) inT0 (hN.2 i hi).1 (hN.2 i hi).2.1 (hN.2 i hi).2.2.choose_spec.choose_spec.choose_spec.choose_spec rfl 7 (by decide) fl_S_51 rfl rfl d_S_layItems_3 ?_
  refine v_astoreQ (lv' := [some (.ref (ob 2)), some (.ref (ob (1000 + i))), some (.int (nI wd)), some (.int 0), some (orf ob (tF T i)), none, none, none]) hX ((tF T i).map (fun i => ob (1000 + i))) d_S_layItems_6 (Nat.le_of_ble_eq_true rfl) rfl ?_
  have loop : ∀ (m9 : Nat) (o : Option Nat) (v3 : Int32), om n o < m9 → (∀ j, o = some j → j < n ∧ tD T j = tD T i + 1) → V X D CL A dom loc val (0) (0) 8 [some (.ref (ob 2)), some (.ref (ob (1000 + i))), some (.int (nI wd)), some (.int v3), some (orf ob o), none, none, none] [] := by
    intro m9
    induction m9 with
    | zero => intro o v3 hk hO; exact absurd hk (Nat.not_lt_zero _)
    | succ m9 ih =>
      intro o v3 hk hO
      refine v_aloadQ hX (o.map (fun i => ob (1000 + i))) d_S_layItems_8 rfl ?_
      rcases hq1 : o with _ | j1
      · refine v_ifnull hX none d_S_layItems_10 (tgt := 42) (by decide) (fun _ => ?_) (fun _ h => nomatch h)
        refine v_aload_n hX d_S_layItems_42 rfl rfl ?_
        refine v_get hX (1000 + i) (v := .int (tV T i)) inT0 (hN.2 i hi).1 (hN.2 i hi).2.1 (hN.2 i hi).2.2.choose_spec.choose_spec.choose_spec.choose_spec rfl 6 (by decide) fl_S_76 rfl rfl d_S_layItems_43 ?_
        refine v_istore (lv' := [some (.ref (ob 2)), some (.ref (ob (1000 + i))), some (.int (nI wd)), some (.int v3), some (.int (tV T i)), none, none, none]) hX d_S_layItems_46 (Nat.le_of_ble_eq_true rfl) rfl ?_
        refine v_aload_n hX d_S_layItems_48 rfl rfl ?_
        refine v_get hX (1000 + i) (v := orf ob (tF T i)) inT0 (hN.2 i hi).1 (hN.2 i hi).2.1 (hN.2 i hi).2.2.choose_spec.choose_spec.choose_spec.choose_spec rfl 7 (by decide) fl_S_51 rfl rfl d_S_layItems_49 ?_
        refine v_astoreQ (lv' := [some (.ref (ob 2)), some (.ref (ob (1000 + i))), some (.int (nI wd)), some (.int v3), some (.int (tV T i)), some (orf ob (tF T i)), none, none]) hX ((tF T i).map (fun i => ob (1000 + i))) d_S_layItems_52 (Nat.le_of_ble_eq_true rfl) rfl ?_
        have loop54 : ∀ (m9 : Nat) (o : Option Nat) (v4 : Int32) (o6 o7 : Option Value) (loL : Nat → Nat) (vaL : Nat → va_E) (csL ssL nlL phL : Nat), om n o < m9 → LayS cI ob td 0 0 a a nlL pf tl phL dom loL vaL → NodesI ob T n dom loL vaL → nl ≤ nlL → (ssL + ph ≤ phL ∧ 16 * csL + ph ≤ phL) → frN loc val loL vaL → (∀ j, o = some j → j < n ∧ tD T j = tD T i + 1) → V X D CL A dom loL vaL csL ssL 54 [some (.ref (ob 2)), some (.ref (ob (1000 + i))), some (.int (nI wd)), some (.int v3), some (.int v4), some (orf ob o), o6, o7] [] := by
          intro m9
          induction m9 with
          | zero => intro o v4 o6 o7 loL vaL csL ssL nlL phL hk hSL hNL hnL hPL hfL hO; exact absurd hk (Nat.not_lt_zero _)
          | succ m9 ih54 =>
            intro o v4 o6 o7 loL vaL csL ssL nlL phL hk hSL hNL hnL hPL hfL hO
            have hxL : phL ≤ 2663816 := hSL.phi
            have hzL := hSL.hnl
            refine v_aloadQ hX (o.map (fun i => ob (1000 + i))) d_S_layItems_54 rfl ?_
            rcases hq2 : o with _ | j2
            · refine v_ifnull hX none d_S_layItems_56 (tgt := 166) (by decide) (fun _ => ?_) (fun _ h => nomatch h)
              exact v_vret hX hE d_S_layItems_166 (by have a := hPL.2; have b := hxL; show _ ≤ 120 + (2663816 - ph) / 16; omega) (by have a := hPL.1; have b := hxL; show _ ≤ 700000 + (2663816 - ph); omega) ⟨rfl, rfl, ⟨nlL, phL, hSL, hnL, by have a := hPL.1; have b := hPL.2; exact ⟨by omega, by omega⟩⟩, hNL, hfL⟩
            · have ht_j2 := hO j2 hq2
              have hdd_j2 := (hT.2.2 j2 ht_j2.1).2
              refine v_ifnull hX (some (ob (1000 + j2))) d_S_layItems_56 (tgt := 166) (by decide) (fun h => nomatch h) (fun _ _ => ?_)
              refine v_iload_n hX d_S_layItems_59 rfl rfl ?_
              refine v_if_eq hX d_S_layItems_60 (tgt := 76) (by decide) (fun c60 => ?_) (fun c60 => ?_)
              · refine v_aload_n hX d_S_layItems_76 rfl rfl ?_
                refine v_get hX 2 (v := .ref (ob td)) inT2 hSL.set.1 hSL.set.2.1 hSL.set.2.2 rfl 1 (by decide) fl_S_21 rfl rfl d_S_layItems_77 ?_
                refine c_V hX td (rest := []) hl (S_lines hSL) ml_S_37 im_T_lineCount se_T_lineCount in_T cd_T_lineCount rfl q_T_lineCount ⟨Nat.le_trans (m := 200) (Nat.le_of_ble_eq_true rfl) (by show 200 ≤ 20 * (12 + 4 * k) + 20; omega), Nat.le_trans (m := 3400) (Nat.le_of_ble_eq_true rfl) (by show 3400 ≤ 300 * (12 + 4 * k) + 600; omega)⟩ (hSL.sheet).choose_spec.1 (hSL.sheet).choose_spec.2.1 (hSL.sheet).choose_spec.2.2 rfl rfl rfl rfl (Nat.le_of_ble_eq_true rfl) d_S_layItems_80 ⟨by have a := hPL.2; have b := hxL; show _ + (120 + (2663816 - phL) / 16) ≤ 120 + (2663816 - ph) / 16; omega, by have a := hPL.1; have b := hxL; show _ + (700000 + (2663816 - phL)) ≤ 700000 + (2663816 - ph); omega⟩ (fun rv d2 lo2 va2 kc ns hp => ?_)
                obtain ⟨rfl, rfl, rfl, rfl, rfl, rfl⟩ := hp
                show V X D CL A _ _ _ _ _ _ _ (.int (nI nlL) :: [])
                refine v_istore (lv' := [some (.ref (ob 2)), some (.ref (ob (1000 + i))), some (.int (nI wd)), some (.int v3), some (.int v4), some (.ref (ob (1000 + j2))), some (.int (nI nlL)), o7]) hX d_S_layItems_83 (Nat.le_of_ble_eq_true rfl) rfl ?_
                refine v_aload_n hX d_S_layItems_85 rfl rfl ?_
                refine v_get hX 2 (v := .ref (ob 22)) inT2 hSL.set.1 hSL.set.2.1 hSL.set.2.2 rfl 2 (by decide) fl_S_25 rfl rfl d_S_layItems_86 ?_
                refine c_V hX 22 (rest := []) hl (S_size22 hSL) ml_S_129 im_R_size se_R_size in_R cd_R_size rfl q_R_size ⟨Nat.le_trans (m := 200) (Nat.le_of_ble_eq_true rfl) (by show 200 ≤ 20 * (12 + 4 * k) + 20; omega), Nat.le_trans (m := 3400) (Nat.le_of_ble_eq_true rfl) (by show 3400 ≤ 300 * (12 + 4 * k) + 600; omega)⟩ (hSL.row 22 (by decide)).1 (hSL.row 22 (by decide)).2.1 (hSL.row 22 (by decide)).2.2.choose_spec rfl rfl rfl rfl (Nat.le_of_ble_eq_true rfl) d_S_layItems_89 ⟨by have a := hPL.2; have b := hxL; show _ + 100 ≤ 120 + (2663816 - ph) / 16; omega, by have a := hPL.1; have b := hxL; show _ + 200000 ≤ 700000 + (2663816 - ph); omega⟩ (fun rv d2 lo2 va2 kc ns hp => ?_)
                obtain ⟨rfl, rfl, rfl, rfl, rfl, rfl⟩ := hp
                show V X D CL A _ _ _ _ _ _ _ (.int (nI a) :: [])
                refine v_istore (lv' := [some (.ref (ob 2)), some (.ref (ob (1000 + i))), some (.int (nI wd)), some (.int v3), some (.int v4), some (.ref (ob (1000 + j2))), some (.int (nI nlL)), some (.int (nI a))]) hX d_S_layItems_92 (Nat.le_of_ble_eq_true rfl) rfl ?_
                refine v_aload hX d_S_layItems_94 rfl ?_
                refine v_iload hX d_S_layItems_96 rfl ?_
                refine v_atLine hX hSL hNL ht_j2.1 (x := (nI nlL)) fl_S_73 d_S_layItems_98 (fun va3 hS3 hN3 hf3 => ?_)
                refine v_aload_n hX d_S_layItems_101 rfl rfl ?_
                refine v_aload_n hX d_S_layItems_102 rfl rfl ?_
                refine v_get hX (1000 + i) (v := .int (tK T i)) inT0 (hN3.2 i hi).1 (hN3.2 i hi).2.1 (hN3.2 i hi).2.2.choose_spec.choose_spec.choose_spec.choose_spec rfl 1 (by decide) fl_S_41 rfl rfl d_S_layItems_103 ?_
                refine v_iload hX d_S_layItems_106 rfl ?_
                refine c_V hX 2 (rest := []) hl (c_S_addSign hS3 (tK T i) v4 (by omega)) ml_S_145 im_S_addSign se_S_addSign in_S cd_S_addSign rfl q_S_addSign ⟨Nat.le_trans (m := 200) (Nat.le_of_ble_eq_true rfl) (by show 200 ≤ 20 * (12 + 4 * k) + 20; omega), Nat.le_trans (m := 3400) (Nat.le_of_ble_eq_true rfl) (by show 3400 ≤ 300 * (12 + 4 * k) + 600; omega)⟩ hS3.set.1 hS3.set.2.1 hS3.set.2.2 rfl rfl rfl rfl (Nat.le_of_ble_eq_true rfl) d_S_layItems_108 ⟨by have a := hPL.2; have b := hxL; show _ + (120 + (2663816 - phL) / 16) ≤ 120 + (2663816 - ph) / 16; omega, by have a := hPL.1; have b := hxL; show _ + (700000 + (2663816 - phL)) ≤ 700000 + (2663816 - ph); omega⟩ (fun rv d2 lo4 va4 kc4 ns4 hp => ?_)
                obtain ⟨rfl, rfl, ⟨aa4, nl4, ph4, ⟨hu4, hv4⟩, hS4, hm4, hp4⟩, hf4⟩ := hp
                show V X D CL A _ _ _ _ _ _ _ []
                have hP4 : (ssL + ns4) + ph ≤ ph4 ∧ 16 * (csL + kc4) + ph ≤ ph4 := ⟨by have a := hPL.1; have b := hp4.1; omega, by have a := hPL.2; have b := hp4.2; omega⟩
                have hx4 : ph4 ≤ 2663816 := hS4.phi
                have hn4 : nl ≤ nl4 := Nat.le_trans hnL hm4
                have hN4 := hN3.fr hf4
                have hz4 := hS4.hnl
                refine v_aload_n hX d_S_layItems_111 rfl rfl ?_
                refine v_aload hX d_S_layItems_112 rfl ?_
                refine v_iload_n hX d_S_layItems_114 rfl rfl ?_
                refine v_aload_n hX d_S_layItems_115 rfl rfl ?_
                refine v_get hX 2 (v := .ref (ob 22)) inT2 hS4.set.1 hS4.set.2.1 hS4.set.2.2 rfl 2 (by decide) fl_S_25 rfl rfl d_S_layItems_116 ?_
                refine c_V hX 22 (rest := [.int (nI wd), .ref (ob (1000 + j2)), .ref (ob 2)]) hl (S_size22 hS4) ml_S_129 im_R_size se_R_size in_R cd_R_size rfl q_R_size ⟨Nat.le_trans (m := 200) (Nat.le_of_ble_eq_true rfl) (by show 200 ≤ 20 * (12 + 4 * k) + 20; omega), Nat.le_trans (m := 3400) (Nat.le_of_ble_eq_true rfl) (by show 3400 ≤ 300 * (12 + 4 * k) + 600; omega)⟩ (hS4.row 22 (by decide)).1 (hS4.row 22 (by decide)).2.1 (hS4.row 22 (by decide)).2.2.choose_spec rfl rfl rfl rfl (Nat.le_of_ble_eq_true rfl) d_S_layItems_119 ⟨by have a := hP4.2; have b := hx4; show _ + 100 ≤ 120 + (2663816 - ph) / 16; omega, by have a := hP4.1; have b := hx4; show _ + 200000 ≤ 700000 + (2663816 - ph); omega⟩ (fun rv d2 lo2 va2 kc ns hp => ?_)
                obtain ⟨rfl, rfl, rfl, rfl, rfl, rfl⟩ := hp
                show V X D CL A _ _ _ _ _ _ _ (.int (nI aa4) :: [.int (nI wd), .ref (ob (1000 + j2)), .ref (ob 2)])
                refine v_iload hX d_S_layItems_122 rfl ?_
                refine v_isubE (v := nI (aa4 - a)) hX d_S_layItems_124 (nI_sub (a := aa4) (b := a) (by omega)) ?_
                refine c_S hX (rest := [.ref (ob (1000 + j2)), .ref (ob 2)]) hl (c_S_narrower (wd := wd) (b := (aa4 - a)) ⟨by omega, by omega⟩ (by omega)) ml_S_135 sm_S_narrower in_S cd_S_narrower rfl q_S_narrower ⟨Nat.le_trans (m := 200) (Nat.le_of_ble_eq_true rfl) (by show 200 ≤ 20 * (12 + 4 * k) + 20; omega), Nat.le_trans (m := 3400) (Nat.le_of_ble_eq_true rfl) (by show 3400 ≤ 300 * (12 + 4 * k) + 600; omega)⟩ rfl rfl rfl (Nat.le_of_ble_eq_true rfl) d_S_layItems_125 ⟨by have a := hP4.2; have b := hx4; show _ + 100 ≤ 120 + (2663816 - ph) / 16; omega, by have a := hP4.1; have b := hx4; show _ + 200000 ≤ 700000 + (2663816 - ph); omega⟩ (fun rv d2 lo2 va2 kc ns hp => ?_)
                obtain ⟨⟨wn5, rfl, hw5a, hw5b⟩, rfl, rfl, rfl, rfl, rfl⟩ := hp
                show V X D CL A _ _ _ _ _ _ _ (.int (nI wn5) :: [.ref (ob (1000 + j2)), .ref (ob 2)])
                refine c_V hX 2 (rest := []) hl (H lo4 va4 aa4 nl4 ph4 wn5 j2 hS4 hN4 ht_j2.1 (by omega) (by omega) ⟨by omega, by omega⟩) ml_S_139 im_S_layParts se_S_layParts in_S cd_S_layParts rfl q_S_layParts ⟨by show 20 * (10 + 4 * k) + 20 + 1 ≤ 20 * (12 + 4 * k) + 20; omega, by show 8 + (7 + 11) + (300 * (10 + 4 * k) + 600) ≤ 300 * (12 + 4 * k) + 600; omega⟩ hS4.set.1 hS4.set.2.1 hS4.set.2.2 rfl rfl rfl rfl (Nat.le_of_ble_eq_true rfl) d_S_layItems_128 ⟨by have a := hP4.2; have b := hx4; show _ + (120 + (2663816 - ph4) / 16) ≤ 120 + (2663816 - ph) / 16; omega, by have a := hP4.1; have b := hx4; show _ + (700000 + (2663816 - ph4)) ≤ 700000 + (2663816 - ph); omega⟩ (fun rv d2 lo6 va6 kc6 ns6 hp => ?_)
                obtain ⟨rfl, rfl, ⟨nl6, ph6, hS6, hm6, hp6⟩, hN6, hf6⟩ := hp
                show V X D CL A _ _ _ _ _ _ _ []
                have hP6 : (ssL + ns4 + ns6) + ph ≤ ph6 ∧ 16 * (csL + kc4 + kc6) + ph ≤ ph6 := ⟨by have a := hP4.1; have b := hp6.1; omega, by have a := hP4.2; have b := hp6.2; omega⟩
                have hx6 : ph6 ≤ 2663816 := hS6.phi
                have hn6 : nl ≤ nl6 := Nat.le_trans hn4 hm6
                have hz6 := hS6.hnl
                refine v_aload_n hX d_S_layItems_131 rfl rfl ?_
                refine v_get hX 2 (v := .ref (ob td)) inT2 hS6.set.1 hS6.set.2.1 hS6.set.2.2 rfl 1 (by decide) fl_S_21 rfl rfl d_S_layItems_132 ?_
                refine c_V hX td (rest := []) hl (S_lines hS6) ml_S_37 im_T_lineCount se_T_lineCount in_T cd_T_lineCount rfl q_T_lineCount ⟨Nat.le_trans (m := 200) (Nat.le_of_ble_eq_true rfl) (by show 200 ≤ 20 * (12 + 4 * k) + 20; omega), Nat.le_trans (m := 3400) (Nat.le_of_ble_eq_true rfl) (by show 3400 ≤ 300 * (12 + 4 * k) + 600; omega)⟩ (hS6.sheet).choose_spec.1 (hS6.sheet).choose_spec.2.1 (hS6.sheet).choose_spec.2.2 rfl rfl rfl rfl (Nat.le_of_ble_eq_true rfl) d_S_layItems_135 ⟨by have a := hP6.2; have b := hx6; show _ + (120 + (2663816 - ph6) / 16) ≤ 120 + (2663816 - ph) / 16; omega, by have a := hP6.1; have b := hx6; show _ + (700000 + (2663816 - ph6)) ≤ 700000 + (2663816 - ph); omega⟩ (fun rv d2 lo2 va2 kc ns hp => ?_)
                obtain ⟨rfl, rfl, rfl, rfl, rfl, rfl⟩ := hp
                show V X D CL A _ _ _ _ _ _ _ (.int (nI nl6) :: [])
                refine v_iload hX d_S_layItems_138 rfl ?_
                refine v_icmp_ne hX d_S_layItems_140 (tgt := 147) (by decide) (fun c140 => ?_) (fun c140 => ?_)
                · have f140 : ¬ nl6 = nlL := fun z => c140 ((nI_eq (a := nl6) (b := nlL) (by omega) (by omega)).mpr z)
                  refine v_aload_n hX d_S_layItems_147 rfl rfl ?_
                  refine v_iload hX d_S_layItems_148 rfl ?_
                  refine c_V hX 2 (rest := []) hl (c_S_cutAhead hS6 (m := a) (by omega)) ml_S_142 im_S_cutAhead se_S_cutAhead in_S cd_S_cutAhead rfl q_S_cutAhead ⟨Nat.le_trans (m := 200) (Nat.le_of_ble_eq_true rfl) (by show 200 ≤ 20 * (12 + 4 * k) + 20; omega), Nat.le_trans (m := 3400) (Nat.le_of_ble_eq_true rfl) (by show 3400 ≤ 300 * (12 + 4 * k) + 600; omega)⟩ hS6.set.1 hS6.set.2.1 hS6.set.2.2 rfl rfl rfl rfl (Nat.le_of_ble_eq_true rfl) d_S_layItems_150 ⟨by have a := hP6.2; have b := hx6; show _ + (120 + (2663816 - ph6) / 16) ≤ 120 + (2663816 - ph) / 16; omega, by have a := hP6.1; have b := hx6; show _ + (700000 + (2663816 - ph6)) ≤ 700000 + (2663816 - ph); omega⟩ (fun rv d2 lo7 va7 kc7 ns7 hp => ?_)
                  obtain ⟨rfl, rfl, ⟨nl7, ph7, hS7, hm7, hp7⟩, hf7⟩ := hp
                  show V X D CL A _ _ _ _ _ _ _ []
                  have hP7 : (ssL + ns4 + ns6 + ns7) + ph ≤ ph7 ∧ 16 * (csL + kc4 + kc6 + kc7) + ph ≤ ph7 := ⟨by have a := hP6.1; have b := hp7.1; omega, by have a := hP6.2; have b := hp7.2; omega⟩
                  have hx7 : ph7 ≤ 2663816 := hS7.phi
                  have hn7 : nl ≤ nl7 := Nat.le_trans hn6 hm7
                  have hN7 := hN6.fr hf7
                  have hz7 := hS7.hnl
                  refine v_iinc (y := (v4 + 1)) (lv' := [some (.ref (ob 2)), some (.ref (ob (1000 + i))), some (.int (nI wd)), some (.int v3), some (.int (v4 + 1)), some (.ref (ob (1000 + j2))), some (.int (nI nlL)), some (.int (nI a))]) hX d_S_layItems_153 rfl (by rfl) rfl ?_
                  refine v_aload hX d_S_layItems_156 rfl ?_
                  refine v_get hX (1000 + j2) (v := orf ob (tN T j2)) inT0 (hN7.2 j2 ht_j2.1).1 (hN7.2 j2 ht_j2.1).2.1 (hN7.2 j2 ht_j2.1).2.2.choose_spec.choose_spec.choose_spec.choose_spec rfl 9 (by decide) fl_S_70 rfl rfl d_S_layItems_158 ?_
                  refine v_astoreQ (lv' := [some (.ref (ob 2)), some (.ref (ob (1000 + i))), some (.int (nI wd)), some (.int v3), some (.int (v4 + 1)), some (orf ob (tN T j2)), some (.int (nI nlL)), some (.int (nI a))]) hX ((tN T j2).map (fun i => ob (1000 + i))) d_S_layItems_161 (Nat.le_of_ble_eq_true rfl) rfl ?_
                  refine v_goto hX d_S_layItems_163 (tgt := 54) (by decide) ?_
                  exact ih54 (tN T j2) (v4 + 1) (some (.int (nI nlL))) (some (.int (nI a))) lo7 va7 (csL + kc4 + kc6 + kc7) (ssL + ns4 + ns6 + ns7) nl7 ph7 (om_next hT ht_j2.1 (by rw [hq2] at hk; exact hk)) (by have e8 : (min a aa4) = a := (by omega); rw [e8] at hS7; exact hS7) hN7 hn7 hP7 ((((hfL.trans hf3).trans hf4.toN).trans hf6).trans hf7.toN) (fun e he => ⟨(hT.1 j2 e ht_j2.1 he).2.1, (hT.1 j2 e ht_j2.1 he).2.2.trans ht_j2.2⟩)
                · have f140 : nl6 = nlL := (nI_eq (a := nl6) (b := nlL) (by omega) (by omega)).mp c140
                  refine v_aload_n hX d_S_layItems_143 rfl rfl ?_
                  refine c_V hX 2 (rest := []) hl (c_S_putLine hS6 (by omega) (by omega)) ml_S_122 im_S_putLine se_S_putLine in_S cd_S_putLine rfl q_S_putLine ⟨Nat.le_trans (m := 200) (Nat.le_of_ble_eq_true rfl) (by show 200 ≤ 20 * (12 + 4 * k) + 20; omega), Nat.le_trans (m := 3400) (Nat.le_of_ble_eq_true rfl) (by show 3400 ≤ 300 * (12 + 4 * k) + 600; omega)⟩ hS6.set.1 hS6.set.2.1 hS6.set.2.2 rfl rfl rfl rfl (Nat.le_of_ble_eq_true rfl) d_S_layItems_144 ⟨by have a := hP6.2; have b := hx6; show _ + (120 + (2663816 - ph6) / 16) ≤ 120 + (2663816 - ph) / 16; omega, by have a := hP6.1; have b := hx6; show _ + (700000 + (2663816 - ph6)) ≤ 700000 + (2663816 - ph); omega⟩ (fun rv d2 lo8 va8 kc8 ns8 hp => ?_)
                  obtain ⟨rfl, rfl, ⟨nl8, ph8, hS8, hm8, hp8⟩, hf8⟩ := hp
                  show V X D CL A _ _ _ _ _ _ _ []
                  have hP8 : (ssL + ns4 + ns6 + ns8) + ph ≤ ph8 ∧ 16 * (csL + kc4 + kc6 + kc8) + ph ≤ ph8 := ⟨by have a := hP6.1; have b := hp8.1; omega, by have a := hP6.2; have b := hp8.2; omega⟩
                  have hx8 : ph8 ≤ 2663816 := hS8.phi
                  have hn8 : nl ≤ nl8 := Nat.le_trans hn6 hm8
                  have hN8 := hN6.fr hf8
                  have hz8 := hS8.hnl
                  refine v_aload_n hX d_S_layItems_147 rfl rfl ?_
                  refine v_iload hX d_S_layItems_148 rfl ?_
                  refine c_V hX 2 (rest := []) hl (c_S_cutAhead hS8 (m := a) (by omega)) ml_S_142 im_S_cutAhead se_S_cutAhead in_S cd_S_cutAhead rfl q_S_cutAhead ⟨Nat.le_trans (m := 200) (Nat.le_of_ble_eq_true rfl) (by show 200 ≤ 20 * (12 + 4 * k) + 20; omega), Nat.le_trans (m := 3400) (Nat.le_of_ble_eq_true rfl) (by show 3400 ≤ 300 * (12 + 4 * k) + 600; omega)⟩ hS8.set.1 hS8.set.2.1 hS8.set.2.2 rfl rfl rfl rfl (Nat.le_of_ble_eq_true rfl) d_S_layItems_150 ⟨by have a := hP8.2; have b := hx8; show _ + (120 + (2663816 - ph8) / 16) ≤ 120 + (2663816 - ph) / 16; omega, by have a := hP8.1; have b := hx8; show _ + (700000 + (2663816 - ph8)) ≤ 700000 + (2663816 - ph); omega⟩ (fun rv d2 lo9 va9 kc9 ns9 hp => ?_)
                  obtain ⟨rfl, rfl, ⟨nl9, ph9, hS9, hm9, hp9⟩, hf9⟩ := hp
                  show V X D CL A _ _ _ _ _ _ _ []
                  have hP9 : (ssL + ns4 + ns6 + ns8 + ns9) + ph ≤ ph9 ∧ 16 * (csL + kc4 + kc6 + kc8 + kc9) + ph ≤ ph9 := ⟨by have a := hP8.1; have b := hp9.1; omega, by have a := hP8.2; have b := hp9.2; omega⟩
                  have hx9 : ph9 ≤ 2663816 := hS9.phi
                  have hn9 : nl ≤ nl9 := Nat.le_trans hn8 hm9
                  have hN9 := hN8.fr hf9
                  have hz9 := hS9.hnl
                  refine v_iinc (y := (v4 + 1)) (lv' := [some (.ref (ob 2)), some (.ref (ob (1000 + i))), some (.int (nI wd)), some (.int v3), some (.int (v4 + 1)), some (.ref (ob (1000 + j2))), some (.int (nI nlL)), some (.int (nI a))]) hX d_S_layItems_153 rfl (by rfl) rfl ?_
                  refine v_aload hX d_S_layItems_156 rfl ?_
                  refine v_get hX (1000 + j2) (v := orf ob (tN T j2)) inT0 (hN9.2 j2 ht_j2.1).1 (hN9.2 j2 ht_j2.1).2.1 (hN9.2 j2 ht_j2.1).2.2.choose_spec.choose_spec.choose_spec.choose_spec rfl 9 (by decide) fl_S_70 rfl rfl d_S_layItems_158 ?_
                  refine v_astoreQ (lv' := [some (.ref (ob 2)), some (.ref (ob (1000 + i))), some (.int (nI wd)), some (.int v3), some (.int (v4 + 1)), some (orf ob (tN T j2)), some (.int (nI nlL)), some (.int (nI a))]) hX ((tN T j2).map (fun i => ob (1000 + i))) d_S_layItems_161 (Nat.le_of_ble_eq_true rfl) rfl ?_
                  refine v_goto hX d_S_layItems_163 (tgt := 54) (by decide) ?_
                  exact ih54 (tN T j2) (v4 + 1) (some (.int (nI nlL))) (some (.int (nI a))) lo9 va9 (csL + kc4 + kc6 + kc8 + kc9) (ssL + ns4 + ns6 + ns8 + ns9) nl9 ph9 (om_next hT ht_j2.1 (by rw [hq2] at hk; exact hk)) (by have e8 : (min a aa4) = a := (by omega); rw [e8] at hS9; exact hS9) hN9 hn9 hP9 (((((hfL.trans hf3).trans hf4.toN).trans hf6).trans hf8.toN).trans hf9.toN) (fun e he => ⟨(hT.1 j2 e ht_j2.1 he).2.1, (hT.1 j2 e ht_j2.1 he).2.2.trans ht_j2.2⟩)
              · refine v_aload hX d_S_layItems_63 rfl ?_
                refine v_aload_n hX d_S_layItems_65 rfl rfl ?_
                refine v_get hX (1000 + i) (v := orf ob (tF T i)) inT0 (hNL.2 i hi).1 (hNL.2 i hi).2.1 (hNL.2 i hi).2.2.choose_spec.choose_spec.choose_spec.choose_spec rfl 7 (by decide) fl_S_51 rfl rfl d_S_layItems_66 ?_
                refine v_acmp_eq hX (some (ob (1000 + j2))) ((tF T i).map (fun i => ob (1000 + i))) d_S_layItems_69 (tgt := 76) (by decide) (fun cq69 => ?_) (fun cq69 => ?_)
                · have cz69 := 0
                  refine v_aload_n hX d_S_layItems_76 rfl rfl ?_
                  refine v_get hX 2 (v := .ref (ob td)) inT2 hSL.set.1 hSL.set.2.1 hSL.set.2.2 rfl 1 (by decide) fl_S_21 rfl rfl d_S_layItems_77 ?_
                  refine c_V hX td (rest := []) hl (S_lines hSL) ml_S_37 im_T_lineCount se_T_lineCount in_T cd_T_lineCount rfl q_T_lineCount ⟨Nat.le_trans (m := 200) (Nat.le_of_ble_eq_true rfl) (by show 200 ≤ 20 * (12 + 4 * k) + 20; omega), Nat.le_trans (m := 3400) (Nat.le_of_ble_eq_true rfl) (by show 3400 ≤ 300 * (12 + 4 * k) + 600; omega)⟩ (hSL.sheet).choose_spec.1 (hSL.sheet).choose_spec.2.1 (hSL.sheet).choose_spec.2.2 rfl rfl rfl rfl (Nat.le_of_ble_eq_true rfl) d_S_layItems_80 ⟨by have a := hPL.2; have b := hxL; show _ + (120 + (2663816 - phL) / 16) ≤ 120 + (2663816 - ph) / 16; omega, by have a := hPL.1; have b := hxL; show _ + (700000 + (2663816 - phL)) ≤ 700000 + (2663816 - ph); omega⟩ (fun rv d2 lo2 va2 kc ns hp => ?_)
                  obtain ⟨rfl, rfl, rfl, rfl, rfl, rfl⟩ := hp
                  show V X D CL A _ _ _ _ _ _ _ (.int (nI nlL) :: [])
                  refine v_istore (lv' := [some (.ref (ob 2)), some (.ref (ob (1000 + i))), some (.int (nI wd)), some (.int v3), some (.int v4), some (.ref (ob (1000 + j2))), some (.int (nI nlL)), o7]) hX d_S_layItems_83 (Nat.le_of_ble_eq_true rfl) rfl ?_
                  refine v_aload_n hX d_S_layItems_85 rfl rfl ?_
                  refine v_get hX 2 (v := .ref (ob 22)) inT2 hSL.set.1 hSL.set.2.1 hSL.set.2.2 rfl 2 (by decide) fl_S_25 rfl rfl d_S_layItems_86 ?_
                  refine c_V hX 22 (rest := []) hl (S_size22 hSL) ml_S_129 im_R_size se_R_size in_R cd_R_size rfl q_R_size ⟨Nat.le_trans (m := 200) (Nat.le_of_ble_eq_true rfl) (by show 200 ≤ 20 * (12 + 4 * k) + 20; omega), Nat.le_trans (m := 3400) (Nat.le_of_ble_eq_true rfl) (by show 3400 ≤ 300 * (12 + 4 * k) + 600; omega)⟩ (hSL.row 22 (by decide)).1 (hSL.row 22 (by decide)).2.1 (hSL.row 22 (by decide)).2.2.choose_spec rfl rfl rfl rfl (Nat.le_of_ble_eq_true rfl) d_S_layItems_89 ⟨by have a := hPL.2; have b := hxL; show _ + 100 ≤ 120 + (2663816 - ph) / 16; omega, by have a := hPL.1; have b := hxL; show _ + 200000 ≤ 700000 + (2663816 - ph); omega⟩ (fun rv d2 lo2 va2 kc ns hp => ?_)
                  obtain ⟨rfl, rfl, rfl, rfl, rfl, rfl⟩ := hp
                  show V X D CL A _ _ _ _ _ _ _ (.int (nI a) :: [])
                  refine v_istore (lv' := [some (.ref (ob 2)), some (.ref (ob (1000 + i))), some (.int (nI wd)), some (.int v3), some (.int v4), some (.ref (ob (1000 + j2))), some (.int (nI nlL)), some (.int (nI a))]) hX d_S_layItems_92 (Nat.le_of_ble_eq_true rfl) rfl ?_
                  refine v_aload hX d_S_layItems_94 rfl ?_
                  refine v_iload hX d_S_layItems_96 rfl ?_
                  refine v_atLine hX hSL hNL ht_j2.1 (x := (nI nlL)) fl_S_73 d_S_layItems_98 (fun va10 hS10 hN10 hf10 => ?_)
                  refine v_aload_n hX d_S_layItems_101 rfl rfl ?_
                  refine v_aload_n hX d_S_layItems_102 rfl rfl ?_
                  refine v_get hX (1000 + i) (v := .int (tK T i)) inT0 (hN10.2 i hi).1 (hN10.2 i hi).2.1 (hN10.2 i hi).2.2.choose_spec.choose_spec.choose_spec.choose_spec rfl 1 (by decide) fl_S_41 rfl rfl d_S_layItems_103 ?_
                  refine v_iload hX d_S_layItems_106 rfl ?_
                  refine c_V hX 2 (rest := []) hl (c_S_addSign hS10 (tK T i) v4 (by omega)) ml_S_145 im_S_addSign se_S_addSign in_S cd_S_addSign rfl q_S_addSign ⟨Nat.le_trans (m := 200) (Nat.le_of_ble_eq_true rfl) (by show 200 ≤ 20 * (12 + 4 * k) + 20; omega), Nat.le_trans (m := 3400) (Nat.le_of_ble_eq_true rfl) (by show 3400 ≤ 300 * (12 + 4 * k) + 600; omega)⟩ hS10.set.1 hS10.set.2.1 hS10.set.2.2 rfl rfl rfl rfl (Nat.le_of_ble_eq_true rfl) d_S_layItems_108 ⟨by have a := hPL.2; have b := hxL; show _ + (120 + (2663816 - phL) / 16) ≤ 120 + (2663816 - ph) / 16; omega, by have a := hPL.1; have b := hxL; show _ + (700000 + (2663816 - phL)) ≤ 700000 + (2663816 - ph); omega⟩ (fun rv d2 lo11 va11 kc11 ns11 hp => ?_)
                  obtain ⟨rfl, rfl, ⟨aa11, nl11, ph11, ⟨hu11, hv11⟩, hS11, hm11, hp11⟩, hf11⟩ := hp
                  show V X D CL A _ _ _ _ _ _ _ []
                  have hP11 : (ssL + ns11) + ph ≤ ph11 ∧ 16 * (csL + kc11) + ph ≤ ph11 := ⟨by have a := hPL.1; have b := hp11.1; omega, by have a := hPL.2; have b := hp11.2; omega⟩
                  have hx11 : ph11 ≤ 2663816 := hS11.phi
                  have hn11 : nl ≤ nl11 := Nat.le_trans hnL hm11
                  have hN11 := hN10.fr hf11
                  have hz11 := hS11.hnl
                  refine v_aload_n hX d_S_layItems_111 rfl rfl ?_
                  refine v_aload hX d_S_layItems_112 rfl ?_
                  refine v_iload_n hX d_S_layItems_114 rfl rfl ?_
                  refine v_aload_n hX d_S_layItems_115 rfl rfl ?_
                  refine v_get hX 2 (v := .ref (ob 22)) inT2 hS11.set.1 hS11.set.2.1 hS11.set.2.2 rfl 2 (by decide) fl_S_25 rfl rfl d_S_layItems_116 ?_
                  refine c_V hX 22 (rest := [.int (nI wd), .ref (ob (1000 + j2)), .ref (ob 2)]) hl (S_size22 hS11) ml_S_129 im_R_size se_R_size in_R cd_R_size rfl q_R_size ⟨Nat.le_trans (m := 200) (Nat.le_of_ble_eq_true rfl) (by show 200 ≤ 20 * (12 + 4 * k) + 20; omega), Nat.le_trans (m := 3400) (Nat.le_of_ble_eq_true rfl) (by show 3400 ≤ 300 * (12 + 4 * k) + 600; omega)⟩ (hS11.row 22 (by decide)).1 (hS11.row 22 (by decide)).2.1 (hS11.row 22 (by decide)).2.2.choose_spec rfl rfl rfl rfl (Nat.le_of_ble_eq_true rfl) d_S_layItems_119 ⟨by have a := hP11.2; have b := hx11; show _ + 100 ≤ 120 + (2663816 - ph) / 16; omega, by have a := hP11.1; have b := hx11; show _ + 200000 ≤ 700000 + (2663816 - ph); omega⟩ (fun rv d2 lo2 va2 kc ns hp => ?_)
                  obtain ⟨rfl, rfl, rfl, rfl, rfl, rfl⟩ := hp
                  show V X D CL A _ _ _ _ _ _ _ (.int (nI aa11) :: [.int (nI wd), .ref (ob (1000 + j2)), .ref (ob 2)])
                  refine v_iload hX d_S_layItems_122 rfl ?_
                  refine v_isubE (v := nI (aa11 - a)) hX d_S_layItems_124 (nI_sub (a := aa11) (b := a) (by omega)) ?_
                  refine c_S hX (rest := [.ref (ob (1000 + j2)), .ref (ob 2)]) hl (c_S_narrower (wd := wd) (b := (aa11 - a)) ⟨by omega, by omega⟩ (by omega)) ml_S_135 sm_S_narrower in_S cd_S_narrower rfl q_S_narrower ⟨Nat.le_trans (m := 200) (Nat.le_of_ble_eq_true rfl) (by show 200 ≤ 20 * (12 + 4 * k) + 20; omega), Nat.le_trans (m := 3400) (Nat.le_of_ble_eq_true rfl) (by show 3400 ≤ 300 * (12 + 4 * k) + 600; omega)⟩ rfl rfl rfl (Nat.le_of_ble_eq_true rfl) d_S_layItems_125 ⟨by have a := hP11.2; have b := hx11; show _ + 100 ≤ 120 + (2663816 - ph) / 16; omega, by have a := hP11.1; have b := hx11; show _ + 200000 ≤ 700000 + (2663816 - ph); omega⟩ (fun rv d2 lo2 va2 kc ns hp => ?_)
                  obtain ⟨⟨wn12, rfl, hw12a, hw12b⟩, rfl, rfl, rfl, rfl, rfl⟩ := hp
                  show V X D CL A _ _ _ _ _ _ _ (.int (nI wn12) :: [.ref (ob (1000 + j2)), .ref (ob 2)])
                  refine c_V hX 2 (rest := []) hl (H lo11 va11 aa11 nl11 ph11 wn12 j2 hS11 hN11 ht_j2.1 (by omega) (by omega) ⟨by omega, by omega⟩) ml_S_139 im_S_layParts se_S_layParts in_S cd_S_layParts rfl q_S_layParts ⟨by show 20 * (10 + 4 * k) + 20 + 1 ≤ 20 * (12 + 4 * k) + 20; omega, by show 8 + (7 + 11) + (300 * (10 + 4 * k) + 600) ≤ 300 * (12 + 4 * k) + 600; omega⟩ hS11.set.1 hS11.set.2.1 hS11.set.2.2 rfl rfl rfl rfl (Nat.le_of_ble_eq_true rfl) d_S_layItems_128 ⟨by have a := hP11.2; have b := hx11; show _ + (120 + (2663816 - ph11) / 16) ≤ 120 + (2663816 - ph) / 16; omega, by have a := hP11.1; have b := hx11; show _ + (700000 + (2663816 - ph11)) ≤ 700000 + (2663816 - ph); omega⟩ (fun rv d2 lo13 va13 kc13 ns13 hp => ?_)
                  obtain ⟨rfl, rfl, ⟨nl13, ph13, hS13, hm13, hp13⟩, hN13, hf13⟩ := hp
                  show V X D CL A _ _ _ _ _ _ _ []
                  have hP13 : (ssL + ns11 + ns13) + ph ≤ ph13 ∧ 16 * (csL + kc11 + kc13) + ph ≤ ph13 := ⟨by have a := hP11.1; have b := hp13.1; omega, by have a := hP11.2; have b := hp13.2; omega⟩
                  have hx13 : ph13 ≤ 2663816 := hS13.phi
                  have hn13 : nl ≤ nl13 := Nat.le_trans hn11 hm13
                  have hz13 := hS13.hnl
                  refine v_aload_n hX d_S_layItems_131 rfl rfl ?_
                  refine v_get hX 2 (v := .ref (ob td)) inT2 hS13.set.1 hS13.set.2.1 hS13.set.2.2 rfl 1 (by decide) fl_S_21 rfl rfl d_S_layItems_132 ?_
                  refine c_V hX td (rest := []) hl (S_lines hS13) ml_S_37 im_T_lineCount se_T_lineCount in_T cd_T_lineCount rfl q_T_lineCount ⟨Nat.le_trans (m := 200) (Nat.le_of_ble_eq_true rfl) (by show 200 ≤ 20 * (12 + 4 * k) + 20; omega), Nat.le_trans (m := 3400) (Nat.le_of_ble_eq_true rfl) (by show 3400 ≤ 300 * (12 + 4 * k) + 600; omega)⟩ (hS13.sheet).choose_spec.1 (hS13.sheet).choose_spec.2.1 (hS13.sheet).choose_spec.2.2 rfl rfl rfl rfl (Nat.le_of_ble_eq_true rfl) d_S_layItems_135 ⟨by have a := hP13.2; have b := hx13; show _ + (120 + (2663816 - ph13) / 16) ≤ 120 + (2663816 - ph) / 16; omega, by have a := hP13.1; have b := hx13; show _ + (700000 + (2663816 - ph13)) ≤ 700000 + (2663816 - ph); omega⟩ (fun rv d2 lo2 va2 kc ns hp => ?_)
                  obtain ⟨rfl, rfl, rfl, rfl, rfl, rfl⟩ := hp
                  show V X D CL A _ _ _ _ _ _ _ (.int (nI nl13) :: [])
                  refine v_iload hX d_S_layItems_138 rfl ?_
                  refine v_icmp_ne hX d_S_layItems_140 (tgt := 147) (by decide) (fun c140 => ?_) (fun c140 => ?_)
                  · have f140 : ¬ nl13 = nlL := fun z => c140 ((nI_eq (a := nl13) (b := nlL) (by omega) (by omega)).mpr z)
                    refine v_aload_n hX d_S_layItems_147 rfl rfl ?_
                    refine v_iload hX d_S_layItems_148 rfl ?_
                    refine c_V hX 2 (rest := []) hl (c_S_cutAhead hS13 (m := a) (by omega)) ml_S_142 im_S_cutAhead se_S_cutAhead in_S cd_S_cutAhead rfl q_S_cutAhead ⟨Nat.le_trans (m := 200) (Nat.le_of_ble_eq_true rfl) (by show 200 ≤ 20 * (12 + 4 * k) + 20; omega), Nat.le_trans (m := 3400) (Nat.le_of_ble_eq_true rfl) (by show 3400 ≤ 300 * (12 + 4 * k) + 600; omega)⟩ hS13.set.1 hS13.set.2.1 hS13.set.2.2 rfl rfl rfl rfl (Nat.le_of_ble_eq_true rfl) d_S_layItems_150 ⟨by have a := hP13.2; have b := hx13; show _ + (120 + (2663816 - ph13) / 16) ≤ 120 + (2663816 - ph) / 16; omega, by have a := hP13.1; have b := hx13; show _ + (700000 + (2663816 - ph13)) ≤ 700000 + (2663816 - ph); omega⟩ (fun rv d2 lo14 va14 kc14 ns14 hp => ?_)
                    obtain ⟨rfl, rfl, ⟨nl14, ph14, hS14, hm14, hp14⟩, hf14⟩ := hp
                    show V X D CL A _ _ _ _ _ _ _ []
                    have hP14 : (ssL + ns11 + ns13 + ns14) + ph ≤ ph14 ∧ 16 * (csL + kc11 + kc13 + kc14) + ph ≤ ph14 := ⟨by have a := hP13.1; have b := hp14.1; omega, by have a := hP13.2; have b := hp14.2; omega⟩
                    have hx14 : ph14 ≤ 2663816 := hS14.phi
                    have hn14 : nl ≤ nl14 := Nat.le_trans hn13 hm14
                    have hN14 := hN13.fr hf14
                    have hz14 := hS14.hnl
                    refine v_iinc (y := (v4 + 1)) (lv' := [some (.ref (ob 2)), some (.ref (ob (1000 + i))), some (.int (nI wd)), some (.int v3), some (.int (v4 + 1)), some (.ref (ob (1000 + j2))), some (.int (nI nlL)), some (.int (nI a))]) hX d_S_layItems_153 rfl (by rfl) rfl ?_
                    refine v_aload hX d_S_layItems_156 rfl ?_
                    refine v_get hX (1000 + j2) (v := orf ob (tN T j2)) inT0 (hN14.2 j2 ht_j2.1).1 (hN14.2 j2 ht_j2.1).2.1 (hN14.2 j2 ht_j2.1).2.2.choose_spec.choose_spec.choose_spec.choose_spec rfl 9 (by decide) fl_S_70 rfl rfl d_S_layItems_158 ?_
                    refine v_astoreQ (lv' := [some (.ref (ob 2)), some (.ref (ob (1000 + i))), some (.int (nI wd)), some (.int v3), some (.int (v4 + 1)), some (orf ob (tN T j2)), some (.int (nI nlL)), some (.int (nI a))]) hX ((tN T j2).map (fun i => ob (1000 + i))) d_S_layItems_161 (Nat.le_of_ble_eq_true rfl) rfl ?_
                    refine v_goto hX d_S_layItems_163 (tgt := 54) (by decide) ?_
                    exact ih54 (tN T j2) (v4 + 1) (some (.int (nI nlL))) (some (.int (nI a))) lo14 va14 (csL + kc11 + kc13 + kc14) (ssL + ns11 + ns13 + ns14) nl14 ph14 (om_next hT ht_j2.1 (by rw [hq2] at hk; exact hk)) (by have e8 : (min a aa11) = a := (by omega); rw [e8] at hS14; exact hS14) hN14 hn14 hP14 ((((hfL.trans hf10).trans hf11.toN).trans hf13).trans hf14.toN) (fun e he => ⟨(hT.1 j2 e ht_j2.1 he).2.1, (hT.1 j2 e ht_j2.1 he).2.2.trans ht_j2.2⟩)
                  · have f140 : nl13 = nlL := (nI_eq (a := nl13) (b := nlL) (by omega) (by omega)).mp c140
                    refine v_aload_n hX d_S_layItems_143 rfl rfl ?_
                    refine c_V hX 2 (rest := []) hl (c_S_putLine hS13 (by omega) (by omega)) ml_S_122 im_S_putLine se_S_putLine in_S cd_S_putLine rfl q_S_putLine ⟨Nat.le_trans (m := 200) (Nat.le_of_ble_eq_true rfl) (by show 200 ≤ 20 * (12 + 4 * k) + 20; omega), Nat.le_trans (m := 3400) (Nat.le_of_ble_eq_true rfl) (by show 3400 ≤ 300 * (12 + 4 * k) + 600; omega)⟩ hS13.set.1 hS13.set.2.1 hS13.set.2.2 rfl rfl rfl rfl (Nat.le_of_ble_eq_true rfl) d_S_layItems_144 ⟨by have a := hP13.2; have b := hx13; show _ + (120 + (2663816 - ph13) / 16) ≤ 120 + (2663816 - ph) / 16; omega, by have a := hP13.1; have b := hx13; show _ + (700000 + (2663816 - ph13)) ≤ 700000 + (2663816 - ph); omega⟩ (fun rv d2 lo15 va15 kc15 ns15 hp => ?_)
                    obtain ⟨rfl, rfl, ⟨nl15, ph15, hS15, hm15, hp15⟩, hf15⟩ := hp
                    show V X D CL A _ _ _ _ _ _ _ []
                    have hP15 : (ssL + ns11 + ns13 + ns15) + ph ≤ ph15 ∧ 16 * (csL + kc11 + kc13 + kc15) + ph ≤ ph15 := ⟨by have a := hP13.1; have b := hp15.1; omega, by have a := hP13.2; have b := hp15.2; omega⟩
                    have hx15 : ph15 ≤ 2663816 := hS15.phi
                    have hn15 : nl ≤ nl15 := Nat.le_trans hn13 hm15
                    have hN15 := hN13.fr hf15
                    have hz15 := hS15.hnl
                    refine v_aload_n hX d_S_layItems_147 rfl rfl ?_
                    refine v_iload hX d_S_layItems_148 rfl ?_
                    refine c_V hX 2 (rest := []) hl (c_S_cutAhead hS15 (m := a) (by omega)) ml_S_142 im_S_cutAhead se_S_cutAhead in_S cd_S_cutAhead rfl q_S_cutAhead ⟨Nat.le_trans (m := 200) (Nat.le_of_ble_eq_true rfl) (by show 200 ≤ 20 * (12 + 4 * k) + 20; omega), Nat.le_trans (m := 3400) (Nat.le_of_ble_eq_true rfl) (by show 3400 ≤ 300 * (12 + 4 * k) + 600; omega)⟩ hS15.set.1 hS15.set.2.1 hS15.set.2.2 rfl rfl rfl rfl (Nat.le_of_ble_eq_true rfl) d_S_layItems_150 ⟨by have a := hP15.2; have b := hx15; show _ + (120 + (2663816 - ph15) / 16) ≤ 120 + (2663816 - ph) / 16; omega, by have a := hP15.1; have b := hx15; show _ + (700000 + (2663816 - ph15)) ≤ 700000 + (2663816 - ph); omega⟩ (fun rv d2 lo16 va16 kc16 ns16 hp => ?_)
                    obtain ⟨rfl, rfl, ⟨nl16, ph16, hS16, hm16, hp16⟩, hf16⟩ := hp
                    show V X D CL A _ _ _ _ _ _ _ []
                    have hP16 : (ssL + ns11 + ns13 + ns15 + ns16) + ph ≤ ph16 ∧ 16 * (csL + kc11 + kc13 + kc15 + kc16) + ph ≤ ph16 := ⟨by have a := hP15.1; have b := hp16.1; omega, by have a := hP15.2; have b := hp16.2; omega⟩
                    have hx16 : ph16 ≤ 2663816 := hS16.phi
                    have hn16 : nl ≤ nl16 := Nat.le_trans hn15 hm16
                    have hN16 := hN15.fr hf16
                    have hz16 := hS16.hnl
                    refine v_iinc (y := (v4 + 1)) (lv' := [some (.ref (ob 2)), some (.ref (ob (1000 + i))), some (.int (nI wd)), some (.int v3), some (.int (v4 + 1)), some (.ref (ob (1000 + j2))), some (.int (nI nlL)), some (.int (nI a))]) hX d_S_layItems_153 rfl (by rfl) rfl ?_
                    refine v_aload hX d_S_layItems_156 rfl ?_
                    refine v_get hX (1000 + j2) (v := orf ob (tN T j2)) inT0 (hN16.2 j2 ht_j2.1).1 (hN16.2 j2 ht_j2.1).2.1 (hN16.2 j2 ht_j2.1).2.2.choose_spec.choose_spec.choose_spec.choose_spec rfl 9 (by decide) fl_S_70 rfl rfl d_S_layItems_158 ?_
                    refine v_astoreQ (lv' := [some (.ref (ob 2)), some (.ref (ob (1000 + i))), some (.int (nI wd)), some (.int v3), some (.int (v4 + 1)), some (orf ob (tN T j2)), some (.int (nI nlL)), some (.int (nI a))]) hX ((tN T j2).map (fun i => ob (1000 + i))) d_S_layItems_161 (Nat.le_of_ble_eq_true rfl) rfl ?_
                    refine v_goto hX d_S_layItems_163 (tgt := 54) (by decide) ?_
                    exact ih54 (tN T j2) (v4 + 1) (some (.int (nI nlL))) (some (.int (nI a))) lo16 va16 (csL + kc11 + kc13 + kc15 + kc16) (ssL + ns11 + ns13 + ns15 + ns16) nl16 ph16 (om_next hT ht_j2.1 (by rw [hq2] at hk; exact hk)) (by have e8 : (min a aa11) = a := (by omega); rw [e8] at hS16; exact hS16) hN16 hn16 hP16 (((((hfL.trans hf10).trans hf11.toN).trans hf13).trans hf15.toN).trans hf16.toN) (fun e he => ⟨(hT.1 j2 e ht_j2.1 he).2.1, (hT.1 j2 e ht_j2.1 he).2.2.trans ht_j2.2⟩)
                · have cz69 := 0
                  refine v_aload_n hX d_S_layItems_72 rfl rfl ?_
                  refine c_V hX 2 (rest := []) hl (c_S_putBetween hSL (by omega) (by omega)) ml_S_63 im_S_putBetween se_S_putBetween in_S cd_S_putBetween rfl q_S_putBetween ⟨Nat.le_trans (m := 200) (Nat.le_of_ble_eq_true rfl) (by show 200 ≤ 20 * (12 + 4 * k) + 20; omega), Nat.le_trans (m := 3400) (Nat.le_of_ble_eq_true rfl) (by show 3400 ≤ 300 * (12 + 4 * k) + 600; omega)⟩ hSL.set.1 hSL.set.2.1 hSL.set.2.2 rfl rfl rfl rfl (Nat.le_of_ble_eq_true rfl) d_S_layItems_73 ⟨by have a := hPL.2; have b := hxL; show _ + (120 + (2663816 - phL) / 16) ≤ 120 + (2663816 - ph) / 16; omega, by have a := hPL.1; have b := hxL; show _ + (700000 + (2663816 - phL)) ≤ 700000 + (2663816 - ph); omega⟩ (fun rv d2 lo17 va17 kc17 ns17 hp => ?_)
                  obtain ⟨rfl, rfl, ⟨nl17, ph17, hS17, hm17, hp17⟩, hf17⟩ := hp
                  show V X D CL A _ _ _ _ _ _ _ []
                  have hP17 : (ssL + ns17) + ph ≤ ph17 ∧ 16 * (csL + kc17) + ph ≤ ph17 := ⟨by have a := hPL.1; have b := hp17.1; omega, by have a := hPL.2; have b := hp17.2; omega⟩
                  have hx17 : ph17 ≤ 2663816 := hS17.phi
                  have hn17 : nl ≤ nl17 := Nat.le_trans hnL hm17
                  have hN17 := hNL.fr hf17
                  have hz17 := hS17.hnl
                  refine v_aload_n hX d_S_layItems_76 rfl rfl ?_
                  refine v_get hX 2 (v := .ref (ob td)) inT2 hS17.set.1 hS17.set.2.1 hS17.set.2.2 rfl 1 (by decide) fl_S_21 rfl rfl d_S_layItems_77 ?_
                  refine c_V hX td (rest := []) hl (S_lines hS17) ml_S_37 im_T_lineCount se_T_lineCount in_T cd_T_lineCount rfl q_T_lineCount ⟨Nat.le_trans (m := 200) (Nat.le_of_ble_eq_true rfl) (by show 200 ≤ 20 * (12 + 4 * k) + 20; omega), Nat.le_trans (m := 3400) (Nat.le_of_ble_eq_true rfl) (by show 3400 ≤ 300 * (12 + 4 * k) + 600; omega)⟩ (hS17.sheet).choose_spec.1 (hS17.sheet).choose_spec.2.1 (hS17.sheet).choose_spec.2.2 rfl rfl rfl rfl (Nat.le_of_ble_eq_true rfl) d_S_layItems_80 ⟨by have a := hP17.2; have b := hx17; show _ + (120 + (2663816 - ph17) / 16) ≤ 120 + (2663816 - ph) / 16; omega, by have a := hP17.1; have b := hx17; show _ + (700000 + (2663816 - ph17)) ≤ 700000 + (2663816 - ph); omega⟩ (fun rv d2 lo2 va2 kc ns hp => ?_)
                  obtain ⟨rfl, rfl, rfl, rfl, rfl, rfl⟩ := hp
                  show V X D CL A _ _ _ _ _ _ _ (.int (nI nl17) :: [])
                  refine v_istore (lv' := [some (.ref (ob 2)), some (.ref (ob (1000 + i))), some (.int (nI wd)), some (.int v3), some (.int v4), some (.ref (ob (1000 + j2))), some (.int (nI nl17)), o7]) hX d_S_layItems_83 (Nat.le_of_ble_eq_true rfl) rfl ?_
                  refine v_aload_n hX d_S_layItems_85 rfl rfl ?_
                  refine v_get hX 2 (v := .ref (ob 22)) inT2 hS17.set.1 hS17.set.2.1 hS17.set.2.2 rfl 2 (by decide) fl_S_25 rfl rfl d_S_layItems_86 ?_
                  refine c_V hX 22 (rest := []) hl (S_size22 hS17) ml_S_129 im_R_size se_R_size in_R cd_R_size rfl q_R_size ⟨Nat.le_trans (m := 200) (Nat.le_of_ble_eq_true rfl) (by show 200 ≤ 20 * (12 + 4 * k) + 20; omega), Nat.le_trans (m := 3400) (Nat.le_of_ble_eq_true rfl) (by show 3400 ≤ 300 * (12 + 4 * k) + 600; omega)⟩ (hS17.row 22 (by decide)).1 (hS17.row 22 (by decide)).2.1 (hS17.row 22 (by decide)).2.2.choose_spec rfl rfl rfl rfl (Nat.le_of_ble_eq_true rfl) d_S_layItems_89 ⟨by have a := hP17.2; have b := hx17; show _ + 100 ≤ 120 + (2663816 - ph) / 16; omega, by have a := hP17.1; have b := hx17; show _ + 200000 ≤ 700000 + (2663816 - ph); omega⟩ (fun rv d2 lo2 va2 kc ns hp => ?_)
                  obtain ⟨rfl, rfl, rfl, rfl, rfl, rfl⟩ := hp
                  show V X D CL A _ _ _ _ _ _ _ (.int (nI a) :: [])
                  refine v_istore (lv' := [some (.ref (ob 2)), some (.ref (ob (1000 + i))), some (.int (nI wd)), some (.int v3), some (.int v4), some (.ref (ob (1000 + j2))), some (.int (nI nl17)), some (.int (nI a))]) hX d_S_layItems_92 (Nat.le_of_ble_eq_true rfl) rfl ?_
                  refine v_aload hX d_S_layItems_94 rfl ?_
                  refine v_iload hX d_S_layItems_96 rfl ?_
                  refine v_atLine hX hS17 hN17 ht_j2.1 (x := (nI nl17)) fl_S_73 d_S_layItems_98 (fun va18 hS18 hN18 hf18 => ?_)
                  refine v_aload_n hX d_S_layItems_101 rfl rfl ?_
                  refine v_aload_n hX d_S_layItems_102 rfl rfl ?_
                  refine v_get hX (1000 + i) (v := .int (tK T i)) inT0 (hN18.2 i hi).1 (hN18.2 i hi).2.1 (hN18.2 i hi).2.2.choose_spec.choose_spec.choose_spec.choose_spec rfl 1 (by decide) fl_S_41 rfl rfl d_S_layItems_103 ?_
                  refine v_iload hX d_S_layItems_106 rfl ?_
                  refine c_V hX 2 (rest := []) hl (c_S_addSign hS18 (tK T i) v4 (by omega)) ml_S_145 im_S_addSign se_S_addSign in_S cd_S_addSign rfl q_S_addSign ⟨Nat.le_trans (m := 200) (Nat.le_of_ble_eq_true rfl) (by show 200 ≤ 20 * (12 + 4 * k) + 20; omega), Nat.le_trans (m := 3400) (Nat.le_of_ble_eq_true rfl) (by show 3400 ≤ 300 * (12 + 4 * k) + 600; omega)⟩ hS18.set.1 hS18.set.2.1 hS18.set.2.2 rfl rfl rfl rfl (Nat.le_of_ble_eq_true rfl) d_S_layItems_108 ⟨by have a := hP17.2; have b := hx17; show _ + (120 + (2663816 - ph17) / 16) ≤ 120 + (2663816 - ph) / 16; omega, by have a := hP17.1; have b := hx17; show _ + (700000 + (2663816 - ph17)) ≤ 700000 + (2663816 - ph); omega⟩ (fun rv d2 lo19 va19 kc19 ns19 hp => ?_)
                  obtain ⟨rfl, rfl, ⟨aa19, nl19, ph19, ⟨hu19, hv19⟩, hS19, hm19, hp19⟩, hf19⟩ := hp
                  show V X D CL A _ _ _ _ _ _ _ []
                  have hP19 : (ssL + ns17 + ns19) + ph ≤ ph19 ∧ 16 * (csL + kc17 + kc19) + ph ≤ ph19 := ⟨by have a := hP17.1; have b := hp19.1; omega, by have a := hP17.2; have b := hp19.2; omega⟩
                  have hx19 : ph19 ≤ 2663816 := hS19.phi
                  have hn19 : nl ≤ nl19 := Nat.le_trans hn17 hm19
                  have hN19 := hN18.fr hf19
                  have hz19 := hS19.hnl
                  refine v_aload_n hX d_S_layItems_111 rfl rfl ?_
                  refine v_aload hX d_S_layItems_112 rfl ?_
                  refine v_iload_n hX d_S_layItems_114 rfl rfl ?_
                  refine v_aload_n hX d_S_layItems_115 rfl rfl ?_
                  refine v_get hX 2 (v := .ref (ob 22)) inT2 hS19.set.1 hS19.set.2.1 hS19.set.2.2 rfl 2 (by decide) fl_S_25 rfl rfl d_S_layItems_116 ?_
                  refine c_V hX 22 (rest := [.int (nI wd), .ref (ob (1000 + j2)), .ref (ob 2)]) hl (S_size22 hS19) ml_S_129 im_R_size se_R_size in_R cd_R_size rfl q_R_size ⟨Nat.le_trans (m := 200) (Nat.le_of_ble_eq_true rfl) (by show 200 ≤ 20 * (12 + 4 * k) + 20; omega), Nat.le_trans (m := 3400) (Nat.le_of_ble_eq_true rfl) (by show 3400 ≤ 300 * (12 + 4 * k) + 600; omega)⟩ (hS19.row 22 (by decide)).1 (hS19.row 22 (by decide)).2.1 (hS19.row 22 (by decide)).2.2.choose_spec rfl rfl rfl rfl (Nat.le_of_ble_eq_true rfl) d_S_layItems_119 ⟨by have a := hP19.2; have b := hx19; show _ + 100 ≤ 120 + (2663816 - ph) / 16; omega, by have a := hP19.1; have b := hx19; show _ + 200000 ≤ 700000 + (2663816 - ph); omega⟩ (fun rv d2 lo2 va2 kc ns hp => ?_)
                  obtain ⟨rfl, rfl, rfl, rfl, rfl, rfl⟩ := hp
                  show V X D CL A _ _ _ _ _ _ _ (.int (nI aa19) :: [.int (nI wd), .ref (ob (1000 + j2)), .ref (ob 2)])
                  refine v_iload hX d_S_layItems_122 rfl ?_
                  refine v_isubE (v := nI (aa19 - a)) hX d_S_layItems_124 (nI_sub (a := aa19) (b := a) (by omega)) ?_
                  refine c_S hX (rest := [.ref (ob (1000 + j2)), .ref (ob 2)]) hl (c_S_narrower (wd := wd) (b := (aa19 - a)) ⟨by omega, by omega⟩ (by omega)) ml_S_135 sm_S_narrower in_S cd_S_narrower rfl q_S_narrower ⟨Nat.le_trans (m := 200) (Nat.le_of_ble_eq_true rfl) (by show 200 ≤ 20 * (12 + 4 * k) + 20; omega), Nat.le_trans (m := 3400) (Nat.le_of_ble_eq_true rfl) (by show 3400 ≤ 300 * (12 + 4 * k) + 600; omega)⟩ rfl rfl rfl (Nat.le_of_ble_eq_true rfl) d_S_layItems_125 ⟨by have a := hP19.2; have b := hx19; show _ + 100 ≤ 120 + (2663816 - ph) / 16; omega, by have a := hP19.1; have b := hx19; show _ + 200000 ≤ 700000 + (2663816 - ph); omega⟩ (fun rv d2 lo2 va2 kc ns hp => ?_)
                  obtain ⟨⟨wn20, rfl, hw20a, hw20b⟩, rfl, rfl, rfl, rfl, rfl⟩ := hp
                  show V X D CL A _ _ _ _ _ _ _ (.int (nI wn20) :: [.ref (ob (1000 + j2)), .ref (ob 2)])
                  refine c_V hX 2 (rest := []) hl (H lo19 va19 aa19 nl19 ph19 wn20 j2 hS19 hN19 ht_j2.1 (by omega) (by omega) ⟨by omega, by omega⟩) ml_S_139 im_S_layParts se_S_layParts in_S cd_S_layParts rfl q_S_layParts ⟨by show 20 * (10 + 4 * k) + 20 + 1 ≤ 20 * (12 + 4 * k) + 20; omega, by show 8 + (7 + 11) + (300 * (10 + 4 * k) + 600) ≤ 300 * (12 + 4 * k) + 600; omega⟩ hS19.set.1 hS19.set.2.1 hS19.set.2.2 rfl rfl rfl rfl (Nat.le_of_ble_eq_true rfl) d_S_layItems_128 ⟨by have a := hP19.2; have b := hx19; show _ + (120 + (2663816 - ph19) / 16) ≤ 120 + (2663816 - ph) / 16; omega, by have a := hP19.1; have b := hx19; show _ + (700000 + (2663816 - ph19)) ≤ 700000 + (2663816 - ph); omega⟩ (fun rv d2 lo21 va21 kc21 ns21 hp => ?_)
                  obtain ⟨rfl, rfl, ⟨nl21, ph21, hS21, hm21, hp21⟩, hN21, hf21⟩ := hp
                  show V X D CL A _ _ _ _ _ _ _ []
                  have hP21 : (ssL + ns17 + ns19 + ns21) + ph ≤ ph21 ∧ 16 * (csL + kc17 + kc19 + kc21) + ph ≤ ph21 := ⟨by have a := hP19.1; have b := hp21.1; omega, by have a := hP19.2; have b := hp21.2; omega⟩
                  have hx21 : ph21 ≤ 2663816 := hS21.phi
                  have hn21 : nl ≤ nl21 := Nat.le_trans hn19 hm21
                  have hz21 := hS21.hnl
                  refine v_aload_n hX d_S_layItems_131 rfl rfl ?_
                  refine v_get hX 2 (v := .ref (ob td)) inT2 hS21.set.1 hS21.set.2.1 hS21.set.2.2 rfl 1 (by decide) fl_S_21 rfl rfl d_S_layItems_132 ?_
                  refine c_V hX td (rest := []) hl (S_lines hS21) ml_S_37 im_T_lineCount se_T_lineCount in_T cd_T_lineCount rfl q_T_lineCount ⟨Nat.le_trans (m := 200) (Nat.le_of_ble_eq_true rfl) (by show 200 ≤ 20 * (12 + 4 * k) + 20; omega), Nat.le_trans (m := 3400) (Nat.le_of_ble_eq_true rfl) (by show 3400 ≤ 300 * (12 + 4 * k) + 600; omega)⟩ (hS21.sheet).choose_spec.1 (hS21.sheet).choose_spec.2.1 (hS21.sheet).choose_spec.2.2 rfl rfl rfl rfl (Nat.le_of_ble_eq_true rfl) d_S_layItems_135 ⟨by have a := hP21.2; have b := hx21; show _ + (120 + (2663816 - ph21) / 16) ≤ 120 + (2663816 - ph) / 16; omega, by have a := hP21.1; have b := hx21; show _ + (700000 + (2663816 - ph21)) ≤ 700000 + (2663816 - ph); omega⟩ (fun rv d2 lo2 va2 kc ns hp => ?_)
                  obtain ⟨rfl, rfl, rfl, rfl, rfl, rfl⟩ := hp
                  show V X D CL A _ _ _ _ _ _ _ (.int (nI nl21) :: [])
                  refine v_iload hX d_S_layItems_138 rfl ?_
                  refine v_icmp_ne hX d_S_layItems_140 (tgt := 147) (by decide) (fun c140 => ?_) (fun c140 => ?_)
                  · have f140 : ¬ nl21 = nl17 := fun z => c140 ((nI_eq (a := nl21) (b := nl17) (by omega) (by omega)).mpr z)
                    refine v_aload_n hX d_S_layItems_147 rfl rfl ?_
                    refine v_iload hX d_S_layItems_148 rfl ?_
                    refine c_V hX 2 (rest := []) hl (c_S_cutAhead hS21 (m := a) (by omega)) ml_S_142 im_S_cutAhead se_S_cutAhead in_S cd_S_cutAhead rfl q_S_cutAhead ⟨Nat.le_trans (m := 200) (Nat.le_of_ble_eq_true rfl) (by show 200 ≤ 20 * (12 + 4 * k) + 20; omega), Nat.le_trans (m := 3400) (Nat.le_of_ble_eq_true rfl) (by show 3400 ≤ 300 * (12 + 4 * k) + 600; omega)⟩ hS21.set.1 hS21.set.2.1 hS21.set.2.2 rfl rfl rfl rfl (Nat.le_of_ble_eq_true rfl) d_S_layItems_150 ⟨by have a := hP21.2; have b := hx21; show _ + (120 + (2663816 - ph21) / 16) ≤ 120 + (2663816 - ph) / 16; omega, by have a := hP21.1; have b := hx21; show _ + (700000 + (2663816 - ph21)) ≤ 700000 + (2663816 - ph); omega⟩ (fun rv d2 lo22 va22 kc22 ns22 hp => ?_)
                    obtain ⟨rfl, rfl, ⟨nl22, ph22, hS22, hm22, hp22⟩, hf22⟩ := hp
                    show V X D CL A _ _ _ _ _ _ _ []
                    have hP22 : (ssL + ns17 + ns19 + ns21 + ns22) + ph ≤ ph22 ∧ 16 * (csL + kc17 + kc19 + kc21 + kc22) + ph ≤ ph22 := ⟨by have a := hP21.1; have b := hp22.1; omega, by have a := hP21.2; have b := hp22.2; omega⟩
                    have hx22 : ph22 ≤ 2663816 := hS22.phi
                    have hn22 : nl ≤ nl22 := Nat.le_trans hn21 hm22
                    have hN22 := hN21.fr hf22
                    have hz22 := hS22.hnl
                    refine v_iinc (y := (v4 + 1)) (lv' := [some (.ref (ob 2)), some (.ref (ob (1000 + i))), some (.int (nI wd)), some (.int v3), some (.int (v4 + 1)), some (.ref (ob (1000 + j2))), some (.int (nI nl17)), some (.int (nI a))]) hX d_S_layItems_153 rfl (by rfl) rfl ?_
                    refine v_aload hX d_S_layItems_156 rfl ?_
                    refine v_get hX (1000 + j2) (v := orf ob (tN T j2)) inT0 (hN22.2 j2 ht_j2.1).1 (hN22.2 j2 ht_j2.1).2.1 (hN22.2 j2 ht_j2.1).2.2.choose_spec.choose_spec.choose_spec.choose_spec rfl 9 (by decide) fl_S_70 rfl rfl d_S_layItems_158 ?_
                    refine v_astoreQ (lv' := [some (.ref (ob 2)), some (.ref (ob (1000 + i))), some (.int (nI wd)), some (.int v3), some (.int (v4 + 1)), some (orf ob (tN T j2)), some (.int (nI nl17)), some (.int (nI a))]) hX ((tN T j2).map (fun i => ob (1000 + i))) d_S_layItems_161 (Nat.le_of_ble_eq_true rfl) rfl ?_
                    refine v_goto hX d_S_layItems_163 (tgt := 54) (by decide) ?_
                    exact ih54 (tN T j2) (v4 + 1) (some (.int (nI nl17))) (some (.int (nI a))) lo22 va22 (csL + kc17 + kc19 + kc21 + kc22) (ssL + ns17 + ns19 + ns21 + ns22) nl22 ph22 (om_next hT ht_j2.1 (by rw [hq2] at hk; exact hk)) (by have e8 : (min a aa19) = a := (by omega); rw [e8] at hS22; exact hS22) hN22 hn22 hP22 (((((hfL.trans hf17.toN).trans hf18).trans hf19.toN).trans hf21).trans hf22.toN) (fun e he => ⟨(hT.1 j2 e ht_j2.1 he).2.1, (hT.1 j2 e ht_j2.1 he).2.2.trans ht_j2.2⟩)
                  · have f140 : nl21 = nl17 := (nI_eq (a := nl21) (b := nl17) (by omega) (by omega)).mp c140
                    refine v_aload_n hX d_S_layItems_143 rfl rfl ?_
                    refine c_V hX 2 (rest := []) hl (c_S_putLine hS21 (by omega) (by omega)) ml_S_122 im_S_putLine se_S_putLine in_S cd_S_putLine rfl q_S_putLine ⟨Nat.le_trans (m := 200) (Nat.le_of_ble_eq_true rfl) (by show 200 ≤ 20 * (12 + 4 * k) + 20; omega), Nat.le_trans (m := 3400) (Nat.le_of_ble_eq_true rfl) (by show 3400 ≤ 300 * (12 + 4 * k) + 600; omega)⟩ hS21.set.1 hS21.set.2.1 hS21.set.2.2 rfl rfl rfl rfl (Nat.le_of_ble_eq_true rfl) d_S_layItems_144 ⟨by have a := hP21.2; have b := hx21; show _ + (120 + (2663816 - ph21) / 16) ≤ 120 + (2663816 - ph) / 16; omega, by have a := hP21.1; have b := hx21; show _ + (700000 + (2663816 - ph21)) ≤ 700000 + (2663816 - ph); omega⟩ (fun rv d2 lo23 va23 kc23 ns23 hp => ?_)
                    obtain ⟨rfl, rfl, ⟨nl23, ph23, hS23, hm23, hp23⟩, hf23⟩ := hp
                    show V X D CL A _ _ _ _ _ _ _ []
                    have hP23 : (ssL + ns17 + ns19 + ns21 + ns23) + ph ≤ ph23 ∧ 16 * (csL + kc17 + kc19 + kc21 + kc23) + ph ≤ ph23 := ⟨by have a := hP21.1; have b := hp23.1; omega, by have a := hP21.2; have b := hp23.2; omega⟩
                    have hx23 : ph23 ≤ 2663816 := hS23.phi
                    have hn23 : nl ≤ nl23 := Nat.le_trans hn21 hm23
                    have hN23 := hN21.fr hf23
                    have hz23 := hS23.hnl
                    refine v_aload_n hX d_S_layItems_147 rfl rfl ?_
                    refine v_iload hX d_S_layItems_148 rfl ?_
                    refine c_V hX 2 (rest := []) hl (c_S_cutAhead hS23 (m := a) (by omega)) ml_S_142 im_S_cutAhead se_S_cutAhead in_S cd_S_cutAhead rfl q_S_cutAhead ⟨Nat.le_trans (m := 200) (Nat.le_of_ble_eq_true rfl) (by show 200 ≤ 20 * (12 + 4 * k) + 20; omega), Nat.le_trans (m := 3400) (Nat.le_of_ble_eq_true rfl) (by show 3400 ≤ 300 * (12 + 4 * k) + 600; omega)⟩ hS23.set.1 hS23.set.2.1 hS23.set.2.2 rfl rfl rfl rfl (Nat.le_of_ble_eq_true rfl) d_S_layItems_150 ⟨by have a := hP23.2; have b := hx23; show _ + (120 + (2663816 - ph23) / 16) ≤ 120 + (2663816 - ph) / 16; omega, by have a := hP23.1; have b := hx23; show _ + (700000 + (2663816 - ph23)) ≤ 700000 + (2663816 - ph); omega⟩ (fun rv d2 lo24 va24 kc24 ns24 hp => ?_)
                    obtain ⟨rfl, rfl, ⟨nl24, ph24, hS24, hm24, hp24⟩, hf24⟩ := hp
                    show V X D CL A _ _ _ _ _ _ _ []
                    have hP24 : (ssL + ns17 + ns19 + ns21 + ns23 + ns24) + ph ≤ ph24 ∧ 16 * (csL + kc17 + kc19 + kc21 + kc23 + kc24) + ph ≤ ph24 := ⟨by have a := hP23.1; have b := hp24.1; omega, by have a := hP23.2; have b := hp24.2; omega⟩
                    have hx24 : ph24 ≤ 2663816 := hS24.phi
                    have hn24 : nl ≤ nl24 := Nat.le_trans hn23 hm24
                    have hN24 := hN23.fr hf24
                    have hz24 := hS24.hnl
                    refine v_iinc (y := (v4 + 1)) (lv' := [some (.ref (ob 2)), some (.ref (ob (1000 + i))), some (.int (nI wd)), some (.int v3), some (.int (v4 + 1)), some (.ref (ob (1000 + j2))), some (.int (nI nl17)), some (.int (nI a))]) hX d_S_layItems_153 rfl (by rfl) rfl ?_
                    refine v_aload hX d_S_layItems_156 rfl ?_
                    refine v_get hX (1000 + j2) (v := orf ob (tN T j2)) inT0 (hN24.2 j2 ht_j2.1).1 (hN24.2 j2 ht_j2.1).2.1 (hN24.2 j2 ht_j2.1).2.2.choose_spec.choose_spec.choose_spec.choose_spec rfl 9 (by decide) fl_S_70 rfl rfl d_S_layItems_158 ?_
                    refine v_astoreQ (lv' := [some (.ref (ob 2)), some (.ref (ob (1000 + i))), some (.int (nI wd)), some (.int v3), some (.int (v4 + 1)), some (orf ob (tN T j2)), some (.int (nI nl17)), some (.int (nI a))]) hX ((tN T j2).map (fun i => ob (1000 + i))) d_S_layItems_161 (Nat.le_of_ble_eq_true rfl) rfl ?_
                    refine v_goto hX d_S_layItems_163 (tgt := 54) (by decide) ?_
                    exact ih54 (tN T j2) (v4 + 1) (some (.int (nI nl17))) (some (.int (nI a))) lo24 va24 (csL + kc17 + kc19 + kc21 + kc23 + kc24) (ssL + ns17 + ns19 + ns21 + ns23 + ns24) nl24 ph24 (om_next hT ht_j2.1 (by rw [hq2] at hk; exact hk)) (by have e8 : (min a aa19) = a := (by omega); rw [e8] at hS24; exact hS24) hN24 hn24 hP24 ((((((hfL.trans hf17.toN).trans hf18).trans hf19.toN).trans hf21).trans hf23.toN).trans hf24.toN) (fun e he => ⟨(hT.1 j2 e ht_j2.1 he).2.1, (hT.1 j2 e ht_j2.1 he).2.2.trans ht_j2.2⟩)
        exact loop54 _ _ (tV T i) none none loc val (0) (0) nl ph (Nat.lt_succ_self _) hS hN (Nat.le_refl nl) hP frN.rf (fun e he => ⟨(hT.2.1 i e hi he).2.1, (hT.2.1 i e hi he).2.2⟩)
      · have ht_j1 := hO j1 hq1
        have hdd_j1 := (hT.2.2 j1 ht_j1.1).2
        refine v_ifnull hX (some (ob (1000 + j1))) d_S_layItems_10 (tgt := 42) (by decide) (fun h => nomatch h) (fun _ _ => ?_)
        refine v_iload_n hX d_S_layItems_13 rfl rfl ?_
        refine v_if_ne hX d_S_layItems_14 (tgt := 26) (by decide) (fun c14 => ?_) (fun c14 => ?_)
        · refine v_iconst (v := 1) hX d_S_layItems_26 (by decide) ?_
          refine v_goto hX d_S_layItems_27 (tgt := 31) (by decide) ?_
          refine v_istore_n (lv' := [some (.ref (ob 2)), some (.ref (ob (1000 + i))), some (.int (nI wd)), some (.int 1), some (.ref (ob (1000 + j1))), none, none, none]) hX d_S_layItems_31 rfl (Nat.le_of_ble_eq_true rfl) rfl ?_
          refine v_aload hX d_S_layItems_32 rfl ?_
          refine v_get hX (1000 + j1) (v := orf ob (tN T j1)) inT0 (hN.2 j1 ht_j1.1).1 (hN.2 j1 ht_j1.1).2.1 (hN.2 j1 ht_j1.1).2.2.choose_spec.choose_spec.choose_spec.choose_spec rfl 9 (by decide) fl_S_70 rfl rfl d_S_layItems_34 ?_
          refine v_astoreQ (lv' := [some (.ref (ob 2)), some (.ref (ob (1000 + i))), some (.int (nI wd)), some (.int 1), some (orf ob (tN T j1)), none, none, none]) hX ((tN T j1).map (fun i => ob (1000 + i))) d_S_layItems_37 (Nat.le_of_ble_eq_true rfl) rfl ?_
          refine v_goto hX d_S_layItems_39 (tgt := 8) (by decide) ?_
          exact ih (tN T j1) 1 (om_next hT ht_j1.1 (by rw [hq1] at hk; exact hk)) (fun e he => ⟨(hT.1 j1 e ht_j1.1 he).2.1, (hT.1 j1 e ht_j1.1 he).2.2.trans ht_j1.2⟩)
        · refine v_aload_n hX d_S_layItems_17 rfl rfl ?_
          refine v_aload hX d_S_layItems_18 rfl ?_
          refine c_V hX 2 (rest := []) hl (c_S_holdsPar hS hN hT ht_j1.1) ml_S_47 im_S_holdsParagraph se_S_holdsParagraph in_S cd_S_holdsParagraph rfl q_S_holdsParagraph ⟨Nat.le_trans (m := 200) (Nat.le_of_ble_eq_true rfl) (by show 200 ≤ 20 * (12 + 4 * k) + 20; omega), Nat.le_trans (m := 3400) (Nat.le_of_ble_eq_true rfl) (by show 3400 ≤ 300 * (12 + 4 * k) + 600; omega)⟩ hS.set.1 hS.set.2.1 hS.set.2.2 rfl rfl rfl rfl (Nat.le_of_ble_eq_true rfl) d_S_layItems_20 ⟨by have a := hP.2; have b := hx; show _ + (120 + (2663816 - ph) / 16) ≤ 120 + (2663816 - ph) / 16; omega, by have a := hP.1; have b := hx; show _ + (700000 + (2663816 - ph)) ≤ 700000 + (2663816 - ph); omega⟩ (fun rv d2 lo2 va2 kc ns hp => ?_)
          obtain ⟨⟨v25, rfl, hv25⟩, rfl, rfl, rfl, rfl, rfl⟩ := hp
          show V X D CL A _ _ _ _ _ _ _ (.int v25 :: [])
          refine v_if_eq hX d_S_layItems_23 (tgt := 30) (by decide) (fun c23 => ?_) (fun c23 => ?_)
          · refine v_iconst (v := 0) hX d_S_layItems_30 (by decide) ?_
            refine v_istore_n (lv' := [some (.ref (ob 2)), some (.ref (ob (1000 + i))), some (.int (nI wd)), some (.int 0), some (.ref (ob (1000 + j1))), none, none, none]) hX d_S_layItems_31 rfl (Nat.le_of_ble_eq_true rfl) rfl ?_
            refine v_aload hX d_S_layItems_32 rfl ?_
            refine v_get hX (1000 + j1) (v := orf ob (tN T j1)) inT0 (hN.2 j1 ht_j1.1).1 (hN.2 j1 ht_j1.1).2.1 (hN.2 j1 ht_j1.1).2.2.choose_spec.choose_spec.choose_spec.choose_spec rfl 9 (by decide) fl_S_70 rfl rfl d_S_layItems_34 ?_
            refine v_astoreQ (lv' := [some (.ref (ob 2)), some (.ref (ob (1000 + i))), some (.int (nI wd)), some (.int 0), some (orf ob (tN T j1)), none, none, none]) hX ((tN T j1).map (fun i => ob (1000 + i))) d_S_layItems_37 (Nat.le_of_ble_eq_true rfl) rfl ?_
            refine v_goto hX d_S_layItems_39 (tgt := 8) (by decide) ?_
            exact ih (tN T j1) 0 (om_next hT ht_j1.1 (by rw [hq1] at hk; exact hk)) (fun e he => ⟨(hT.1 j1 e ht_j1.1 he).2.1, (hT.1 j1 e ht_j1.1 he).2.2.trans ht_j1.2⟩)
          · refine v_iconst (v := 1) hX d_S_layItems_26 (by decide) ?_
            refine v_goto hX d_S_layItems_27 (tgt := 31) (by decide) ?_
            refine v_istore_n (lv' := [some (.ref (ob 2)), some (.ref (ob (1000 + i))), some (.int (nI wd)), some (.int 1), some (.ref (ob (1000 + j1))), none, none, none]) hX d_S_layItems_31 rfl (Nat.le_of_ble_eq_true rfl) rfl ?_
            refine v_aload hX d_S_layItems_32 rfl ?_
            refine v_get hX (1000 + j1) (v := orf ob (tN T j1)) inT0 (hN.2 j1 ht_j1.1).1 (hN.2 j1 ht_j1.1).2.1 (hN.2 j1 ht_j1.1).2.2.choose_spec.choose_spec.choose_spec.choose_spec rfl 9 (by decide) fl_S_70 rfl rfl d_S_layItems_34 ?_
            refine v_astoreQ (lv' := [some (.ref (ob 2)), some (.ref (ob (1000 + i))), some (.int (nI wd)), some (.int 1), some (orf ob (tN T j1)), none, none, none]) hX ((tN T j1).map (fun i => ob (1000 + i))) d_S_layItems_37 (Nat.le_of_ble_eq_true rfl) rfl ?_
            refine v_goto hX d_S_layItems_39 (tgt := 8) (by decide) ?_
            exact ih (tN T j1) 1 (om_next hT ht_j1.1 (by rw [hq1] at hk; exact hk)) (fun e he => ⟨(hT.1 j1 e ht_j1.1 he).2.1, (hT.1 j1 e ht_j1.1 he).2.2.trans ht_j1.2⟩)
  exact loop _ _ _ (Nat.lt_succ_self _) (fun e he => ⟨(hT.2.1 i e hi he).2.1, (hT.2.1 i e hi he).2.2⟩)
