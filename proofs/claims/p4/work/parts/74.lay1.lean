set_option maxHeartbeats 4000000 in
set_option maxRecDepth 100000 in
theorem c_S_narrower {l : Launch} {D : va_G} {A : Nat → Prop} {cI cB cZ cJ cN : ClassId} {dom : Nat → Prop} {loc : Nat → Nat} {val : Nat → va_E} {wd b : Nat} (h : 4 ≤ wd ∧ wd ≤ 60) (hb : b ≤ 200) : kM l y_S_narrower (Cond.code y_S_narrower b_S_narrower 2 (some FieldType.int) :: TT) (rmL 1) D CL (TY cI cB cZ cJ cN) A [.int (nI wd), .int (nI b)] dom loc val (fun rv d lo va kc ns => (∃ wd2, rv = some (.int (nI wd2)) ∧ 4 ≤ wd2 ∧ wd2 ≤ wd) ∧ dom = d ∧ loc = lo ∧ val = va ∧ kc = 0 ∧ ns = 0) := by
  refine kM_of (lv0 := [some (.int (nI wd)), some (.int (nI b))]) (own := "ProsePages$Setter") (by decide) rfl (List.forall_mem_cons.mpr ⟨rfl, List.forall_mem_cons.mpr ⟨rfl, fun _ h => nomatch h⟩⟩) (Nat.le_of_ble_eq_true rfl) rfl (Nat.le_of_ble_eq_true rfl) (fun X hl hX hE hin0 => ?_)
  obtain ⟨wd2, e9, h4, h5⟩ := narrow_ok h hb
  refine v_iconst (v := 4) hX d_S_narrower_0 (by decide) ?_
  refine v_iload_n hX d_S_narrower_1 rfl rfl ?_
  refine v_iload_n hX d_S_narrower_2 rfl rfl ?_
  refine v_isub hX d_S_narrower_3 ?_
  refine v_mmax hX ml_S_174 sm_H_max in_H k_maxcode ⟨(Nat.le_of_ble_eq_true rfl), (Nat.le_of_ble_eq_true rfl)⟩ rfl rfl (Nat.le_of_ble_eq_true rfl) (Nat.le_of_ble_eq_true rfl) (Nat.le_of_ble_eq_true rfl) d_S_narrower_4 ?_
  exact v_iret hX hE d_S_narrower_7 (Nat.le_of_ble_eq_true rfl) (Nat.le_of_ble_eq_true rfl) ⟨⟨wd2, congrArg (fun z => some (Value.int z)) e9, h4, h5⟩, rfl, rfl, rfl, rfl, rfl⟩
set_option maxHeartbeats 4000000 in
set_option maxRecDepth 100000 in
theorem c_S_layCode {l : Launch} {D : va_G} {A : Nat → Prop} {cI cB cZ cJ cN : ClassId} {ob : Nat → Nat} {td w c a al nl pf tl ph : Nat} {dom : Nat → Prop} {loc : Nat → Nat} {val : Nat → va_E} (hS : LayS cI ob td 0 0 a al nl pf tl ph dom loc val) {T : TR} {i : Nat} (hi9 : i < 300) {fr9 to9 at9 on9 : Int32} (hd9 : dom (1000 + i)) (hl9 : loc (1000 + i) = ob (1000 + i)) (hv9 : val (1000 + i) = nodeC ob T i fr9 to9 at9 on9) {wd : Nat} (hwd : 4 ≤ wd ∧ wd ≤ 60) (ha : a ≤ 144) : kM l y_S_layCode (Cond.code y_S_layCode b_S_layCode 5 none :: TT) (rmP 4 ph) D CL (TY cI cB cZ cJ cN) A [.ref (ob 2), .ref (ob (1000 + i)), .int (nI wd)] dom loc val (PSt cI ob td 0 0 a al nl pf tl ph dom loc val) := by
  refine kM_of (lv0 := [some (.ref (ob 2)), some (.ref (ob (1000 + i))), some (.int (nI wd)), none, none]) (own := "ProsePages$Setter") (by decide) rfl (List.forall_mem_cons.mpr ⟨rfl, List.forall_mem_cons.mpr ⟨rfl, List.forall_mem_cons.mpr ⟨rfl, fun _ h => nomatch h⟩⟩⟩) (Nat.le_of_ble_eq_true rfl) rfl (Nat.le_of_ble_eq_true rfl) (fun X hl hX hE hin0 => ?_)
  have hP : 0 + ph ≤ ph ∧ 16 * 0 + ph ≤ ph := ⟨by omega, by omega⟩
  have hx : ph ≤ 2663816 := hS.phi
  refine v_aload_n hX d_S_layCode_0 rfl rfl ?_
  refine v_get hX (1000 + i) (v := .int fr9) inT0 hd9 hl9 hv9 rfl 4 (by decide) fl_S_83 rfl rfl d_S_layCode_1 ?_
  refine v_istore_n (lv' := [some (.ref (ob 2)), some (.ref (ob (1000 + i))), some (.int (nI wd)), some (.int fr9), none]) hX d_S_layCode_4 rfl (Nat.le_of_ble_eq_true rfl) rfl ?_
  have loop : ∀ (m9 : Nat) (k : Int32) (o4 : Option Value) (loL : Nat → Nat) (vaL : Nat → va_E) (csL ssL cL nlL phL : Nat), (to9.toInt - k.toInt).toNat < m9 → LayS cI ob td 0 cL a al nlL pf tl phL dom loL vaL → (cL ≤ wd) → nl ≤ nlL → (ssL + ph ≤ phL ∧ 16 * csL + ph ≤ phL) → frL loc val loL vaL → V X D CL A dom loL vaL csL ssL 5 [some (.ref (ob 2)), some (.ref (ob (1000 + i))), some (.int (nI wd)), some (.int k), o4] [] := by
    intro m9
    induction m9 with
    | zero => intro k o4 loL vaL csL ssL cL nlL phL hk hSL hcL hnL hPL hfL; exact absurd hk (Nat.not_lt_zero _)
    | succ m9 ih =>
      intro k o4 loL vaL csL ssL cL nlL phL hk hSL hcL hnL hPL hfL
      have hxL : phL ≤ 2663816 := hSL.phi
      have hcL2 := hcL
      refine v_iload_n hX d_S_layCode_5 rfl rfl ?_
      refine v_aload_n hX d_S_layCode_6 rfl rfl ?_
      refine v_get hX (1000 + i) (v := .int to9) inT0 hd9 ((hfL (1000 + i) (by omega) (by omega)).1.trans hl9) ((hfL (1000 + i) (by omega) (by omega)).2.trans hv9) rfl 5 (by decide) fl_S_86 rfl rfl d_S_layCode_7 ?_
      refine v_icmp_ge hX d_S_layCode_10 (tgt := 67) (by decide) (fun c10 => ?_) (fun c10 => ?_)
      · refine v_aload_n hX d_S_layCode_67 rfl rfl ?_
        refine v_get hX 2 (v := .ref (ob 28)) inT2 hSL.set.1 hSL.set.2.1 hSL.set.2.2 rfl 5 (by decide) fl_S_34 rfl rfl d_S_layCode_68 ?_
        refine c_V hX 28 (rest := []) hl (S_size28 hSL) ml_S_129 im_R_size se_R_size in_R cd_R_size rfl q_R_size ⟨(Nat.le_of_ble_eq_true rfl), (Nat.le_of_ble_eq_true rfl)⟩ (hSL.row 28 (by decide)).1 (hSL.row 28 (by decide)).2.1 (hSL.row 28 (by decide)).2.2.choose_spec rfl rfl rfl rfl (Nat.le_of_ble_eq_true rfl) d_S_layCode_71 ⟨by have a := hPL.2; have b := hxL; show _ + 100 ≤ 120 + (2663816 - ph) / 16; omega, by have a := hPL.1; have b := hxL; show _ + 200000 ≤ 700000 + (2663816 - ph); omega⟩ (fun rv d2 lo2 va2 kc ns hp => ?_)
        obtain ⟨rfl, rfl, rfl, rfl, rfl, rfl⟩ := hp
        show V X D CL A _ _ _ _ _ _ _ (.int (nI cL) :: [])
        refine v_if_le hX d_S_layCode_74 (tgt := 81) (by decide) (fun c74 => ?_) (fun c74 => ?_)
        · have f74 : cL ≤ 0 := (nI_leI (a := cL) (b := 0) (by omega) (by omega)).mp c74
          exact v_vret hX hE d_S_layCode_81 (by have a := hPL.2; have b := hxL; show _ ≤ 120 + (2663816 - ph) / 16; omega) (by have a := hPL.1; have b := hxL; show _ ≤ 700000 + (2663816 - ph); omega) ⟨rfl, rfl, ⟨nlL, phL, (by have e9 : cL = 0 := (by omega); rw [e9] at hSL; exact hSL), hnL, by have a := hPL.1; have b := hPL.2; exact ⟨by omega, by omega⟩⟩, hfL⟩
        · have f74 : ¬ cL ≤ 0 := fun z => c74 ((nI_leI (a := cL) (b := 0) (by omega) (by omega)).mpr z)
          refine v_aload_n hX d_S_layCode_77 rfl rfl ?_
          refine c_V hX 2 (rest := []) hl (c_S_putLine hSL (by omega) (by omega)) ml_S_122 im_S_putLine se_S_putLine in_S cd_S_putLine rfl q_S_putLine ⟨(Nat.le_of_ble_eq_true rfl), (Nat.le_of_ble_eq_true rfl)⟩ hSL.set.1 hSL.set.2.1 hSL.set.2.2 rfl rfl rfl rfl (Nat.le_of_ble_eq_true rfl) d_S_layCode_78 ⟨by have a := hPL.2; have b := hxL; show _ + (120 + (2663816 - phL) / 16) ≤ 120 + (2663816 - ph) / 16; omega, by have a := hPL.1; have b := hxL; show _ + (700000 + (2663816 - phL)) ≤ 700000 + (2663816 - ph); omega⟩ (fun rv d2 lo1 va1 kc1 ns1 hp => ?_)
          obtain ⟨rfl, rfl, ⟨nl1, ph1, hS1, hm1, hp1⟩, hf1⟩ := hp
          show V X D CL A _ _ _ _ _ _ _ []
          have hP1 : (ssL + ns1) + ph ≤ ph1 ∧ 16 * (csL + kc1) + ph ≤ ph1 := ⟨by have a := hPL.1; have b := hp1.1; omega, by have a := hPL.2; have b := hp1.2; omega⟩
          have hx1 : ph1 ≤ 2663816 := hS1.phi
          have hn1 : nl ≤ nl1 := Nat.le_trans hnL hm1
          exact v_vret hX hE d_S_layCode_81 (by have a := hP1.2; have b := hx1; show _ ≤ 120 + (2663816 - ph) / 16; omega) (by have a := hP1.1; have b := hx1; show _ ≤ 700000 + (2663816 - ph); omega) ⟨rfl, rfl, ⟨nl1, ph1, hS1, hn1, by have a := hP1.1; have b := hP1.2; exact ⟨by omega, by omega⟩⟩, (hfL.trans hf1)⟩
      · refine v_aload_n hX d_S_layCode_13 rfl rfl ?_
        refine v_get hX 2 (v := .ref (ob 3)) inT2 hSL.set.1 hSL.set.2.1 hSL.set.2.2 rfl 0 (by decide) fl_S_12 rfl rfl d_S_layCode_14 ?_
        refine v_iload_n hX d_S_layCode_17 rfl rfl ?_
        refine c_V hX 3 (rest := []) hl (S_get hSL 3 (by decide) k) ml_S_125 im_R_get se_R_get in_R cd_R_get rfl q_R_get ⟨(Nat.le_of_ble_eq_true rfl), (Nat.le_of_ble_eq_true rfl)⟩ (hSL.row 3 (by decide)).1 (hSL.row 3 (by decide)).2.1 (hSL.row 3 (by decide)).2.2.choose_spec rfl rfl rfl rfl (Nat.le_of_ble_eq_true rfl) d_S_layCode_18 ⟨by have a := hPL.2; have b := hxL; show _ + 100 ≤ 120 + (2663816 - ph) / 16; omega, by have a := hPL.1; have b := hxL; show _ + 200000 ≤ 700000 + (2663816 - ph); omega⟩ (fun rv d2 lo2 va2 kc ns hp => ?_)
        obtain ⟨⟨v2, rfl⟩, rfl, rfl, rfl, rfl, rfl⟩ := hp
        show V X D CL A _ _ _ _ _ _ _ (.int v2 :: [])
        refine v_istore (lv' := [some (.ref (ob 2)), some (.ref (ob (1000 + i))), some (.int (nI wd)), some (.int k), some (.int v2)]) hX d_S_layCode_21 (Nat.le_of_ble_eq_true rfl) rfl ?_
        refine v_iload hX d_S_layCode_23 rfl ?_
        refine v_bipush (v := 10) hX d_S_layCode_25 (by decide) ?_
        refine v_icmp_ne hX d_S_layCode_27 (tgt := 37) (by decide) (fun c27 => ?_) (fun c27 => ?_)
        · refine v_aload_n hX d_S_layCode_37 rfl rfl ?_
          refine v_get hX 2 (v := .ref (ob 28)) inT2 hSL.set.1 hSL.set.2.1 hSL.set.2.2 rfl 5 (by decide) fl_S_34 rfl rfl d_S_layCode_38 ?_
          refine c_V hX 28 (rest := []) hl (S_size28 hSL) ml_S_129 im_R_size se_R_size in_R cd_R_size rfl q_R_size ⟨(Nat.le_of_ble_eq_true rfl), (Nat.le_of_ble_eq_true rfl)⟩ (hSL.row 28 (by decide)).1 (hSL.row 28 (by decide)).2.1 (hSL.row 28 (by decide)).2.2.choose_spec rfl rfl rfl rfl (Nat.le_of_ble_eq_true rfl) d_S_layCode_41 ⟨by have a := hPL.2; have b := hxL; show _ + 100 ≤ 120 + (2663816 - ph) / 16; omega, by have a := hPL.1; have b := hxL; show _ + 200000 ≤ 700000 + (2663816 - ph); omega⟩ (fun rv d2 lo2 va2 kc ns hp => ?_)
          obtain ⟨rfl, rfl, rfl, rfl, rfl, rfl⟩ := hp
          show V X D CL A _ _ _ _ _ _ _ (.int (nI cL) :: [])
          refine v_iload_n hX d_S_layCode_44 rfl rfl ?_
          refine v_icmp_lt hX d_S_layCode_45 (tgt := 52) (by decide) (fun c45 => ?_) (fun c45 => ?_)
          · have f45 : cL < wd := (nI_ltI (a := cL) (b := wd) (by omega) (by omega)).mp c45
            refine v_aload_n hX d_S_layCode_52 rfl rfl ?_
            refine v_get hX 2 (v := .ref (ob 28)) inT2 hSL.set.1 hSL.set.2.1 hSL.set.2.2 rfl 5 (by decide) fl_S_34 rfl rfl d_S_layCode_53 ?_
            refine v_iload hX d_S_layCode_56 rfl ?_
            refine c_V hX 28 (rest := []) hl (S_add28 hSL v2 (by omega)) ml_S_119 im_R_add se_R_add in_R cd_R_add rfl q_R_add ⟨(Nat.le_of_ble_eq_true rfl), (Nat.le_of_ble_eq_true rfl)⟩ (hSL.row 28 (by decide)).1 (hSL.row 28 (by decide)).2.1 (hSL.row 28 (by decide)).2.2.choose_spec rfl rfl rfl rfl (Nat.le_of_ble_eq_true rfl) d_S_layCode_58 ⟨by have a := hPL.2; have b := hxL; show _ + 20 ≤ 120 + (2663816 - ph) / 16; omega, by have a := hPL.1; have b := hxL; show _ + 700000 ≤ 700000 + (2663816 - ph); omega⟩ (fun rv d2 lo3 va3 kc3 ns3 hp => ?_)
            obtain ⟨rfl, rfl, ⟨nl3, ph3, hS3, hm3, hp3⟩, hf3⟩ := hp
            show V X D CL A _ _ _ _ _ _ _ []
            have hP3 : (ssL + ns3) + ph ≤ ph3 ∧ 16 * (csL + kc3) + ph ≤ ph3 := ⟨by have a := hPL.1; have b := hp3.1; omega, by have a := hPL.2; have b := hp3.2; omega⟩
            have hx3 : ph3 ≤ 2663816 := hS3.phi
            have hn3 : nl ≤ nl3 := Nat.le_trans hnL hm3
            refine v_iinc (y := (k + 1)) (lv' := [some (.ref (ob 2)), some (.ref (ob (1000 + i))), some (.int (nI wd)), some (.int (k + 1)), some (.int v2)]) hX d_S_layCode_61 rfl (by rfl) rfl ?_
            refine v_goto hX d_S_layCode_64 (tgt := 5) (by decide) ?_
            exact ih (k + 1) _ lo3 va3 (csL + kc3) (ssL + ns3) (cL + 1) nl3 ph3 (iter_lt (Int32.not_le.mp c10) hk) hS3 (by omega) hn3 hP3 (hfL.trans hf3)
          · have f45 : ¬ cL < wd := fun z => c45 ((nI_ltI (a := cL) (b := wd) (by omega) (by omega)).mpr z)
            refine v_aload_n hX d_S_layCode_48 rfl rfl ?_
            refine c_V hX 2 (rest := []) hl (c_S_putLine hSL (by omega) (by omega)) ml_S_122 im_S_putLine se_S_putLine in_S cd_S_putLine rfl q_S_putLine ⟨(Nat.le_of_ble_eq_true rfl), (Nat.le_of_ble_eq_true rfl)⟩ hSL.set.1 hSL.set.2.1 hSL.set.2.2 rfl rfl rfl rfl (Nat.le_of_ble_eq_true rfl) d_S_layCode_49 ⟨by have a := hPL.2; have b := hxL; show _ + (120 + (2663816 - phL) / 16) ≤ 120 + (2663816 - ph) / 16; omega, by have a := hPL.1; have b := hxL; show _ + (700000 + (2663816 - phL)) ≤ 700000 + (2663816 - ph); omega⟩ (fun rv d2 lo4 va4 kc4 ns4 hp => ?_)
            obtain ⟨rfl, rfl, ⟨nl4, ph4, hS4, hm4, hp4⟩, hf4⟩ := hp
            show V X D CL A _ _ _ _ _ _ _ []
            have hP4 : (ssL + ns4) + ph ≤ ph4 ∧ 16 * (csL + kc4) + ph ≤ ph4 := ⟨by have a := hPL.1; have b := hp4.1; omega, by have a := hPL.2; have b := hp4.2; omega⟩
            have hx4 : ph4 ≤ 2663816 := hS4.phi
            have hn4 : nl ≤ nl4 := Nat.le_trans hnL hm4
            refine v_aload_n hX d_S_layCode_52 rfl rfl ?_
            refine v_get hX 2 (v := .ref (ob 28)) inT2 hS4.set.1 hS4.set.2.1 hS4.set.2.2 rfl 5 (by decide) fl_S_34 rfl rfl d_S_layCode_53 ?_
            refine v_iload hX d_S_layCode_56 rfl ?_
            refine c_V hX 28 (rest := []) hl (S_add28 hS4 v2 (by omega)) ml_S_119 im_R_add se_R_add in_R cd_R_add rfl q_R_add ⟨(Nat.le_of_ble_eq_true rfl), (Nat.le_of_ble_eq_true rfl)⟩ (hS4.row 28 (by decide)).1 (hS4.row 28 (by decide)).2.1 (hS4.row 28 (by decide)).2.2.choose_spec rfl rfl rfl rfl (Nat.le_of_ble_eq_true rfl) d_S_layCode_58 ⟨by have a := hP4.2; have b := hx4; show _ + 20 ≤ 120 + (2663816 - ph) / 16; omega, by have a := hP4.1; have b := hx4; show _ + 700000 ≤ 700000 + (2663816 - ph); omega⟩ (fun rv d2 lo5 va5 kc5 ns5 hp => ?_)
            obtain ⟨rfl, rfl, ⟨nl5, ph5, hS5, hm5, hp5⟩, hf5⟩ := hp
            show V X D CL A _ _ _ _ _ _ _ []
            have hP5 : (ssL + ns4 + ns5) + ph ≤ ph5 ∧ 16 * (csL + kc4 + kc5) + ph ≤ ph5 := ⟨by have a := hP4.1; have b := hp5.1; omega, by have a := hP4.2; have b := hp5.2; omega⟩
            have hx5 : ph5 ≤ 2663816 := hS5.phi
            have hn5 : nl ≤ nl5 := Nat.le_trans hn4 hm5
            refine v_iinc (y := (k + 1)) (lv' := [some (.ref (ob 2)), some (.ref (ob (1000 + i))), some (.int (nI wd)), some (.int (k + 1)), some (.int v2)]) hX d_S_layCode_61 rfl (by rfl) rfl ?_
            refine v_goto hX d_S_layCode_64 (tgt := 5) (by decide) ?_
            exact ih (k + 1) _ lo5 va5 (csL + kc4 + kc5) (ssL + ns4 + ns5) (0 + 1) nl5 ph5 (iter_lt (Int32.not_le.mp c10) hk) hS5 (by omega) hn5 hP5 ((hfL.trans hf4).trans hf5)
        · refine v_aload_n hX d_S_layCode_30 rfl rfl ?_
          refine c_V hX 2 (rest := []) hl (c_S_putLine hSL (by omega) (by omega)) ml_S_122 im_S_putLine se_S_putLine in_S cd_S_putLine rfl q_S_putLine ⟨(Nat.le_of_ble_eq_true rfl), (Nat.le_of_ble_eq_true rfl)⟩ hSL.set.1 hSL.set.2.1 hSL.set.2.2 rfl rfl rfl rfl (Nat.le_of_ble_eq_true rfl) d_S_layCode_31 ⟨by have a := hPL.2; have b := hxL; show _ + (120 + (2663816 - phL) / 16) ≤ 120 + (2663816 - ph) / 16; omega, by have a := hPL.1; have b := hxL; show _ + (700000 + (2663816 - phL)) ≤ 700000 + (2663816 - ph); omega⟩ (fun rv d2 lo6 va6 kc6 ns6 hp => ?_)
          obtain ⟨rfl, rfl, ⟨nl6, ph6, hS6, hm6, hp6⟩, hf6⟩ := hp
          show V X D CL A _ _ _ _ _ _ _ []
          have hP6 : (ssL + ns6) + ph ≤ ph6 ∧ 16 * (csL + kc6) + ph ≤ ph6 := ⟨by have a := hPL.1; have b := hp6.1; omega, by have a := hPL.2; have b := hp6.2; omega⟩
          have hx6 : ph6 ≤ 2663816 := hS6.phi
          have hn6 : nl ≤ nl6 := Nat.le_trans hnL hm6
          refine v_goto hX d_S_layCode_34 (tgt := 61) (by decide) ?_
          refine v_iinc (y := (k + 1)) (lv' := [some (.ref (ob 2)), some (.ref (ob (1000 + i))), some (.int (nI wd)), some (.int (k + 1)), some (.int v2)]) hX d_S_layCode_61 rfl (by rfl) rfl ?_
          refine v_goto hX d_S_layCode_64 (tgt := 5) (by decide) ?_
          exact ih (k + 1) _ lo6 va6 (csL + kc6) (ssL + ns6) 0 nl6 ph6 (iter_lt (Int32.not_le.mp c10) hk) hS6 (by omega) hn6 hP6 (hfL.trans hf6)
  exact loop _ _ _ loc val (0) (0) 0 nl ph (Nat.lt_succ_self _) hS (by omega) (Nat.le_refl nl) hP frL.rf
