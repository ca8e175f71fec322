set_option maxHeartbeats 4000000 in
set_option maxRecDepth 100000 in
theorem c_S_headSign {l : Launch} {D : va_G} {A : Nat → Prop} {cI cB cZ cJ cN : ClassId} {ob : Nat → Nat} {td w c a al nl pf tl ph : Nat} {dom : Nat → Prop} {loc : Nat → Nat} {val : Nat → va_E} (hS : LayS cI ob td w c a al nl pf tl ph dom loc val) (x : Int32) {wd : Nat} (hwd : 4 ≤ wd ∧ wd ≤ 60) (ha : a ≤ 144) (hw : w ≤ wd) (hc : c ≤ wd) : kM l y_S_addHeadingSign (Cond.code y_S_addHeadingSign b_S_addHeadingSign 4 none :: TT) (rmP 5 ph) D CL (TY cI cB cZ cJ cN) A [.ref (ob 2), .int x, .int (nI wd)] dom loc val (fun rv d lo va kc ns => rv = none ∧ dom = d ∧ (∃ c2 nl2 ph2, c2 ≤ wd ∧ LayS cI ob td 0 c2 a al nl2 pf tl ph2 dom lo va ∧ nl ≤ nl2 ∧ (ns + ph ≤ ph2 ∧ 16 * kc + ph ≤ ph2)) ∧ frL loc val lo va) := by
  refine kM_of (lv0 := [some (.ref (ob 2)), some (.int x), some (.int (nI wd)), none]) (own := "ProsePages$Setter") (by decide) rfl (List.forall_mem_cons.mpr ⟨rfl, List.forall_mem_cons.mpr ⟨rfl, List.forall_mem_cons.mpr ⟨rfl, fun _ h => nomatch h⟩⟩⟩) (Nat.le_of_ble_eq_true rfl) rfl (Nat.le_of_ble_eq_true rfl) (fun X hl hX hE hin0 => ?_)
  have hP : 0 + ph ≤ ph ∧ 16 * 0 + ph ≤ ph := ⟨by omega, by omega⟩
  have hx : ph ≤ 2663816 := hS.phi
  refine v_iconst (v := 0) hX d_S_addHeadingSign_0 (by decide) ?_
  refine v_istore_n (lv' := [some (.ref (ob 2)), some (.int x), some (.int (nI wd)), some (.int 0)]) hX d_S_addHeadingSign_1 rfl (Nat.le_of_ble_eq_true rfl) rfl ?_
  have loop : ∀ (m9 : Nat) (k : Int32) (loL : Nat → Nat) (vaL : Nat → va_E) (csL ssL wL cL nlL phL : Nat), (x.toInt - k.toInt).toNat < m9 → LayS cI ob td wL cL a al nlL pf tl phL dom loL vaL → (wL ≤ wd ∧ cL ≤ wd) → nl ≤ nlL → (ssL + ph ≤ phL ∧ 16 * csL + ph ≤ phL) → frL loc val loL vaL → V X D CL A dom loL vaL csL ssL 2 [some (.ref (ob 2)), some (.int x), some (.int (nI wd)), some (.int k)] [] := by
    intro m9
    induction m9 with
    | zero => intro k loL vaL csL ssL wL cL nlL phL hk hSL hcL hnL hPL hfL; exact absurd hk (Nat.not_lt_zero _)
    | succ m9 ih =>
      intro k loL vaL csL ssL wL cL nlL phL hk hSL hcL hnL hPL hfL
      have hxL : phL ≤ 2663816 := hSL.phi
      have hcL2 := hcL
      refine v_iload_n hX d_S_addHeadingSign_2 rfl rfl ?_
      refine v_iload_n hX d_S_addHeadingSign_3 rfl rfl ?_
      refine v_icmp_ge hX d_S_addHeadingSign_4 (tgt := 20) (by decide) (fun c4 => ?_) (fun c4 => ?_)
      · refine v_aload_n hX d_S_addHeadingSign_20 rfl rfl ?_
        refine v_iload_n hX d_S_addHeadingSign_21 rfl rfl ?_
        refine c_V hX 2 (rest := []) hl (c_S_endWord hSL hwd (by omega) (by omega) (by omega)) ml_S_116 im_S_endWord se_S_endWord in_S cd_S_endWord rfl q_S_endWord ⟨(Nat.le_of_ble_eq_true rfl), (Nat.le_of_ble_eq_true rfl)⟩ hSL.set.1 hSL.set.2.1 hSL.set.2.2 rfl rfl rfl rfl (Nat.le_of_ble_eq_true rfl) d_S_addHeadingSign_22 ⟨by have a := hPL.2; have b := hxL; show _ + (120 + (2663816 - phL) / 16) ≤ 120 + (2663816 - ph) / 16; omega, by have a := hPL.1; have b := hxL; show _ + (700000 + (2663816 - phL)) ≤ 700000 + (2663816 - ph); omega⟩ (fun rv d2 lo1 va1 kc1 ns1 hp => ?_)
        obtain ⟨rfl, rfl, ⟨cc1, nl1, ph1, hc1, hS1, hm1, hp1⟩, hf1⟩ := hp
        show V X D CL A _ _ _ _ _ _ _ []
        have hP1 : (ssL + ns1) + ph ≤ ph1 ∧ 16 * (csL + kc1) + ph ≤ ph1 := ⟨by have a := hPL.1; have b := hp1.1; omega, by have a := hPL.2; have b := hp1.2; omega⟩
        have hx1 : ph1 ≤ 2663816 := hS1.phi
        have hn1 : nl ≤ nl1 := Nat.le_trans hnL hm1
        exact v_vret hX hE d_S_addHeadingSign_25 (by have a := hP1.2; have b := hx1; show _ ≤ 120 + (2663816 - ph) / 16; omega) (by have a := hP1.1; have b := hx1; show _ ≤ 700000 + (2663816 - ph); omega) ⟨rfl, rfl, ⟨cc1, nl1, ph1, by omega, hS1, hn1, by have a := hP1.1; have b := hP1.2; exact ⟨by omega, by omega⟩⟩, (hfL.trans hf1)⟩
      · refine v_aload_n hX d_S_addHeadingSign_7 rfl rfl ?_
        refine v_bipush (v := 61) hX d_S_addHeadingSign_8 (by decide) ?_
        refine v_iload_n hX d_S_addHeadingSign_10 rfl rfl ?_
        refine c_V hX 2 (rest := []) hl (c_S_addLetter hSL 61 hwd (by omega) (by omega) (by omega)) ml_S_113 im_S_addLetter se_S_addLetter in_S cd_S_addLetter rfl q_S_addLetter ⟨(Nat.le_of_ble_eq_true rfl), (Nat.le_of_ble_eq_true rfl)⟩ hSL.set.1 hSL.set.2.1 hSL.set.2.2 rfl rfl rfl rfl (Nat.le_of_ble_eq_true rfl) d_S_addHeadingSign_11 ⟨by have a := hPL.2; have b := hxL; show _ + (120 + (2663816 - phL) / 16) ≤ 120 + (2663816 - ph) / 16; omega, by have a := hPL.1; have b := hxL; show _ + (700000 + (2663816 - phL)) ≤ 700000 + (2663816 - ph); omega⟩ (fun rv d2 lo2 va2 kc2 ns2 hp => ?_)
        obtain ⟨rfl, rfl, ⟨ww2, cc2, nl2, ph2, ⟨hw2, hc2⟩, hS2, hm2, hp2⟩, hf2⟩ := hp
        show V X D CL A _ _ _ _ _ _ _ []
        have hP2 : (ssL + ns2) + ph ≤ ph2 ∧ 16 * (csL + kc2) + ph ≤ ph2 := ⟨by have a := hPL.1; have b := hp2.1; omega, by have a := hPL.2; have b := hp2.2; omega⟩
        have hx2 : ph2 ≤ 2663816 := hS2.phi
        have hn2 : nl ≤ nl2 := Nat.le_trans hnL hm2
        refine v_iinc (y := (k + 1)) (lv' := [some (.ref (ob 2)), some (.int x), some (.int (nI wd)), some (.int (k + 1))]) hX d_S_addHeadingSign_14 rfl (by rfl) rfl ?_
        refine v_goto hX d_S_addHeadingSign_17 (tgt := 2) (by decide) ?_
        exact ih (k + 1) lo2 va2 (csL + kc2) (ssL + ns2) ww2 cc2 nl2 ph2 (iter_lt (Int32.not_le.mp c4) hk) hS2 (⟨by omega, by omega⟩) hn2 hP2 (hfL.trans hf2)
  exact loop _ _ loc val (0) (0) w c nl ph (Nat.lt_succ_self _) hS (⟨by omega, by omega⟩) (Nat.le_refl nl) hP frL.rf
set_option maxHeartbeats 4000000 in
set_option maxRecDepth 100000 in
theorem c_S_layRule {l : Launch} {D : va_G} {A : Nat → Prop} {cI cB cZ cJ cN : ClassId} {ob : Nat → Nat} {td w c a al nl pf tl ph : Nat} {dom : Nat → Prop} {loc : Nat → Nat} {val : Nat → va_E} (hS : LayS cI ob td w 0 a al nl pf tl ph dom loc val) {wd : Nat} (hwd : 4 ≤ wd ∧ wd ≤ 60) (ha : a ≤ 144) : kM l y_S_layRule (Cond.code y_S_layRule b_S_layRule 3 none :: TT) (rmP 4 ph) D CL (TY cI cB cZ cJ cN) A [.ref (ob 2), .int (nI wd)] dom loc val (PSt cI ob td w 0 a al nl pf tl ph dom loc val) := by
  refine kM_of (lv0 := [some (.ref (ob 2)), some (.int (nI wd)), none]) (own := "ProsePages$Setter") (by decide) rfl (List.forall_mem_cons.mpr ⟨rfl, List.forall_mem_cons.mpr ⟨rfl, fun _ h => nomatch h⟩⟩) (Nat.le_of_ble_eq_true rfl) rfl (Nat.le_of_ble_eq_true rfl) (fun X hl hX hE hin0 => ?_)
  have hP : 0 + ph ≤ ph ∧ 16 * 0 + ph ≤ ph := ⟨by omega, by omega⟩
  have hx : ph ≤ 2663816 := hS.phi
  refine v_iconst (v := 0) hX d_S_layRule_0 (by decide) ?_
  refine v_istore_n (lv' := [some (.ref (ob 2)), some (.int (nI wd)), some (.int 0)]) hX d_S_layRule_1 rfl (Nat.le_of_ble_eq_true rfl) rfl ?_
  have loop : ∀ (m9 : Nat) (k : Nat) (loL : Nat → Nat) (vaL : Nat → va_E) (csL ssL cL nlL phL : Nat), wd - k < m9 → LayS cI ob td w cL a al nlL pf tl phL dom loL vaL → (cL = k ∧ k ≤ wd) → nl ≤ nlL → (ssL + ph ≤ phL ∧ 16 * csL + ph ≤ phL) → frL loc val loL vaL → V X D CL A dom loL vaL csL ssL 2 [some (.ref (ob 2)), some (.int (nI wd)), some (.int (nI k))] [] := by
    intro m9
    induction m9 with
    | zero => intro k loL vaL csL ssL cL nlL phL hk hSL hcL hnL hPL hfL; exact absurd hk (Nat.not_lt_zero _)
    | succ m9 ih =>
      intro k loL vaL csL ssL cL nlL phL hk hSL hcL hnL hPL hfL
      have hxL : phL ≤ 2663816 := hSL.phi
      have hcL2 := hcL
      refine v_iload_n hX d_S_layRule_2 rfl rfl ?_
      refine v_iload_n hX d_S_layRule_3 rfl rfl ?_
      refine v_icmp_ge hX d_S_layRule_4 (tgt := 22) (by decide) (fun c4 => ?_) (fun c4 => ?_)
      · have f4 : wd ≤ k := (nI_leI (a := wd) (b := k) (by omega) (by omega)).mp c4
        refine v_aload_n hX d_S_layRule_22 rfl rfl ?_
        refine c_V hX 2 (rest := []) hl (c_S_putLine hSL (by omega) (by omega)) ml_S_122 im_S_putLine se_S_putLine in_S cd_S_putLine rfl q_S_putLine ⟨(Nat.le_of_ble_eq_true rfl), (Nat.le_of_ble_eq_true rfl)⟩ hSL.set.1 hSL.set.2.1 hSL.set.2.2 rfl rfl rfl rfl (Nat.le_of_ble_eq_true rfl) d_S_layRule_23 ⟨by have a := hPL.2; have b := hxL; show _ + (120 + (2663816 - phL) / 16) ≤ 120 + (2663816 - ph) / 16; omega, by have a := hPL.1; have b := hxL; show _ + (700000 + (2663816 - phL)) ≤ 700000 + (2663816 - ph); omega⟩ (fun rv d2 lo1 va1 kc1 ns1 hp => ?_)
        obtain ⟨rfl, rfl, ⟨nl1, ph1, hS1, hm1, hp1⟩, hf1⟩ := hp
        show V X D CL A _ _ _ _ _ _ _ []
        have hP1 : (ssL + ns1) + ph ≤ ph1 ∧ 16 * (csL + kc1) + ph ≤ ph1 := ⟨by have a := hPL.1; have b := hp1.1; omega, by have a := hPL.2; have b := hp1.2; omega⟩
        have hx1 : ph1 ≤ 2663816 := hS1.phi
        have hn1 : nl ≤ nl1 := Nat.le_trans hnL hm1
        exact v_vret hX hE d_S_layRule_26 (by have a := hP1.2; have b := hx1; show _ ≤ 120 + (2663816 - ph) / 16; omega) (by have a := hP1.1; have b := hx1; show _ ≤ 700000 + (2663816 - ph); omega) ⟨rfl, rfl, ⟨nl1, ph1, hS1, hn1, by have a := hP1.1; have b := hP1.2; exact ⟨by omega, by omega⟩⟩, (hfL.trans hf1)⟩
      · have f4 : ¬ wd ≤ k := fun z => c4 ((nI_leI (a := wd) (b := k) (by omega) (by omega)).mpr z)
        refine v_aload_n hX d_S_layRule_7 rfl rfl ?_
        refine v_get hX 2 (v := .ref (ob 28)) inT2 hSL.set.1 hSL.set.2.1 hSL.set.2.2 rfl 5 (by decide) fl_S_34 rfl rfl d_S_layRule_8 ?_
        refine v_bipush (v := 45) hX d_S_layRule_11 (by decide) ?_
        refine c_V hX 28 (rest := []) hl (S_add28 hSL 45 (by omega)) ml_S_119 im_R_add se_R_add in_R cd_R_add rfl q_R_add ⟨(Nat.le_of_ble_eq_true rfl), (Nat.le_of_ble_eq_true rfl)⟩ (hSL.row 28 (by decide)).1 (hSL.row 28 (by decide)).2.1 (hSL.row 28 (by decide)).2.2.choose_spec rfl rfl rfl rfl (Nat.le_of_ble_eq_true rfl) d_S_layRule_13 ⟨by have a := hPL.2; have b := hxL; show _ + 20 ≤ 120 + (2663816 - ph) / 16; omega, by have a := hPL.1; have b := hxL; show _ + 700000 ≤ 700000 + (2663816 - ph); omega⟩ (fun rv d2 lo2 va2 kc2 ns2 hp => ?_)
        obtain ⟨rfl, rfl, ⟨nl2, ph2, hS2, hm2, hp2⟩, hf2⟩ := hp
        show V X D CL A _ _ _ _ _ _ _ []
        have hP2 : (ssL + ns2) + ph ≤ ph2 ∧ 16 * (csL + kc2) + ph ≤ ph2 := ⟨by have a := hPL.1; have b := hp2.1; omega, by have a := hPL.2; have b := hp2.2; omega⟩
        have hx2 : ph2 ≤ 2663816 := hS2.phi
        have hn2 : nl ≤ nl2 := Nat.le_trans hnL hm2
        refine v_iinc (y := ((nI k) + 1)) (lv' := [some (.ref (ob 2)), some (.int (nI wd)), some (.int ((nI k) + 1))]) hX d_S_layRule_16 rfl (by rfl) rfl ?_
        refine v_goto hX d_S_layRule_19 (tgt := 2) (by decide) ?_
        rw [show nI k + 1 = nI (k + 1) from nI_1 k]
        exact ih (k + 1) lo2 va2 (csL + kc2) (ssL + ns2) (cL + 1) nl2 ph2 (by omega) hS2 (⟨by omega, by omega⟩) hn2 hP2 (hfL.trans hf2)
  exact loop _ 0 loc val (0) (0) 0 nl ph (Nat.lt_succ_self _) hS (⟨by omega, by omega⟩) (Nat.le_refl nl) hP frL.rf
theorem c_P_isWhite {l : Launch} {D : va_G} {A : Nat → Prop} {cI cB cZ cJ cN : ClassId} {dom : Nat → Prop} {loc : Nat → Nat} {val : Nat → va_E} (x : Int32) : kM l y_P_isWhite (Cond.code y_P_isWhite b_P_isWhite 1 (some FieldType.boolean) :: TT) (rmL 1) D CL (TY cI cB cZ cJ cN) A [.int x] dom loc val (fun rv d lo va kc ns => (∃ v, rv = some (.int v)) ∧ dom = d ∧ loc = lo ∧ val = va ∧ kc = 0 ∧ ns = 0) := by
  refine kM_of (lv0 := [some (.int x)]) (own := "ProsePages") (by decide) rfl (List.forall_mem_cons.mpr ⟨rfl, fun _ h => nomatch h⟩) (Nat.le_of_ble_eq_true rfl) rfl (Nat.le_of_ble_eq_true rfl) (fun X hl hX hE hin0 => ?_)
  refine v_iload_n hX d_P_isWhite_0 rfl rfl ?_
  refine v_bipush (v := 9) hX d_P_isWhite_1 (by decide) ?_
  refine v_icmp_eq hX d_P_isWhite_3 (tgt := 24) (by decide) (fun c3 => ?_) (fun c3 => ?_)
  · refine v_iconst (v := 1) hX d_P_isWhite_24 (by decide) ?_
    refine v_goto hX d_P_isWhite_25 (tgt := 29) (by decide) ?_
    exact v_zret hX hE (by first | decide | rfl | exact oneOf_nar | exact blk_nar | exact inl_nar | assumption) d_P_isWhite_29 (Nat.le_of_ble_eq_true rfl) (Nat.le_of_ble_eq_true rfl) ⟨⟨_, rfl⟩, rfl, rfl, rfl, rfl, rfl⟩
  · refine v_iload_n hX d_P_isWhite_6 rfl rfl ?_
    refine v_bipush (v := 10) hX d_P_isWhite_7 (by decide) ?_
    refine v_icmp_eq hX d_P_isWhite_9 (tgt := 24) (by decide) (fun c9 => ?_) (fun c9 => ?_)
    · refine v_iconst (v := 1) hX d_P_isWhite_24 (by decide) ?_
      refine v_goto hX d_P_isWhite_25 (tgt := 29) (by decide) ?_
      exact v_zret hX hE (by first | decide | rfl | exact oneOf_nar | exact blk_nar | exact inl_nar | assumption) d_P_isWhite_29 (Nat.le_of_ble_eq_true rfl) (Nat.le_of_ble_eq_true rfl) ⟨⟨_, rfl⟩, rfl, rfl, rfl, rfl, rfl⟩
    · refine v_iload_n hX d_P_isWhite_12 rfl rfl ?_
      refine v_bipush (v := 13) hX d_P_isWhite_13 (by decide) ?_
      refine v_icmp_eq hX d_P_isWhite_15 (tgt := 24) (by decide) (fun c15 => ?_) (fun c15 => ?_)
      · refine v_iconst (v := 1) hX d_P_isWhite_24 (by decide) ?_
        refine v_goto hX d_P_isWhite_25 (tgt := 29) (by decide) ?_
        exact v_zret hX hE (by first | decide | rfl | exact oneOf_nar | exact blk_nar | exact inl_nar | assumption) d_P_isWhite_29 (Nat.le_of_ble_eq_true rfl) (Nat.le_of_ble_eq_true rfl) ⟨⟨_, rfl⟩, rfl, rfl, rfl, rfl, rfl⟩
      · refine v_iload_n hX d_P_isWhite_18 rfl rfl ?_
        refine v_bipush (v := 32) hX d_P_isWhite_19 (by decide) ?_
        refine v_icmp_ne hX d_P_isWhite_21 (tgt := 28) (by decide) (fun c21 => ?_) (fun c21 => ?_)
        · refine v_iconst (v := 0) hX d_P_isWhite_28 (by decide) ?_
          exact v_zret hX hE (by first | decide | rfl | exact oneOf_nar | exact blk_nar | exact inl_nar | assumption) d_P_isWhite_29 (Nat.le_of_ble_eq_true rfl) (Nat.le_of_ble_eq_true rfl) ⟨⟨_, rfl⟩, rfl, rfl, rfl, rfl, rfl⟩
        · refine v_iconst (v := 1) hX d_P_isWhite_24 (by decide) ?_
          refine v_goto hX d_P_isWhite_25 (tgt := 29) (by decide) ?_
          exact v_zret hX hE (by first | decide | rfl | exact oneOf_nar | exact blk_nar | exact inl_nar | assumption) d_P_isWhite_29 (Nat.le_of_ble_eq_true rfl) (Nat.le_of_ble_eq_true rfl) ⟨⟨_, rfl⟩, rfl, rfl, rfl, rfl, rfl⟩
set_option maxHeartbeats 4000000 in
set_option maxRecDepth 100000 in
theorem c_S_layWords {l : Launch} {D : va_G} {A : Nat → Prop} {cI cB cZ cJ cN : ClassId} {ob : Nat → Nat} {td w c a al nl pf tl ph : Nat} {dom : Nat → Prop} {loc : Nat → Nat} {val : Nat → va_E} (hS : LayS cI ob td w c a al nl pf tl ph dom loc val) (x y : Int32) {wd : Nat} (hwd : 4 ≤ wd ∧ wd ≤ 60) (ha : a ≤ 144) (hw : w ≤ wd) (hc : c ≤ wd) : kM l y_S_layWords (Cond.code y_S_layWords b_S_layWords 6 none :: TT) (rmP 5 ph) D CL (TY cI cB cZ cJ cN) A [.ref (ob 2), .int x, .int y, .int (nI wd)] dom loc val (PSt cI ob td 0 0 a al nl pf tl ph dom loc val) := by
  refine kM_of (lv0 := [some (.ref (ob 2)), some (.int x), some (.int y), some (.int (nI wd)), none, none]) (own := "ProsePages$Setter") (by decide) rfl (List.forall_mem_cons.mpr ⟨rfl, List.forall_mem_cons.mpr ⟨rfl, List.forall_mem_cons.mpr ⟨rfl, List.forall_mem_cons.mpr ⟨rfl, fun _ h => nomatch h⟩⟩⟩⟩) (Nat.le_of_ble_eq_true rfl) rfl (Nat.le_of_ble_eq_true rfl) (fun X hl hX hE hin0 => ?_)
  have hP : 0 + ph ≤ ph ∧ 16 * 0 + ph ≤ ph := ⟨by omega, by omega⟩
  have hx : ph ≤ 2663816 := hS.phi
  refine v_iload_n hX d_S_layWords_0 rfl rfl ?_
  refine v_istore (lv' := [some (.ref (ob 2)), some (.int x), some (.int y), some (.int (nI wd)), some (.int x), none]) hX d_S_layWords_1 (Nat.le_of_ble_eq_true rfl) rfl ?_
  have loop : ∀ (m9 : Nat) (k : Int32) (o5 : Option Value) (loL : Nat → Nat) (vaL : Nat → va_E) (csL ssL wL cL nlL phL : Nat), (y.toInt - k.toInt).toNat < m9 → LayS cI ob td wL cL a al nlL pf tl phL dom loL vaL → (wL ≤ wd ∧ cL ≤ wd) → nl ≤ nlL → (ssL + ph ≤ phL ∧ 16 * csL + ph ≤ phL) → frL loc val loL vaL → V X D CL A dom loL vaL csL ssL 3 [some (.ref (ob 2)), some (.int x), some (.int y), some (.int (nI wd)), some (.int k), o5] [] := by
    intro m9
    induction m9 with
    | zero => intro k o5 loL vaL csL ssL wL cL nlL phL hk hSL hcL hnL hPL hfL; exact absurd hk (Nat.not_lt_zero _)
    | succ m9 ih =>
      intro k o5 loL vaL csL ssL wL cL nlL phL hk hSL hcL hnL hPL hfL
      have hxL : phL ≤ 2663816 := hSL.phi
      have hcL2 := hcL
      refine v_iload hX d_S_layWords_3 rfl ?_
      refine v_iload_n hX d_S_layWords_5 rfl rfl ?_
      refine v_icmp_ge hX d_S_layWords_6 (tgt := 69) (by decide) (fun c6 => ?_) (fun c6 => ?_)
      · refine v_aload_n hX d_S_layWords_69 rfl rfl ?_
        refine v_iload_n hX d_S_layWords_70 rfl rfl ?_
        refine c_V hX 2 (rest := []) hl (c_S_endWord hSL hwd (by omega) (by omega) (by omega)) ml_S_116 im_S_endWord se_S_endWord in_S cd_S_endWord rfl q_S_endWord ⟨(Nat.le_of_ble_eq_true rfl), (Nat.le_of_ble_eq_true rfl)⟩ hSL.set.1 hSL.set.2.1 hSL.set.2.2 rfl rfl rfl rfl (Nat.le_of_ble_eq_true rfl) d_S_layWords_71 ⟨by have a := hPL.2; have b := hxL; show _ + (120 + (2663816 - phL) / 16) ≤ 120 + (2663816 - ph) / 16; omega, by have a := hPL.1; have b := hxL; show _ + (700000 + (2663816 - phL)) ≤ 700000 + (2663816 - ph); omega⟩ (fun rv d2 lo1 va1 kc1 ns1 hp => ?_)
        obtain ⟨rfl, rfl, ⟨cc1, nl1, ph1, hc1, hS1, hm1, hp1⟩, hf1⟩ := hp
        show V X D CL A _ _ _ _ _ _ _ []
        have hP1 : (ssL + ns1) + ph ≤ ph1 ∧ 16 * (csL + kc1) + ph ≤ ph1 := ⟨by have a := hPL.1; have b := hp1.1; omega, by have a := hPL.2; have b := hp1.2; omega⟩
        have hx1 : ph1 ≤ 2663816 := hS1.phi
        have hn1 : nl ≤ nl1 := Nat.le_trans hnL hm1
        refine v_aload_n hX d_S_layWords_74 rfl rfl ?_
        refine v_get hX 2 (v := .ref (ob 28)) inT2 hS1.set.1 hS1.set.2.1 hS1.set.2.2 rfl 5 (by decide) fl_S_34 rfl rfl d_S_layWords_75 ?_
        refine c_V hX 28 (rest := []) hl (S_size28 hS1) ml_S_129 im_R_size se_R_size in_R cd_R_size rfl q_R_size ⟨(Nat.le_of_ble_eq_true rfl), (Nat.le_of_ble_eq_true rfl)⟩ (hS1.row 28 (by decide)).1 (hS1.row 28 (by decide)).2.1 (hS1.row 28 (by decide)).2.2.choose_spec rfl rfl rfl rfl (Nat.le_of_ble_eq_true rfl) d_S_layWords_78 ⟨by have a := hP1.2; have b := hx1; show _ + 100 ≤ 120 + (2663816 - ph) / 16; omega, by have a := hP1.1; have b := hx1; show _ + 200000 ≤ 700000 + (2663816 - ph); omega⟩ (fun rv d2 lo2 va2 kc ns hp => ?_)
        obtain ⟨rfl, rfl, rfl, rfl, rfl, rfl⟩ := hp
        show V X D CL A _ _ _ _ _ _ _ (.int (nI cc1) :: [])
        refine v_if_le hX d_S_layWords_81 (tgt := 88) (by decide) (fun c81 => ?_) (fun c81 => ?_)
        · have f81 : cc1 ≤ 0 := (nI_leI (a := cc1) (b := 0) (by omega) (by omega)).mp c81
          exact v_vret hX hE d_S_layWords_88 (by have a := hP1.2; have b := hx1; show _ ≤ 120 + (2663816 - ph) / 16; omega) (by have a := hP1.1; have b := hx1; show _ ≤ 700000 + (2663816 - ph); omega) ⟨rfl, rfl, ⟨nl1, ph1, (by have e9 : cc1 = 0 := (by omega); rw [e9] at hS1; exact hS1), hn1, by have a := hP1.1; have b := hP1.2; exact ⟨by omega, by omega⟩⟩, (hfL.trans hf1)⟩
        · have f81 : ¬ cc1 ≤ 0 := fun z => c81 ((nI_leI (a := cc1) (b := 0) (by omega) (by omega)).mpr z)
          refine v_aload_n hX d_S_layWords_84 rfl rfl ?_
          refine c_V hX 2 (rest := []) hl (c_S_putLine hS1 (by omega) (by omega)) ml_S_122 im_S_putLine se_S_putLine in_S cd_S_putLine rfl q_S_putLine ⟨(Nat.le_of_ble_eq_true rfl), (Nat.le_of_ble_eq_true rfl)⟩ hS1.set.1 hS1.set.2.1 hS1.set.2.2 rfl rfl rfl rfl (Nat.le_of_ble_eq_true rfl) d_S_layWords_85 ⟨by have a := hP1.2; have b := hx1; show _ + (120 + (2663816 - ph1) / 16) ≤ 120 + (2663816 - ph) / 16; omega, by have a := hP1.1; have b := hx1; show _ + (700000 + (2663816 - ph1)) ≤ 700000 + (2663816 - ph); omega⟩ (fun rv d2 lo2 va2 kc2 ns2 hp => ?_)
          obtain ⟨rfl, rfl, ⟨nl2, ph2, hS2, hm2, hp2⟩, hf2⟩ := hp
          show V X D CL A _ _ _ _ _ _ _ []
          have hP2 : (ssL + ns1 + ns2) + ph ≤ ph2 ∧ 16 * (csL + kc1 + kc2) + ph ≤ ph2 := ⟨by have a := hP1.1; have b := hp2.1; omega, by have a := hP1.2; have b := hp2.2; omega⟩
          have hx2 : ph2 ≤ 2663816 := hS2.phi
          have hn2 : nl ≤ nl2 := Nat.le_trans hn1 hm2
          exact v_vret hX hE d_S_layWords_88 (by have a := hP2.2; have b := hx2; show _ ≤ 120 + (2663816 - ph) / 16; omega) (by have a := hP2.1; have b := hx2; show _ ≤ 700000 + (2663816 - ph); omega) ⟨rfl, rfl, ⟨nl2, ph2, hS2, hn2, by have a := hP2.1; have b := hP2.2; exact ⟨by omega, by omega⟩⟩, ((hfL.trans hf1).trans hf2)⟩
      · refine v_aload_n hX d_S_layWords_9 rfl rfl ?_
        refine v_get hX 2 (v := .ref (ob 3)) inT2 hSL.set.1 hSL.set.2.1 hSL.set.2.2 rfl 0 (by decide) fl_S_12 rfl rfl d_S_layWords_10 ?_
        refine v_iload hX d_S_layWords_13 rfl ?_
        refine c_V hX 3 (rest := []) hl (S_get hSL 3 (by decide) k) ml_S_125 im_R_get se_R_get in_R cd_R_get rfl q_R_get ⟨(Nat.le_of_ble_eq_true rfl), (Nat.le_of_ble_eq_true rfl)⟩ (hSL.row 3 (by decide)).1 (hSL.row 3 (by decide)).2.1 (hSL.row 3 (by decide)).2.2.choose_spec rfl rfl rfl rfl (Nat.le_of_ble_eq_true rfl) d_S_layWords_15 ⟨by have a := hPL.2; have b := hxL; show _ + 100 ≤ 120 + (2663816 - ph) / 16; omega, by have a := hPL.1; have b := hxL; show _ + 200000 ≤ 700000 + (2663816 - ph); omega⟩ (fun rv d2 lo2 va2 kc ns hp => ?_)
        obtain ⟨⟨v3, rfl⟩, rfl, rfl, rfl, rfl, rfl⟩ := hp
        show V X D CL A _ _ _ _ _ _ _ (.int v3 :: [])
        refine v_istore (lv' := [some (.ref (ob 2)), some (.int x), some (.int y), some (.int (nI wd)), some (.int k), some (.int v3)]) hX d_S_layWords_18 (Nat.le_of_ble_eq_true rfl) rfl ?_
        refine v_iload hX d_S_layWords_20 rfl ?_
        refine v_sipush (v := 256) hX d_S_layWords_22 (by decide) ?_
        refine v_icmp_ne hX d_S_layWords_25 (tgt := 40) (by decide) (fun c25 => ?_) (fun c25 => ?_)
        · refine v_iload hX d_S_layWords_40 rfl ?_
          refine c_SN hX (rest := []) hl (c_P_isWhite v3) (host := "ProsePages") (by decide) sm_P_isWhite in_P cd_P_isWhite q_P_isWhite ⟨(Nat.le_of_ble_eq_true rfl), (Nat.le_of_ble_eq_true rfl)⟩ rfl rfl rfl (Nat.le_of_ble_eq_true rfl) d_S_layWords_42 ⟨by have a := hPL.2; have b := hxL; show _ + 100 ≤ 120 + (2663816 - ph) / 16; omega, by have a := hPL.1; have b := hxL; show _ + 200000 ≤ 700000 + (2663816 - ph); omega⟩ (fun rv d2 lo2 va2 kc ns hp => ?_)
          obtain ⟨⟨v4, rfl⟩, rfl, rfl, rfl, rfl, rfl⟩ := hp
          show V X D CL A _ _ _ _ _ _ _ (.int v4 :: [])
          refine v_if_eq hX d_S_layWords_45 (tgt := 56) (by decide) (fun c45 => ?_) (fun c45 => ?_)
          · refine v_aload_n hX d_S_layWords_56 rfl rfl ?_
            refine v_iload hX d_S_layWords_57 rfl ?_
            refine v_iload_n hX d_S_layWords_59 rfl rfl ?_
            refine c_V hX 2 (rest := []) hl (c_S_addLetter hSL v3 hwd (by omega) (by omega) (by omega)) ml_S_113 im_S_addLetter se_S_addLetter in_S cd_S_addLetter rfl q_S_addLetter ⟨(Nat.le_of_ble_eq_true rfl), (Nat.le_of_ble_eq_true rfl)⟩ hSL.set.1 hSL.set.2.1 hSL.set.2.2 rfl rfl rfl rfl (Nat.le_of_ble_eq_true rfl) d_S_layWords_60 ⟨by have a := hPL.2; have b := hxL; show _ + (120 + (2663816 - phL) / 16) ≤ 120 + (2663816 - ph) / 16; omega, by have a := hPL.1; have b := hxL; show _ + (700000 + (2663816 - phL)) ≤ 700000 + (2663816 - ph); omega⟩ (fun rv d2 lo5 va5 kc5 ns5 hp => ?_)
            obtain ⟨rfl, rfl, ⟨ww5, cc5, nl5, ph5, ⟨hw5, hc5⟩, hS5, hm5, hp5⟩, hf5⟩ := hp
            show V X D CL A _ _ _ _ _ _ _ []
            have hP5 : (ssL + ns5) + ph ≤ ph5 ∧ 16 * (csL + kc5) + ph ≤ ph5 := ⟨by have a := hPL.1; have b := hp5.1; omega, by have a := hPL.2; have b := hp5.2; omega⟩
            have hx5 : ph5 ≤ 2663816 := hS5.phi
            have hn5 : nl ≤ nl5 := Nat.le_trans hnL hm5
            refine v_iinc (y := (k + 1)) (lv' := [some (.ref (ob 2)), some (.int x), some (.int y), some (.int (nI wd)), some (.int (k + 1)), some (.int v3)]) hX d_S_layWords_63 rfl (by rfl) rfl ?_
            refine v_goto hX d_S_layWords_66 (tgt := 3) (by decide) ?_
            exact ih (k + 1) _ lo5 va5 (csL + kc5) (ssL + ns5) ww5 cc5 nl5 ph5 (iter_lt (Int32.not_le.mp c6) hk) hS5 (⟨by omega, by omega⟩) hn5 hP5 (hfL.trans hf5)
          · refine v_aload_n hX d_S_layWords_48 rfl rfl ?_
            refine v_iload_n hX d_S_layWords_49 rfl rfl ?_
            refine c_V hX 2 (rest := []) hl (c_S_endWord hSL hwd (by omega) (by omega) (by omega)) ml_S_116 im_S_endWord se_S_endWord in_S cd_S_endWord rfl q_S_endWord ⟨(Nat.le_of_ble_eq_true rfl), (Nat.le_of_ble_eq_true rfl)⟩ hSL.set.1 hSL.set.2.1 hSL.set.2.2 rfl rfl rfl rfl (Nat.le_of_ble_eq_true rfl) d_S_layWords_50 ⟨by have a := hPL.2; have b := hxL; show _ + (120 + (2663816 - phL) / 16) ≤ 120 + (2663816 - ph) / 16; omega, by have a := hPL.1; have b := hxL; show _ + (700000 + (2663816 - phL)) ≤ 700000 + (2663816 - ph); omega⟩ (fun rv d2 lo6 va6 kc6 ns6 hp => ?_)
            obtain ⟨rfl, rfl, ⟨cc6, nl6, ph6, hc6, hS6, hm6, hp6⟩, hf6⟩ := hp
            show V X D CL A _ _ _ _ _ _ _ []
            have hP6 : (ssL + ns6) + ph ≤ ph6 ∧ 16 * (csL + kc6) + ph ≤ ph6 := ⟨by have a := hPL.1; have b := hp6.1; omega, by have a := hPL.2; have b := hp6.2; omega⟩
            have hx6 : ph6 ≤ 2663816 := hS6.phi
            have hn6 : nl ≤ nl6 := Nat.le_trans hnL hm6
            refine v_goto hX d_S_layWords_53 (tgt := 63) (by decide) ?_
            refine v_iinc (y := (k + 1)) (lv' := [some (.ref (ob 2)), some (.int x), some (.int y), some (.int (nI wd)), some (.int (k + 1)), some (.int v3)]) hX d_S_layWords_63 rfl (by rfl) rfl ?_
            refine v_goto hX d_S_layWords_66 (tgt := 3) (by decide) ?_
            exact ih (k + 1) _ lo6 va6 (csL + kc6) (ssL + ns6) 0 cc6 nl6 ph6 (iter_lt (Int32.not_le.mp c6) hk) hS6 (⟨by omega, by omega⟩) hn6 hP6 (hfL.trans hf6)
        · refine v_aload_n hX d_S_layWords_28 rfl rfl ?_
          refine v_iload_n hX d_S_layWords_29 rfl rfl ?_
          refine c_V hX 2 (rest := []) hl (c_S_endWord hSL hwd (by omega) (by omega) (by omega)) ml_S_116 im_S_endWord se_S_endWord in_S cd_S_endWord rfl q_S_endWord ⟨(Nat.le_of_ble_eq_true rfl), (Nat.le_of_ble_eq_true rfl)⟩ hSL.set.1 hSL.set.2.1 hSL.set.2.2 rfl rfl rfl rfl (Nat.le_of_ble_eq_true rfl) d_S_layWords_30 ⟨by have a := hPL.2; have b := hxL; show _ + (120 + (2663816 - phL) / 16) ≤ 120 + (2663816 - ph) / 16; omega, by have a := hPL.1; have b := hxL; show _ + (700000 + (2663816 - phL)) ≤ 700000 + (2663816 - ph); omega⟩ (fun rv d2 lo7 va7 kc7 ns7 hp => ?_)
          obtain ⟨rfl, rfl, ⟨cc7, nl7, ph7, hc7, hS7, hm7, hp7⟩, hf7⟩ := hp
          show V X D CL A _ _ _ _ _ _ _ []
          have hP7 : (ssL + ns7) + ph ≤ ph7 ∧ 16 * (csL + kc7) + ph ≤ ph7 := ⟨by have a := hPL.1; have b := hp7.1; omega, by have a := hPL.2; have b := hp7.2; omega⟩
          have hx7 : ph7 ≤ 2663816 := hS7.phi
          have hn7 : nl ≤ nl7 := Nat.le_trans hnL hm7
          refine v_aload_n hX d_S_layWords_33 rfl rfl ?_
          refine c_V hX 2 (rest := []) hl (c_S_putLine hS7 (by omega) (by omega)) ml_S_122 im_S_putLine se_S_putLine in_S cd_S_putLine rfl q_S_putLine ⟨(Nat.le_of_ble_eq_true rfl), (Nat.le_of_ble_eq_true rfl)⟩ hS7.set.1 hS7.set.2.1 hS7.set.2.2 rfl rfl rfl rfl (Nat.le_of_ble_eq_true rfl) d_S_layWords_34 ⟨by have a := hP7.2; have b := hx7; show _ + (120 + (2663816 - ph7) / 16) ≤ 120 + (2663816 - ph) / 16; omega, by have a := hP7.1; have b := hx7; show _ + (700000 + (2663816 - ph7)) ≤ 700000 + (2663816 - ph); omega⟩ (fun rv d2 lo8 va8 kc8 ns8 hp => ?_)
          obtain ⟨rfl, rfl, ⟨nl8, ph8, hS8, hm8, hp8⟩, hf8⟩ := hp
          show V X D CL A _ _ _ _ _ _ _ []
          have hP8 : (ssL + ns7 + ns8) + ph ≤ ph8 ∧ 16 * (csL + kc7 + kc8) + ph ≤ ph8 := ⟨by have a := hP7.1; have b := hp8.1; omega, by have a := hP7.2; have b := hp8.2; omega⟩
          have hx8 : ph8 ≤ 2663816 := hS8.phi
          have hn8 : nl ≤ nl8 := Nat.le_trans hn7 hm8
          refine v_goto hX d_S_layWords_37 (tgt := 63) (by decide) ?_
          refine v_iinc (y := (k + 1)) (lv' := [some (.ref (ob 2)), some (.int x), some (.int y), some (.int (nI wd)), some (.int (k + 1)), some (.int v3)]) hX d_S_layWords_63 rfl (by rfl) rfl ?_
          refine v_goto hX d_S_layWords_66 (tgt := 3) (by decide) ?_
          exact ih (k + 1) _ lo8 va8 (csL + kc7 + kc8) (ssL + ns7 + ns8) 0 0 nl8 ph8 (iter_lt (Int32.not_le.mp c6) hk) hS8 (⟨by omega, by omega⟩) hn8 hP8 ((hfL.trans hf7).trans hf8)
  exact loop _ _ _ loc val (0) (0) w c nl ph (Nat.lt_succ_self _) hS (⟨by omega, by omega⟩) (Nat.le_refl nl) hP frL.rf
