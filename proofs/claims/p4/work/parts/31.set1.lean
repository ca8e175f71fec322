set_option maxHeartbeats 4000000 in
set_option maxRecDepth 100000 in
theorem c_S_putBetween {l : Launch} {D : va_G} {A : Nat → Prop} {cI cB cZ cJ cN : ClassId} {ob : Nat → Nat} {td w c a al nl pf tl ph : Nat} {dom : Nat → Prop} {loc : Nat → Nat} {val : Nat → va_E} (hS : LayS cI ob td w c a al nl pf tl ph dom loc val) (ha : a ≤ 144) (hc : c ≤ 60) : kM l y_S_putBetween (Cond.code y_S_putBetween b_S_putBetween 1 none :: TT) (rmP 3 ph) D CL (TY cI cB cZ cJ cN) A [.ref (ob 2)] dom loc val (PSt cI ob td w c a al nl pf tl ph dom loc val) := by
  refine kM_of (lv0 := [some (.ref (ob 2))]) (own := "ProsePages$Setter") (by decide) rfl (List.forall_mem_cons.mpr ⟨rfl, fun _ h => nomatch h⟩) (Nat.le_of_ble_eq_true rfl) rfl (Nat.le_of_ble_eq_true rfl) (fun X hl hX hE hin0 => ?_)
  have hP : 0 + ph ≤ ph ∧ 16 * 0 + ph ≤ ph := ⟨by omega, by omega⟩
  have hx : ph ≤ 2663816 := hS.phi
  refine v_aload_n hX d_S_putBetween_0 rfl rfl ?_
  refine v_get hX 2 (v := .ref (ob td)) inT2 hS.set.1 hS.set.2.1 hS.set.2.2 rfl 1 (by decide) fl_S_21 rfl rfl d_S_putBetween_1 ?_
  refine v_aload_n hX d_S_putBetween_4 rfl rfl ?_
  refine v_get hX 2 (v := .ref (ob 22)) inT2 hS.set.1 hS.set.2.1 hS.set.2.2 rfl 2 (by decide) fl_S_25 rfl rfl d_S_putBetween_5 ?_
  refine v_aload_n hX d_S_putBetween_8 rfl rfl ?_
  refine v_get hX 2 (v := .ref (ob 28)) inT2 hS.set.1 hS.set.2.1 hS.set.2.2 rfl 5 (by decide) fl_S_34 rfl rfl d_S_putBetween_9 ?_
  refine v_iconst (v := 1) hX d_S_putBetween_12 (by decide) ?_
  refine c_V hX td (rest := []) hl (S_addLine hS 1 (by omega) (by omega)) ml_S_159 im_T_addLine se_T_addLine in_T cd_T_addLine rfl q_T_addLine ⟨(Nat.le_of_ble_eq_true rfl), (Nat.le_of_ble_eq_true rfl)⟩ (hS.sheet).choose_spec.1 (hS.sheet).choose_spec.2.1 (hS.sheet).choose_spec.2.2 rfl rfl rfl rfl (Nat.le_of_ble_eq_true rfl) d_S_putBetween_13 ⟨by have a := hP.2; have b := hx; show _ + (120 + (2663816 - ph) / 16) ≤ 120 + (2663816 - ph) / 16; omega, by have a := hP.1; have b := hx; show _ + (700000 + (2663816 - ph)) ≤ 700000 + (2663816 - ph); omega⟩ (fun rv d2 lo1 va1 kc1 ns1 hp => ?_)
  obtain ⟨rfl, rfl, ⟨nl1, ph1, hS1, hm1, hp1⟩, hf1⟩ := hp
  show V X D CL A _ _ _ _ _ _ _ []
  have hP1 : (0 + ns1) + ph ≤ ph1 ∧ 16 * (0 + kc1) + ph ≤ ph1 := ⟨by have a := hP.1; have b := hp1.1; omega, by have a := hP.2; have b := hp1.2; omega⟩
  have hx1 : ph1 ≤ 2663816 := hS1.phi
  have hn1 : nl ≤ nl1 := Nat.le_trans (Nat.le_refl nl) hm1
  exact v_vret hX hE d_S_putBetween_16 (by have a := hP1.2; have b := hx1; show _ ≤ 120 + (2663816 - ph) / 16; omega) (by have a := hP1.1; have b := hx1; show _ ≤ 700000 + (2663816 - ph); omega) ⟨rfl, rfl, ⟨nl1, ph1, hS1, hn1, by have a := hP1.1; have b := hP1.2; exact ⟨by omega, by omega⟩⟩, (frL.rf.trans hf1)⟩
set_option maxHeartbeats 4000000 in
set_option maxRecDepth 100000 in
theorem c_S_putLine {l : Launch} {D : va_G} {A : Nat → Prop} {cI cB cZ cJ cN : ClassId} {ob : Nat → Nat} {td w c a al nl pf tl ph : Nat} {dom : Nat → Prop} {loc : Nat → Nat} {val : Nat → va_E} (hS : LayS cI ob td w c a al nl pf tl ph dom loc val) (ha : a ≤ 144) (hc : c ≤ 60) : kM l y_S_putLine (Cond.code y_S_putLine b_S_putLine 2 none :: TT) (rmP 3 ph) D CL (TY cI cB cZ cJ cN) A [.ref (ob 2)] dom loc val (PSt cI ob td w 0 a al nl pf tl ph dom loc val) := by
  refine kM_of (lv0 := [some (.ref (ob 2)), none]) (own := "ProsePages$Setter") (by decide) rfl (List.forall_mem_cons.mpr ⟨rfl, fun _ h => nomatch h⟩) (Nat.le_of_ble_eq_true rfl) rfl (Nat.le_of_ble_eq_true rfl) (fun X hl hX hE hin0 => ?_)
  have hP : 0 + ph ≤ ph ∧ 16 * 0 + ph ≤ ph := ⟨by omega, by omega⟩
  have hx : ph ≤ 2663816 := hS.phi
  refine v_aload_n hX d_S_putLine_0 rfl rfl ?_
  refine v_get hX 2 (v := .ref (ob td)) inT2 hS.set.1 hS.set.2.1 hS.set.2.2 rfl 1 (by decide) fl_S_21 rfl rfl d_S_putLine_1 ?_
  refine v_aload_n hX d_S_putLine_4 rfl rfl ?_
  refine v_get hX 2 (v := .ref (ob 22)) inT2 hS.set.1 hS.set.2.1 hS.set.2.2 rfl 2 (by decide) fl_S_25 rfl rfl d_S_putLine_5 ?_
  refine v_aload_n hX d_S_putLine_8 rfl rfl ?_
  refine v_get hX 2 (v := .ref (ob 28)) inT2 hS.set.1 hS.set.2.1 hS.set.2.2 rfl 5 (by decide) fl_S_34 rfl rfl d_S_putLine_9 ?_
  refine v_iconst (v := 0) hX d_S_putLine_12 (by decide) ?_
  refine c_V hX td (rest := []) hl (S_addLine hS 0 (by omega) (by omega)) ml_S_159 im_T_addLine se_T_addLine in_T cd_T_addLine rfl q_T_addLine ⟨(Nat.le_of_ble_eq_true rfl), (Nat.le_of_ble_eq_true rfl)⟩ (hS.sheet).choose_spec.1 (hS.sheet).choose_spec.2.1 (hS.sheet).choose_spec.2.2 rfl rfl rfl rfl (Nat.le_of_ble_eq_true rfl) d_S_putLine_13 ⟨by have a := hP.2; have b := hx; show _ + (120 + (2663816 - ph) / 16) ≤ 120 + (2663816 - ph) / 16; omega, by have a := hP.1; have b := hx; show _ + (700000 + (2663816 - ph)) ≤ 700000 + (2663816 - ph); omega⟩ (fun rv d2 lo1 va1 kc1 ns1 hp => ?_)
  obtain ⟨rfl, rfl, ⟨nl1, ph1, hS1, hm1, hp1⟩, hf1⟩ := hp
  show V X D CL A _ _ _ _ _ _ _ []
  have hP1 : (0 + ns1) + ph ≤ ph1 ∧ 16 * (0 + kc1) + ph ≤ ph1 := ⟨by have a := hP.1; have b := hp1.1; omega, by have a := hP.2; have b := hp1.2; omega⟩
  have hx1 : ph1 ≤ 2663816 := hS1.phi
  have hn1 : nl ≤ nl1 := Nat.le_trans (Nat.le_refl nl) hm1
  refine v_aload_n hX d_S_putLine_16 rfl rfl ?_
  refine v_get hX 2 (v := .ref (ob 28)) inT2 hS1.set.1 hS1.set.2.1 hS1.set.2.2 rfl 5 (by decide) fl_S_34 rfl rfl d_S_putLine_17 ?_
  refine v_iconst (v := 0) hX d_S_putLine_20 (by decide) ?_
  refine c_V hX 28 (rest := []) hl (S_cut28 hS1) ml_S_156 im_R_cut se_R_cut in_R cd_R_cut rfl q_R_cut ⟨(Nat.le_of_ble_eq_true rfl), (Nat.le_of_ble_eq_true rfl)⟩ (hS1.row 28 (by decide)).1 (hS1.row 28 (by decide)).2.1 (hS1.row 28 (by decide)).2.2.choose_spec rfl rfl rfl rfl (Nat.le_of_ble_eq_true rfl) d_S_putLine_21 ⟨by have a := hP1.2; have b := hx1; show _ + 100 ≤ 120 + (2663816 - ph) / 16; omega, by have a := hP1.1; have b := hx1; show _ + 200000 ≤ 700000 + (2663816 - ph); omega⟩ (fun rv d2 lo2 va2 kc2 ns2 hp => ?_)
  obtain ⟨rfl, rfl, ⟨nl2, ph2, hS2, hm2, hp2⟩, hf2⟩ := hp
  show V X D CL A _ _ _ _ _ _ _ []
  have hP2 : (0 + ns1 + ns2) + ph ≤ ph2 ∧ 16 * (0 + kc1 + kc2) + ph ≤ ph2 := ⟨by have a := hP1.1; have b := hp2.1; omega, by have a := hP1.2; have b := hp2.2; omega⟩
  have hx2 : ph2 ≤ 2663816 := hS2.phi
  have hn2 : nl ≤ nl2 := Nat.le_trans hn1 hm2
  refine v_iconst (v := 0) hX d_S_putLine_24 (by decide) ?_
  refine v_istore_n (lv' := [some (.ref (ob 2)), some (.int 0)]) hX d_S_putLine_25 rfl (Nat.le_of_ble_eq_true rfl) rfl ?_
  have loop : ∀ (m9 : Nat) (k : Int32) (loL : Nat → Nat) (vaL : Nat → va_E) (csL ssL  nlL phL : Nat), ((nI a).toInt - k.toInt).toNat < m9 → LayS cI ob td w 0 a al nlL pf tl phL dom loL vaL → (True) → nl ≤ nlL → (ssL + ph ≤ phL ∧ 16 * csL + ph ≤ phL) → frL loc val loL vaL → V X D CL A dom loL vaL csL ssL 26 [some (.ref (ob 2)), some (.int k)] [] := by
    intro m9
    induction m9 with
    | zero => intro k loL vaL csL ssL  nlL phL hk hSL hcL hnL hPL hfL; exact absurd hk (Nat.not_lt_zero _)
    | succ m9 ih =>
      intro k loL vaL csL ssL  nlL phL hk hSL hcL hnL hPL hfL
      have hxL : phL ≤ 2663816 := hSL.phi
      refine v_iload_n hX d_S_putLine_26 rfl rfl ?_
      refine v_aload_n hX d_S_putLine_27 rfl rfl ?_
      refine v_get hX 2 (v := .ref (ob 22)) inT2 hSL.set.1 hSL.set.2.1 hSL.set.2.2 rfl 2 (by decide) fl_S_25 rfl rfl d_S_putLine_28 ?_
      refine c_V hX 22 (rest := [.int k]) hl (S_size22 hSL) ml_S_129 im_R_size se_R_size in_R cd_R_size rfl q_R_size ⟨(Nat.le_of_ble_eq_true rfl), (Nat.le_of_ble_eq_true rfl)⟩ (hSL.row 22 (by decide)).1 (hSL.row 22 (by decide)).2.1 (hSL.row 22 (by decide)).2.2.choose_spec rfl rfl rfl rfl (Nat.le_of_ble_eq_true rfl) d_S_putLine_31 ⟨by have a := hPL.2; have b := hxL; show _ + 100 ≤ 120 + (2663816 - ph) / 16; omega, by have a := hPL.1; have b := hxL; show _ + 200000 ≤ 700000 + (2663816 - ph); omega⟩ (fun rv d2 lo2 va2 kc ns hp => ?_)
      obtain ⟨rfl, rfl, rfl, rfl, rfl, rfl⟩ := hp
      show V X D CL A _ _ _ _ _ _ _ (.int (nI a) :: [.int k])
      refine v_icmp_ge hX d_S_putLine_34 (tgt := 59) (by decide) (fun c34 => ?_) (fun c34 => ?_)
      · exact v_vret hX hE d_S_putLine_59 (by have a := hPL.2; have b := hxL; show _ ≤ 120 + (2663816 - ph) / 16; omega) (by have a := hPL.1; have b := hxL; show _ ≤ 700000 + (2663816 - ph); omega) ⟨rfl, rfl, ⟨nlL, phL, hSL, hnL, by have a := hPL.1; have b := hPL.2; exact ⟨by omega, by omega⟩⟩, hfL⟩
      · refine v_aload_n hX d_S_putLine_37 rfl rfl ?_
        refine v_get hX 2 (v := .ref (ob 22)) inT2 hSL.set.1 hSL.set.2.1 hSL.set.2.2 rfl 2 (by decide) fl_S_25 rfl rfl d_S_putLine_38 ?_
        refine v_iload_n hX d_S_putLine_41 rfl rfl ?_
        refine v_aload_n hX d_S_putLine_42 rfl rfl ?_
        refine v_get hX 2 (v := .ref (ob 24)) inT2 hSL.set.1 hSL.set.2.1 hSL.set.2.2 rfl 3 (by decide) fl_S_28 rfl rfl d_S_putLine_43 ?_
        refine v_iload_n hX d_S_putLine_46 rfl rfl ?_
        refine c_V hX 24 (rest := [.int k, .ref (ob 22)]) hl (S_get hSL 24 (by decide) k) ml_S_125 im_R_get se_R_get in_R cd_R_get rfl q_R_get ⟨(Nat.le_of_ble_eq_true rfl), (Nat.le_of_ble_eq_true rfl)⟩ (hSL.row 24 (by decide)).1 (hSL.row 24 (by decide)).2.1 (hSL.row 24 (by decide)).2.2.choose_spec rfl rfl rfl rfl (Nat.le_of_ble_eq_true rfl) d_S_putLine_47 ⟨by have a := hPL.2; have b := hxL; show _ + 100 ≤ 120 + (2663816 - ph) / 16; omega, by have a := hPL.1; have b := hxL; show _ + 200000 ≤ 700000 + (2663816 - ph); omega⟩ (fun rv d2 lo2 va2 kc ns hp => ?_)
        obtain ⟨⟨v3, rfl⟩, rfl, rfl, rfl, rfl, rfl⟩ := hp
        show V X D CL A _ _ _ _ _ _ _ (.int v3 :: [.int k, .ref (ob 22)])
        refine c_V hX 22 (rest := []) hl (S_set22 hSL k v3) ml_S_96 im_R_set se_R_set in_R cd_R_set rfl q_R_set ⟨(Nat.le_of_ble_eq_true rfl), (Nat.le_of_ble_eq_true rfl)⟩ (hSL.row 22 (by decide)).1 (hSL.row 22 (by decide)).2.1 (hSL.row 22 (by decide)).2.2.choose_spec rfl rfl rfl rfl (Nat.le_of_ble_eq_true rfl) d_S_putLine_50 ⟨by have a := hPL.2; have b := hxL; show _ + 100 ≤ 120 + (2663816 - ph) / 16; omega, by have a := hPL.1; have b := hxL; show _ + 200000 ≤ 700000 + (2663816 - ph); omega⟩ (fun rv d2 lo4 va4 kc4 ns4 hp => ?_)
        obtain ⟨rfl, rfl, ⟨nl4, ph4, hS4, hm4, hp4⟩, hf4⟩ := hp
        show V X D CL A _ _ _ _ _ _ _ []
        have hP4 : (ssL + ns4) + ph ≤ ph4 ∧ 16 * (csL + kc4) + ph ≤ ph4 := ⟨by have a := hPL.1; have b := hp4.1; omega, by have a := hPL.2; have b := hp4.2; omega⟩
        have hx4 : ph4 ≤ 2663816 := hS4.phi
        have hn4 : nl ≤ nl4 := Nat.le_trans hnL hm4
        refine v_iinc (y := (k + 1)) (lv' := [some (.ref (ob 2)), some (.int (k + 1))]) hX d_S_putLine_53 rfl (by rfl) rfl ?_
        refine v_goto hX d_S_putLine_56 (tgt := 26) (by decide) ?_
        exact ih (k + 1) lo4 va4 (csL + kc4) (ssL + ns4)  nl4 ph4 (iter_lt (Int32.not_le.mp c34) hk) hS4 (trivial) hn4 hP4 (hfL.trans hf4)
  exact loop _ _ lo2 va2 (0 + kc1 + kc2) (0 + ns1 + ns2)  nl2 ph2 (Nat.lt_succ_self _) hS2 (trivial) hn2 hP2 ((frL.rf.trans hf1).trans hf2)
