set_option maxHeartbeats 4000000 in
set_option maxRecDepth 100000 in
theorem c_T_fillPages {l : Launch} {D : va_G} {A : Nat → Prop} {cI cB cZ cJ cN : ClassId} {ob : Nat → Nat} {td : Nat} {rs : RS} {sh : Nat → Int32 × Int32 × Int32} {dom : Nat → Prop} {loc : Nat → Nat} {val : Nat → va_E} (hI : LayI cI ob td rs sh dom loc val) {t : Nat} (ht : t = 5 ∨ t = 30) {nl : Nat} (hnl : (rs (t + 3)).1 = nl) (hn5 : nl ≤ 1500) (hpf : (rs (t + 13)).1 = 0 ∧ (rs (t + 15)).1 = 0) : kM l y_T_fillPages (Cond.code y_T_fillPages b_T_fillPages 3 none :: TT) (rmP 3 (Phi rs)) D CL (TY cI cB cZ cJ cN) A [.ref (ob t)] dom loc val (fun rv d lo va kc ns => rv = none ∧ dom = d ∧ (∃ rs2, LayI cI ob td rs2 sh dom lo va ∧ (∀ j, j ≠ t + 13 → j ≠ t + 15 → (rs2 j).1 = (rs j).1) ∧ pay rs rs2 kc ns) ∧ frL loc val lo va) := by
  refine kM_of (lv0 := [some (.ref (ob t)), none, none]) (own := "ProsePages$Sheet") (by decide) rfl (List.forall_mem_cons.mpr ⟨rfl, fun _ h => nomatch h⟩) (Nat.le_of_ble_eq_true rfl) rfl (Nat.le_of_ble_eq_true rfl) (fun X hl hX hE hin0 => ?_)
  have hP : pay rs rs 0 0 := pay.rf
  have hx : Phi rs ≤ 2663816 := hI.1.phi
  refine v_iconst (v := 0) hX d_T_fillPages_0 (by decide) ?_
  refine v_istore_n (lv' := [some (.ref (ob t)), some (.int 0), none]) hX d_T_fillPages_1 rfl (Nat.le_of_ble_eq_true rfl) rfl ?_
  refine v_iconst (v := 0) hX d_T_fillPages_2 (by decide) ?_
  refine v_istore_n (lv' := [some (.ref (ob t)), some (.int 0), some (.int 0)]) hX d_T_fillPages_3 rfl (Nat.le_of_ble_eq_true rfl) rfl ?_
  have loop : ∀ (m9 : Nat) (u : Int32) (k pfL : Nat) (loL : Nat → Nat) (vaL : Nat → va_E) (csL ssL : Nat) (rsL : RS), nl - k < m9 → LayI cI ob td rsL sh dom loL vaL → pay rs rsL csL ssL → frL loc val loL vaL → ((rsL (t + 13)).1 = pfL ∧ (rsL (t + 15)).1 = pfL ∧ pfL ≤ k) → (∀ j, j ≠ t + 13 → j ≠ t + 15 → (rsL j).1 = (rs j).1) → k ≤ nl → V X D CL A dom loL vaL csL ssL 4 [some (.ref (ob t)), some (.int u), some (.int (nI k))] [] := by
    intro m9
    induction m9 with
    | zero => intro u k pfL loL vaL csL ssL rsL hk; exact absurd hk (Nat.not_lt_zero _)
    | succ m9 ih =>
      intro u k pfL loL vaL csL ssL rsL hk hIL hPL hfL hpf2 hkp hkn
      obtain ⟨hpa, hpb, hpc⟩ := hpf2
      have hxL : Phi rsL ≤ 2663816 := hIL.1.phi
      have hl3 : (rsL (t + 3)).1 = nl := (hkp (t + 3) (by omega) (by omega)).trans hnl
      refine v_iload_n hX d_T_fillPages_4 rfl rfl ?_
      refine v_aload_n hX d_T_fillPages_5 rfl rfl ?_
      refine c_V hX t (rest := [.int (nI k)]) hl (c_T_lineCount hIL ht) ml_T_69 im_T_lineCount se_T_lineCount in_T cd_T_lineCount rfl q_T_lineCount ⟨(Nat.le_of_ble_eq_true rfl), (Nat.le_of_ble_eq_true rfl)⟩ (hIL.sheet ht).1 (hIL.sheet ht).2.1 (hIL.sheet ht).2.2 rfl rfl rfl rfl (Nat.le_of_ble_eq_true rfl) d_T_fillPages_6 ⟨by have a := hPL.2; have b := hxL; show _ + (120 + (2663816 - Phi rsL) / 16) ≤ 120 + (2663816 - Phi rs) / 16; omega, by have a := hPL.1; have b := hxL; show _ + (700000 + (2663816 - Phi rsL)) ≤ 700000 + (2663816 - Phi rs); omega⟩ (fun rv d2 lo2 va2 kc ns hp => ?_)
      obtain ⟨rfl, rfl, rfl, rfl, rfl, rfl⟩ := hp
      show V X D CL A _ _ _ _ _ _ _ (.int (nI (rsL (t + 3)).1) :: [.int (nI k)])
      refine v_icmp_ge hX d_T_fillPages_9 (tgt := 110) (by decide) (fun c9 => ?_) (fun c9 => ?_)
      · refine v_aload_n hX d_T_fillPages_110 rfl rfl ?_
        refine c_V hX t (rest := []) hl (c_T_pageCount hIL ht) ml_T_76 im_T_pageCount se_T_pageCount in_T cd_T_pageCount rfl q_T_pageCount ⟨(Nat.le_of_ble_eq_true rfl), (Nat.le_of_ble_eq_true rfl)⟩ (hIL.sheet ht).1 (hIL.sheet ht).2.1 (hIL.sheet ht).2.2 rfl rfl rfl rfl (Nat.le_of_ble_eq_true rfl) d_T_fillPages_111 ⟨by have a := hPL.2; have b := hxL; show _ + (120 + (2663816 - Phi rsL) / 16) ≤ 120 + (2663816 - Phi rs) / 16; omega, by have a := hPL.1; have b := hxL; show _ + (700000 + (2663816 - Phi rsL)) ≤ 700000 + (2663816 - Phi rs); omega⟩ (fun rv d2 lo2 va2 kc ns hp => ?_)
        obtain ⟨rfl, rfl, rfl, rfl, rfl, rfl⟩ := hp
        show V X D CL A _ _ _ _ _ _ _ (.int (nI (rsL (t + 13)).1) :: [])
        refine v_if_ne hX d_T_fillPages_114 (tgt := 136) (by decide) (fun c114 => ?_) (fun c114 => ?_)
        · exact v_vret hX hE d_T_fillPages_136 (by have a := hPL.2; have b := hxL; show _ ≤ 120 + (2663816 - Phi rs) / 16; omega) (by have a := hPL.1; have b := hxL; show _ ≤ 700000 + (2663816 - Phi rs); omega) ⟨rfl, rfl, ⟨rsL, hIL, (fun j h1 h2 => (hkp j h1 h2)), ⟨by have a := hPL.1; omega, by have a := hPL.2; omega⟩⟩, hfL⟩
        · refine v_aload_n hX d_T_fillPages_117 rfl rfl ?_
          refine v_get hX t (v := .ref (ob (t + 13))) inT3 (hIL.sheet ht).1 (hIL.sheet ht).2.1 (hIL.sheet ht).2.2 rfl 6 (by decide) fl_T_33 rfl rfl d_T_fillPages_118 ?_
          refine v_aload_n hX d_T_fillPages_121 rfl rfl ?_
          refine c_V hX t (rest := [.ref (ob (t + 13))]) hl (c_T_lineCount hIL ht) ml_T_69 im_T_lineCount se_T_lineCount in_T cd_T_lineCount rfl q_T_lineCount ⟨(Nat.le_of_ble_eq_true rfl), (Nat.le_of_ble_eq_true rfl)⟩ (hIL.sheet ht).1 (hIL.sheet ht).2.1 (hIL.sheet ht).2.2 rfl rfl rfl rfl (Nat.le_of_ble_eq_true rfl) d_T_fillPages_122 ⟨by have a := hPL.2; have b := hxL; show _ + (120 + (2663816 - Phi rsL) / 16) ≤ 120 + (2663816 - Phi rs) / 16; omega, by have a := hPL.1; have b := hxL; show _ + (700000 + (2663816 - Phi rsL)) ≤ 700000 + (2663816 - Phi rs); omega⟩ (fun rv d2 lo2 va2 kc ns hp => ?_)
          obtain ⟨rfl, rfl, rfl, rfl, rfl, rfl⟩ := hp
          show V X D CL A _ _ _ _ _ _ _ (.int (nI (rsL (t + 3)).1) :: [.ref (ob (t + 13))])
          refine c_V hX (t + 13) (rest := []) hl (L_add hIL (t + 13) (shRK ht 6 (by decide)) (nI (rsL (t + 3)).1) (by have a : (rsL (t + 13)).1 = pfL := hpa; have b : mxOf (t + 13) = 1501 := mxS1 ht 6 (by decide); omega)) ml_T_66 im_R_add se_R_add in_R cd_R_add rfl q_R_add ⟨(Nat.le_of_ble_eq_true rfl), (Nat.le_of_ble_eq_true rfl)⟩ (hIL.1.1 (t + 13) (shRK ht 6 (by decide))).1 (hIL.1.1 (t + 13) (shRK ht 6 (by decide))).2.2.1 (hIL.1.1 (t + 13) (shRK ht 6 (by decide))).2.2.2.1.v rfl rfl rfl rfl (Nat.le_of_ble_eq_true rfl) d_T_fillPages_125 ⟨by have a := hPL.2; have b := hxL; show _ + 20 ≤ 120 + (2663816 - Phi rs) / 16; omega, by have a := hPL.1; have b := hxL; show _ + 700000 ≤ 700000 + (2663816 - Phi rs); omega⟩ (fun rv d2 lo1 va1 kc1 ns1 hp => ?_)
          obtain ⟨rfl, rfl, ⟨rs1, hI1, hs1, ho1, hp1⟩, hf1⟩ := hp
          show V X D CL A _ _ _ _ _ _ _ []
          have hP1 : pay rs rs1 (csL + kc1) (ssL + ns1) := ⟨by have a := hPL.1; have b := hp1.1; omega, by have a := hPL.2; have b := hp1.2; omega⟩
          have hx1 : Phi rs1 ≤ 2663816 := hI1.1.phi
          refine v_aload_n hX d_T_fillPages_128 rfl rfl ?_
          refine v_get hX t (v := .ref (ob (t + 15))) inT3 (hI1.sheet ht).1 (hI1.sheet ht).2.1 (hI1.sheet ht).2.2 rfl 7 (by decide) fl_T_36 rfl rfl d_T_fillPages_129 ?_
          refine v_iconst (v := 0) hX d_T_fillPages_132 (by decide) ?_
          refine c_V hX (t + 15) (rest := []) hl (L_add hI1 (t + 15) (shRK ht 7 (by decide)) 0 (by have a : (rs1 (t + 15)).1 = pfL := ((congrArg Prod.fst (ho1 (t + 15) (by omega))).trans hpb); have b : mxOf (t + 15) = 1501 := mxS1 ht 7 (by decide); omega)) ml_T_66 im_R_add se_R_add in_R cd_R_add rfl q_R_add ⟨(Nat.le_of_ble_eq_true rfl), (Nat.le_of_ble_eq_true rfl)⟩ (hI1.1.1 (t + 15) (shRK ht 7 (by decide))).1 (hI1.1.1 (t + 15) (shRK ht 7 (by decide))).2.2.1 (hI1.1.1 (t + 15) (shRK ht 7 (by decide))).2.2.2.1.v rfl rfl rfl rfl (Nat.le_of_ble_eq_true rfl) d_T_fillPages_133 ⟨by have a := hP1.2; have b := hx1; show _ + 20 ≤ 120 + (2663816 - Phi rs) / 16; omega, by have a := hP1.1; have b := hx1; show _ + 700000 ≤ 700000 + (2663816 - Phi rs); omega⟩ (fun rv d2 lo2 va2 kc2 ns2 hp => ?_)
          obtain ⟨rfl, rfl, ⟨rs2, hI2, hs2, ho2, hp2⟩, hf2⟩ := hp
          show V X D CL A _ _ _ _ _ _ _ []
          have hP2 : pay rs rs2 (csL + kc1 + kc2) (ssL + ns1 + ns2) := ⟨by have a := hP1.1; have b := hp2.1; omega, by have a := hP1.2; have b := hp2.2; omega⟩
          have hx2 : Phi rs2 ≤ 2663816 := hI2.1.phi
          exact v_vret hX hE d_T_fillPages_136 (by have a := hP2.2; have b := hx2; show _ ≤ 120 + (2663816 - Phi rs) / 16; omega) (by have a := hP2.1; have b := hx2; show _ ≤ 700000 + (2663816 - Phi rs); omega) ⟨rfl, rfl, ⟨rs2, hI2, (fun j h1 h2 => ((keep_add (t := t) ho2 (Or.inr rfl) j h1 h2).trans ((keep_add (t := t) ho1 (Or.inl rfl) j h1 h2).trans (hkp j h1 h2)))), ⟨by have a := hP2.1; omega, by have a := hP2.2; omega⟩⟩, ((hfL.trans hf1).trans hf2)⟩
      · have hk2 : k < nl := by have q : ¬ (rsL (t + 3)).1 ≤ k := (fun z => c9 ((nI_leI (by omega) (by omega)).mpr z)); omega
        refine v_iload_n hX d_T_fillPages_12 rfl rfl ?_
        refine v_aload_n hX d_T_fillPages_13 rfl rfl ?_
        refine v_get hX t (v := .int (sh t).1) inT3 (hIL.sheet ht).1 (hIL.sheet ht).2.1 (hIL.sheet ht).2.2 rfl 8 (by decide) fl_T_47 rfl rfl d_T_fillPages_14 ?_
        refine v_icmp_ge hX d_T_fillPages_17 (tgt := 33) (by decide) (fun c17 => ?_) (fun c17 => ?_)
        · refine v_iconst (v := 0) hX d_T_fillPages_33 (by decide) ?_
          refine v_istore_n (lv' := [some (.ref (ob t)), some (.int 0), some (.int (nI k))]) hX d_T_fillPages_34 rfl (Nat.le_of_ble_eq_true rfl) rfl ?_
          refine v_iload_n hX d_T_fillPages_35 rfl rfl ?_
          refine v_if_ne hX d_T_fillPages_36 (tgt := 53) (by decide) (fun c => absurd (by decide) c) (fun _ => ?_)
          refine v_aload_n hX d_T_fillPages_39 rfl rfl ?_
          refine v_get hX t (v := .ref (ob (t + 5))) inT3 (hIL.sheet ht).1 (hIL.sheet ht).2.1 (hIL.sheet ht).2.2 rfl 2 (by decide) fl_T_21 rfl rfl d_T_fillPages_40 ?_
          refine v_iload_n hX d_T_fillPages_43 rfl rfl ?_
          refine c_V hX (t + 5) (rest := []) hl (L_get hIL (t + 5) (shRK ht 2 (by decide)) (nI k)) ml_T_62 im_R_get se_R_get in_R cd_R_get rfl q_R_get ⟨(Nat.le_of_ble_eq_true rfl), (Nat.le_of_ble_eq_true rfl)⟩ (hIL.1.1 (t + 5) (shRK ht 2 (by decide))).1 (hIL.1.1 (t + 5) (shRK ht 2 (by decide))).2.2.1 (hIL.1.1 (t + 5) (shRK ht 2 (by decide))).2.2.2.1.v rfl rfl rfl rfl (Nat.le_of_ble_eq_true rfl) d_T_fillPages_44 ⟨by have a := hPL.2; have b := hxL; show _ + 100 ≤ 120 + (2663816 - Phi rs) / 16; omega, by have a := hPL.1; have b := hxL; show _ + 200000 ≤ 700000 + (2663816 - Phi rs); omega⟩ (fun rv d2 lo2 va2 kc ns hp => ?_)
          obtain ⟨⟨v3, rfl⟩, rfl, rfl, rfl, rfl, rfl⟩ := hp
          show V X D CL A _ _ _ _ _ _ _ (.int v3 :: [])
          refine v_if_ne hX d_T_fillPages_47 (tgt := 53) (by decide) (fun c47 => ?_) (fun c47 => ?_)
          · refine v_iload_n hX d_T_fillPages_53 rfl rfl ?_
            refine v_if_ne hX d_T_fillPages_54 (tgt := 73) (by decide) (fun c => absurd (by decide) c) (fun _ => ?_)
            refine v_aload_n hX d_T_fillPages_57 rfl rfl ?_
            refine v_get hX t (v := .ref (ob (t + 13))) inT3 (hIL.sheet ht).1 (hIL.sheet ht).2.1 (hIL.sheet ht).2.2 rfl 6 (by decide) fl_T_33 rfl rfl d_T_fillPages_58 ?_
            refine v_iload_n hX d_T_fillPages_61 rfl rfl ?_
            refine c_V hX (t + 13) (rest := []) hl (L_add hIL (t + 13) (shRK ht 6 (by decide)) (nI k) (by have a : (rsL (t + 13)).1 = pfL := hpa; have b : mxOf (t + 13) = 1501 := mxS1 ht 6 (by decide); omega)) ml_T_66 im_R_add se_R_add in_R cd_R_add rfl q_R_add ⟨(Nat.le_of_ble_eq_true rfl), (Nat.le_of_ble_eq_true rfl)⟩ (hIL.1.1 (t + 13) (shRK ht 6 (by decide))).1 (hIL.1.1 (t + 13) (shRK ht 6 (by decide))).2.2.1 (hIL.1.1 (t + 13) (shRK ht 6 (by decide))).2.2.2.1.v rfl rfl rfl rfl (Nat.le_of_ble_eq_true rfl) d_T_fillPages_62 ⟨by have a := hPL.2; have b := hxL; show _ + 20 ≤ 120 + (2663816 - Phi rs) / 16; omega, by have a := hPL.1; have b := hxL; show _ + 700000 ≤ 700000 + (2663816 - Phi rs); omega⟩ (fun rv d2 lo4 va4 kc4 ns4 hp => ?_)
            obtain ⟨rfl, rfl, ⟨rs4, hI4, hs4, ho4, hp4⟩, hf4⟩ := hp
            show V X D CL A _ _ _ _ _ _ _ []
            have hP4 : pay rs rs4 (csL + kc4) (ssL + ns4) := ⟨by have a := hPL.1; have b := hp4.1; omega, by have a := hPL.2; have b := hp4.2; omega⟩
            have hx4 : Phi rs4 ≤ 2663816 := hI4.1.phi
            refine v_aload_n hX d_T_fillPages_65 rfl rfl ?_
            refine v_get hX t (v := .ref (ob (t + 15))) inT3 (hI4.sheet ht).1 (hI4.sheet ht).2.1 (hI4.sheet ht).2.2 rfl 7 (by decide) fl_T_36 rfl rfl d_T_fillPages_66 ?_
            refine v_iconst (v := 0) hX d_T_fillPages_69 (by decide) ?_
            refine c_V hX (t + 15) (rest := []) hl (L_add hI4 (t + 15) (shRK ht 7 (by decide)) 0 (by have a : (rs4 (t + 15)).1 = pfL := ((congrArg Prod.fst (ho4 (t + 15) (by omega))).trans hpb); have b : mxOf (t + 15) = 1501 := mxS1 ht 7 (by decide); omega)) ml_T_66 im_R_add se_R_add in_R cd_R_add rfl q_R_add ⟨(Nat.le_of_ble_eq_true rfl), (Nat.le_of_ble_eq_true rfl)⟩ (hI4.1.1 (t + 15) (shRK ht 7 (by decide))).1 (hI4.1.1 (t + 15) (shRK ht 7 (by decide))).2.2.1 (hI4.1.1 (t + 15) (shRK ht 7 (by decide))).2.2.2.1.v rfl rfl rfl rfl (Nat.le_of_ble_eq_true rfl) d_T_fillPages_70 ⟨by have a := hP4.2; have b := hx4; show _ + 20 ≤ 120 + (2663816 - Phi rs) / 16; omega, by have a := hP4.1; have b := hx4; show _ + 700000 ≤ 700000 + (2663816 - Phi rs); omega⟩ (fun rv d2 lo5 va5 kc5 ns5 hp => ?_)
            obtain ⟨rfl, rfl, ⟨rs5, hI5, hs5, ho5, hp5⟩, hf5⟩ := hp
            show V X D CL A _ _ _ _ _ _ _ []
            have hP5 : pay rs rs5 (csL + kc4 + kc5) (ssL + ns4 + ns5) := ⟨by have a := hP4.1; have b := hp5.1; omega, by have a := hP4.2; have b := hp5.2; omega⟩
            have hx5 : Phi rs5 ≤ 2663816 := hI5.1.phi
            refine v_iinc (y := 1) (lv' := [some (.ref (ob t)), some (.int 1), some (.int (nI k))]) hX d_T_fillPages_73 rfl (by decide) rfl ?_
            refine v_aload_n hX d_T_fillPages_76 rfl rfl ?_
            refine v_get hX t (v := .ref (ob (t + 7))) inT3 (hI5.sheet ht).1 (hI5.sheet ht).2.1 (hI5.sheet ht).2.2 rfl 3 (by decide) fl_T_24 rfl rfl d_T_fillPages_77 ?_
            refine v_iload_n hX d_T_fillPages_80 rfl rfl ?_
            refine v_aload_n hX d_T_fillPages_81 rfl rfl ?_
            refine c_V hX t (rest := [.int (nI k), .ref (ob (t + 7))]) hl (c_T_pageCount hI5 ht) ml_T_76 im_T_pageCount se_T_pageCount in_T cd_T_pageCount rfl q_T_pageCount ⟨(Nat.le_of_ble_eq_true rfl), (Nat.le_of_ble_eq_true rfl)⟩ (hI5.sheet ht).1 (hI5.sheet ht).2.1 (hI5.sheet ht).2.2 rfl rfl rfl rfl (Nat.le_of_ble_eq_true rfl) d_T_fillPages_82 ⟨by have a := hP5.2; have b := hx5; show _ + (120 + (2663816 - Phi rs5) / 16) ≤ 120 + (2663816 - Phi rs) / 16; omega, by have a := hP5.1; have b := hx5; show _ + (700000 + (2663816 - Phi rs5)) ≤ 700000 + (2663816 - Phi rs); omega⟩ (fun rv d2 lo2 va2 kc ns hp => ?_)
            obtain ⟨rfl, rfl, rfl, rfl, rfl, rfl⟩ := hp
            show V X D CL A _ _ _ _ _ _ _ (.int (nI (rs5 (t + 13)).1) :: [.int (nI k), .ref (ob (t + 7))])
            refine v_iconst (v := 1) hX d_T_fillPages_85 (by decide) ?_
            refine v_isub hX d_T_fillPages_86 ?_
            refine c_V hX (t + 7) (rest := []) hl (L_set hI5 (t + 7) (shRK ht 3 (by decide)) (nI k) ((nI (rs5 (t + 13)).1) - 1)) ml_T_79 im_R_set se_R_set in_R cd_R_set rfl q_R_set ⟨(Nat.le_of_ble_eq_true rfl), (Nat.le_of_ble_eq_true rfl)⟩ (hI5.1.1 (t + 7) (shRK ht 3 (by decide))).1 (hI5.1.1 (t + 7) (shRK ht 3 (by decide))).2.2.1 (hI5.1.1 (t + 7) (shRK ht 3 (by decide))).2.2.2.1.v rfl rfl rfl rfl (Nat.le_of_ble_eq_true rfl) d_T_fillPages_87 ⟨by have a := hP5.2; have b := hx5; show _ + 100 ≤ 120 + (2663816 - Phi rs) / 16; omega, by have a := hP5.1; have b := hx5; show _ + 200000 ≤ 700000 + (2663816 - Phi rs); omega⟩ (fun rv d2 lo6 va6 kc6 ns6 hp => ?_)
            obtain ⟨rfl, rfl, ⟨rs6, hI6, hs6, ho6, hp6⟩, hf6⟩ := hp
            show V X D CL A _ _ _ _ _ _ _ []
            have hP6 : pay rs rs6 (csL + kc4 + kc5 + kc6) (ssL + ns4 + ns5 + ns6) := ⟨by have a := hP5.1; have b := hp6.1; omega, by have a := hP5.2; have b := hp6.2; omega⟩
            have hx6 : Phi rs6 ≤ 2663816 := hI6.1.phi
            refine v_aload_n hX d_T_fillPages_90 rfl rfl ?_
            refine v_get hX t (v := .ref (ob (t + 15))) inT3 (hI6.sheet ht).1 (hI6.sheet ht).2.1 (hI6.sheet ht).2.2 rfl 7 (by decide) fl_T_36 rfl rfl d_T_fillPages_91 ?_
            refine v_aload_n hX d_T_fillPages_94 rfl rfl ?_
            refine c_V hX t (rest := [.ref (ob (t + 15))]) hl (c_T_pageCount hI6 ht) ml_T_76 im_T_pageCount se_T_pageCount in_T cd_T_pageCount rfl q_T_pageCount ⟨(Nat.le_of_ble_eq_true rfl), (Nat.le_of_ble_eq_true rfl)⟩ (hI6.sheet ht).1 (hI6.sheet ht).2.1 (hI6.sheet ht).2.2 rfl rfl rfl rfl (Nat.le_of_ble_eq_true rfl) d_T_fillPages_95 ⟨by have a := hP6.2; have b := hx6; show _ + (120 + (2663816 - Phi rs6) / 16) ≤ 120 + (2663816 - Phi rs) / 16; omega, by have a := hP6.1; have b := hx6; show _ + (700000 + (2663816 - Phi rs6)) ≤ 700000 + (2663816 - Phi rs); omega⟩ (fun rv d2 lo2 va2 kc ns hp => ?_)
            obtain ⟨rfl, rfl, rfl, rfl, rfl, rfl⟩ := hp
            show V X D CL A _ _ _ _ _ _ _ (.int (nI (rs6 (t + 13)).1) :: [.ref (ob (t + 15))])
            refine v_iconst (v := 1) hX d_T_fillPages_98 (by decide) ?_
            refine v_isub hX d_T_fillPages_99 ?_
            refine v_iload_n hX d_T_fillPages_100 rfl rfl ?_
            refine c_V hX (t + 15) (rest := []) hl (L_set hI6 (t + 15) (shRK ht 7 (by decide)) ((nI (rs6 (t + 13)).1) - 1) 1) ml_T_79 im_R_set se_R_set in_R cd_R_set rfl q_R_set ⟨(Nat.le_of_ble_eq_true rfl), (Nat.le_of_ble_eq_true rfl)⟩ (hI6.1.1 (t + 15) (shRK ht 7 (by decide))).1 (hI6.1.1 (t + 15) (shRK ht 7 (by decide))).2.2.1 (hI6.1.1 (t + 15) (shRK ht 7 (by decide))).2.2.2.1.v rfl rfl rfl rfl (Nat.le_of_ble_eq_true rfl) d_T_fillPages_101 ⟨by have a := hP6.2; have b := hx6; show _ + 100 ≤ 120 + (2663816 - Phi rs) / 16; omega, by have a := hP6.1; have b := hx6; show _ + 200000 ≤ 700000 + (2663816 - Phi rs); omega⟩ (fun rv d2 lo7 va7 kc7 ns7 hp => ?_)
            obtain ⟨rfl, rfl, ⟨rs7, hI7, hs7, ho7, hp7⟩, hf7⟩ := hp
            show V X D CL A _ _ _ _ _ _ _ []
            have hP7 : pay rs rs7 (csL + kc4 + kc5 + kc6 + kc7) (ssL + ns4 + ns5 + ns6 + ns7) := ⟨by have a := hP6.1; have b := hp7.1; omega, by have a := hP6.2; have b := hp7.2; omega⟩
            have hx7 : Phi rs7 ≤ 2663816 := hI7.1.phi
            refine v_iinc (y := ((nI k) + 1)) (lv' := [some (.ref (ob t)), some (.int 1), some (.int ((nI k) + 1))]) hX d_T_fillPages_104 rfl (by rfl) rfl ?_
            refine v_goto hX d_T_fillPages_107 (tgt := 4) (by decide) ?_
            rw [show nI k + 1 = nI (k + 1) from nI_1 k]
            exact ih 1 (k + 1) (pfL + 1) lo7 va7 (csL + kc4 + kc5 + kc6 + kc7) (ssL + ns4 + ns5 + ns6 + ns7) rs7 (by omega) hI7 ⟨by have a := hP7.1; omega, by have a := hP7.2; omega⟩ ((((hfL.trans hf4).trans hf5).trans hf6).trans hf7) ⟨((congrArg Prod.fst (ho7 (t + 13) (by omega))).trans ((congrArg Prod.fst (ho6 (t + 13) (by omega))).trans ((congrArg Prod.fst (ho5 (t + 13) (by omega))).trans (eq_add1 hs4 hpa)))), (hs7.trans ((congrArg Prod.fst (ho6 (t + 15) (by omega))).trans (eq_add1 hs5 ((congrArg Prod.fst (ho4 (t + 15) (by omega))).trans hpb)))), by omega⟩ (fun j h1 h2 => ((keep_set (t := t) hs7 ho7 j h1 h2).trans ((keep_set (t := t) hs6 ho6 j h1 h2).trans ((keep_add (t := t) ho5 (Or.inr rfl) j h1 h2).trans ((keep_add (t := t) ho4 (Or.inl rfl) j h1 h2).trans (hkp j h1 h2)))))) (by omega)
          · refine v_goto hX d_T_fillPages_50 (tgt := 104) (by decide) ?_
            refine v_iinc (y := ((nI k) + 1)) (lv' := [some (.ref (ob t)), some (.int 0), some (.int ((nI k) + 1))]) hX d_T_fillPages_104 rfl (by rfl) rfl ?_
            refine v_goto hX d_T_fillPages_107 (tgt := 4) (by decide) ?_
            rw [show nI k + 1 = nI (k + 1) from nI_1 k]
            exact ih 0 (k + 1) pfL loL vaL (csL) (ssL) rsL (by omega) hIL ⟨by have a := hPL.1; omega, by have a := hPL.2; omega⟩ hfL ⟨hpa, hpb, by omega⟩ (fun j h1 h2 => (hkp j h1 h2)) (by omega)
        · refine v_iload_n hX d_T_fillPages_20 rfl rfl ?_
          refine v_if_le hX d_T_fillPages_21 (tgt := 35) (by decide) (fun c21 => ?_) (fun c21 => ?_)
          · refine v_iload_n hX d_T_fillPages_35 rfl rfl ?_
            refine v_if_ne hX d_T_fillPages_36 (tgt := 53) (by decide) (fun c36 => ?_) (fun c36 => ?_)
            · refine v_iload_n hX d_T_fillPages_53 rfl rfl ?_
              refine v_if_ne hX d_T_fillPages_54 (tgt := 73) (by decide) (fun c54 => ?_) (fun c54 => ?_)
              · refine v_iinc (y := (u + 1)) (lv' := [some (.ref (ob t)), some (.int (u + 1)), some (.int (nI k))]) hX d_T_fillPages_73 rfl (by rfl) rfl ?_
                refine v_aload_n hX d_T_fillPages_76 rfl rfl ?_
                refine v_get hX t (v := .ref (ob (t + 7))) inT3 (hIL.sheet ht).1 (hIL.sheet ht).2.1 (hIL.sheet ht).2.2 rfl 3 (by decide) fl_T_24 rfl rfl d_T_fillPages_77 ?_
                refine v_iload_n hX d_T_fillPages_80 rfl rfl ?_
                refine v_aload_n hX d_T_fillPages_81 rfl rfl ?_
                refine c_V hX t (rest := [.int (nI k), .ref (ob (t + 7))]) hl (c_T_pageCount hIL ht) ml_T_76 im_T_pageCount se_T_pageCount in_T cd_T_pageCount rfl q_T_pageCount ⟨(Nat.le_of_ble_eq_true rfl), (Nat.le_of_ble_eq_true rfl)⟩ (hIL.sheet ht).1 (hIL.sheet ht).2.1 (hIL.sheet ht).2.2 rfl rfl rfl rfl (Nat.le_of_ble_eq_true rfl) d_T_fillPages_82 ⟨by have a := hPL.2; have b := hxL; show _ + (120 + (2663816 - Phi rsL) / 16) ≤ 120 + (2663816 - Phi rs) / 16; omega, by have a := hPL.1; have b := hxL; show _ + (700000 + (2663816 - Phi rsL)) ≤ 700000 + (2663816 - Phi rs); omega⟩ (fun rv d2 lo2 va2 kc ns hp => ?_)
                obtain ⟨rfl, rfl, rfl, rfl, rfl, rfl⟩ := hp
                show V X D CL A _ _ _ _ _ _ _ (.int (nI (rsL (t + 13)).1) :: [.int (nI k), .ref (ob (t + 7))])
                refine v_iconst (v := 1) hX d_T_fillPages_85 (by decide) ?_
                refine v_isub hX d_T_fillPages_86 ?_
                refine c_V hX (t + 7) (rest := []) hl (L_set hIL (t + 7) (shRK ht 3 (by decide)) (nI k) ((nI (rsL (t + 13)).1) - 1)) ml_T_79 im_R_set se_R_set in_R cd_R_set rfl q_R_set ⟨(Nat.le_of_ble_eq_true rfl), (Nat.le_of_ble_eq_true rfl)⟩ (hIL.1.1 (t + 7) (shRK ht 3 (by decide))).1 (hIL.1.1 (t + 7) (shRK ht 3 (by decide))).2.2.1 (hIL.1.1 (t + 7) (shRK ht 3 (by decide))).2.2.2.1.v rfl rfl rfl rfl (Nat.le_of_ble_eq_true rfl) d_T_fillPages_87 ⟨by have a := hPL.2; have b := hxL; show _ + 100 ≤ 120 + (2663816 - Phi rs) / 16; omega, by have a := hPL.1; have b := hxL; show _ + 200000 ≤ 700000 + (2663816 - Phi rs); omega⟩ (fun rv d2 lo8 va8 kc8 ns8 hp => ?_)
                obtain ⟨rfl, rfl, ⟨rs8, hI8, hs8, ho8, hp8⟩, hf8⟩ := hp
                show V X D CL A _ _ _ _ _ _ _ []
                have hP8 : pay rs rs8 (csL + kc8) (ssL + ns8) := ⟨by have a := hPL.1; have b := hp8.1; omega, by have a := hPL.2; have b := hp8.2; omega⟩
                have hx8 : Phi rs8 ≤ 2663816 := hI8.1.phi
                refine v_aload_n hX d_T_fillPages_90 rfl rfl ?_
                refine v_get hX t (v := .ref (ob (t + 15))) inT3 (hI8.sheet ht).1 (hI8.sheet ht).2.1 (hI8.sheet ht).2.2 rfl 7 (by decide) fl_T_36 rfl rfl d_T_fillPages_91 ?_
                refine v_aload_n hX d_T_fillPages_94 rfl rfl ?_
                refine c_V hX t (rest := [.ref (ob (t + 15))]) hl (c_T_pageCount hI8 ht) ml_T_76 im_T_pageCount se_T_pageCount in_T cd_T_pageCount rfl q_T_pageCount ⟨(Nat.le_of_ble_eq_true rfl), (Nat.le_of_ble_eq_true rfl)⟩ (hI8.sheet ht).1 (hI8.sheet ht).2.1 (hI8.sheet ht).2.2 rfl rfl rfl rfl (Nat.le_of_ble_eq_true rfl) d_T_fillPages_95 ⟨by have a := hP8.2; have b := hx8; show _ + (120 + (2663816 - Phi rs8) / 16) ≤ 120 + (2663816 - Phi rs) / 16; omega, by have a := hP8.1; have b := hx8; show _ + (700000 + (2663816 - Phi rs8)) ≤ 700000 + (2663816 - Phi rs); omega⟩ (fun rv d2 lo2 va2 kc ns hp => ?_)
                obtain ⟨rfl, rfl, rfl, rfl, rfl, rfl⟩ := hp
                show V X D CL A _ _ _ _ _ _ _ (.int (nI (rs8 (t + 13)).1) :: [.ref (ob (t + 15))])
                refine v_iconst (v := 1) hX d_T_fillPages_98 (by decide) ?_
                refine v_isub hX d_T_fillPages_99 ?_
                refine v_iload_n hX d_T_fillPages_100 rfl rfl ?_
                refine c_V hX (t + 15) (rest := []) hl (L_set hI8 (t + 15) (shRK ht 7 (by decide)) ((nI (rs8 (t + 13)).1) - 1) (u + 1)) ml_T_79 im_R_set se_R_set in_R cd_R_set rfl q_R_set ⟨(Nat.le_of_ble_eq_true rfl), (Nat.le_of_ble_eq_true rfl)⟩ (hI8.1.1 (t + 15) (shRK ht 7 (by decide))).1 (hI8.1.1 (t + 15) (shRK ht 7 (by decide))).2.2.1 (hI8.1.1 (t + 15) (shRK ht 7 (by decide))).2.2.2.1.v rfl rfl rfl rfl (Nat.le_of_ble_eq_true rfl) d_T_fillPages_101 ⟨by have a := hP8.2; have b := hx8; show _ + 100 ≤ 120 + (2663816 - Phi rs) / 16; omega, by have a := hP8.1; have b := hx8; show _ + 200000 ≤ 700000 + (2663816 - Phi rs); omega⟩ (fun rv d2 lo9 va9 kc9 ns9 hp => ?_)
                obtain ⟨rfl, rfl, ⟨rs9, hI9, hs9, ho9, hp9⟩, hf9⟩ := hp
                show V X D CL A _ _ _ _ _ _ _ []
                have hP9 : pay rs rs9 (csL + kc8 + kc9) (ssL + ns8 + ns9) := ⟨by have a := hP8.1; have b := hp9.1; omega, by have a := hP8.2; have b := hp9.2; omega⟩
                have hx9 : Phi rs9 ≤ 2663816 := hI9.1.phi
                refine v_iinc (y := ((nI k) + 1)) (lv' := [some (.ref (ob t)), some (.int (u + 1)), some (.int ((nI k) + 1))]) hX d_T_fillPages_104 rfl (by rfl) rfl ?_
                refine v_goto hX d_T_fillPages_107 (tgt := 4) (by decide) ?_
                rw [show nI k + 1 = nI (k + 1) from nI_1 k]
                exact ih (u + 1) (k + 1) pfL lo9 va9 (csL + kc8 + kc9) (ssL + ns8 + ns9) rs9 (by omega) hI9 ⟨by have a := hP9.1; omega, by have a := hP9.2; omega⟩ ((hfL.trans hf8).trans hf9) ⟨((congrArg Prod.fst (ho9 (t + 13) (by omega))).trans ((congrArg Prod.fst (ho8 (t + 13) (by omega))).trans hpa)), (hs9.trans ((congrArg Prod.fst (ho8 (t + 15) (by omega))).trans hpb)), by omega⟩ (fun j h1 h2 => ((keep_set (t := t) hs9 ho9 j h1 h2).trans ((keep_set (t := t) hs8 ho8 j h1 h2).trans (hkp j h1 h2)))) (by omega)
              · refine v_aload_n hX d_T_fillPages_57 rfl rfl ?_
                refine v_get hX t (v := .ref (ob (t + 13))) inT3 (hIL.sheet ht).1 (hIL.sheet ht).2.1 (hIL.sheet ht).2.2 rfl 6 (by decide) fl_T_33 rfl rfl d_T_fillPages_58 ?_
                refine v_iload_n hX d_T_fillPages_61 rfl rfl ?_
                refine c_V hX (t + 13) (rest := []) hl (L_add hIL (t + 13) (shRK ht 6 (by decide)) (nI k) (by have a : (rsL (t + 13)).1 = pfL := hpa; have b : mxOf (t + 13) = 1501 := mxS1 ht 6 (by decide); omega)) ml_T_66 im_R_add se_R_add in_R cd_R_add rfl q_R_add ⟨(Nat.le_of_ble_eq_true rfl), (Nat.le_of_ble_eq_true rfl)⟩ (hIL.1.1 (t + 13) (shRK ht 6 (by decide))).1 (hIL.1.1 (t + 13) (shRK ht 6 (by decide))).2.2.1 (hIL.1.1 (t + 13) (shRK ht 6 (by decide))).2.2.2.1.v rfl rfl rfl rfl (Nat.le_of_ble_eq_true rfl) d_T_fillPages_62 ⟨by have a := hPL.2; have b := hxL; show _ + 20 ≤ 120 + (2663816 - Phi rs) / 16; omega, by have a := hPL.1; have b := hxL; show _ + 700000 ≤ 700000 + (2663816 - Phi rs); omega⟩ (fun rv d2 lo10 va10 kc10 ns10 hp => ?_)
                obtain ⟨rfl, rfl, ⟨rs10, hI10, hs10, ho10, hp10⟩, hf10⟩ := hp
                show V X D CL A _ _ _ _ _ _ _ []
                have hP10 : pay rs rs10 (csL + kc10) (ssL + ns10) := ⟨by have a := hPL.1; have b := hp10.1; omega, by have a := hPL.2; have b := hp10.2; omega⟩
                have hx10 : Phi rs10 ≤ 2663816 := hI10.1.phi
                refine v_aload_n hX d_T_fillPages_65 rfl rfl ?_
                refine v_get hX t (v := .ref (ob (t + 15))) inT3 (hI10.sheet ht).1 (hI10.sheet ht).2.1 (hI10.sheet ht).2.2 rfl 7 (by decide) fl_T_36 rfl rfl d_T_fillPages_66 ?_
                refine v_iconst (v := 0) hX d_T_fillPages_69 (by decide) ?_
                refine c_V hX (t + 15) (rest := []) hl (L_add hI10 (t + 15) (shRK ht 7 (by decide)) 0 (by have a : (rs10 (t + 15)).1 = pfL := ((congrArg Prod.fst (ho10 (t + 15) (by omega))).trans hpb); have b : mxOf (t + 15) = 1501 := mxS1 ht 7 (by decide); omega)) ml_T_66 im_R_add se_R_add in_R cd_R_add rfl q_R_add ⟨(Nat.le_of_ble_eq_true rfl), (Nat.le_of_ble_eq_true rfl)⟩ (hI10.1.1 (t + 15) (shRK ht 7 (by decide))).1 (hI10.1.1 (t + 15) (shRK ht 7 (by decide))).2.2.1 (hI10.1.1 (t + 15) (shRK ht 7 (by decide))).2.2.2.1.v rfl rfl rfl rfl (Nat.le_of_ble_eq_true rfl) d_T_fillPages_70 ⟨by have a := hP10.2; have b := hx10; show _ + 20 ≤ 120 + (2663816 - Phi rs) / 16; omega, by have a := hP10.1; have b := hx10; show _ + 700000 ≤ 700000 + (2663816 - Phi rs); omega⟩ (fun rv d2 lo11 va11 kc11 ns11 hp => ?_)
                obtain ⟨rfl, rfl, ⟨rs11, hI11, hs11, ho11, hp11⟩, hf11⟩ := hp
                show V X D CL A _ _ _ _ _ _ _ []
                have hP11 : pay rs rs11 (csL + kc10 + kc11) (ssL + ns10 + ns11) := ⟨by have a := hP10.1; have b := hp11.1; omega, by have a := hP10.2; have b := hp11.2; omega⟩
                have hx11 : Phi rs11 ≤ 2663816 := hI11.1.phi
                refine v_iinc (y := (u + 1)) (lv' := [some (.ref (ob t)), some (.int (u + 1)), some (.int (nI k))]) hX d_T_fillPages_73 rfl (by rfl) rfl ?_
                refine v_aload_n hX d_T_fillPages_76 rfl rfl ?_
                refine v_get hX t (v := .ref (ob (t + 7))) inT3 (hI11.sheet ht).1 (hI11.sheet ht).2.1 (hI11.sheet ht).2.2 rfl 3 (by decide) fl_T_24 rfl rfl d_T_fillPages_77 ?_
                refine v_iload_n hX d_T_fillPages_80 rfl rfl ?_
                refine v_aload_n hX d_T_fillPages_81 rfl rfl ?_
                refine c_V hX t (rest := [.int (nI k), .ref (ob (t + 7))]) hl (c_T_pageCount hI11 ht) ml_T_76 im_T_pageCount se_T_pageCount in_T cd_T_pageCount rfl q_T_pageCount ⟨(Nat.le_of_ble_eq_true rfl), (Nat.le_of_ble_eq_true rfl)⟩ (hI11.sheet ht).1 (hI11.sheet ht).2.1 (hI11.sheet ht).2.2 rfl rfl rfl rfl (Nat.le_of_ble_eq_true rfl) d_T_fillPages_82 ⟨by have a := hP11.2; have b := hx11; show _ + (120 + (2663816 - Phi rs11) / 16) ≤ 120 + (2663816 - Phi rs) / 16; omega, by have a := hP11.1; have b := hx11; show _ + (700000 + (2663816 - Phi rs11)) ≤ 700000 + (2663816 - Phi rs); omega⟩ (fun rv d2 lo2 va2 kc ns hp => ?_)
                obtain ⟨rfl, rfl, rfl, rfl, rfl, rfl⟩ := hp
                show V X D CL A _ _ _ _ _ _ _ (.int (nI (rs11 (t + 13)).1) :: [.int (nI k), .ref (ob (t + 7))])
                refine v_iconst (v := 1) hX d_T_fillPages_85 (by decide) ?_
                refine v_isub hX d_T_fillPages_86 ?_
                refine c_V hX (t + 7) (rest := []) hl (L_set hI11 (t + 7) (shRK ht 3 (by decide)) (nI k) ((nI (rs11 (t + 13)).1) - 1)) ml_T_79 im_R_set se_R_set in_R cd_R_set rfl q_R_set ⟨(Nat.le_of_ble_eq_true rfl), (Nat.le_of_ble_eq_true rfl)⟩ (hI11.1.1 (t + 7) (shRK ht 3 (by decide))).1 (hI11.1.1 (t + 7) (shRK ht 3 (by decide))).2.2.1 (hI11.1.1 (t + 7) (shRK ht 3 (by decide))).2.2.2.1.v rfl rfl rfl rfl (Nat.le_of_ble_eq_true rfl) d_T_fillPages_87 ⟨by have a := hP11.2; have b := hx11; show _ + 100 ≤ 120 + (2663816 - Phi rs) / 16; omega, by have a := hP11.1; have b := hx11; show _ + 200000 ≤ 700000 + (2663816 - Phi rs); omega⟩ (fun rv d2 lo12 va12 kc12 ns12 hp => ?_)
                obtain ⟨rfl, rfl, ⟨rs12, hI12, hs12, ho12, hp12⟩, hf12⟩ := hp
                show V X D CL A _ _ _ _ _ _ _ []
                have hP12 : pay rs rs12 (csL + kc10 + kc11 + kc12) (ssL + ns10 + ns11 + ns12) := ⟨by have a := hP11.1; have b := hp12.1; omega, by have a := hP11.2; have b := hp12.2; omega⟩
                have hx12 : Phi rs12 ≤ 2663816 := hI12.1.phi
                refine v_aload_n hX d_T_fillPages_90 rfl rfl ?_
                refine v_get hX t (v := .ref (ob (t + 15))) inT3 (hI12.sheet ht).1 (hI12.sheet ht).2.1 (hI12.sheet ht).2.2 rfl 7 (by decide) fl_T_36 rfl rfl d_T_fillPages_91 ?_
                refine v_aload_n hX d_T_fillPages_94 rfl rfl ?_
                refine c_V hX t (rest := [.ref (ob (t + 15))]) hl (c_T_pageCount hI12 ht) ml_T_76 im_T_pageCount se_T_pageCount in_T cd_T_pageCount rfl q_T_pageCount ⟨(Nat.le_of_ble_eq_true rfl), (Nat.le_of_ble_eq_true rfl)⟩ (hI12.sheet ht).1 (hI12.sheet ht).2.1 (hI12.sheet ht).2.2 rfl rfl rfl rfl (Nat.le_of_ble_eq_true rfl) d_T_fillPages_95 ⟨by have a := hP12.2; have b := hx12; show _ + (120 + (2663816 - Phi rs12) / 16) ≤ 120 + (2663816 - Phi rs) / 16; omega, by have a := hP12.1; have b := hx12; show _ + (700000 + (2663816 - Phi rs12)) ≤ 700000 + (2663816 - Phi rs); omega⟩ (fun rv d2 lo2 va2 kc ns hp => ?_)
                obtain ⟨rfl, rfl, rfl, rfl, rfl, rfl⟩ := hp
                show V X D CL A _ _ _ _ _ _ _ (.int (nI (rs12 (t + 13)).1) :: [.ref (ob (t + 15))])
                refine v_iconst (v := 1) hX d_T_fillPages_98 (by decide) ?_
                refine v_isub hX d_T_fillPages_99 ?_
                refine v_iload_n hX d_T_fillPages_100 rfl rfl ?_
                refine c_V hX (t + 15) (rest := []) hl (L_set hI12 (t + 15) (shRK ht 7 (by decide)) ((nI (rs12 (t + 13)).1) - 1) (u + 1)) ml_T_79 im_R_set se_R_set in_R cd_R_set rfl q_R_set ⟨(Nat.le_of_ble_eq_true rfl), (Nat.le_of_ble_eq_true rfl)⟩ (hI12.1.1 (t + 15) (shRK ht 7 (by decide))).1 (hI12.1.1 (t + 15) (shRK ht 7 (by decide))).2.2.1 (hI12.1.1 (t + 15) (shRK ht 7 (by decide))).2.2.2.1.v rfl rfl rfl rfl (Nat.le_of_ble_eq_true rfl) d_T_fillPages_101 ⟨by have a := hP12.2; have b := hx12; show _ + 100 ≤ 120 + (2663816 - Phi rs) / 16; omega, by have a := hP12.1; have b := hx12; show _ + 200000 ≤ 700000 + (2663816 - Phi rs); omega⟩ (fun rv d2 lo13 va13 kc13 ns13 hp => ?_)
                obtain ⟨rfl, rfl, ⟨rs13, hI13, hs13, ho13, hp13⟩, hf13⟩ := hp
                show V X D CL A _ _ _ _ _ _ _ []
                have hP13 : pay rs rs13 (csL + kc10 + kc11 + kc12 + kc13) (ssL + ns10 + ns11 + ns12 + ns13) := ⟨by have a := hP12.1; have b := hp13.1; omega, by have a := hP12.2; have b := hp13.2; omega⟩
                have hx13 : Phi rs13 ≤ 2663816 := hI13.1.phi
                refine v_iinc (y := ((nI k) + 1)) (lv' := [some (.ref (ob t)), some (.int (u + 1)), some (.int ((nI k) + 1))]) hX d_T_fillPages_104 rfl (by rfl) rfl ?_
                refine v_goto hX d_T_fillPages_107 (tgt := 4) (by decide) ?_
                rw [show nI k + 1 = nI (k + 1) from nI_1 k]
                exact ih (u + 1) (k + 1) (pfL + 1) lo13 va13 (csL + kc10 + kc11 + kc12 + kc13) (ssL + ns10 + ns11 + ns12 + ns13) rs13 (by omega) hI13 ⟨by have a := hP13.1; omega, by have a := hP13.2; omega⟩ ((((hfL.trans hf10).trans hf11).trans hf12).trans hf13) ⟨((congrArg Prod.fst (ho13 (t + 13) (by omega))).trans ((congrArg Prod.fst (ho12 (t + 13) (by omega))).trans ((congrArg Prod.fst (ho11 (t + 13) (by omega))).trans (eq_add1 hs10 hpa)))), (hs13.trans ((congrArg Prod.fst (ho12 (t + 15) (by omega))).trans (eq_add1 hs11 ((congrArg Prod.fst (ho10 (t + 15) (by omega))).trans hpb)))), by omega⟩ (fun j h1 h2 => ((keep_set (t := t) hs13 ho13 j h1 h2).trans ((keep_set (t := t) hs12 ho12 j h1 h2).trans ((keep_add (t := t) ho11 (Or.inr rfl) j h1 h2).trans ((keep_add (t := t) ho10 (Or.inl rfl) j h1 h2).trans (hkp j h1 h2)))))) (by omega)
            · refine v_aload_n hX d_T_fillPages_39 rfl rfl ?_
              refine v_get hX t (v := .ref (ob (t + 5))) inT3 (hIL.sheet ht).1 (hIL.sheet ht).2.1 (hIL.sheet ht).2.2 rfl 2 (by decide) fl_T_21 rfl rfl d_T_fillPages_40 ?_
              refine v_iload_n hX d_T_fillPages_43 rfl rfl ?_
              refine c_V hX (t + 5) (rest := []) hl (L_get hIL (t + 5) (shRK ht 2 (by decide)) (nI k)) ml_T_62 im_R_get se_R_get in_R cd_R_get rfl q_R_get ⟨(Nat.le_of_ble_eq_true rfl), (Nat.le_of_ble_eq_true rfl)⟩ (hIL.1.1 (t + 5) (shRK ht 2 (by decide))).1 (hIL.1.1 (t + 5) (shRK ht 2 (by decide))).2.2.1 (hIL.1.1 (t + 5) (shRK ht 2 (by decide))).2.2.2.1.v rfl rfl rfl rfl (Nat.le_of_ble_eq_true rfl) d_T_fillPages_44 ⟨by have a := hPL.2; have b := hxL; show _ + 100 ≤ 120 + (2663816 - Phi rs) / 16; omega, by have a := hPL.1; have b := hxL; show _ + 200000 ≤ 700000 + (2663816 - Phi rs); omega⟩ (fun rv d2 lo2 va2 kc ns hp => ?_)
              obtain ⟨⟨v14, rfl⟩, rfl, rfl, rfl, rfl, rfl⟩ := hp
              show V X D CL A _ _ _ _ _ _ _ (.int v14 :: [])
              refine v_if_ne hX d_T_fillPages_47 (tgt := 53) (by decide) (fun c47 => ?_) (fun c47 => ?_)
              · refine v_iload_n hX d_T_fillPages_53 rfl rfl ?_
                refine v_if_ne hX d_T_fillPages_54 (tgt := 73) (by decide) (fun c54 => ?_) (fun c54 => ?_)
                · refine v_iinc (y := (u + 1)) (lv' := [some (.ref (ob t)), some (.int (u + 1)), some (.int (nI k))]) hX d_T_fillPages_73 rfl (by rfl) rfl ?_
                  refine v_aload_n hX d_T_fillPages_76 rfl rfl ?_
                  refine v_get hX t (v := .ref (ob (t + 7))) inT3 (hIL.sheet ht).1 (hIL.sheet ht).2.1 (hIL.sheet ht).2.2 rfl 3 (by decide) fl_T_24 rfl rfl d_T_fillPages_77 ?_
                  refine v_iload_n hX d_T_fillPages_80 rfl rfl ?_
                  refine v_aload_n hX d_T_fillPages_81 rfl rfl ?_
                  refine c_V hX t (rest := [.int (nI k), .ref (ob (t + 7))]) hl (c_T_pageCount hIL ht) ml_T_76 im_T_pageCount se_T_pageCount in_T cd_T_pageCount rfl q_T_pageCount ⟨(Nat.le_of_ble_eq_true rfl), (Nat.le_of_ble_eq_true rfl)⟩ (hIL.sheet ht).1 (hIL.sheet ht).2.1 (hIL.sheet ht).2.2 rfl rfl rfl rfl (Nat.le_of_ble_eq_true rfl) d_T_fillPages_82 ⟨by have a := hPL.2; have b := hxL; show _ + (120 + (2663816 - Phi rsL) / 16) ≤ 120 + (2663816 - Phi rs) / 16; omega, by have a := hPL.1; have b := hxL; show _ + (700000 + (2663816 - Phi rsL)) ≤ 700000 + (2663816 - Phi rs); omega⟩ (fun rv d2 lo2 va2 kc ns hp => ?_)
                  obtain ⟨rfl, rfl, rfl, rfl, rfl, rfl⟩ := hp
                  show V X D CL A _ _ _ _ _ _ _ (.int (nI (rsL (t + 13)).1) :: [.int (nI k), .ref (ob (t + 7))])
                  refine v_iconst (v := 1) hX d_T_fillPages_85 (by decide) ?_
                  refine v_isub hX d_T_fillPages_86 ?_
                  refine c_V hX (t + 7) (rest := []) hl (L_set hIL (t + 7) (shRK ht 3 (by decide)) (nI k) ((nI (rsL (t + 13)).1) - 1)) ml_T_79 im_R_set se_R_set in_R cd_R_set rfl q_R_set ⟨(Nat.le_of_ble_eq_true rfl), (Nat.le_of_ble_eq_true rfl)⟩ (hIL.1.1 (t + 7) (shRK ht 3 (by decide))).1 (hIL.1.1 (t + 7) (shRK ht 3 (by decide))).2.2.1 (hIL.1.1 (t + 7) (shRK ht 3 (by decide))).2.2.2.1.v rfl rfl rfl rfl (Nat.le_of_ble_eq_true rfl) d_T_fillPages_87 ⟨by have a := hPL.2; have b := hxL; show _ + 100 ≤ 120 + (2663816 - Phi rs) / 16; omega, by have a := hPL.1; have b := hxL; show _ + 200000 ≤ 700000 + (2663816 - Phi rs); omega⟩ (fun rv d2 lo15 va15 kc15 ns15 hp => ?_)
                  obtain ⟨rfl, rfl, ⟨rs15, hI15, hs15, ho15, hp15⟩, hf15⟩ := hp
                  show V X D CL A _ _ _ _ _ _ _ []
                  have hP15 : pay rs rs15 (csL + kc15) (ssL + ns15) := ⟨by have a := hPL.1; have b := hp15.1; omega, by have a := hPL.2; have b := hp15.2; omega⟩
                  have hx15 : Phi rs15 ≤ 2663816 := hI15.1.phi
                  refine v_aload_n hX d_T_fillPages_90 rfl rfl ?_
                  refine v_get hX t (v := .ref (ob (t + 15))) inT3 (hI15.sheet ht).1 (hI15.sheet ht).2.1 (hI15.sheet ht).2.2 rfl 7 (by decide) fl_T_36 rfl rfl d_T_fillPages_91 ?_
                  refine v_aload_n hX d_T_fillPages_94 rfl rfl ?_
                  refine c_V hX t (rest := [.ref (ob (t + 15))]) hl (c_T_pageCount hI15 ht) ml_T_76 im_T_pageCount se_T_pageCount in_T cd_T_pageCount rfl q_T_pageCount ⟨(Nat.le_of_ble_eq_true rfl), (Nat.le_of_ble_eq_true rfl)⟩ (hI15.sheet ht).1 (hI15.sheet ht).2.1 (hI15.sheet ht).2.2 rfl rfl rfl rfl (Nat.le_of_ble_eq_true rfl) d_T_fillPages_95 ⟨by have a := hP15.2; have b := hx15; show _ + (120 + (2663816 - Phi rs15) / 16) ≤ 120 + (2663816 - Phi rs) / 16; omega, by have a := hP15.1; have b := hx15; show _ + (700000 + (2663816 - Phi rs15)) ≤ 700000 + (2663816 - Phi rs); omega⟩ (fun rv d2 lo2 va2 kc ns hp => ?_)
                  obtain ⟨rfl, rfl, rfl, rfl, rfl, rfl⟩ := hp
                  show V X D CL A _ _ _ _ _ _ _ (.int (nI (rs15 (t + 13)).1) :: [.ref (ob (t + 15))])
                  refine v_iconst (v := 1) hX d_T_fillPages_98 (by decide) ?_
                  refine v_isub hX d_T_fillPages_99 ?_
                  refine v_iload_n hX d_T_fillPages_100 rfl rfl ?_
                  refine c_V hX (t + 15) (rest := []) hl (L_set hI15 (t + 15) (shRK ht 7 (by decide)) ((nI (rs15 (t + 13)).1) - 1) (u + 1)) ml_T_79 im_R_set se_R_set in_R cd_R_set rfl q_R_set ⟨(Nat.le_of_ble_eq_true rfl), (Nat.le_of_ble_eq_true rfl)⟩ (hI15.1.1 (t + 15) (shRK ht 7 (by decide))).1 (hI15.1.1 (t + 15) (shRK ht 7 (by decide))).2.2.1 (hI15.1.1 (t + 15) (shRK ht 7 (by decide))).2.2.2.1.v rfl rfl rfl rfl (Nat.le_of_ble_eq_true rfl) d_T_fillPages_101 ⟨by have a := hP15.2; have b := hx15; show _ + 100 ≤ 120 + (2663816 - Phi rs) / 16; omega, by have a := hP15.1; have b := hx15; show _ + 200000 ≤ 700000 + (2663816 - Phi rs); omega⟩ (fun rv d2 lo16 va16 kc16 ns16 hp => ?_)
                  obtain ⟨rfl, rfl, ⟨rs16, hI16, hs16, ho16, hp16⟩, hf16⟩ := hp
                  show V X D CL A _ _ _ _ _ _ _ []
                  have hP16 : pay rs rs16 (csL + kc15 + kc16) (ssL + ns15 + ns16) := ⟨by have a := hP15.1; have b := hp16.1; omega, by have a := hP15.2; have b := hp16.2; omega⟩
                  have hx16 : Phi rs16 ≤ 2663816 := hI16.1.phi
                  refine v_iinc (y := ((nI k) + 1)) (lv' := [some (.ref (ob t)), some (.int (u + 1)), some (.int ((nI k) + 1))]) hX d_T_fillPages_104 rfl (by rfl) rfl ?_
                  refine v_goto hX d_T_fillPages_107 (tgt := 4) (by decide) ?_
                  rw [show nI k + 1 = nI (k + 1) from nI_1 k]
                  exact ih (u + 1) (k + 1) pfL lo16 va16 (csL + kc15 + kc16) (ssL + ns15 + ns16) rs16 (by omega) hI16 ⟨by have a := hP16.1; omega, by have a := hP16.2; omega⟩ ((hfL.trans hf15).trans hf16) ⟨((congrArg Prod.fst (ho16 (t + 13) (by omega))).trans ((congrArg Prod.fst (ho15 (t + 13) (by omega))).trans hpa)), (hs16.trans ((congrArg Prod.fst (ho15 (t + 15) (by omega))).trans hpb)), by omega⟩ (fun j h1 h2 => ((keep_set (t := t) hs16 ho16 j h1 h2).trans ((keep_set (t := t) hs15 ho15 j h1 h2).trans (hkp j h1 h2)))) (by omega)
                · refine v_aload_n hX d_T_fillPages_57 rfl rfl ?_
                  refine v_get hX t (v := .ref (ob (t + 13))) inT3 (hIL.sheet ht).1 (hIL.sheet ht).2.1 (hIL.sheet ht).2.2 rfl 6 (by decide) fl_T_33 rfl rfl d_T_fillPages_58 ?_
                  refine v_iload_n hX d_T_fillPages_61 rfl rfl ?_
                  refine c_V hX (t + 13) (rest := []) hl (L_add hIL (t + 13) (shRK ht 6 (by decide)) (nI k) (by have a : (rsL (t + 13)).1 = pfL := hpa; have b : mxOf (t + 13) = 1501 := mxS1 ht 6 (by decide); omega)) ml_T_66 im_R_add se_R_add in_R cd_R_add rfl q_R_add ⟨(Nat.le_of_ble_eq_true rfl), (Nat.le_of_ble_eq_true rfl)⟩ (hIL.1.1 (t + 13) (shRK ht 6 (by decide))).1 (hIL.1.1 (t + 13) (shRK ht 6 (by decide))).2.2.1 (hIL.1.1 (t + 13) (shRK ht 6 (by decide))).2.2.2.1.v rfl rfl rfl rfl (Nat.le_of_ble_eq_true rfl) d_T_fillPages_62 ⟨by have a := hPL.2; have b := hxL; show _ + 20 ≤ 120 + (2663816 - Phi rs) / 16; omega, by have a := hPL.1; have b := hxL; show _ + 700000 ≤ 700000 + (2663816 - Phi rs); omega⟩ (fun rv d2 lo17 va17 kc17 ns17 hp => ?_)
                  obtain ⟨rfl, rfl, ⟨rs17, hI17, hs17, ho17, hp17⟩, hf17⟩ := hp
                  show V X D CL A _ _ _ _ _ _ _ []
                  have hP17 : pay rs rs17 (csL + kc17) (ssL + ns17) := ⟨by have a := hPL.1; have b := hp17.1; omega, by have a := hPL.2; have b := hp17.2; omega⟩
                  have hx17 : Phi rs17 ≤ 2663816 := hI17.1.phi
                  refine v_aload_n hX d_T_fillPages_65 rfl rfl ?_
                  refine v_get hX t (v := .ref (ob (t + 15))) inT3 (hI17.sheet ht).1 (hI17.sheet ht).2.1 (hI17.sheet ht).2.2 rfl 7 (by decide) fl_T_36 rfl rfl d_T_fillPages_66 ?_
                  refine v_iconst (v := 0) hX d_T_fillPages_69 (by decide) ?_
                  refine c_V hX (t + 15) (rest := []) hl (L_add hI17 (t + 15) (shRK ht 7 (by decide)) 0 (by have a : (rs17 (t + 15)).1 = pfL := ((congrArg Prod.fst (ho17 (t + 15) (by omega))).trans hpb); have b : mxOf (t + 15) = 1501 := mxS1 ht 7 (by decide); omega)) ml_T_66 im_R_add se_R_add in_R cd_R_add rfl q_R_add ⟨(Nat.le_of_ble_eq_true rfl), (Nat.le_of_ble_eq_true rfl)⟩ (hI17.1.1 (t + 15) (shRK ht 7 (by decide))).1 (hI17.1.1 (t + 15) (shRK ht 7 (by decide))).2.2.1 (hI17.1.1 (t + 15) (shRK ht 7 (by decide))).2.2.2.1.v rfl rfl rfl rfl (Nat.le_of_ble_eq_true rfl) d_T_fillPages_70 ⟨by have a := hP17.2; have b := hx17; show _ + 20 ≤ 120 + (2663816 - Phi rs) / 16; omega, by have a := hP17.1; have b := hx17; show _ + 700000 ≤ 700000 + (2663816 - Phi rs); omega⟩ (fun rv d2 lo18 va18 kc18 ns18 hp => ?_)
                  obtain ⟨rfl, rfl, ⟨rs18, hI18, hs18, ho18, hp18⟩, hf18⟩ := hp
                  show V X D CL A _ _ _ _ _ _ _ []
                  have hP18 : pay rs rs18 (csL + kc17 + kc18) (ssL + ns17 + ns18) := ⟨by have a := hP17.1; have b := hp18.1; omega, by have a := hP17.2; have b := hp18.2; omega⟩
                  have hx18 : Phi rs18 ≤ 2663816 := hI18.1.phi
                  refine v_iinc (y := (u + 1)) (lv' := [some (.ref (ob t)), some (.int (u + 1)), some (.int (nI k))]) hX d_T_fillPages_73 rfl (by rfl) rfl ?_
                  refine v_aload_n hX d_T_fillPages_76 rfl rfl ?_
                  refine v_get hX t (v := .ref (ob (t + 7))) inT3 (hI18.sheet ht).1 (hI18.sheet ht).2.1 (hI18.sheet ht).2.2 rfl 3 (by decide) fl_T_24 rfl rfl d_T_fillPages_77 ?_
                  refine v_iload_n hX d_T_fillPages_80 rfl rfl ?_
                  refine v_aload_n hX d_T_fillPages_81 rfl rfl ?_
                  refine c_V hX t (rest := [.int (nI k), .ref (ob (t + 7))]) hl (c_T_pageCount hI18 ht) ml_T_76 im_T_pageCount se_T_pageCount in_T cd_T_pageCount rfl q_T_pageCount ⟨(Nat.le_of_ble_eq_true rfl), (Nat.le_of_ble_eq_true rfl)⟩ (hI18.sheet ht).1 (hI18.sheet ht).2.1 (hI18.sheet ht).2.2 rfl rfl rfl rfl (Nat.le_of_ble_eq_true rfl) d_T_fillPages_82 ⟨by have a := hP18.2; have b := hx18; show _ + (120 + (2663816 - Phi rs18) / 16) ≤ 120 + (2663816 - Phi rs) / 16; omega, by have a := hP18.1; have b := hx18; show _ + (700000 + (2663816 - Phi rs18)) ≤ 700000 + (2663816 - Phi rs); omega⟩ (fun rv d2 lo2 va2 kc ns hp => ?_)
                  obtain ⟨rfl, rfl, rfl, rfl, rfl, rfl⟩ := hp
                  show V X D CL A _ _ _ _ _ _ _ (.int (nI (rs18 (t + 13)).1) :: [.int (nI k), .ref (ob (t + 7))])
                  refine v_iconst (v := 1) hX d_T_fillPages_85 (by decide) ?_
                  refine v_isub hX d_T_fillPages_86 ?_
                  refine c_V hX (t + 7) (rest := []) hl (L_set hI18 (t + 7) (shRK ht 3 (by decide)) (nI k) ((nI (rs18 (t + 13)).1) - 1)) ml_T_79 im_R_set se_R_set in_R cd_R_set rfl q_R_set ⟨(Nat.le_of_ble_eq_true rfl), (Nat.le_of_ble_eq_true rfl)⟩ (hI18.1.1 (t + 7) (shRK ht 3 (by decide))).1 (hI18.1.1 (t + 7) (shRK ht 3 (by decide))).2.2.1 (hI18.1.1 (t + 7) (shRK ht 3 (by decide))).2.2.2.1.v rfl rfl rfl rfl (Nat.le_of_ble_eq_true rfl) d_T_fillPages_87 ⟨by have a := hP18.2; have b := hx18; show _ + 100 ≤ 120 + (2663816 - Phi rs) / 16; omega, by have a := hP18.1; have b := hx18; show _ + 200000 ≤ 700000 + (2663816 - Phi rs); omega⟩ (fun rv d2 lo19 va19 kc19 ns19 hp => ?_)
                  obtain ⟨rfl, rfl, ⟨rs19, hI19, hs19, ho19, hp19⟩, hf19⟩ := hp
                  show V X D CL A _ _ _ _ _ _ _ []
                  have hP19 : pay rs rs19 (csL + kc17 + kc18 + kc19) (ssL + ns17 + ns18 + ns19) := ⟨by have a := hP18.1; have b := hp19.1; omega, by have a := hP18.2; have b := hp19.2; omega⟩
                  have hx19 : Phi rs19 ≤ 2663816 := hI19.1.phi
                  refine v_aload_n hX d_T_fillPages_90 rfl rfl ?_
                  refine v_get hX t (v := .ref (ob (t + 15))) inT3 (hI19.sheet ht).1 (hI19.sheet ht).2.1 (hI19.sheet ht).2.2 rfl 7 (by decide) fl_T_36 rfl rfl d_T_fillPages_91 ?_
                  refine v_aload_n hX d_T_fillPages_94 rfl rfl ?_
                  refine c_V hX t (rest := [.ref (ob (t + 15))]) hl (c_T_pageCount hI19 ht) ml_T_76 im_T_pageCount se_T_pageCount in_T cd_T_pageCount rfl q_T_pageCount ⟨(Nat.le_of_ble_eq_true rfl), (Nat.le_of_ble_eq_true rfl)⟩ (hI19.sheet ht).1 (hI19.sheet ht).2.1 (hI19.sheet ht).2.2 rfl rfl rfl rfl (Nat.le_of_ble_eq_true rfl) d_T_fillPages_95 ⟨by have a := hP19.2; have b := hx19; show _ + (120 + (2663816 - Phi rs19) / 16) ≤ 120 + (2663816 - Phi rs) / 16; omega, by have a := hP19.1; have b := hx19; show _ + (700000 + (2663816 - Phi rs19)) ≤ 700000 + (2663816 - Phi rs); omega⟩ (fun rv d2 lo2 va2 kc ns hp => ?_)
                  obtain ⟨rfl, rfl, rfl, rfl, rfl, rfl⟩ := hp
                  show V X D CL A _ _ _ _ _ _ _ (.int (nI (rs19 (t + 13)).1) :: [.ref (ob (t + 15))])
                  refine v_iconst (v := 1) hX d_T_fillPages_98 (by decide) ?_
                  refine v_isub hX d_T_fillPages_99 ?_
                  refine v_iload_n hX d_T_fillPages_100 rfl rfl ?_
                  refine c_V hX (t + 15) (rest := []) hl (L_set hI19 (t + 15) (shRK ht 7 (by decide)) ((nI (rs19 (t + 13)).1) - 1) (u + 1)) ml_T_79 im_R_set se_R_set in_R cd_R_set rfl q_R_set ⟨(Nat.le_of_ble_eq_true rfl), (Nat.le_of_ble_eq_true rfl)⟩ (hI19.1.1 (t + 15) (shRK ht 7 (by decide))).1 (hI19.1.1 (t + 15) (shRK ht 7 (by decide))).2.2.1 (hI19.1.1 (t + 15) (shRK ht 7 (by decide))).2.2.2.1.v rfl rfl rfl rfl (Nat.le_of_ble_eq_true rfl) d_T_fillPages_101 ⟨by have a := hP19.2; have b := hx19; show _ + 100 ≤ 120 + (2663816 - Phi rs) / 16; omega, by have a := hP19.1; have b := hx19; show _ + 200000 ≤ 700000 + (2663816 - Phi rs); omega⟩ (fun rv d2 lo20 va20 kc20 ns20 hp => ?_)
                  obtain ⟨rfl, rfl, ⟨rs20, hI20, hs20, ho20, hp20⟩, hf20⟩ := hp
                  show V X D CL A _ _ _ _ _ _ _ []
                  have hP20 : pay rs rs20 (csL + kc17 + kc18 + kc19 + kc20) (ssL + ns17 + ns18 + ns19 + ns20) := ⟨by have a := hP19.1; have b := hp20.1; omega, by have a := hP19.2; have b := hp20.2; omega⟩
                  have hx20 : Phi rs20 ≤ 2663816 := hI20.1.phi
                  refine v_iinc (y := ((nI k) + 1)) (lv' := [some (.ref (ob t)), some (.int (u + 1)), some (.int ((nI k) + 1))]) hX d_T_fillPages_104 rfl (by rfl) rfl ?_
                  refine v_goto hX d_T_fillPages_107 (tgt := 4) (by decide) ?_
                  rw [show nI k + 1 = nI (k + 1) from nI_1 k]
                  exact ih (u + 1) (k + 1) (pfL + 1) lo20 va20 (csL + kc17 + kc18 + kc19 + kc20) (ssL + ns17 + ns18 + ns19 + ns20) rs20 (by omega) hI20 ⟨by have a := hP20.1; omega, by have a := hP20.2; omega⟩ ((((hfL.trans hf17).trans hf18).trans hf19).trans hf20) ⟨((congrArg Prod.fst (ho20 (t + 13) (by omega))).trans ((congrArg Prod.fst (ho19 (t + 13) (by omega))).trans ((congrArg Prod.fst (ho18 (t + 13) (by omega))).trans (eq_add1 hs17 hpa)))), (hs20.trans ((congrArg Prod.fst (ho19 (t + 15) (by omega))).trans (eq_add1 hs18 ((congrArg Prod.fst (ho17 (t + 15) (by omega))).trans hpb)))), by omega⟩ (fun j h1 h2 => ((keep_set (t := t) hs20 ho20 j h1 h2).trans ((keep_set (t := t) hs19 ho19 j h1 h2).trans ((keep_add (t := t) ho18 (Or.inr rfl) j h1 h2).trans ((keep_add (t := t) ho17 (Or.inl rfl) j h1 h2).trans (hkp j h1 h2)))))) (by omega)
              · refine v_goto hX d_T_fillPages_50 (tgt := 104) (by decide) ?_
                refine v_iinc (y := ((nI k) + 1)) (lv' := [some (.ref (ob t)), some (.int u), some (.int ((nI k) + 1))]) hX d_T_fillPages_104 rfl (by rfl) rfl ?_
                refine v_goto hX d_T_fillPages_107 (tgt := 4) (by decide) ?_
                rw [show nI k + 1 = nI (k + 1) from nI_1 k]
                exact ih u (k + 1) pfL loL vaL (csL) (ssL) rsL (by omega) hIL ⟨by have a := hPL.1; omega, by have a := hPL.2; omega⟩ hfL ⟨hpa, hpb, by omega⟩ (fun j h1 h2 => (hkp j h1 h2)) (by omega)
          · refine v_aload_n hX d_T_fillPages_24 rfl rfl ?_
            refine v_iload_n hX d_T_fillPages_25 rfl rfl ?_
            refine v_iload_n hX d_T_fillPages_26 rfl rfl ?_
            refine c_V hX t (rest := []) hl (c_T_ended hIL ht (nI k) u) ml_T_72 im_T_isPageEndedBy se_T_isPageEndedBy in_T cd_T_isPageEndedBy rfl q_T_isPageEndedBy ⟨(Nat.le_of_ble_eq_true rfl), (Nat.le_of_ble_eq_true rfl)⟩ (hIL.sheet ht).1 (hIL.sheet ht).2.1 (hIL.sheet ht).2.2 rfl rfl rfl rfl (Nat.le_of_ble_eq_true rfl) d_T_fillPages_27 ⟨by have a := hPL.2; have b := hxL; show _ + (120 + (2663816 - Phi rsL) / 16) ≤ 120 + (2663816 - Phi rs) / 16; omega, by have a := hPL.1; have b := hxL; show _ + (700000 + (2663816 - Phi rsL)) ≤ 700000 + (2663816 - Phi rs); omega⟩ (fun rv d2 lo2 va2 kc ns hp => ?_)
            obtain ⟨⟨v21, rfl⟩, rfl, rfl, rfl, rfl, rfl⟩ := hp
            show V X D CL A _ _ _ _ _ _ _ (.int v21 :: [])
            refine v_if_eq hX d_T_fillPages_30 (tgt := 35) (by decide) (fun c30 => ?_) (fun c30 => ?_)
            · refine v_iload_n hX d_T_fillPages_35 rfl rfl ?_
              refine v_if_ne hX d_T_fillPages_36 (tgt := 53) (by decide) (fun c36 => ?_) (fun c36 => ?_)
              · refine v_iload_n hX d_T_fillPages_53 rfl rfl ?_
                refine v_if_ne hX d_T_fillPages_54 (tgt := 73) (by decide) (fun c54 => ?_) (fun c54 => ?_)
                · refine v_iinc (y := (u + 1)) (lv' := [some (.ref (ob t)), some (.int (u + 1)), some (.int (nI k))]) hX d_T_fillPages_73 rfl (by rfl) rfl ?_
                  refine v_aload_n hX d_T_fillPages_76 rfl rfl ?_
                  refine v_get hX t (v := .ref (ob (t + 7))) inT3 (hIL.sheet ht).1 (hIL.sheet ht).2.1 (hIL.sheet ht).2.2 rfl 3 (by decide) fl_T_24 rfl rfl d_T_fillPages_77 ?_
                  refine v_iload_n hX d_T_fillPages_80 rfl rfl ?_
                  refine v_aload_n hX d_T_fillPages_81 rfl rfl ?_
                  refine c_V hX t (rest := [.int (nI k), .ref (ob (t + 7))]) hl (c_T_pageCount hIL ht) ml_T_76 im_T_pageCount se_T_pageCount in_T cd_T_pageCount rfl q_T_pageCount ⟨(Nat.le_of_ble_eq_true rfl), (Nat.le_of_ble_eq_true rfl)⟩ (hIL.sheet ht).1 (hIL.sheet ht).2.1 (hIL.sheet ht).2.2 rfl rfl rfl rfl (Nat.le_of_ble_eq_true rfl) d_T_fillPages_82 ⟨by have a := hPL.2; have b := hxL; show _ + (120 + (2663816 - Phi rsL) / 16) ≤ 120 + (2663816 - Phi rs) / 16; omega, by have a := hPL.1; have b := hxL; show _ + (700000 + (2663816 - Phi rsL)) ≤ 700000 + (2663816 - Phi rs); omega⟩ (fun rv d2 lo2 va2 kc ns hp => ?_)
                  obtain ⟨rfl, rfl, rfl, rfl, rfl, rfl⟩ := hp
                  show V X D CL A _ _ _ _ _ _ _ (.int (nI (rsL (t + 13)).1) :: [.int (nI k), .ref (ob (t + 7))])
                  refine v_iconst (v := 1) hX d_T_fillPages_85 (by decide) ?_
                  refine v_isub hX d_T_fillPages_86 ?_
                  refine c_V hX (t + 7) (rest := []) hl (L_set hIL (t + 7) (shRK ht 3 (by decide)) (nI k) ((nI (rsL (t + 13)).1) - 1)) ml_T_79 im_R_set se_R_set in_R cd_R_set rfl q_R_set ⟨(Nat.le_of_ble_eq_true rfl), (Nat.le_of_ble_eq_true rfl)⟩ (hIL.1.1 (t + 7) (shRK ht 3 (by decide))).1 (hIL.1.1 (t + 7) (shRK ht 3 (by decide))).2.2.1 (hIL.1.1 (t + 7) (shRK ht 3 (by decide))).2.2.2.1.v rfl rfl rfl rfl (Nat.le_of_ble_eq_true rfl) d_T_fillPages_87 ⟨by have a := hPL.2; have b := hxL; show _ + 100 ≤ 120 + (2663816 - Phi rs) / 16; omega, by have a := hPL.1; have b := hxL; show _ + 200000 ≤ 700000 + (2663816 - Phi rs); omega⟩ (fun rv d2 lo22 va22 kc22 ns22 hp => ?_)
                  obtain ⟨rfl, rfl, ⟨rs22, hI22, hs22, ho22, hp22⟩, hf22⟩ := hp
                  show V X D CL A _ _ _ _ _ _ _ []
                  have hP22 : pay rs rs22 (csL + kc22) (ssL + ns22) := ⟨by have a := hPL.1; have b := hp22.1; omega, by have a := hPL.2; have b := hp22.2; omega⟩
                  have hx22 : Phi rs22 ≤ 2663816 := hI22.1.phi
                  refine v_aload_n hX d_T_fillPages_90 rfl rfl ?_
                  refine v_get hX t (v := .ref (ob (t + 15))) inT3 (hI22.sheet ht).1 (hI22.sheet ht).2.1 (hI22.sheet ht).2.2 rfl 7 (by decide) fl_T_36 rfl rfl d_T_fillPages_91 ?_
                  refine v_aload_n hX d_T_fillPages_94 rfl rfl ?_
                  refine c_V hX t (rest := [.ref (ob (t + 15))]) hl (c_T_pageCount hI22 ht) ml_T_76 im_T_pageCount se_T_pageCount in_T cd_T_pageCount rfl q_T_pageCount ⟨(Nat.le_of_ble_eq_true rfl), (Nat.le_of_ble_eq_true rfl)⟩ (hI22.sheet ht).1 (hI22.sheet ht).2.1 (hI22.sheet ht).2.2 rfl rfl rfl rfl (Nat.le_of_ble_eq_true rfl) d_T_fillPages_95 ⟨by have a := hP22.2; have b := hx22; show _ + (120 + (2663816 - Phi rs22) / 16) ≤ 120 + (2663816 - Phi rs) / 16; omega, by have a := hP22.1; have b := hx22; show _ + (700000 + (2663816 - Phi rs22)) ≤ 700000 + (2663816 - Phi rs); omega⟩ (fun rv d2 lo2 va2 kc ns hp => ?_)
                  obtain ⟨rfl, rfl, rfl, rfl, rfl, rfl⟩ := hp
                  show V X D CL A _ _ _ _ _ _ _ (.int (nI (rs22 (t + 13)).1) :: [.ref (ob (t + 15))])
                  refine v_iconst (v := 1) hX d_T_fillPages_98 (by decide) ?_
                  refine v_isub hX d_T_fillPages_99 ?_
                  refine v_iload_n hX d_T_fillPages_100 rfl rfl ?_
                  refine c_V hX (t + 15) (rest := []) hl (L_set hI22 (t + 15) (shRK ht 7 (by decide)) ((nI (rs22 (t + 13)).1) - 1) (u + 1)) ml_T_79 im_R_set se_R_set in_R cd_R_set rfl q_R_set ⟨(Nat.le_of_ble_eq_true rfl), (Nat.le_of_ble_eq_true rfl)⟩ (hI22.1.1 (t + 15) (shRK ht 7 (by decide))).1 (hI22.1.1 (t + 15) (shRK ht 7 (by decide))).2.2.1 (hI22.1.1 (t + 15) (shRK ht 7 (by decide))).2.2.2.1.v rfl rfl rfl rfl (Nat.le_of_ble_eq_true rfl) d_T_fillPages_101 ⟨by have a := hP22.2; have b := hx22; show _ + 100 ≤ 120 + (2663816 - Phi rs) / 16; omega, by have a := hP22.1; have b := hx22; show _ + 200000 ≤ 700000 + (2663816 - Phi rs); omega⟩ (fun rv d2 lo23 va23 kc23 ns23 hp => ?_)
                  obtain ⟨rfl, rfl, ⟨rs23, hI23, hs23, ho23, hp23⟩, hf23⟩ := hp
                  show V X D CL A _ _ _ _ _ _ _ []
                  have hP23 : pay rs rs23 (csL + kc22 + kc23) (ssL + ns22 + ns23) := ⟨by have a := hP22.1; have b := hp23.1; omega, by have a := hP22.2; have b := hp23.2; omega⟩
                  have hx23 : Phi rs23 ≤ 2663816 := hI23.1.phi
                  refine v_iinc (y := ((nI k) + 1)) (lv' := [some (.ref (ob t)), some (.int (u + 1)), some (.int ((nI k) + 1))]) hX d_T_fillPages_104 rfl (by rfl) rfl ?_
                  refine v_goto hX d_T_fillPages_107 (tgt := 4) (by decide) ?_
                  rw [show nI k + 1 = nI (k + 1) from nI_1 k]
                  exact ih (u + 1) (k + 1) pfL lo23 va23 (csL + kc22 + kc23) (ssL + ns22 + ns23) rs23 (by omega) hI23 ⟨by have a := hP23.1; omega, by have a := hP23.2; omega⟩ ((hfL.trans hf22).trans hf23) ⟨((congrArg Prod.fst (ho23 (t + 13) (by omega))).trans ((congrArg Prod.fst (ho22 (t + 13) (by omega))).trans hpa)), (hs23.trans ((congrArg Prod.fst (ho22 (t + 15) (by omega))).trans hpb)), by omega⟩ (fun j h1 h2 => ((keep_set (t := t) hs23 ho23 j h1 h2).trans ((keep_set (t := t) hs22 ho22 j h1 h2).trans (hkp j h1 h2)))) (by omega)
                · refine v_aload_n hX d_T_fillPages_57 rfl rfl ?_
                  refine v_get hX t (v := .ref (ob (t + 13))) inT3 (hIL.sheet ht).1 (hIL.sheet ht).2.1 (hIL.sheet ht).2.2 rfl 6 (by decide) fl_T_33 rfl rfl d_T_fillPages_58 ?_
                  refine v_iload_n hX d_T_fillPages_61 rfl rfl ?_
                  refine c_V hX (t + 13) (rest := []) hl (L_add hIL (t + 13) (shRK ht 6 (by decide)) (nI k) (by have a : (rsL (t + 13)).1 = pfL := hpa; have b : mxOf (t + 13) = 1501 := mxS1 ht 6 (by decide); omega)) ml_T_66 im_R_add se_R_add in_R cd_R_add rfl q_R_add ⟨(Nat.le_of_ble_eq_true rfl), (Nat.le_of_ble_eq_true rfl)⟩ (hIL.1.1 (t + 13) (shRK ht 6 (by decide))).1 (hIL.1.1 (t + 13) (shRK ht 6 (by decide))).2.2.1 (hIL.1.1 (t + 13) (shRK ht 6 (by decide))).2.2.2.1.v rfl rfl rfl rfl (Nat.le_of_ble_eq_true rfl) d_T_fillPages_62 ⟨by have a := hPL.2; have b := hxL; show _ + 20 ≤ 120 + (2663816 - Phi rs) / 16; omega, by have a := hPL.1; have b := hxL; show _ + 700000 ≤ 700000 + (2663816 - Phi rs); omega⟩ (fun rv d2 lo24 va24 kc24 ns24 hp => ?_)
                  obtain ⟨rfl, rfl, ⟨rs24, hI24, hs24, ho24, hp24⟩, hf24⟩ := hp
                  show V X D CL A _ _ _ _ _ _ _ []
                  have hP24 : pay rs rs24 (csL + kc24) (ssL + ns24) := ⟨by have a := hPL.1; have b := hp24.1; omega, by have a := hPL.2; have b := hp24.2; omega⟩
                  have hx24 : Phi rs24 ≤ 2663816 := hI24.1.phi
                  refine v_aload_n hX d_T_fillPages_65 rfl rfl ?_
                  refine v_get hX t (v := .ref (ob (t + 15))) inT3 (hI24.sheet ht).1 (hI24.sheet ht).2.1 (hI24.sheet ht).2.2 rfl 7 (by decide) fl_T_36 rfl rfl d_T_fillPages_66 ?_
                  refine v_iconst (v := 0) hX d_T_fillPages_69 (by decide) ?_
                  refine c_V hX (t + 15) (rest := []) hl (L_add hI24 (t + 15) (shRK ht 7 (by decide)) 0 (by have a : (rs24 (t + 15)).1 = pfL := ((congrArg Prod.fst (ho24 (t + 15) (by omega))).trans hpb); have b : mxOf (t + 15) = 1501 := mxS1 ht 7 (by decide); omega)) ml_T_66 im_R_add se_R_add in_R cd_R_add rfl q_R_add ⟨(Nat.le_of_ble_eq_true rfl), (Nat.le_of_ble_eq_true rfl)⟩ (hI24.1.1 (t + 15) (shRK ht 7 (by decide))).1 (hI24.1.1 (t + 15) (shRK ht 7 (by decide))).2.2.1 (hI24.1.1 (t + 15) (shRK ht 7 (by decide))).2.2.2.1.v rfl rfl rfl rfl (Nat.le_of_ble_eq_true rfl) d_T_fillPages_70 ⟨by have a := hP24.2; have b := hx24; show _ + 20 ≤ 120 + (2663816 - Phi rs) / 16; omega, by have a := hP24.1; have b := hx24; show _ + 700000 ≤ 700000 + (2663816 - Phi rs); omega⟩ (fun rv d2 lo25 va25 kc25 ns25 hp => ?_)
                  obtain ⟨rfl, rfl, ⟨rs25, hI25, hs25, ho25, hp25⟩, hf25⟩ := hp
                  show V X D CL A _ _ _ _ _ _ _ []
                  have hP25 : pay rs rs25 (csL + kc24 + kc25) (ssL + ns24 + ns25) := ⟨by have a := hP24.1; have b := hp25.1; omega, by have a := hP24.2; have b := hp25.2; omega⟩
                  have hx25 : Phi rs25 ≤ 2663816 := hI25.1.phi
                  refine v_iinc (y := (u + 1)) (lv' := [some (.ref (ob t)), some (.int (u + 1)), some (.int (nI k))]) hX d_T_fillPages_73 rfl (by rfl) rfl ?_
                  refine v_aload_n hX d_T_fillPages_76 rfl rfl ?_
                  refine v_get hX t (v := .ref (ob (t + 7))) inT3 (hI25.sheet ht).1 (hI25.sheet ht).2.1 (hI25.sheet ht).2.2 rfl 3 (by decide) fl_T_24 rfl rfl d_T_fillPages_77 ?_
                  refine v_iload_n hX d_T_fillPages_80 rfl rfl ?_
                  refine v_aload_n hX d_T_fillPages_81 rfl rfl ?_
                  refine c_V hX t (rest := [.int (nI k), .ref (ob (t + 7))]) hl (c_T_pageCount hI25 ht) ml_T_76 im_T_pageCount se_T_pageCount in_T cd_T_pageCount rfl q_T_pageCount ⟨(Nat.le_of_ble_eq_true rfl), (Nat.le_of_ble_eq_true rfl)⟩ (hI25.sheet ht).1 (hI25.sheet ht).2.1 (hI25.sheet ht).2.2 rfl rfl rfl rfl (Nat.le_of_ble_eq_true rfl) d_T_fillPages_82 ⟨by have a := hP25.2; have b := hx25; show _ + (120 + (2663816 - Phi rs25) / 16) ≤ 120 + (2663816 - Phi rs) / 16; omega, by have a := hP25.1; have b := hx25; show _ + (700000 + (2663816 - Phi rs25)) ≤ 700000 + (2663816 - Phi rs); omega⟩ (fun rv d2 lo2 va2 kc ns hp => ?_)
                  obtain ⟨rfl, rfl, rfl, rfl, rfl, rfl⟩ := hp
                  show V X D CL A _ _ _ _ _ _ _ (.int (nI (rs25 (t + 13)).1) :: [.int (nI k), .ref (ob (t + 7))])
                  refine v_iconst (v := 1) hX d_T_fillPages_85 (by decide) ?_
                  refine v_isub hX d_T_fillPages_86 ?_
                  refine c_V hX (t + 7) (rest := []) hl (L_set hI25 (t + 7) (shRK ht 3 (by decide)) (nI k) ((nI (rs25 (t + 13)).1) - 1)) ml_T_79 im_R_set se_R_set in_R cd_R_set rfl q_R_set ⟨(Nat.le_of_ble_eq_true rfl), (Nat.le_of_ble_eq_true rfl)⟩ (hI25.1.1 (t + 7) (shRK ht 3 (by decide))).1 (hI25.1.1 (t + 7) (shRK ht 3 (by decide))).2.2.1 (hI25.1.1 (t + 7) (shRK ht 3 (by decide))).2.2.2.1.v rfl rfl rfl rfl (Nat.le_of_ble_eq_true rfl) d_T_fillPages_87 ⟨by have a := hP25.2; have b := hx25; show _ + 100 ≤ 120 + (2663816 - Phi rs) / 16; omega, by have a := hP25.1; have b := hx25; show _ + 200000 ≤ 700000 + (2663816 - Phi rs); omega⟩ (fun rv d2 lo26 va26 kc26 ns26 hp => ?_)
                  obtain ⟨rfl, rfl, ⟨rs26, hI26, hs26, ho26, hp26⟩, hf26⟩ := hp
                  show V X D CL A _ _ _ _ _ _ _ []
                  have hP26 : pay rs rs26 (csL + kc24 + kc25 + kc26) (ssL + ns24 + ns25 + ns26) := ⟨by have a := hP25.1; have b := hp26.1; omega, by have a := hP25.2; have b := hp26.2; omega⟩
                  have hx26 : Phi rs26 ≤ 2663816 := hI26.1.phi
                  refine v_aload_n hX d_T_fillPages_90 rfl rfl ?_
                  refine v_get hX t (v := .ref (ob (t + 15))) inT3 (hI26.sheet ht).1 (hI26.sheet ht).2.1 (hI26.sheet ht).2.2 rfl 7 (by decide) fl_T_36 rfl rfl d_T_fillPages_91 ?_
                  refine v_aload_n hX d_T_fillPages_94 rfl rfl ?_
                  refine c_V hX t (rest := [.ref (ob (t + 15))]) hl (c_T_pageCount hI26 ht) ml_T_76 im_T_pageCount se_T_pageCount in_T cd_T_pageCount rfl q_T_pageCount ⟨(Nat.le_of_ble_eq_true rfl), (Nat.le_of_ble_eq_true rfl)⟩ (hI26.sheet ht).1 (hI26.sheet ht).2.1 (hI26.sheet ht).2.2 rfl rfl rfl rfl (Nat.le_of_ble_eq_true rfl) d_T_fillPages_95 ⟨by have a := hP26.2; have b := hx26; show _ + (120 + (2663816 - Phi rs26) / 16) ≤ 120 + (2663816 - Phi rs) / 16; omega, by have a := hP26.1; have b := hx26; show _ + (700000 + (2663816 - Phi rs26)) ≤ 700000 + (2663816 - Phi rs); omega⟩ (fun rv d2 lo2 va2 kc ns hp => ?_)
                  obtain ⟨rfl, rfl, rfl, rfl, rfl, rfl⟩ := hp
                  show V X D CL A _ _ _ _ _ _ _ (.int (nI (rs26 (t + 13)).1) :: [.ref (ob (t + 15))])
                  refine v_iconst (v := 1) hX d_T_fillPages_98 (by decide) ?_
                  refine v_isub hX d_T_fillPages_99 ?_
                  refine v_iload_n hX d_T_fillPages_100 rfl rfl ?_
                  refine c_V hX (t + 15) (rest := []) hl (L_set hI26 (t + 15) (shRK ht 7 (by decide)) ((nI (rs26 (t + 13)).1) - 1) (u + 1)) ml_T_79 im_R_set se_R_set in_R cd_R_set rfl q_R_set ⟨(Nat.le_of_ble_eq_true rfl), (Nat.le_of_ble_eq_true rfl)⟩ (hI26.1.1 (t + 15) (shRK ht 7 (by decide))).1 (hI26.1.1 (t + 15) (shRK ht 7 (by decide))).2.2.1 (hI26.1.1 (t + 15) (shRK ht 7 (by decide))).2.2.2.1.v rfl rfl rfl rfl (Nat.le_of_ble_eq_true rfl) d_T_fillPages_101 ⟨by have a := hP26.2; have b := hx26; show _ + 100 ≤ 120 + (2663816 - Phi rs) / 16; omega, by have a := hP26.1; have b := hx26; show _ + 200000 ≤ 700000 + (2663816 - Phi rs); omega⟩ (fun rv d2 lo27 va27 kc27 ns27 hp => ?_)
                  obtain ⟨rfl, rfl, ⟨rs27, hI27, hs27, ho27, hp27⟩, hf27⟩ := hp
                  show V X D CL A _ _ _ _ _ _ _ []
                  have hP27 : pay rs rs27 (csL + kc24 + kc25 + kc26 + kc27) (ssL + ns24 + ns25 + ns26 + ns27) := ⟨by have a := hP26.1; have b := hp27.1; omega, by have a := hP26.2; have b := hp27.2; omega⟩
                  have hx27 : Phi rs27 ≤ 2663816 := hI27.1.phi
                  refine v_iinc (y := ((nI k) + 1)) (lv' := [some (.ref (ob t)), some (.int (u + 1)), some (.int ((nI k) + 1))]) hX d_T_fillPages_104 rfl (by rfl) rfl ?_
                  refine v_goto hX d_T_fillPages_107 (tgt := 4) (by decide) ?_
                  rw [show nI k + 1 = nI (k + 1) from nI_1 k]
                  exact ih (u + 1) (k + 1) (pfL + 1) lo27 va27 (csL + kc24 + kc25 + kc26 + kc27) (ssL + ns24 + ns25 + ns26 + ns27) rs27 (by omega) hI27 ⟨by have a := hP27.1; omega, by have a := hP27.2; omega⟩ ((((hfL.trans hf24).trans hf25).trans hf26).trans hf27) ⟨((congrArg Prod.fst (ho27 (t + 13) (by omega))).trans ((congrArg Prod.fst (ho26 (t + 13) (by omega))).trans ((congrArg Prod.fst (ho25 (t + 13) (by omega))).trans (eq_add1 hs24 hpa)))), (hs27.trans ((congrArg Prod.fst (ho26 (t + 15) (by omega))).trans (eq_add1 hs25 ((congrArg Prod.fst (ho24 (t + 15) (by omega))).trans hpb)))), by omega⟩ (fun j h1 h2 => ((keep_set (t := t) hs27 ho27 j h1 h2).trans ((keep_set (t := t) hs26 ho26 j h1 h2).trans ((keep_add (t := t) ho25 (Or.inr rfl) j h1 h2).trans ((keep_add (t := t) ho24 (Or.inl rfl) j h1 h2).trans (hkp j h1 h2)))))) (by omega)
              · refine v_aload_n hX d_T_fillPages_39 rfl rfl ?_
                refine v_get hX t (v := .ref (ob (t + 5))) inT3 (hIL.sheet ht).1 (hIL.sheet ht).2.1 (hIL.sheet ht).2.2 rfl 2 (by decide) fl_T_21 rfl rfl d_T_fillPages_40 ?_
                refine v_iload_n hX d_T_fillPages_43 rfl rfl ?_
                refine c_V hX (t + 5) (rest := []) hl (L_get hIL (t + 5) (shRK ht 2 (by decide)) (nI k)) ml_T_62 im_R_get se_R_get in_R cd_R_get rfl q_R_get ⟨(Nat.le_of_ble_eq_true rfl), (Nat.le_of_ble_eq_true rfl)⟩ (hIL.1.1 (t + 5) (shRK ht 2 (by decide))).1 (hIL.1.1 (t + 5) (shRK ht 2 (by decide))).2.2.1 (hIL.1.1 (t + 5) (shRK ht 2 (by decide))).2.2.2.1.v rfl rfl rfl rfl (Nat.le_of_ble_eq_true rfl) d_T_fillPages_44 ⟨by have a := hPL.2; have b := hxL; show _ + 100 ≤ 120 + (2663816 - Phi rs) / 16; omega, by have a := hPL.1; have b := hxL; show _ + 200000 ≤ 700000 + (2663816 - Phi rs); omega⟩ (fun rv d2 lo2 va2 kc ns hp => ?_)
                obtain ⟨⟨v28, rfl⟩, rfl, rfl, rfl, rfl, rfl⟩ := hp
                show V X D CL A _ _ _ _ _ _ _ (.int v28 :: [])
                refine v_if_ne hX d_T_fillPages_47 (tgt := 53) (by decide) (fun c47 => ?_) (fun c47 => ?_)
                · refine v_iload_n hX d_T_fillPages_53 rfl rfl ?_
                  refine v_if_ne hX d_T_fillPages_54 (tgt := 73) (by decide) (fun c54 => ?_) (fun c54 => ?_)
                  · refine v_iinc (y := (u + 1)) (lv' := [some (.ref (ob t)), some (.int (u + 1)), some (.int (nI k))]) hX d_T_fillPages_73 rfl (by rfl) rfl ?_
                    refine v_aload_n hX d_T_fillPages_76 rfl rfl ?_
                    refine v_get hX t (v := .ref (ob (t + 7))) inT3 (hIL.sheet ht).1 (hIL.sheet ht).2.1 (hIL.sheet ht).2.2 rfl 3 (by decide) fl_T_24 rfl rfl d_T_fillPages_77 ?_
                    refine v_iload_n hX d_T_fillPages_80 rfl rfl ?_
                    refine v_aload_n hX d_T_fillPages_81 rfl rfl ?_
                    refine c_V hX t (rest := [.int (nI k), .ref (ob (t + 7))]) hl (c_T_pageCount hIL ht) ml_T_76 im_T_pageCount se_T_pageCount in_T cd_T_pageCount rfl q_T_pageCount ⟨(Nat.le_of_ble_eq_true rfl), (Nat.le_of_ble_eq_true rfl)⟩ (hIL.sheet ht).1 (hIL.sheet ht).2.1 (hIL.sheet ht).2.2 rfl rfl rfl rfl (Nat.le_of_ble_eq_true rfl) d_T_fillPages_82 ⟨by have a := hPL.2; have b := hxL; show _ + (120 + (2663816 - Phi rsL) / 16) ≤ 120 + (2663816 - Phi rs) / 16; omega, by have a := hPL.1; have b := hxL; show _ + (700000 + (2663816 - Phi rsL)) ≤ 700000 + (2663816 - Phi rs); omega⟩ (fun rv d2 lo2 va2 kc ns hp => ?_)
                    obtain ⟨rfl, rfl, rfl, rfl, rfl, rfl⟩ := hp
                    show V X D CL A _ _ _ _ _ _ _ (.int (nI (rsL (t + 13)).1) :: [.int (nI k), .ref (ob (t + 7))])
                    refine v_iconst (v := 1) hX d_T_fillPages_85 (by decide) ?_
                    refine v_isub hX d_T_fillPages_86 ?_
                    refine c_V hX (t + 7) (rest := []) hl (L_set hIL (t + 7) (shRK ht 3 (by decide)) (nI k) ((nI (rsL (t + 13)).1) - 1)) ml_T_79 im_R_set se_R_set in_R cd_R_set rfl q_R_set ⟨(Nat.le_of_ble_eq_true rfl), (Nat.le_of_ble_eq_true rfl)⟩ (hIL.1.1 (t + 7) (shRK ht 3 (by decide))).1 (hIL.1.1 (t + 7) (shRK ht 3 (by decide))).2.2.1 (hIL.1.1 (t + 7) (shRK ht 3 (by decide))).2.2.2.1.v rfl rfl rfl rfl (Nat.le_of_ble_eq_true rfl) d_T_fillPages_87 ⟨by have a := hPL.2; have b := hxL; show _ + 100 ≤ 120 + (2663816 - Phi rs) / 16; omega, by have a := hPL.1; have b := hxL; show _ + 200000 ≤ 700000 + (2663816 - Phi rs); omega⟩ (fun rv d2 lo29 va29 kc29 ns29 hp => ?_)
                    obtain ⟨rfl, rfl, ⟨rs29, hI29, hs29, ho29, hp29⟩, hf29⟩ := hp
                    show V X D CL A _ _ _ _ _ _ _ []
                    have hP29 : pay rs rs29 (csL + kc29) (ssL + ns29) := ⟨by have a := hPL.1; have b := hp29.1; omega, by have a := hPL.2; have b := hp29.2; omega⟩
                    have hx29 : Phi rs29 ≤ 2663816 := hI29.1.phi
                    refine v_aload_n hX d_T_fillPages_90 rfl rfl ?_
                    refine v_get hX t (v := .ref (ob (t + 15))) inT3 (hI29.sheet ht).1 (hI29.sheet ht).2.1 (hI29.sheet ht).2.2 rfl 7 (by decide) fl_T_36 rfl rfl d_T_fillPages_91 ?_
                    refine v_aload_n hX d_T_fillPages_94 rfl rfl ?_
                    refine c_V hX t (rest := [.ref (ob (t + 15))]) hl (c_T_pageCount hI29 ht) ml_T_76 im_T_pageCount se_T_pageCount in_T cd_T_pageCount rfl q_T_pageCount ⟨(Nat.le_of_ble_eq_true rfl), (Nat.le_of_ble_eq_true rfl)⟩ (hI29.sheet ht).1 (hI29.sheet ht).2.1 (hI29.sheet ht).2.2 rfl rfl rfl rfl (Nat.le_of_ble_eq_true rfl) d_T_fillPages_95 ⟨by have a := hP29.2; have b := hx29; show _ + (120 + (2663816 - Phi rs29) / 16) ≤ 120 + (2663816 - Phi rs) / 16; omega, by have a := hP29.1; have b := hx29; show _ + (700000 + (2663816 - Phi rs29)) ≤ 700000 + (2663816 - Phi rs); omega⟩ (fun rv d2 lo2 va2 kc ns hp => ?_)
                    obtain ⟨rfl, rfl, rfl, rfl, rfl, rfl⟩ := hp
                    show V X D CL A _ _ _ _ _ _ _ (.int (nI (rs29 (t + 13)).1) :: [.ref (ob (t + 15))])
                    refine v_iconst (v := 1) hX d_T_fillPages_98 (by decide) ?_
                    refine v_isub hX d_T_fillPages_99 ?_
                    refine v_iload_n hX d_T_fillPages_100 rfl rfl ?_
                    refine c_V hX (t + 15) (rest := []) hl (L_set hI29 (t + 15) (shRK ht 7 (by decide)) ((nI (rs29 (t + 13)).1) - 1) (u + 1)) ml_T_79 im_R_set se_R_set in_R cd_R_set rfl q_R_set ⟨(Nat.le_of_ble_eq_true rfl), (Nat.le_of_ble_eq_true rfl)⟩ (hI29.1.1 (t + 15) (shRK ht 7 (by decide))).1 (hI29.1.1 (t + 15) (shRK ht 7 (by decide))).2.2.1 (hI29.1.1 (t + 15) (shRK ht 7 (by decide))).2.2.2.1.v rfl rfl rfl rfl (Nat.le_of_ble_eq_true rfl) d_T_fillPages_101 ⟨by have a := hP29.2; have b := hx29; show _ + 100 ≤ 120 + (2663816 - Phi rs) / 16; omega, by have a := hP29.1; have b := hx29; show _ + 200000 ≤ 700000 + (2663816 - Phi rs); omega⟩ (fun rv d2 lo30 va30 kc30 ns30 hp => ?_)
                    obtain ⟨rfl, rfl, ⟨rs30, hI30, hs30, ho30, hp30⟩, hf30⟩ := hp
                    show V X D CL A _ _ _ _ _ _ _ []
                    have hP30 : pay rs rs30 (csL + kc29 + kc30) (ssL + ns29 + ns30) := ⟨by have a := hP29.1; have b := hp30.1; omega, by have a := hP29.2; have b := hp30.2; omega⟩
                    have hx30 : Phi rs30 ≤ 2663816 := hI30.1.phi
                    refine v_iinc (y := ((nI k) + 1)) (lv' := [some (.ref (ob t)), some (.int (u + 1)), some (.int ((nI k) + 1))]) hX d_T_fillPages_104 rfl (by rfl) rfl ?_
                    refine v_goto hX d_T_fillPages_107 (tgt := 4) (by decide) ?_
                    rw [show nI k + 1 = nI (k + 1) from nI_1 k]
                    exact ih (u + 1) (k + 1) pfL lo30 va30 (csL + kc29 + kc30) (ssL + ns29 + ns30) rs30 (by omega) hI30 ⟨by have a := hP30.1; omega, by have a := hP30.2; omega⟩ ((hfL.trans hf29).trans hf30) ⟨((congrArg Prod.fst (ho30 (t + 13) (by omega))).trans ((congrArg Prod.fst (ho29 (t + 13) (by omega))).trans hpa)), (hs30.trans ((congrArg Prod.fst (ho29 (t + 15) (by omega))).trans hpb)), by omega⟩ (fun j h1 h2 => ((keep_set (t := t) hs30 ho30 j h1 h2).trans ((keep_set (t := t) hs29 ho29 j h1 h2).trans (hkp j h1 h2)))) (by omega)
                  · refine v_aload_n hX d_T_fillPages_57 rfl rfl ?_
                    refine v_get hX t (v := .ref (ob (t + 13))) inT3 (hIL.sheet ht).1 (hIL.sheet ht).2.1 (hIL.sheet ht).2.2 rfl 6 (by decide) fl_T_33 rfl rfl d_T_fillPages_58 ?_
                    refine v_iload_n hX d_T_fillPages_61 rfl rfl ?_
                    refine c_V hX (t + 13) (rest := []) hl (L_add hIL (t + 13) (shRK ht 6 (by decide)) (nI k) (by have a : (rsL (t + 13)).1 = pfL := hpa; have b : mxOf (t + 13) = 1501 := mxS1 ht 6 (by decide); omega)) ml_T_66 im_R_add se_R_add in_R cd_R_add rfl q_R_add ⟨(Nat.le_of_ble_eq_true rfl), (Nat.le_of_ble_eq_true rfl)⟩ (hIL.1.1 (t + 13) (shRK ht 6 (by decide))).1 (hIL.1.1 (t + 13) (shRK ht 6 (by decide))).2.2.1 (hIL.1.1 (t + 13) (shRK ht 6 (by decide))).2.2.2.1.v rfl rfl rfl rfl (Nat.le_of_ble_eq_true rfl) d_T_fillPages_62 ⟨by have a := hPL.2; have b := hxL; show _ + 20 ≤ 120 + (2663816 - Phi rs) / 16; omega, by have a := hPL.1; have b := hxL; show _ + 700000 ≤ 700000 + (2663816 - Phi rs); omega⟩ (fun rv d2 lo31 va31 kc31 ns31 hp => ?_)
                    obtain ⟨rfl, rfl, ⟨rs31, hI31, hs31, ho31, hp31⟩, hf31⟩ := hp
                    show V X D CL A _ _ _ _ _ _ _ []
                    have hP31 : pay rs rs31 (csL + kc31) (ssL + ns31) := ⟨by have a := hPL.1; have b := hp31.1; omega, by have a := hPL.2; have b := hp31.2; omega⟩
                    have hx31 : Phi rs31 ≤ 2663816 := hI31.1.phi
                    refine v_aload_n hX d_T_fillPages_65 rfl rfl ?_
                    refine v_get hX t (v := .ref (ob (t + 15))) inT3 (hI31.sheet ht).1 (hI31.sheet ht).2.1 (hI31.sheet ht).2.2 rfl 7 (by decide) fl_T_36 rfl rfl d_T_fillPages_66 ?_
                    refine v_iconst (v := 0) hX d_T_fillPages_69 (by decide) ?_
                    refine c_V hX (t + 15) (rest := []) hl (L_add hI31 (t + 15) (shRK ht 7 (by decide)) 0 (by have a : (rs31 (t + 15)).1 = pfL := ((congrArg Prod.fst (ho31 (t + 15) (by omega))).trans hpb); have b : mxOf (t + 15) = 1501 := mxS1 ht 7 (by decide); omega)) ml_T_66 im_R_add se_R_add in_R cd_R_add rfl q_R_add ⟨(Nat.le_of_ble_eq_true rfl), (Nat.le_of_ble_eq_true rfl)⟩ (hI31.1.1 (t + 15) (shRK ht 7 (by decide))).1 (hI31.1.1 (t + 15) (shRK ht 7 (by decide))).2.2.1 (hI31.1.1 (t + 15) (shRK ht 7 (by decide))).2.2.2.1.v rfl rfl rfl rfl (Nat.le_of_ble_eq_true rfl) d_T_fillPages_70 ⟨by have a := hP31.2; have b := hx31; show _ + 20 ≤ 120 + (2663816 - Phi rs) / 16; omega, by have a := hP31.1; have b := hx31; show _ + 700000 ≤ 700000 + (2663816 - Phi rs); omega⟩ (fun rv d2 lo32 va32 kc32 ns32 hp => ?_)
                    obtain ⟨rfl, rfl, ⟨rs32, hI32, hs32, ho32, hp32⟩, hf32⟩ := hp
                    show V X D CL A _ _ _ _ _ _ _ []
                    have hP32 : pay rs rs32 (csL + kc31 + kc32) (ssL + ns31 + ns32) := ⟨by have a := hP31.1; have b := hp32.1; omega, by have a := hP31.2; have b := hp32.2; omega⟩
                    have hx32 : Phi rs32 ≤ 2663816 := hI32.1.phi
                    refine v_iinc (y := (u + 1)) (lv' := [some (.ref (ob t)), some (.int (u + 1)), some (.int (nI k))]) hX d_T_fillPages_73 rfl (by rfl) rfl ?_
                    refine v_aload_n hX d_T_fillPages_76 rfl rfl ?_
                    refine v_get hX t (v := .ref (ob (t + 7))) inT3 (hI32.sheet ht).1 (hI32.sheet ht).2.1 (hI32.sheet ht).2.2 rfl 3 (by decide) fl_T_24 rfl rfl d_T_fillPages_77 ?_
                    refine v_iload_n hX d_T_fillPages_80 rfl rfl ?_
                    refine v_aload_n hX d_T_fillPages_81 rfl rfl ?_
                    refine c_V hX t (rest := [.int (nI k), .ref (ob (t + 7))]) hl (c_T_pageCount hI32 ht) ml_T_76 im_T_pageCount se_T_pageCount in_T cd_T_pageCount rfl q_T_pageCount ⟨(Nat.le_of_ble_eq_true rfl), (Nat.le_of_ble_eq_true rfl)⟩ (hI32.sheet ht).1 (hI32.sheet ht).2.1 (hI32.sheet ht).2.2 rfl rfl rfl rfl (Nat.le_of_ble_eq_true rfl) d_T_fillPages_82 ⟨by have a := hP32.2; have b := hx32; show _ + (120 + (2663816 - Phi rs32) / 16) ≤ 120 + (2663816 - Phi rs) / 16; omega, by have a := hP32.1; have b := hx32; show _ + (700000 + (2663816 - Phi rs32)) ≤ 700000 + (2663816 - Phi rs); omega⟩ (fun rv d2 lo2 va2 kc ns hp => ?_)
                    obtain ⟨rfl, rfl, rfl, rfl, rfl, rfl⟩ := hp
                    show V X D CL A _ _ _ _ _ _ _ (.int (nI (rs32 (t + 13)).1) :: [.int (nI k), .ref (ob (t + 7))])
                    refine v_iconst (v := 1) hX d_T_fillPages_85 (by decide) ?_
                    refine v_isub hX d_T_fillPages_86 ?_
                    refine c_V hX (t + 7) (rest := []) hl (L_set hI32 (t + 7) (shRK ht 3 (by decide)) (nI k) ((nI (rs32 (t + 13)).1) - 1)) ml_T_79 im_R_set se_R_set in_R cd_R_set rfl q_R_set ⟨(Nat.le_of_ble_eq_true rfl), (Nat.le_of_ble_eq_true rfl)⟩ (hI32.1.1 (t + 7) (shRK ht 3 (by decide))).1 (hI32.1.1 (t + 7) (shRK ht 3 (by decide))).2.2.1 (hI32.1.1 (t + 7) (shRK ht 3 (by decide))).2.2.2.1.v rfl rfl rfl rfl (Nat.le_of_ble_eq_true rfl) d_T_fillPages_87 ⟨by have a := hP32.2; have b := hx32; show _ + 100 ≤ 120 + (2663816 - Phi rs) / 16; omega, by have a := hP32.1; have b := hx32; show _ + 200000 ≤ 700000 + (2663816 - Phi rs); omega⟩ (fun rv d2 lo33 va33 kc33 ns33 hp => ?_)
                    obtain ⟨rfl, rfl, ⟨rs33, hI33, hs33, ho33, hp33⟩, hf33⟩ := hp
                    show V X D CL A _ _ _ _ _ _ _ []
                    have hP33 : pay rs rs33 (csL + kc31 + kc32 + kc33) (ssL + ns31 + ns32 + ns33) := ⟨by have a := hP32.1; have b := hp33.1; omega, by have a := hP32.2; have b := hp33.2; omega⟩
                    have hx33 : Phi rs33 ≤ 2663816 := hI33.1.phi
                    refine v_aload_n hX d_T_fillPages_90 rfl rfl ?_
                    refine v_get hX t (v := .ref (ob (t + 15))) inT3 (hI33.sheet ht).1 (hI33.sheet ht).2.1 (hI33.sheet ht).2.2 rfl 7 (by decide) fl_T_36 rfl rfl d_T_fillPages_91 ?_
                    refine v_aload_n hX d_T_fillPages_94 rfl rfl ?_
                    refine c_V hX t (rest := [.ref (ob (t + 15))]) hl (c_T_pageCount hI33 ht) ml_T_76 im_T_pageCount se_T_pageCount in_T cd_T_pageCount rfl q_T_pageCount ⟨(Nat.le_of_ble_eq_true rfl), (Nat.le_of_ble_eq_true rfl)⟩ (hI33.sheet ht).1 (hI33.sheet ht).2.1 (hI33.sheet ht).2.2 rfl rfl rfl rfl (Nat.le_of_ble_eq_true rfl) d_T_fillPages_95 ⟨by have a := hP33.2; have b := hx33; show _ + (120 + (2663816 - Phi rs33) / 16) ≤ 120 + (2663816 - Phi rs) / 16; omega, by have a := hP33.1; have b := hx33; show _ + (700000 + (2663816 - Phi rs33)) ≤ 700000 + (2663816 - Phi rs); omega⟩ (fun rv d2 lo2 va2 kc ns hp => ?_)
                    obtain ⟨rfl, rfl, rfl, rfl, rfl, rfl⟩ := hp
                    show V X D CL A _ _ _ _ _ _ _ (.int (nI (rs33 (t + 13)).1) :: [.ref (ob (t + 15))])
                    refine v_iconst (v := 1) hX d_T_fillPages_98 (by decide) ?_
                    refine v_isub hX d_T_fillPages_99 ?_
                    refine v_iload_n hX d_T_fillPages_100 rfl rfl ?_
                    refine c_V hX (t + 15) (rest := []) hl (L_set hI33 (t + 15) (shRK ht 7 (by decide)) ((nI (rs33 (t + 13)).1) - 1) (u + 1)) ml_T_79 im_R_set se_R_set in_R cd_R_set rfl q_R_set ⟨(Nat.le_of_ble_eq_true rfl), (Nat.le_of_ble_eq_true rfl)⟩ (hI33.1.1 (t + 15) (shRK ht 7 (by decide))).1 (hI33.1.1 (t + 15) (shRK ht 7 (by decide))).2.2.1 (hI33.1.1 (t + 15) (shRK ht 7 (by decide))).2.2.2.1.v rfl rfl rfl rfl (Nat.le_of_ble_eq_true rfl) d_T_fillPages_101 ⟨by have a := hP33.2; have b := hx33; show _ + 100 ≤ 120 + (2663816 - Phi rs) / 16; omega, by have a := hP33.1; have b := hx33; show _ + 200000 ≤ 700000 + (2663816 - Phi rs); omega⟩ (fun rv d2 lo34 va34 kc34 ns34 hp => ?_)
                    obtain ⟨rfl, rfl, ⟨rs34, hI34, hs34, ho34, hp34⟩, hf34⟩ := hp
                    show V X D CL A _ _ _ _ _ _ _ []
                    have hP34 : pay rs rs34 (csL + kc31 + kc32 + kc33 + kc34) (ssL + ns31 + ns32 + ns33 + ns34) := ⟨by have a := hP33.1; have b := hp34.1; omega, by have a := hP33.2; have b := hp34.2; omega⟩
                    have hx34 : Phi rs34 ≤ 2663816 := hI34.1.phi
                    refine v_iinc (y := ((nI k) + 1)) (lv' := [some (.ref (ob t)), some (.int (u + 1)), some (.int ((nI k) + 1))]) hX d_T_fillPages_104 rfl (by rfl) rfl ?_
                    refine v_goto hX d_T_fillPages_107 (tgt := 4) (by decide) ?_
                    rw [show nI k + 1 = nI (k + 1) from nI_1 k]
                    exact ih (u + 1) (k + 1) (pfL + 1) lo34 va34 (csL + kc31 + kc32 + kc33 + kc34) (ssL + ns31 + ns32 + ns33 + ns34) rs34 (by omega) hI34 ⟨by have a := hP34.1; omega, by have a := hP34.2; omega⟩ ((((hfL.trans hf31).trans hf32).trans hf33).trans hf34) ⟨((congrArg Prod.fst (ho34 (t + 13) (by omega))).trans ((congrArg Prod.fst (ho33 (t + 13) (by omega))).trans ((congrArg Prod.fst (ho32 (t + 13) (by omega))).trans (eq_add1 hs31 hpa)))), (hs34.trans ((congrArg Prod.fst (ho33 (t + 15) (by omega))).trans (eq_add1 hs32 ((congrArg Prod.fst (ho31 (t + 15) (by omega))).trans hpb)))), by omega⟩ (fun j h1 h2 => ((keep_set (t := t) hs34 ho34 j h1 h2).trans ((keep_set (t := t) hs33 ho33 j h1 h2).trans ((keep_add (t := t) ho32 (Or.inr rfl) j h1 h2).trans ((keep_add (t := t) ho31 (Or.inl rfl) j h1 h2).trans (hkp j h1 h2)))))) (by omega)
                · refine v_goto hX d_T_fillPages_50 (tgt := 104) (by decide) ?_
                  refine v_iinc (y := ((nI k) + 1)) (lv' := [some (.ref (ob t)), some (.int u), some (.int ((nI k) + 1))]) hX d_T_fillPages_104 rfl (by rfl) rfl ?_
                  refine v_goto hX d_T_fillPages_107 (tgt := 4) (by decide) ?_
                  rw [show nI k + 1 = nI (k + 1) from nI_1 k]
                  exact ih u (k + 1) pfL loL vaL (csL) (ssL) rsL (by omega) hIL ⟨by have a := hPL.1; omega, by have a := hPL.2; omega⟩ hfL ⟨hpa, hpb, by omega⟩ (fun j h1 h2 => (hkp j h1 h2)) (by omega)
            · refine v_iconst (v := 0) hX d_T_fillPages_33 (by decide) ?_
              refine v_istore_n (lv' := [some (.ref (ob t)), some (.int 0), some (.int (nI k))]) hX d_T_fillPages_34 rfl (Nat.le_of_ble_eq_true rfl) rfl ?_
              refine v_iload_n hX d_T_fillPages_35 rfl rfl ?_
              refine v_if_ne hX d_T_fillPages_36 (tgt := 53) (by decide) (fun c => absurd (by decide) c) (fun _ => ?_)
              refine v_aload_n hX d_T_fillPages_39 rfl rfl ?_
              refine v_get hX t (v := .ref (ob (t + 5))) inT3 (hIL.sheet ht).1 (hIL.sheet ht).2.1 (hIL.sheet ht).2.2 rfl 2 (by decide) fl_T_21 rfl rfl d_T_fillPages_40 ?_
              refine v_iload_n hX d_T_fillPages_43 rfl rfl ?_
              refine c_V hX (t + 5) (rest := []) hl (L_get hIL (t + 5) (shRK ht 2 (by decide)) (nI k)) ml_T_62 im_R_get se_R_get in_R cd_R_get rfl q_R_get ⟨(Nat.le_of_ble_eq_true rfl), (Nat.le_of_ble_eq_true rfl)⟩ (hIL.1.1 (t + 5) (shRK ht 2 (by decide))).1 (hIL.1.1 (t + 5) (shRK ht 2 (by decide))).2.2.1 (hIL.1.1 (t + 5) (shRK ht 2 (by decide))).2.2.2.1.v rfl rfl rfl rfl (Nat.le_of_ble_eq_true rfl) d_T_fillPages_44 ⟨by have a := hPL.2; have b := hxL; show _ + 100 ≤ 120 + (2663816 - Phi rs) / 16; omega, by have a := hPL.1; have b := hxL; show _ + 200000 ≤ 700000 + (2663816 - Phi rs); omega⟩ (fun rv d2 lo2 va2 kc ns hp => ?_)
              obtain ⟨⟨v35, rfl⟩, rfl, rfl, rfl, rfl, rfl⟩ := hp
              show V X D CL A _ _ _ _ _ _ _ (.int v35 :: [])
              refine v_if_ne hX d_T_fillPages_47 (tgt := 53) (by decide) (fun c47 => ?_) (fun c47 => ?_)
              · refine v_iload_n hX d_T_fillPages_53 rfl rfl ?_
                refine v_if_ne hX d_T_fillPages_54 (tgt := 73) (by decide) (fun c => absurd (by decide) c) (fun _ => ?_)
                refine v_aload_n hX d_T_fillPages_57 rfl rfl ?_
                refine v_get hX t (v := .ref (ob (t + 13))) inT3 (hIL.sheet ht).1 (hIL.sheet ht).2.1 (hIL.sheet ht).2.2 rfl 6 (by decide) fl_T_33 rfl rfl d_T_fillPages_58 ?_
                refine v_iload_n hX d_T_fillPages_61 rfl rfl ?_
                refine c_V hX (t + 13) (rest := []) hl (L_add hIL (t + 13) (shRK ht 6 (by decide)) (nI k) (by have a : (rsL (t + 13)).1 = pfL := hpa; have b : mxOf (t + 13) = 1501 := mxS1 ht 6 (by decide); omega)) ml_T_66 im_R_add se_R_add in_R cd_R_add rfl q_R_add ⟨(Nat.le_of_ble_eq_true rfl), (Nat.le_of_ble_eq_true rfl)⟩ (hIL.1.1 (t + 13) (shRK ht 6 (by decide))).1 (hIL.1.1 (t + 13) (shRK ht 6 (by decide))).2.2.1 (hIL.1.1 (t + 13) (shRK ht 6 (by decide))).2.2.2.1.v rfl rfl rfl rfl (Nat.le_of_ble_eq_true rfl) d_T_fillPages_62 ⟨by have a := hPL.2; have b := hxL; show _ + 20 ≤ 120 + (2663816 - Phi rs) / 16; omega, by have a := hPL.1; have b := hxL; show _ + 700000 ≤ 700000 + (2663816 - Phi rs); omega⟩ (fun rv d2 lo36 va36 kc36 ns36 hp => ?_)
                obtain ⟨rfl, rfl, ⟨rs36, hI36, hs36, ho36, hp36⟩, hf36⟩ := hp
                show V X D CL A _ _ _ _ _ _ _ []
                have hP36 : pay rs rs36 (csL + kc36) (ssL + ns36) := ⟨by have a := hPL.1; have b := hp36.1; omega, by have a := hPL.2; have b := hp36.2; omega⟩
                have hx36 : Phi rs36 ≤ 2663816 := hI36.1.phi
                refine v_aload_n hX d_T_fillPages_65 rfl rfl ?_
                refine v_get hX t (v := .ref (ob (t + 15))) inT3 (hI36.sheet ht).1 (hI36.sheet ht).2.1 (hI36.sheet ht).2.2 rfl 7 (by decide) fl_T_36 rfl rfl d_T_fillPages_66 ?_
                refine v_iconst (v := 0) hX d_T_fillPages_69 (by decide) ?_
                refine c_V hX (t + 15) (rest := []) hl (L_add hI36 (t + 15) (shRK ht 7 (by decide)) 0 (by have a : (rs36 (t + 15)).1 = pfL := ((congrArg Prod.fst (ho36 (t + 15) (by omega))).trans hpb); have b : mxOf (t + 15) = 1501 := mxS1 ht 7 (by decide); omega)) ml_T_66 im_R_add se_R_add in_R cd_R_add rfl q_R_add ⟨(Nat.le_of_ble_eq_true rfl), (Nat.le_of_ble_eq_true rfl)⟩ (hI36.1.1 (t + 15) (shRK ht 7 (by decide))).1 (hI36.1.1 (t + 15) (shRK ht 7 (by decide))).2.2.1 (hI36.1.1 (t + 15) (shRK ht 7 (by decide))).2.2.2.1.v rfl rfl rfl rfl (Nat.le_of_ble_eq_true rfl) d_T_fillPages_70 ⟨by have a := hP36.2; have b := hx36; show _ + 20 ≤ 120 + (2663816 - Phi rs) / 16; omega, by have a := hP36.1; have b := hx36; show _ + 700000 ≤ 700000 + (2663816 - Phi rs); omega⟩ (fun rv d2 lo37 va37 kc37 ns37 hp => ?_)
                obtain ⟨rfl, rfl, ⟨rs37, hI37, hs37, ho37, hp37⟩, hf37⟩ := hp
                show V X D CL A _ _ _ _ _ _ _ []
                have hP37 : pay rs rs37 (csL + kc36 + kc37) (ssL + ns36 + ns37) := ⟨by have a := hP36.1; have b := hp37.1; omega, by have a := hP36.2; have b := hp37.2; omega⟩
                have hx37 : Phi rs37 ≤ 2663816 := hI37.1.phi
                refine v_iinc (y := 1) (lv' := [some (.ref (ob t)), some (.int 1), some (.int (nI k))]) hX d_T_fillPages_73 rfl (by decide) rfl ?_
                refine v_aload_n hX d_T_fillPages_76 rfl rfl ?_
                refine v_get hX t (v := .ref (ob (t + 7))) inT3 (hI37.sheet ht).1 (hI37.sheet ht).2.1 (hI37.sheet ht).2.2 rfl 3 (by decide) fl_T_24 rfl rfl d_T_fillPages_77 ?_
                refine v_iload_n hX d_T_fillPages_80 rfl rfl ?_
                refine v_aload_n hX d_T_fillPages_81 rfl rfl ?_
                refine c_V hX t (rest := [.int (nI k), .ref (ob (t + 7))]) hl (c_T_pageCount hI37 ht) ml_T_76 im_T_pageCount se_T_pageCount in_T cd_T_pageCount rfl q_T_pageCount ⟨(Nat.le_of_ble_eq_true rfl), (Nat.le_of_ble_eq_true rfl)⟩ (hI37.sheet ht).1 (hI37.sheet ht).2.1 (hI37.sheet ht).2.2 rfl rfl rfl rfl (Nat.le_of_ble_eq_true rfl) d_T_fillPages_82 ⟨by have a := hP37.2; have b := hx37; show _ + (120 + (2663816 - Phi rs37) / 16) ≤ 120 + (2663816 - Phi rs) / 16; omega, by have a := hP37.1; have b := hx37; show _ + (700000 + (2663816 - Phi rs37)) ≤ 700000 + (2663816 - Phi rs); omega⟩ (fun rv d2 lo2 va2 kc ns hp => ?_)
                obtain ⟨rfl, rfl, rfl, rfl, rfl, rfl⟩ := hp
                show V X D CL A _ _ _ _ _ _ _ (.int (nI (rs37 (t + 13)).1) :: [.int (nI k), .ref (ob (t + 7))])
                refine v_iconst (v := 1) hX d_T_fillPages_85 (by decide) ?_
                refine v_isub hX d_T_fillPages_86 ?_
                refine c_V hX (t + 7) (rest := []) hl (L_set hI37 (t + 7) (shRK ht 3 (by decide)) (nI k) ((nI (rs37 (t + 13)).1) - 1)) ml_T_79 im_R_set se_R_set in_R cd_R_set rfl q_R_set ⟨(Nat.le_of_ble_eq_true rfl), (Nat.le_of_ble_eq_true rfl)⟩ (hI37.1.1 (t + 7) (shRK ht 3 (by decide))).1 (hI37.1.1 (t + 7) (shRK ht 3 (by decide))).2.2.1 (hI37.1.1 (t + 7) (shRK ht 3 (by decide))).2.2.2.1.v rfl rfl rfl rfl (Nat.le_of_ble_eq_true rfl) d_T_fillPages_87 ⟨by have a := hP37.2; have b := hx37; show _ + 100 ≤ 120 + (2663816 - Phi rs) / 16; omega, by have a := hP37.1; have b := hx37; show _ + 200000 ≤ 700000 + (2663816 - Phi rs); omega⟩ (fun rv d2 lo38 va38 kc38 ns38 hp => ?_)
                obtain ⟨rfl, rfl, ⟨rs38, hI38, hs38, ho38, hp38⟩, hf38⟩ := hp
                show V X D CL A _ _ _ _ _ _ _ []
                have hP38 : pay rs rs38 (csL + kc36 + kc37 + kc38) (ssL + ns36 + ns37 + ns38) := ⟨by have a := hP37.1; have b := hp38.1; omega, by have a := hP37.2; have b := hp38.2; omega⟩
                have hx38 : Phi rs38 ≤ 2663816 := hI38.1.phi
                refine v_aload_n hX d_T_fillPages_90 rfl rfl ?_
                refine v_get hX t (v := .ref (ob (t + 15))) inT3 (hI38.sheet ht).1 (hI38.sheet ht).2.1 (hI38.sheet ht).2.2 rfl 7 (by decide) fl_T_36 rfl rfl d_T_fillPages_91 ?_
                refine v_aload_n hX d_T_fillPages_94 rfl rfl ?_
                refine c_V hX t (rest := [.ref (ob (t + 15))]) hl (c_T_pageCount hI38 ht) ml_T_76 im_T_pageCount se_T_pageCount in_T cd_T_pageCount rfl q_T_pageCount ⟨(Nat.le_of_ble_eq_true rfl), (Nat.le_of_ble_eq_true rfl)⟩ (hI38.sheet ht).1 (hI38.sheet ht).2.1 (hI38.sheet ht).2.2 rfl rfl rfl rfl (Nat.le_of_ble_eq_true rfl) d_T_fillPages_95 ⟨by have a := hP38.2; have b := hx38; show _ + (120 + (2663816 - Phi rs38) / 16) ≤ 120 + (2663816 - Phi rs) / 16; omega, by have a := hP38.1; have b := hx38; show _ + (700000 + (2663816 - Phi rs38)) ≤ 700000 + (2663816 - Phi rs); omega⟩ (fun rv d2 lo2 va2 kc ns hp => ?_)
                obtain ⟨rfl, rfl, rfl, rfl, rfl, rfl⟩ := hp
                show V X D CL A _ _ _ _ _ _ _ (.int (nI (rs38 (t + 13)).1) :: [.ref (ob (t + 15))])
                refine v_iconst (v := 1) hX d_T_fillPages_98 (by decide) ?_
                refine v_isub hX d_T_fillPages_99 ?_
                refine v_iload_n hX d_T_fillPages_100 rfl rfl ?_
                refine c_V hX (t + 15) (rest := []) hl (L_set hI38 (t + 15) (shRK ht 7 (by decide)) ((nI (rs38 (t + 13)).1) - 1) 1) ml_T_79 im_R_set se_R_set in_R cd_R_set rfl q_R_set ⟨(Nat.le_of_ble_eq_true rfl), (Nat.le_of_ble_eq_true rfl)⟩ (hI38.1.1 (t + 15) (shRK ht 7 (by decide))).1 (hI38.1.1 (t + 15) (shRK ht 7 (by decide))).2.2.1 (hI38.1.1 (t + 15) (shRK ht 7 (by decide))).2.2.2.1.v rfl rfl rfl rfl (Nat.le_of_ble_eq_true rfl) d_T_fillPages_101 ⟨by have a := hP38.2; have b := hx38; show _ + 100 ≤ 120 + (2663816 - Phi rs) / 16; omega, by have a := hP38.1; have b := hx38; show _ + 200000 ≤ 700000 + (2663816 - Phi rs); omega⟩ (fun rv d2 lo39 va39 kc39 ns39 hp => ?_)
                obtain ⟨rfl, rfl, ⟨rs39, hI39, hs39, ho39, hp39⟩, hf39⟩ := hp
                show V X D CL A _ _ _ _ _ _ _ []
                have hP39 : pay rs rs39 (csL + kc36 + kc37 + kc38 + kc39) (ssL + ns36 + ns37 + ns38 + ns39) := ⟨by have a := hP38.1; have b := hp39.1; omega, by have a := hP38.2; have b := hp39.2; omega⟩
                have hx39 : Phi rs39 ≤ 2663816 := hI39.1.phi
                refine v_iinc (y := ((nI k) + 1)) (lv' := [some (.ref (ob t)), some (.int 1), some (.int ((nI k) + 1))]) hX d_T_fillPages_104 rfl (by rfl) rfl ?_
                refine v_goto hX d_T_fillPages_107 (tgt := 4) (by decide) ?_
                rw [show nI k + 1 = nI (k + 1) from nI_1 k]
                exact ih 1 (k + 1) (pfL + 1) lo39 va39 (csL + kc36 + kc37 + kc38 + kc39) (ssL + ns36 + ns37 + ns38 + ns39) rs39 (by omega) hI39 ⟨by have a := hP39.1; omega, by have a := hP39.2; omega⟩ ((((hfL.trans hf36).trans hf37).trans hf38).trans hf39) ⟨((congrArg Prod.fst (ho39 (t + 13) (by omega))).trans ((congrArg Prod.fst (ho38 (t + 13) (by omega))).trans ((congrArg Prod.fst (ho37 (t + 13) (by omega))).trans (eq_add1 hs36 hpa)))), (hs39.trans ((congrArg Prod.fst (ho38 (t + 15) (by omega))).trans (eq_add1 hs37 ((congrArg Prod.fst (ho36 (t + 15) (by omega))).trans hpb)))), by omega⟩ (fun j h1 h2 => ((keep_set (t := t) hs39 ho39 j h1 h2).trans ((keep_set (t := t) hs38 ho38 j h1 h2).trans ((keep_add (t := t) ho37 (Or.inr rfl) j h1 h2).trans ((keep_add (t := t) ho36 (Or.inl rfl) j h1 h2).trans (hkp j h1 h2)))))) (by omega)
              · refine v_goto hX d_T_fillPages_50 (tgt := 104) (by decide) ?_
                refine v_iinc (y := ((nI k) + 1)) (lv' := [some (.ref (ob t)), some (.int 0), some (.int ((nI k) + 1))]) hX d_T_fillPages_104 rfl (by rfl) rfl ?_
                refine v_goto hX d_T_fillPages_107 (tgt := 4) (by decide) ?_
                rw [show nI k + 1 = nI (k + 1) from nI_1 k]
                exact ih 0 (k + 1) pfL loL vaL (csL) (ssL) rsL (by omega) hIL ⟨by have a := hPL.1; omega, by have a := hPL.2; omega⟩ hfL ⟨hpa, hpb, by omega⟩ (fun j h1 h2 => (hkp j h1 h2)) (by omega)
  exact loop _ 0 0 0 loc val 0 0 rs (Nat.lt_succ_self _) hI pay.rf frL.rf ⟨hpf.1, hpf.2, Nat.le_refl _⟩ (fun _ _ _ => rfl) (Nat.zero_le _)
