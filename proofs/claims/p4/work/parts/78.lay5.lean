theorem c_P_isOneOf2 {l : Launch} {D : va_G} {A : Nat → Prop} {cI cB cZ cJ cN : ClassId} {dom : Nat → Prop} {loc : Nat → Nat} {val : Nat → va_E} (x y : Int32) : kM l y_P_isOneOf (Cond.code y_P_isOneOf b_P_isOneOf 2 (some FieldType.boolean) :: TT) (rmM 1) D CL (TY cI cB cZ cJ cN) A [.int x, .int y] dom loc val (fun rv d lo va kc ns => rv = some (.int (oneOf x y)) ∧ dom = d ∧ loc = lo ∧ val = va ∧ kc = 0 ∧ ns = 0) := by
  refine kM_of (lv0 := [some (.int x), some (.int y)]) (own := "ProsePages") (by decide) rfl (List.forall_mem_cons.mpr ⟨rfl, List.forall_mem_cons.mpr ⟨rfl, fun _ h => nomatch h⟩⟩) (Nat.le_of_ble_eq_true rfl) rfl (Nat.le_of_ble_eq_true rfl) (fun X hl hX hE hin0 => ?_)
  refine v_iload_n hX d_P_isOneOf_0 rfl rfl ?_
  refine v_if_lt hX d_P_isOneOf_1 (tgt := 23) (by decide) (fun c1 => ?_) (fun c1 => ?_)
  · refine v_iconst (v := 0) hX d_P_isOneOf_23 (by decide) ?_
    exact v_zret hX hE (by first | decide | rfl | exact oneOf_nar | exact blk_nar | exact inl_nar | assumption) d_P_isOneOf_24 (Nat.le_of_ble_eq_true rfl) (Nat.le_of_ble_eq_true rfl) ⟨by simp [oneOf, c1], rfl, rfl, rfl, rfl, rfl⟩
  · refine v_iload_n hX d_P_isOneOf_4 rfl rfl ?_
    refine v_bipush (v := 10) hX d_P_isOneOf_5 (by decide) ?_
    refine v_icmp_gt hX d_P_isOneOf_7 (tgt := 23) (by decide) (fun c7 => ?_) (fun c7 => ?_)
    · refine v_iconst (v := 0) hX d_P_isOneOf_23 (by decide) ?_
      exact v_zret hX hE (by first | decide | rfl | exact oneOf_nar | exact blk_nar | exact inl_nar | assumption) d_P_isOneOf_24 (Nat.le_of_ble_eq_true rfl) (Nat.le_of_ble_eq_true rfl) ⟨by simp [oneOf, c1, c7], rfl, rfl, rfl, rfl, rfl⟩
    · refine v_iload_n hX d_P_isOneOf_10 rfl rfl ?_
      refine v_iload_n hX d_P_isOneOf_11 rfl rfl ?_
      refine v_ishr hX d_P_isOneOf_12 ?_
      refine v_iconst (v := 1) hX d_P_isOneOf_13 (by decide) ?_
      refine v_iand hX d_P_isOneOf_14 ?_
      refine v_iconst (v := 1) hX d_P_isOneOf_15 (by decide) ?_
      refine v_icmp_ne hX d_P_isOneOf_16 (tgt := 23) (by decide) (fun c16 => ?_) (fun c16 => ?_)
      · refine v_iconst (v := 0) hX d_P_isOneOf_23 (by decide) ?_
        exact v_zret hX hE (by first | decide | rfl | exact oneOf_nar | exact blk_nar | exact inl_nar | assumption) d_P_isOneOf_24 (Nat.le_of_ble_eq_true rfl) (Nat.le_of_ble_eq_true rfl) ⟨by simp [oneOf, c1, c7, c16], rfl, rfl, rfl, rfl, rfl⟩
      · refine v_iconst (v := 1) hX d_P_isOneOf_19 (by decide) ?_
        refine v_goto hX d_P_isOneOf_20 (tgt := 24) (by decide) ?_
        exact v_zret hX hE (by first | decide | rfl | exact oneOf_nar | exact blk_nar | exact inl_nar | assumption) d_P_isOneOf_24 (Nat.le_of_ble_eq_true rfl) (Nat.le_of_ble_eq_true rfl) ⟨by simp [oneOf, c1, c7, c16], rfl, rfl, rfl, rfl, rfl⟩
set_option maxHeartbeats 4000000 in
set_option maxRecDepth 100000 in
theorem c_N_isInline2 {l : Launch} {D : va_G} {A : Nat → Prop} {cI cB cZ cJ cN : ClassId} {ob : Nat → Nat} {dom : Nat → Prop} {loc : Nat → Nat} {val : Nat → va_E} {T : TR} {n : Nat} (hN : NodesI ob T n dom loc val) (hT : TreeI T n) {i : Nat} (hi : i < n) : kM l y_N_isInline (Cond.code y_N_isInline b_N_isInline 1 (some FieldType.boolean) :: TT) (rmM 2) D CL (TY cI cB cZ cJ cN) A [.ref (ob (1000 + i))] dom loc val (fun rv d lo va kc ns => rv = some (.int (oneOf (tK T i) 1792)) ∧ dom = d ∧ loc = lo ∧ val = va ∧ kc = 0 ∧ ns = 0) := by
  refine kM_of (lv0 := [some (.ref (ob (1000 + i)))]) (own := "ProsePages$Node") (by decide) rfl (List.forall_mem_cons.mpr ⟨rfl, fun _ h => nomatch h⟩) (Nat.le_of_ble_eq_true rfl) rfl (Nat.le_of_ble_eq_true rfl) (fun X hl hX hE hin0 => ?_)
  refine v_aload_n hX d_N_isInline_0 rfl rfl ?_
  refine v_get hX (1000 + i) (v := .int (tK T i)) inT0 (hN.2 i hi).1 (hN.2 i hi).2.1 (hN.2 i hi).2.2.choose_spec.choose_spec.choose_spec.choose_spec rfl 1 (by decide) fl_N_18 rfl rfl d_N_isInline_1 ?_
  refine v_sipush (v := 1792) hX d_N_isInline_4 (by decide) ?_
  refine c_SN hX (rest := []) hl (c_P_isOneOf2 (tK T i) 1792) (host := "ProsePages") (by decide) sm_P_isOneOf in_P cd_P_isOneOf q_P_isOneOf ⟨(Nat.le_of_ble_eq_true rfl), (Nat.le_of_ble_eq_true rfl)⟩ rfl rfl rfl (Nat.le_of_ble_eq_true rfl) d_N_isInline_7 ⟨(Nat.le_of_ble_eq_true rfl), (Nat.le_of_ble_eq_true rfl)⟩ (fun rv d2 lo2 va2 kc ns hp => ?_)
  obtain ⟨rfl, rfl, rfl, rfl, rfl, rfl⟩ := hp
  show V X D CL A _ _ _ _ _ _ _ (.int (oneOf (tK T i) 1792) :: [])
  exact v_zret hX hE (by first | decide | rfl | exact oneOf_nar | exact blk_nar | exact inl_nar | assumption) d_N_isInline_10 (Nat.le_of_ble_eq_true rfl) (Nat.le_of_ble_eq_true rfl) ⟨rfl, rfl, rfl, rfl, rfl, rfl⟩
set_option maxHeartbeats 4000000 in
set_option maxRecDepth 100000 in
theorem c_N_lastOfPart2 {l : Launch} {D : va_G} {A : Nat → Prop} {cI cB cZ cJ cN : ClassId} {ob : Nat → Nat} {dom : Nat → Prop} {loc : Nat → Nat} {val : Nat → va_E} {T : TR} {n : Nat} (hN : NodesI ob T n dom loc val) (hT : TreeI T n) {i : Nat} (hi : i < n) : kM l y_N_lastOfPart (Cond.code y_N_lastOfPart b_N_lastOfPart 2 (some (FieldType.object "ProsePages$Node")) :: TT) (rmM 3) D CL (TY cI cB cZ cJ cN) A [.ref (ob (1000 + i))] dom loc val (fun rv d lo va kc ns => (∃ e, e < n ∧ (tD T e = tD T i ∧ i ≤ e) ∧ rv = some (.ref (ob (1000 + e)))) ∧ dom = d ∧ loc = lo ∧ val = va ∧ kc = 0 ∧ ns = 0) := by
  refine kM_of (lv0 := [some (.ref (ob (1000 + i))), none]) (own := "ProsePages$Node") (by decide) rfl (List.forall_mem_cons.mpr ⟨rfl, fun _ h => nomatch h⟩) (Nat.le_of_ble_eq_true rfl) rfl (Nat.le_of_ble_eq_true rfl) (fun X hl hX hE hin0 => ?_)
  refine v_aload_n hX d_N_lastOfPart_0 rfl rfl ?_
  refine v_astore_n (lv' := [some (.ref (ob (1000 + i))), some (.ref (ob (1000 + i)))]) hX d_N_lastOfPart_1 rfl (Nat.le_of_ble_eq_true rfl) rfl ?_
  have loop : ∀ (m9 : Nat) (e : Nat), n - e < m9 → e < n → (tD T e = tD T i ∧ i ≤ e) → V X D CL A dom loc val (0) (0) 2 [some (.ref (ob (1000 + i))), some (.ref (ob (1000 + e)))] [] := by
    intro m9
    induction m9 with
    | zero => intro e hk he hd; exact absurd hk (Nat.not_lt_zero _)
    | succ m9 ih =>
      intro e hk he hd
      refine v_aload_n hX d_N_lastOfPart_2 rfl rfl ?_
      refine c_V hX (1000 + i) (rest := []) hl (c_N_isInline2 hN hT hi) ml_N_50 im_N_isInline se_N_isInline in_N cd_N_isInline rfl q_N_isInline ⟨(Nat.le_of_ble_eq_true rfl), (Nat.le_of_ble_eq_true rfl)⟩ (hN.2 i hi).1 (hN.2 i hi).2.1 (hN.2 i hi).2.2.choose_spec.choose_spec.choose_spec.choose_spec rfl rfl rfl rfl (Nat.le_of_ble_eq_true rfl) d_N_lastOfPart_3 ⟨(Nat.le_of_ble_eq_true rfl), (Nat.le_of_ble_eq_true rfl)⟩ (fun rv d2 lo2 va2 kc ns hp => ?_)
      obtain ⟨rfl, rfl, rfl, rfl, rfl, rfl⟩ := hp
      show V X D CL A _ _ _ _ _ _ _ (.int (oneOf (tK T i) 1792) :: [])
      refine v_if_eq hX d_N_lastOfPart_6 (tgt := 34) (by decide) (fun c6 => ?_) (fun c6 => ?_)
      · refine v_aload_n hX d_N_lastOfPart_34 rfl rfl ?_
        exact v_aret hX hE (some (ob (1000 + e))) d_N_lastOfPart_35 (Nat.le_of_ble_eq_true rfl) (Nat.le_of_ble_eq_true rfl) ⟨⟨e, he, hd, rfl⟩, rfl, rfl, rfl, rfl, rfl⟩
      · refine v_aload_n hX d_N_lastOfPart_9 rfl rfl ?_
        refine v_get hX (1000 + e) (v := orf ob (tN T e)) inT0 (hN.2 e he).1 (hN.2 e he).2.1 (hN.2 e he).2.2.choose_spec.choose_spec.choose_spec.choose_spec rfl 9 (by decide) fl_N_47 rfl rfl d_N_lastOfPart_10 ?_
        rcases hq1 : (tN T e) with _ | j1
        · refine v_ifnull hX none d_N_lastOfPart_13 (tgt := 34) (by decide) (fun _ => ?_) (fun _ h => nomatch h)
          refine v_aload_n hX d_N_lastOfPart_34 rfl rfl ?_
          exact v_aret hX hE (some (ob (1000 + e))) d_N_lastOfPart_35 (Nat.le_of_ble_eq_true rfl) (Nat.le_of_ble_eq_true rfl) ⟨⟨e, he, hd, rfl⟩, rfl, rfl, rfl, rfl, rfl⟩
        · have ht_j1 := hT.1 e j1 he hq1
          refine v_ifnull hX (some (ob (1000 + j1))) d_N_lastOfPart_13 (tgt := 34) (by decide) (fun h => nomatch h) (fun _ _ => ?_)
          refine v_aload_n hX d_N_lastOfPart_16 rfl rfl ?_
          refine v_get hX (1000 + e) (v := .ref (ob (1000 + j1))) inT0 (hN.2 e he).1 (hN.2 e he).2.1 (hN.2 e he).2.2.choose_spec.choose_spec.choose_spec.choose_spec rfl 9 (by decide) fl_N_47 rfl (by show some (orf ob (tN T e)) = _; rw [hq1]; rfl) d_N_lastOfPart_17 ?_
          refine c_V hX (1000 + j1) (rest := []) hl (c_N_isInline2 hN hT ht_j1.2.1) ml_N_50 im_N_isInline se_N_isInline in_N cd_N_isInline rfl q_N_isInline ⟨(Nat.le_of_ble_eq_true rfl), (Nat.le_of_ble_eq_true rfl)⟩ (hN.2 j1 ht_j1.2.1).1 (hN.2 j1 ht_j1.2.1).2.1 (hN.2 j1 ht_j1.2.1).2.2.choose_spec.choose_spec.choose_spec.choose_spec rfl rfl rfl rfl (Nat.le_of_ble_eq_true rfl) d_N_lastOfPart_20 ⟨(Nat.le_of_ble_eq_true rfl), (Nat.le_of_ble_eq_true rfl)⟩ (fun rv d2 lo2 va2 kc ns hp => ?_)
          obtain ⟨rfl, rfl, rfl, rfl, rfl, rfl⟩ := hp
          show V X D CL A _ _ _ _ _ _ _ (.int (oneOf (tK T j1) 1792) :: [])
          refine v_if_eq hX d_N_lastOfPart_23 (tgt := 34) (by decide) (fun c23 => ?_) (fun c23 => ?_)
          · refine v_aload_n hX d_N_lastOfPart_34 rfl rfl ?_
            exact v_aret hX hE (some (ob (1000 + e))) d_N_lastOfPart_35 (Nat.le_of_ble_eq_true rfl) (Nat.le_of_ble_eq_true rfl) ⟨⟨e, he, hd, rfl⟩, rfl, rfl, rfl, rfl, rfl⟩
          · refine v_aload_n hX d_N_lastOfPart_26 rfl rfl ?_
            refine v_get hX (1000 + e) (v := .ref (ob (1000 + j1))) inT0 (hN.2 e he).1 (hN.2 e he).2.1 (hN.2 e he).2.2.choose_spec.choose_spec.choose_spec.choose_spec rfl 9 (by decide) fl_N_47 rfl (by show some (orf ob (tN T e)) = _; rw [hq1]; rfl) d_N_lastOfPart_27 ?_
            refine v_astore_n (lv' := [some (.ref (ob (1000 + i))), some (.ref (ob (1000 + j1)))]) hX d_N_lastOfPart_30 rfl (Nat.le_of_ble_eq_true rfl) rfl ?_
            refine v_goto hX d_N_lastOfPart_31 (tgt := 2) (by decide) ?_
            exact ih j1 (by omega) ht_j1.2.1 ⟨ht_j1.2.2.trans hd.1, Nat.le_trans hd.2 (Nat.le_of_lt ht_j1.1)⟩
  exact loop _ _ (Nat.lt_succ_self _) hi ⟨rfl, Nat.le_refl _⟩
set_option maxHeartbeats 4000000 in
set_option maxRecDepth 100000 in
theorem c_S_layParts1 {l : Launch} {D : va_G} {A : Nat → Prop} {cI cB cZ cJ cN : ClassId} {ob : Nat → Nat} {td a nl pf tl ph : Nat} {dom : Nat → Prop} {loc : Nat → Nat} {val : Nat → va_E} (hS : LayS cI ob td 0 0 a a nl pf tl ph dom loc val) {T : TR} {n : Nat} (hN : NodesI ob T n dom loc val) (hT : TreeI T n) (k : Nat) (H : KLP l D A cI cB cZ cJ cN ob T n td pf tl dom k) {i : Nat} (hi : i < n) (hd : 13 ≤ tD T i + (k + 1)) {wd : Nat} (hwd : 4 ≤ wd ∧ wd ≤ 60) (ha : a + 12 * (12 - tD T i) ≤ 144) : kM l y_S_layParts (Cond.code y_S_layParts b_S_layParts 7 none :: TT) (rmP (10 + 4 * (k + 1)) ph) D CL (TY cI cB cZ cJ cN) A [.ref (ob 2), .ref (ob (1000 + i)), .int (nI wd)] dom loc val (PSn cI ob T n td a nl pf tl ph dom loc val) := by
  refine kM_of (lv0 := [some (.ref (ob 2)), some (.ref (ob (1000 + i))), some (.int (nI wd)), none, none, none, none]) (own := "ProsePages$Setter") (by decide) rfl (List.forall_mem_cons.mpr ⟨rfl, List.forall_mem_cons.mpr ⟨rfl, List.forall_mem_cons.mpr ⟨rfl, fun _ h => nomatch h⟩⟩⟩) (Nat.le_of_ble_eq_true rfl) rfl (Nat.le_of_ble_eq_true rfl) (fun X hl hX hE hin0 => ?_)
  have hP : 0 + ph ≤ ph ∧ 16 * 0 + ph ≤ ph := ⟨by omega, by omega⟩
  have hx : ph ≤ 2663816 := hS.phi
  have hz := hS.hnl
  have hdd := (hT.2.2 i hi).2
  refine v_aload_n hX d_S_layParts_0 rfl rfl ?_
  refine v_get hX 2 (v := .ref (ob td)) inT2 hS.set.1 hS.set.2.1 hS.set.2.2 rfl 1 (by decide) fl_S_21 rfl rfl d_S_layParts_1 ?_
  refine c_V hX td (rest := []) hl (S_lines hS) ml_S_37 im_T_lineCount se_T_lineCount in_T cd_T_lineCount rfl q_T_lineCount ⟨Nat.le_trans (m := 200) (Nat.le_of_ble_eq_true rfl) (by show 200 ≤ 20 * (10 + 4 * (k + 1)) + 20; omega), Nat.le_trans (m := 3400) (Nat.le_of_ble_eq_true rfl) (by show 3400 ≤ 300 * (10 + 4 * (k + 1)) + 600; omega)⟩ (hS.sheet).choose_spec.1 (hS.sheet).choose_spec.2.1 (hS.sheet).choose_spec.2.2 rfl rfl rfl rfl (Nat.le_of_ble_eq_true rfl) d_S_layParts_4 ⟨by have a := hP.2; have b := hx; show _ + (120 + (2663816 - ph) / 16) ≤ 120 + (2663816 - ph) / 16; omega, by have a := hP.1; have b := hx; show _ + (700000 + (2663816 - ph)) ≤ 700000 + (2663816 - ph); omega⟩ (fun rv d2 lo2 va2 kc ns hp => ?_)
  obtain ⟨rfl, rfl, rfl, rfl, rfl, rfl⟩ := hp
  show V X D CL A _ _ _ _ _ _ _ (.int (nI nl) :: [])
  refine v_istore_n (lv' := [some (.ref (ob 2)), some (.ref (ob (1000 + i))), some (.int (nI wd)), some (.int (nI nl)), none, none, none]) hX d_S_layParts_7 rfl (Nat.le_of_ble_eq_true rfl) rfl ?_
  refine v_aload_n hX d_S_layParts_8 rfl rfl ?_
  refine v_get hX (1000 + i) (v := .int (tK T i)) inT0 (hN.2 i hi).1 (hN.2 i hi).2.1 (hN.2 i hi).2.2.choose_spec.choose_spec.choose_spec.choose_spec rfl 1 (by decide) fl_S_41 rfl rfl d_S_layParts_9 ?_
  refine v_bipush (v := 7) hX d_S_layParts_12 (by decide) ?_
  refine v_icmp_ne hX d_S_layParts_14 (tgt := 25) (by decide) (fun c14 => ?_) (fun c14 => ?_)
  · refine v_iconst (v := 1) hX d_S_layParts_25 (by decide) ?_
    refine v_goto hX d_S_layParts_26 (tgt := 30) (by decide) ?_
    refine v_istore (lv' := [some (.ref (ob 2)), some (.ref (ob (1000 + i))), some (.int (nI wd)), some (.int (nI nl)), some (.int 1), none, none]) hX d_S_layParts_30 (Nat.le_of_ble_eq_true rfl) rfl ?_
    refine v_aload_n hX d_S_layParts_32 rfl rfl ?_
    refine v_get hX (1000 + i) (v := orf ob (tF T i)) inT0 (hN.2 i hi).1 (hN.2 i hi).2.1 (hN.2 i hi).2.2.choose_spec.choose_spec.choose_spec.choose_spec rfl 7 (by decide) fl_S_51 rfl rfl d_S_layParts_33 ?_
    refine v_astoreQ (lv' := [some (.ref (ob 2)), some (.ref (ob (1000 + i))), some (.int (nI wd)), some (.int (nI nl)), some (.int 1), some (orf ob (tF T i)), none]) hX ((tF T i).map (fun i => ob (1000 + i))) d_S_layParts_36 (Nat.le_of_ble_eq_true rfl) rfl ?_
    have loop38 : ∀ (m9 : Nat) (o : Option Nat) (o6 : Option Value) (loL : Nat → Nat) (vaL : Nat → va_E) (csL ssL nlL phL : Nat), om n o < m9 → LayS cI ob td 0 0 a a nlL pf tl phL dom loL vaL → NodesI ob T n dom loL vaL → nl ≤ nlL → (ssL + ph ≤ phL ∧ 16 * csL + ph ≤ phL) → frN loc val loL vaL → (∀ j, o = some j → j < n ∧ tD T j = tD T i + 1) → V X D CL A dom loL vaL csL ssL 38 [some (.ref (ob 2)), some (.ref (ob (1000 + i))), some (.int (nI wd)), some (.int (nI nl)), some (.int 1), some (orf ob o), o6] [] := by
      intro m9
      induction m9 with
      | zero => intro o o6 loL vaL csL ssL nlL phL hk hSL hNL hnL hPL hfL hO; exact absurd hk (Nat.not_lt_zero _)
      | succ m9 ih38 =>
        intro o o6 loL vaL csL ssL nlL phL hk hSL hNL hnL hPL hfL hO
        have hxL : phL ≤ 2663816 := hSL.phi
        have hzL := hSL.hnl
        refine v_aloadQ hX (o.map (fun i => ob (1000 + i))) d_S_layParts_38 rfl ?_
        rcases hq1 : o with _ | j1
        · refine v_ifnull hX none d_S_layParts_40 (tgt := 100) (by decide) (fun _ => ?_) (fun _ h => nomatch h)
          exact v_vret hX hE d_S_layParts_100 (by have a := hPL.2; have b := hxL; show _ ≤ 120 + (2663816 - ph) / 16; omega) (by have a := hPL.1; have b := hxL; show _ ≤ 700000 + (2663816 - ph); omega) ⟨rfl, rfl, ⟨nlL, phL, hSL, hnL, by have a := hPL.1; have b := hPL.2; exact ⟨by omega, by omega⟩⟩, hNL, hfL⟩
        · have ht_j1 := hO j1 hq1
          have hdd_j1 := (hT.2.2 j1 ht_j1.1).2
          refine v_ifnull hX (some (ob (1000 + j1))) d_S_layParts_40 (tgt := 100) (by decide) (fun h => nomatch h) (fun _ _ => ?_)
          refine v_aload hX d_S_layParts_43 rfl ?_
          refine c_V hX (1000 + j1) (rest := []) hl (c_N_lastOfPart2 hNL hT ht_j1.1) ml_S_55 im_N_lastOfPart se_N_lastOfPart in_N cd_N_lastOfPart rfl q_N_lastOfPart ⟨Nat.le_trans (m := 200) (Nat.le_of_ble_eq_true rfl) (by show 200 ≤ 20 * (10 + 4 * (k + 1)) + 20; omega), Nat.le_trans (m := 3400) (Nat.le_of_ble_eq_true rfl) (by show 3400 ≤ 300 * (10 + 4 * (k + 1)) + 600; omega)⟩ (hNL.2 j1 ht_j1.1).1 (hNL.2 j1 ht_j1.1).2.1 (hNL.2 j1 ht_j1.1).2.2.choose_spec.choose_spec.choose_spec.choose_spec rfl rfl rfl rfl (Nat.le_of_ble_eq_true rfl) d_S_layParts_45 ⟨by have a := hPL.2; have b := hxL; show _ + 0 ≤ 120 + (2663816 - ph) / 16; omega, by have a := hPL.1; have b := hxL; show _ + 0 ≤ 700000 + (2663816 - ph); omega⟩ (fun rv d2 lo2 va2 kc ns hp => ?_)
          obtain ⟨⟨e2, he2, ⟨hde2, hge2⟩, rfl⟩, rfl, rfl, rfl, rfl, rfl⟩ := hp
          show V X D CL A _ _ _ _ _ _ _ (.ref (ob (1000 + e2)) :: [])
          refine v_astore (lv' := [some (.ref (ob 2)), some (.ref (ob (1000 + i))), some (.int (nI wd)), some (.int (nI nl)), some (.int 1), some (.ref (ob (1000 + j1))), some (.ref (ob (1000 + e2)))]) hX d_S_layParts_48 (Nat.le_of_ble_eq_true rfl) rfl ?_
          refine v_iload hX d_S_layParts_50 rfl ?_
          refine v_if_eq hX d_S_layParts_52 (tgt := 81) (by decide) (fun c => absurd c (by decide)) (fun _ => ?_)
          refine v_aload_n hX d_S_layParts_55 rfl rfl ?_
          refine v_get hX 2 (v := .ref (ob td)) inT2 hSL.set.1 hSL.set.2.1 hSL.set.2.2 rfl 1 (by decide) fl_S_21 rfl rfl d_S_layParts_56 ?_
          refine c_V hX td (rest := []) hl (S_lines hSL) ml_S_37 im_T_lineCount se_T_lineCount in_T cd_T_lineCount rfl q_T_lineCount ⟨Nat.le_trans (m := 200) (Nat.le_of_ble_eq_true rfl) (by show 200 ≤ 20 * (10 + 4 * (k + 1)) + 20; omega), Nat.le_trans (m := 3400) (Nat.le_of_ble_eq_true rfl) (by show 3400 ≤ 300 * (10 + 4 * (k + 1)) + 600; omega)⟩ (hSL.sheet).choose_spec.1 (hSL.sheet).choose_spec.2.1 (hSL.sheet).choose_spec.2.2 rfl rfl rfl rfl (Nat.le_of_ble_eq_true rfl) d_S_layParts_59 ⟨by have a := hPL.2; have b := hxL; show _ + (120 + (2663816 - phL) / 16) ≤ 120 + (2663816 - ph) / 16; omega, by have a := hPL.1; have b := hxL; show _ + (700000 + (2663816 - phL)) ≤ 700000 + (2663816 - ph); omega⟩ (fun rv d2 lo2 va2 kc ns hp => ?_)
          obtain ⟨rfl, rfl, rfl, rfl, rfl, rfl⟩ := hp
          show V X D CL A _ _ _ _ _ _ _ (.int (nI nlL) :: [])
          refine v_iload_n hX d_S_layParts_62 rfl rfl ?_
          refine v_icmp_le hX d_S_layParts_63 (tgt := 81) (by decide) (fun c63 => ?_) (fun c63 => ?_)
          · have f63 : nlL ≤ nl := (nI_leI (a := nlL) (b := nl) (by omega) (by omega)).mp c63
            refine v_aload_n hX d_S_layParts_81 rfl rfl ?_
            refine v_aload hX d_S_layParts_82 rfl ?_
            refine v_aload hX d_S_layParts_84 rfl ?_
            refine v_iload_n hX d_S_layParts_86 rfl rfl ?_
            refine c_V hX 2 (rest := []) hl (c_S_layPart hSL hNL hT k H ht_j1.1 he2 (by omega) hwd (by omega)) ml_S_66 im_S_layPart se_S_layPart in_S cd_S_layPart rfl q_S_layPart ⟨by show 20 * (13 + 4 * k) + 20 + 1 ≤ 20 * (10 + 4 * (k + 1)) + 20; omega, by show 8 + (5 + 11) + (300 * (13 + 4 * k) + 600) ≤ 300 * (10 + 4 * (k + 1)) + 600; omega⟩ hSL.set.1 hSL.set.2.1 hSL.set.2.2 rfl rfl rfl rfl (Nat.le_of_ble_eq_true rfl) d_S_layParts_87 ⟨by have a := hPL.2; have b := hxL; show _ + (120 + (2663816 - phL) / 16) ≤ 120 + (2663816 - ph) / 16; omega, by have a := hPL.1; have b := hxL; show _ + (700000 + (2663816 - phL)) ≤ 700000 + (2663816 - ph); omega⟩ (fun rv d2 lo3 va3 kc3 ns3 hp => ?_)
            obtain ⟨rfl, rfl, ⟨nl3, ph3, hS3, hm3, hp3⟩, hN3, hf3⟩ := hp
            show V X D CL A _ _ _ _ _ _ _ []
            have hP3 : (ssL + ns3) + ph ≤ ph3 ∧ 16 * (csL + kc3) + ph ≤ ph3 := ⟨by have a := hPL.1; have b := hp3.1; omega, by have a := hPL.2; have b := hp3.2; omega⟩
            have hx3 : ph3 ≤ 2663816 := hS3.phi
            have hn3 : nl ≤ nl3 := Nat.le_trans hnL hm3
            have hz3 := hS3.hnl
            refine v_aload hX d_S_layParts_90 rfl ?_
            refine v_get hX (1000 + e2) (v := orf ob (tN T e2)) inT0 (hN3.2 e2 he2).1 (hN3.2 e2 he2).2.1 (hN3.2 e2 he2).2.2.choose_spec.choose_spec.choose_spec.choose_spec rfl 9 (by decide) fl_S_70 rfl rfl d_S_layParts_92 ?_
            refine v_astoreQ (lv' := [some (.ref (ob 2)), some (.ref (ob (1000 + i))), some (.int (nI wd)), some (.int (nI nl)), some (.int 1), some (orf ob (tN T e2)), some (.ref (ob (1000 + e2)))]) hX ((tN T e2).map (fun i => ob (1000 + i))) d_S_layParts_95 (Nat.le_of_ble_eq_true rfl) rfl ?_
            refine v_goto hX d_S_layParts_97 (tgt := 38) (by decide) ?_
            exact ih38 (tN T e2) (some (.ref (ob (1000 + e2)))) lo3 va3 (csL + kc3) (ssL + ns3) nl3 ph3 (om_next hT he2 (by rw [hq1] at hk; have q : n - j1 < m9 + 1 := hk; show n - e2 < m9 + 1; omega)) hS3 hN3 hn3 hP3 (hfL.trans hf3) (fun e he => ⟨(hT.1 e2 e he2 he).2.1, ((hT.1 e2 e he2 he).2.2.trans hde2).trans ht_j1.2⟩)
          · have f63 : ¬ nlL ≤ nl := fun z => c63 ((nI_leI (a := nlL) (b := nl) (by omega) (by omega)).mpr z)
            refine v_aload_n hX d_S_layParts_66 rfl rfl ?_
            refine v_aload hX d_S_layParts_67 rfl ?_
            refine v_aload hX d_S_layParts_69 rfl ?_
            refine c_V hX 2 (rest := []) hl (c_S_hasLines hSL hNL hT k j1 e2 ht_j1.1 he2 (by omega)) ml_S_59 im_S_hasLines se_S_hasLines in_S cd_S_hasLines rfl q_S_hasLines ⟨by show 20 * (4 + 2 * k) + 20 + 1 ≤ 20 * (10 + 4 * (k + 1)) + 20; omega, by show 8 + (3 + 11) + (300 * (4 + 2 * k) + 600) ≤ 300 * (10 + 4 * (k + 1)) + 600; omega⟩ hSL.set.1 hSL.set.2.1 hSL.set.2.2 rfl rfl rfl rfl (Nat.le_of_ble_eq_true rfl) d_S_layParts_71 ⟨by have a := hPL.2; have b := hxL; show _ + (120 + (2663816 - phL) / 16) ≤ 120 + (2663816 - ph) / 16; omega, by have a := hPL.1; have b := hxL; show _ + (700000 + (2663816 - phL)) ≤ 700000 + (2663816 - ph); omega⟩ (fun rv d2 lo2 va2 kc ns hp => ?_)
            obtain ⟨⟨v4, rfl, hv4⟩, rfl, rfl, rfl, rfl, rfl⟩ := hp
            show V X D CL A _ _ _ _ _ _ _ (.int v4 :: [])
            refine v_if_eq hX d_S_layParts_74 (tgt := 81) (by decide) (fun c74 => ?_) (fun c74 => ?_)
            · refine v_aload_n hX d_S_layParts_81 rfl rfl ?_
              refine v_aload hX d_S_layParts_82 rfl ?_
              refine v_aload hX d_S_layParts_84 rfl ?_
              refine v_iload_n hX d_S_layParts_86 rfl rfl ?_
              refine c_V hX 2 (rest := []) hl (c_S_layPart hSL hNL hT k H ht_j1.1 he2 (by omega) hwd (by omega)) ml_S_66 im_S_layPart se_S_layPart in_S cd_S_layPart rfl q_S_layPart ⟨by show 20 * (13 + 4 * k) + 20 + 1 ≤ 20 * (10 + 4 * (k + 1)) + 20; omega, by show 8 + (5 + 11) + (300 * (13 + 4 * k) + 600) ≤ 300 * (10 + 4 * (k + 1)) + 600; omega⟩ hSL.set.1 hSL.set.2.1 hSL.set.2.2 rfl rfl rfl rfl (Nat.le_of_ble_eq_true rfl) d_S_layParts_87 ⟨by have a := hPL.2; have b := hxL; show _ + (120 + (2663816 - phL) / 16) ≤ 120 + (2663816 - ph) / 16; omega, by have a := hPL.1; have b := hxL; show _ + (700000 + (2663816 - phL)) ≤ 700000 + (2663816 - ph); omega⟩ (fun rv d2 lo5 va5 kc5 ns5 hp => ?_)
              obtain ⟨rfl, rfl, ⟨nl5, ph5, hS5, hm5, hp5⟩, hN5, hf5⟩ := hp
              show V X D CL A _ _ _ _ _ _ _ []
              have hP5 : (ssL + ns5) + ph ≤ ph5 ∧ 16 * (csL + kc5) + ph ≤ ph5 := ⟨by have a := hPL.1; have b := hp5.1; omega, by have a := hPL.2; have b := hp5.2; omega⟩
              have hx5 : ph5 ≤ 2663816 := hS5.phi
              have hn5 : nl ≤ nl5 := Nat.le_trans hnL hm5
              have hz5 := hS5.hnl
              refine v_aload hX d_S_layParts_90 rfl ?_
              refine v_get hX (1000 + e2) (v := orf ob (tN T e2)) inT0 (hN5.2 e2 he2).1 (hN5.2 e2 he2).2.1 (hN5.2 e2 he2).2.2.choose_spec.choose_spec.choose_spec.choose_spec rfl 9 (by decide) fl_S_70 rfl rfl d_S_layParts_92 ?_
              refine v_astoreQ (lv' := [some (.ref (ob 2)), some (.ref (ob (1000 + i))), some (.int (nI wd)), some (.int (nI nl)), some (.int 1), some (orf ob (tN T e2)), some (.ref (ob (1000 + e2)))]) hX ((tN T e2).map (fun i => ob (1000 + i))) d_S_layParts_95 (Nat.le_of_ble_eq_true rfl) rfl ?_
              refine v_goto hX d_S_layParts_97 (tgt := 38) (by decide) ?_
              exact ih38 (tN T e2) (some (.ref (ob (1000 + e2)))) lo5 va5 (csL + kc5) (ssL + ns5) nl5 ph5 (om_next hT he2 (by rw [hq1] at hk; have q : n - j1 < m9 + 1 := hk; show n - e2 < m9 + 1; omega)) hS5 hN5 hn5 hP5 (hfL.trans hf5) (fun e he => ⟨(hT.1 e2 e he2 he).2.1, ((hT.1 e2 e he2 he).2.2.trans hde2).trans ht_j1.2⟩)
            · refine v_aload_n hX d_S_layParts_77 rfl rfl ?_
              refine c_V hX 2 (rest := []) hl (c_S_putBetween hSL (by omega) (by omega)) ml_S_63 im_S_putBetween se_S_putBetween in_S cd_S_putBetween rfl q_S_putBetween ⟨Nat.le_trans (m := 200) (Nat.le_of_ble_eq_true rfl) (by show 200 ≤ 20 * (10 + 4 * (k + 1)) + 20; omega), Nat.le_trans (m := 3400) (Nat.le_of_ble_eq_true rfl) (by show 3400 ≤ 300 * (10 + 4 * (k + 1)) + 600; omega)⟩ hSL.set.1 hSL.set.2.1 hSL.set.2.2 rfl rfl rfl rfl (Nat.le_of_ble_eq_true rfl) d_S_layParts_78 ⟨by have a := hPL.2; have b := hxL; show _ + (120 + (2663816 - phL) / 16) ≤ 120 + (2663816 - ph) / 16; omega, by have a := hPL.1; have b := hxL; show _ + (700000 + (2663816 - phL)) ≤ 700000 + (2663816 - ph); omega⟩ (fun rv d2 lo6 va6 kc6 ns6 hp => ?_)
              obtain ⟨rfl, rfl, ⟨nl6, ph6, hS6, hm6, hp6⟩, hf6⟩ := hp
              show V X D CL A _ _ _ _ _ _ _ []
              have hP6 : (ssL + ns6) + ph ≤ ph6 ∧ 16 * (csL + kc6) + ph ≤ ph6 := ⟨by have a := hPL.1; have b := hp6.1; omega, by have a := hPL.2; have b := hp6.2; omega⟩
              have hx6 : ph6 ≤ 2663816 := hS6.phi
              have hn6 : nl ≤ nl6 := Nat.le_trans hnL hm6
              have hN6 := hNL.fr hf6
              have hz6 := hS6.hnl
              refine v_aload_n hX d_S_layParts_81 rfl rfl ?_
              refine v_aload hX d_S_layParts_82 rfl ?_
              refine v_aload hX d_S_layParts_84 rfl ?_
              refine v_iload_n hX d_S_layParts_86 rfl rfl ?_
              refine c_V hX 2 (rest := []) hl (c_S_layPart hS6 hN6 hT k H ht_j1.1 he2 (by omega) hwd (by omega)) ml_S_66 im_S_layPart se_S_layPart in_S cd_S_layPart rfl q_S_layPart ⟨by show 20 * (13 + 4 * k) + 20 + 1 ≤ 20 * (10 + 4 * (k + 1)) + 20; omega, by show 8 + (5 + 11) + (300 * (13 + 4 * k) + 600) ≤ 300 * (10 + 4 * (k + 1)) + 600; omega⟩ hS6.set.1 hS6.set.2.1 hS6.set.2.2 rfl rfl rfl rfl (Nat.le_of_ble_eq_true rfl) d_S_layParts_87 ⟨by have a := hP6.2; have b := hx6; show _ + (120 + (2663816 - ph6) / 16) ≤ 120 + (2663816 - ph) / 16; omega, by have a := hP6.1; have b := hx6; show _ + (700000 + (2663816 - ph6)) ≤ 700000 + (2663816 - ph); omega⟩ (fun rv d2 lo7 va7 kc7 ns7 hp => ?_)
              obtain ⟨rfl, rfl, ⟨nl7, ph7, hS7, hm7, hp7⟩, hN7, hf7⟩ := hp
              show V X D CL A _ _ _ _ _ _ _ []
              have hP7 : (ssL + ns6 + ns7) + ph ≤ ph7 ∧ 16 * (csL + kc6 + kc7) + ph ≤ ph7 := ⟨by have a := hP6.1; have b := hp7.1; omega, by have a := hP6.2; have b := hp7.2; omega⟩
              have hx7 : ph7 ≤ 2663816 := hS7.phi
              have hn7 : nl ≤ nl7 := Nat.le_trans hn6 hm7
              have hz7 := hS7.hnl
              refine v_aload hX d_S_layParts_90 rfl ?_
              refine v_get hX (1000 + e2) (v := orf ob (tN T e2)) inT0 (hN7.2 e2 he2).1 (hN7.2 e2 he2).2.1 (hN7.2 e2 he2).2.2.choose_spec.choose_spec.choose_spec.choose_spec rfl 9 (by decide) fl_S_70 rfl rfl d_S_layParts_92 ?_
              refine v_astoreQ (lv' := [some (.ref (ob 2)), some (.ref (ob (1000 + i))), some (.int (nI wd)), some (.int (nI nl)), some (.int 1), some (orf ob (tN T e2)), some (.ref (ob (1000 + e2)))]) hX ((tN T e2).map (fun i => ob (1000 + i))) d_S_layParts_95 (Nat.le_of_ble_eq_true rfl) rfl ?_
              refine v_goto hX d_S_layParts_97 (tgt := 38) (by decide) ?_
              exact ih38 (tN T e2) (some (.ref (ob (1000 + e2)))) lo7 va7 (csL + kc6 + kc7) (ssL + ns6 + ns7) nl7 ph7 (om_next hT he2 (by rw [hq1] at hk; have q : n - j1 < m9 + 1 := hk; show n - e2 < m9 + 1; omega)) hS7 hN7 hn7 hP7 ((hfL.trans hf6.toN).trans hf7) (fun e he => ⟨(hT.1 e2 e he2 he).2.1, ((hT.1 e2 e he2 he).2.2.trans hde2).trans ht_j1.2⟩)
    exact loop38 _ _ none loc val (0) (0) nl ph (Nat.lt_succ_self _) hS hN (Nat.le_refl nl) hP frN.rf (fun e he => ⟨(hT.2.1 i e hi he).2.1, (hT.2.1 i e hi he).2.2⟩)
  · refine v_aload_n hX d_S_layParts_17 rfl rfl ?_
    refine v_aload_n hX d_S_layParts_18 rfl rfl ?_
    refine c_V hX 2 (rest := []) hl (c_S_holdsPar hS hN hT hi) ml_S_47 im_S_holdsParagraph se_S_holdsParagraph in_S cd_S_holdsParagraph rfl q_S_holdsParagraph ⟨Nat.le_trans (m := 200) (Nat.le_of_ble_eq_true rfl) (by show 200 ≤ 20 * (10 + 4 * (k + 1)) + 20; omega), Nat.le_trans (m := 3400) (Nat.le_of_ble_eq_true rfl) (by show 3400 ≤ 300 * (10 + 4 * (k + 1)) + 600; omega)⟩ hS.set.1 hS.set.2.1 hS.set.2.2 rfl rfl rfl rfl (Nat.le_of_ble_eq_true rfl) d_S_layParts_19 ⟨by have a := hP.2; have b := hx; show _ + (120 + (2663816 - ph) / 16) ≤ 120 + (2663816 - ph) / 16; omega, by have a := hP.1; have b := hx; show _ + (700000 + (2663816 - ph)) ≤ 700000 + (2663816 - ph); omega⟩ (fun rv d2 lo2 va2 kc ns hp => ?_)
    obtain ⟨⟨v8, rfl, hv8⟩, rfl, rfl, rfl, rfl, rfl⟩ := hp
    show V X D CL A _ _ _ _ _ _ _ (.int v8 :: [])
    refine v_if_eq hX d_S_layParts_22 (tgt := 29) (by decide) (fun c22 => ?_) (fun c22 => ?_)
    · refine v_iconst (v := 0) hX d_S_layParts_29 (by decide) ?_
      refine v_istore (lv' := [some (.ref (ob 2)), some (.ref (ob (1000 + i))), some (.int (nI wd)), some (.int (nI nl)), some (.int 0), none, none]) hX d_S_layParts_30 (Nat.le_of_ble_eq_true rfl) rfl ?_
      refine v_aload_n hX d_S_layParts_32 rfl rfl ?_
      refine v_get hX (1000 + i) (v := orf ob (tF T i)) inT0 (hN.2 i hi).1 (hN.2 i hi).2.1 (hN.2 i hi).2.2.choose_spec.choose_spec.choose_spec.choose_spec rfl 7 (by decide) fl_S_51 rfl rfl d_S_layParts_33 ?_
      refine v_astoreQ (lv' := [some (.ref (ob 2)), some (.ref (ob (1000 + i))), some (.int (nI wd)), some (.int (nI nl)), some (.int 0), some (orf ob (tF T i)), none]) hX ((tF T i).map (fun i => ob (1000 + i))) d_S_layParts_36 (Nat.le_of_ble_eq_true rfl) rfl ?_
      have loop38 : ∀ (m9 : Nat) (o : Option Nat) (o6 : Option Value) (loL : Nat → Nat) (vaL : Nat → va_E) (csL ssL nlL phL : Nat), om n o < m9 → LayS cI ob td 0 0 a a nlL pf tl phL dom loL vaL → NodesI ob T n dom loL vaL → nl ≤ nlL → (ssL + ph ≤ phL ∧ 16 * csL + ph ≤ phL) → frN loc val loL vaL → (∀ j, o = some j → j < n ∧ tD T j = tD T i + 1) → V X D CL A dom loL vaL csL ssL 38 [some (.ref (ob 2)), some (.ref (ob (1000 + i))), some (.int (nI wd)), some (.int (nI nl)), some (.int 0), some (orf ob o), o6] [] := by
        intro m9
        induction m9 with
        | zero => intro o o6 loL vaL csL ssL nlL phL hk hSL hNL hnL hPL hfL hO; exact absurd hk (Nat.not_lt_zero _)
        | succ m9 ih38 =>
          intro o o6 loL vaL csL ssL nlL phL hk hSL hNL hnL hPL hfL hO
          have hxL : phL ≤ 2663816 := hSL.phi
          have hzL := hSL.hnl
          refine v_aloadQ hX (o.map (fun i => ob (1000 + i))) d_S_layParts_38 rfl ?_
          rcases hq9 : o with _ | j9
          · refine v_ifnull hX none d_S_layParts_40 (tgt := 100) (by decide) (fun _ => ?_) (fun _ h => nomatch h)
            exact v_vret hX hE d_S_layParts_100 (by have a := hPL.2; have b := hxL; show _ ≤ 120 + (2663816 - ph) / 16; omega) (by have a := hPL.1; have b := hxL; show _ ≤ 700000 + (2663816 - ph); omega) ⟨rfl, rfl, ⟨nlL, phL, hSL, hnL, by have a := hPL.1; have b := hPL.2; exact ⟨by omega, by omega⟩⟩, hNL, hfL⟩
          · have ht_j9 := hO j9 hq9
            have hdd_j9 := (hT.2.2 j9 ht_j9.1).2
            refine v_ifnull hX (some (ob (1000 + j9))) d_S_layParts_40 (tgt := 100) (by decide) (fun h => nomatch h) (fun _ _ => ?_)
            refine v_aload hX d_S_layParts_43 rfl ?_
            refine c_V hX (1000 + j9) (rest := []) hl (c_N_lastOfPart2 hNL hT ht_j9.1) ml_S_55 im_N_lastOfPart se_N_lastOfPart in_N cd_N_lastOfPart rfl q_N_lastOfPart ⟨Nat.le_trans (m := 200) (Nat.le_of_ble_eq_true rfl) (by show 200 ≤ 20 * (10 + 4 * (k + 1)) + 20; omega), Nat.le_trans (m := 3400) (Nat.le_of_ble_eq_true rfl) (by show 3400 ≤ 300 * (10 + 4 * (k + 1)) + 600; omega)⟩ (hNL.2 j9 ht_j9.1).1 (hNL.2 j9 ht_j9.1).2.1 (hNL.2 j9 ht_j9.1).2.2.choose_spec.choose_spec.choose_spec.choose_spec rfl rfl rfl rfl (Nat.le_of_ble_eq_true rfl) d_S_layParts_45 ⟨by have a := hPL.2; have b := hxL; show _ + 0 ≤ 120 + (2663816 - ph) / 16; omega, by have a := hPL.1; have b := hxL; show _ + 0 ≤ 700000 + (2663816 - ph); omega⟩ (fun rv d2 lo2 va2 kc ns hp => ?_)
            obtain ⟨⟨e10, he10, ⟨hde10, hge10⟩, rfl⟩, rfl, rfl, rfl, rfl, rfl⟩ := hp
            show V X D CL A _ _ _ _ _ _ _ (.ref (ob (1000 + e10)) :: [])
            refine v_astore (lv' := [some (.ref (ob 2)), some (.ref (ob (1000 + i))), some (.int (nI wd)), some (.int (nI nl)), some (.int 0), some (.ref (ob (1000 + j9))), some (.ref (ob (1000 + e10)))]) hX d_S_layParts_48 (Nat.le_of_ble_eq_true rfl) rfl ?_
            refine v_iload hX d_S_layParts_50 rfl ?_
            refine v_if_eq hX d_S_layParts_52 (tgt := 81) (by decide) (fun _ => ?_) (fun c => absurd (by decide) c)
            refine v_aload_n hX d_S_layParts_81 rfl rfl ?_
            refine v_aload hX d_S_layParts_82 rfl ?_
            refine v_aload hX d_S_layParts_84 rfl ?_
            refine v_iload_n hX d_S_layParts_86 rfl rfl ?_
            refine c_V hX 2 (rest := []) hl (c_S_layPart hSL hNL hT k H ht_j9.1 he10 (by omega) hwd (by omega)) ml_S_66 im_S_layPart se_S_layPart in_S cd_S_layPart rfl q_S_layPart ⟨by show 20 * (13 + 4 * k) + 20 + 1 ≤ 20 * (10 + 4 * (k + 1)) + 20; omega, by show 8 + (5 + 11) + (300 * (13 + 4 * k) + 600) ≤ 300 * (10 + 4 * (k + 1)) + 600; omega⟩ hSL.set.1 hSL.set.2.1 hSL.set.2.2 rfl rfl rfl rfl (Nat.le_of_ble_eq_true rfl) d_S_layParts_87 ⟨by have a := hPL.2; have b := hxL; show _ + (120 + (2663816 - phL) / 16) ≤ 120 + (2663816 - ph) / 16; omega, by have a := hPL.1; have b := hxL; show _ + (700000 + (2663816 - phL)) ≤ 700000 + (2663816 - ph); omega⟩ (fun rv d2 lo11 va11 kc11 ns11 hp => ?_)
            obtain ⟨rfl, rfl, ⟨nl11, ph11, hS11, hm11, hp11⟩, hN11, hf11⟩ := hp
            show V X D CL A _ _ _ _ _ _ _ []
            have hP11 : (ssL + ns11) + ph ≤ ph11 ∧ 16 * (csL + kc11) + ph ≤ ph11 := ⟨by have a := hPL.1; have b := hp11.1; omega, by have a := hPL.2; have b := hp11.2; omega⟩
            have hx11 : ph11 ≤ 2663816 := hS11.phi
            have hn11 : nl ≤ nl11 := Nat.le_trans hnL hm11
            have hz11 := hS11.hnl
            refine v_aload hX d_S_layParts_90 rfl ?_
            refine v_get hX (1000 + e10) (v := orf ob (tN T e10)) inT0 (hN11.2 e10 he10).1 (hN11.2 e10 he10).2.1 (hN11.2 e10 he10).2.2.choose_spec.choose_spec.choose_spec.choose_spec rfl 9 (by decide) fl_S_70 rfl rfl d_S_layParts_92 ?_
            refine v_astoreQ (lv' := [some (.ref (ob 2)), some (.ref (ob (1000 + i))), some (.int (nI wd)), some (.int (nI nl)), some (.int 0), some (orf ob (tN T e10)), some (.ref (ob (1000 + e10)))]) hX ((tN T e10).map (fun i => ob (1000 + i))) d_S_layParts_95 (Nat.le_of_ble_eq_true rfl) rfl ?_
            refine v_goto hX d_S_layParts_97 (tgt := 38) (by decide) ?_
            exact ih38 (tN T e10) (some (.ref (ob (1000 + e10)))) lo11 va11 (csL + kc11) (ssL + ns11) nl11 ph11 (om_next hT he10 (by rw [hq9] at hk; have q : n - j9 < m9 + 1 := hk; show n - e10 < m9 + 1; omega)) hS11 hN11 hn11 hP11 (hfL.trans hf11) (fun e he => ⟨(hT.1 e10 e he10 he).2.1, ((hT.1 e10 e he10 he).2.2.trans hde10).trans ht_j9.2⟩)
      exact loop38 _ _ none loc val (0) (0) nl ph (Nat.lt_succ_self _) hS hN (Nat.le_refl nl) hP frN.rf (fun e he => ⟨(hT.2.1 i e hi he).2.1, (hT.2.1 i e hi he).2.2⟩)
    · refine v_iconst (v := 1) hX d_S_layParts_25 (by decide) ?_
      refine v_goto hX d_S_layParts_26 (tgt := 30) (by decide) ?_
      refine v_istore (lv' := [some (.ref (ob 2)), some (.ref (ob (1000 + i))), some (.int (nI wd)), some (.int (nI nl)), some (.int 1), none, none]) hX d_S_layParts_30 (Nat.le_of_ble_eq_true rfl) rfl ?_
      refine v_aload_n hX d_S_layParts_32 rfl rfl ?_
      refine v_get hX (1000 + i) (v := orf ob (tF T i)) inT0 (hN.2 i hi).1 (hN.2 i hi).2.1 (hN.2 i hi).2.2.choose_spec.choose_spec.choose_spec.choose_spec rfl 7 (by decide) fl_S_51 rfl rfl d_S_layParts_33 ?_
      refine v_astoreQ (lv' := [some (.ref (ob 2)), some (.ref (ob (1000 + i))), some (.int (nI wd)), some (.int (nI nl)), some (.int 1), some (orf ob (tF T i)), none]) hX ((tF T i).map (fun i => ob (1000 + i))) d_S_layParts_36 (Nat.le_of_ble_eq_true rfl) rfl ?_
      have loop38 : ∀ (m9 : Nat) (o : Option Nat) (o6 : Option Value) (loL : Nat → Nat) (vaL : Nat → va_E) (csL ssL nlL phL : Nat), om n o < m9 → LayS cI ob td 0 0 a a nlL pf tl phL dom loL vaL → NodesI ob T n dom loL vaL → nl ≤ nlL → (ssL + ph ≤ phL ∧ 16 * csL + ph ≤ phL) → frN loc val loL vaL → (∀ j, o = some j → j < n ∧ tD T j = tD T i + 1) → V X D CL A dom loL vaL csL ssL 38 [some (.ref (ob 2)), some (.ref (ob (1000 + i))), some (.int (nI wd)), some (.int (nI nl)), some (.int 1), some (orf ob o), o6] [] := by
        intro m9
        induction m9 with
        | zero => intro o o6 loL vaL csL ssL nlL phL hk hSL hNL hnL hPL hfL hO; exact absurd hk (Nat.not_lt_zero _)
        | succ m9 ih38 =>
          intro o o6 loL vaL csL ssL nlL phL hk hSL hNL hnL hPL hfL hO
          have hxL : phL ≤ 2663816 := hSL.phi
          have hzL := hSL.hnl
          refine v_aloadQ hX (o.map (fun i => ob (1000 + i))) d_S_layParts_38 rfl ?_
          rcases hq12 : o with _ | j12
          · refine v_ifnull hX none d_S_layParts_40 (tgt := 100) (by decide) (fun _ => ?_) (fun _ h => nomatch h)
            exact v_vret hX hE d_S_layParts_100 (by have a := hPL.2; have b := hxL; show _ ≤ 120 + (2663816 - ph) / 16; omega) (by have a := hPL.1; have b := hxL; show _ ≤ 700000 + (2663816 - ph); omega) ⟨rfl, rfl, ⟨nlL, phL, hSL, hnL, by have a := hPL.1; have b := hPL.2; exact ⟨by omega, by omega⟩⟩, hNL, hfL⟩
          · have ht_j12 := hO j12 hq12
            have hdd_j12 := (hT.2.2 j12 ht_j12.1).2
            refine v_ifnull hX (some (ob (1000 + j12))) d_S_layParts_40 (tgt := 100) (by decide) (fun h => nomatch h) (fun _ _ => ?_)
            refine v_aload hX d_S_layParts_43 rfl ?_
            refine c_V hX (1000 + j12) (rest := []) hl (c_N_lastOfPart2 hNL hT ht_j12.1) ml_S_55 im_N_lastOfPart se_N_lastOfPart in_N cd_N_lastOfPart rfl q_N_lastOfPart ⟨Nat.le_trans (m := 200) (Nat.le_of_ble_eq_true rfl) (by show 200 ≤ 20 * (10 + 4 * (k + 1)) + 20; omega), Nat.le_trans (m := 3400) (Nat.le_of_ble_eq_true rfl) (by show 3400 ≤ 300 * (10 + 4 * (k + 1)) + 600; omega)⟩ (hNL.2 j12 ht_j12.1).1 (hNL.2 j12 ht_j12.1).2.1 (hNL.2 j12 ht_j12.1).2.2.choose_spec.choose_spec.choose_spec.choose_spec rfl rfl rfl rfl (Nat.le_of_ble_eq_true rfl) d_S_layParts_45 ⟨by have a := hPL.2; have b := hxL; show _ + 0 ≤ 120 + (2663816 - ph) / 16; omega, by have a := hPL.1; have b := hxL; show _ + 0 ≤ 700000 + (2663816 - ph); omega⟩ (fun rv d2 lo2 va2 kc ns hp => ?_)
            obtain ⟨⟨e13, he13, ⟨hde13, hge13⟩, rfl⟩, rfl, rfl, rfl, rfl, rfl⟩ := hp
            show V X D CL A _ _ _ _ _ _ _ (.ref (ob (1000 + e13)) :: [])
            refine v_astore (lv' := [some (.ref (ob 2)), some (.ref (ob (1000 + i))), some (.int (nI wd)), some (.int (nI nl)), some (.int 1), some (.ref (ob (1000 + j12))), some (.ref (ob (1000 + e13)))]) hX d_S_layParts_48 (Nat.le_of_ble_eq_true rfl) rfl ?_
            refine v_iload hX d_S_layParts_50 rfl ?_
            refine v_if_eq hX d_S_layParts_52 (tgt := 81) (by decide) (fun c => absurd c (by decide)) (fun _ => ?_)
            refine v_aload_n hX d_S_layParts_55 rfl rfl ?_
            refine v_get hX 2 (v := .ref (ob td)) inT2 hSL.set.1 hSL.set.2.1 hSL.set.2.2 rfl 1 (by decide) fl_S_21 rfl rfl d_S_layParts_56 ?_
            refine c_V hX td (rest := []) hl (S_lines hSL) ml_S_37 im_T_lineCount se_T_lineCount in_T cd_T_lineCount rfl q_T_lineCount ⟨Nat.le_trans (m := 200) (Nat.le_of_ble_eq_true rfl) (by show 200 ≤ 20 * (10 + 4 * (k + 1)) + 20; omega), Nat.le_trans (m := 3400) (Nat.le_of_ble_eq_true rfl) (by show 3400 ≤ 300 * (10 + 4 * (k + 1)) + 600; omega)⟩ (hSL.sheet).choose_spec.1 (hSL.sheet).choose_spec.2.1 (hSL.sheet).choose_spec.2.2 rfl rfl rfl rfl (Nat.le_of_ble_eq_true rfl) d_S_layParts_59 ⟨by have a := hPL.2; have b := hxL; show _ + (120 + (2663816 - phL) / 16) ≤ 120 + (2663816 - ph) / 16; omega, by have a := hPL.1; have b := hxL; show _ + (700000 + (2663816 - phL)) ≤ 700000 + (2663816 - ph); omega⟩ (fun rv d2 lo2 va2 kc ns hp => ?_)
            obtain ⟨rfl, rfl, rfl, rfl, rfl, rfl⟩ := hp
            show V X D CL A _ _ _ _ _ _ _ (.int (nI nlL) :: [])
            refine v_iload_n hX d_S_layParts_62 rfl rfl ?_
            refine v_icmp_le hX d_S_layParts_63 (tgt := 81) (by decide) (fun c63 => ?_) (fun c63 => ?_)
            · have f63 : nlL ≤ nl := (nI_leI (a := nlL) (b := nl) (by omega) (by omega)).mp c63
              refine v_aload_n hX d_S_layParts_81 rfl rfl ?_
              refine v_aload hX d_S_layParts_82 rfl ?_
              refine v_aload hX d_S_layParts_84 rfl ?_
              refine v_iload_n hX d_S_layParts_86 rfl rfl ?_
              refine c_V hX 2 (rest := []) hl (c_S_layPart hSL hNL hT k H ht_j12.1 he13 (by omega) hwd (by omega)) ml_S_66 im_S_layPart se_S_layPart in_S cd_S_layPart rfl q_S_layPart ⟨by show 20 * (13 + 4 * k) + 20 + 1 ≤ 20 * (10 + 4 * (k + 1)) + 20; omega, by show 8 + (5 + 11) + (300 * (13 + 4 * k) + 600) ≤ 300 * (10 + 4 * (k + 1)) + 600; omega⟩ hSL.set.1 hSL.set.2.1 hSL.set.2.2 rfl rfl rfl rfl (Nat.le_of_ble_eq_true rfl) d_S_layParts_87 ⟨by have a := hPL.2; have b := hxL; show _ + (120 + (2663816 - phL) / 16) ≤ 120 + (2663816 - ph) / 16; omega, by have a := hPL.1; have b := hxL; show _ + (700000 + (2663816 - phL)) ≤ 700000 + (2663816 - ph); omega⟩ (fun rv d2 lo14 va14 kc14 ns14 hp => ?_)
              obtain ⟨rfl, rfl, ⟨nl14, ph14, hS14, hm14, hp14⟩, hN14, hf14⟩ := hp
              show V X D CL A _ _ _ _ _ _ _ []
              have hP14 : (ssL + ns14) + ph ≤ ph14 ∧ 16 * (csL + kc14) + ph ≤ ph14 := ⟨by have a := hPL.1; have b := hp14.1; omega, by have a := hPL.2; have b := hp14.2; omega⟩
              have hx14 : ph14 ≤ 2663816 := hS14.phi
              have hn14 : nl ≤ nl14 := Nat.le_trans hnL hm14
              have hz14 := hS14.hnl
              refine v_aload hX d_S_layParts_90 rfl ?_
              refine v_get hX (1000 + e13) (v := orf ob (tN T e13)) inT0 (hN14.2 e13 he13).1 (hN14.2 e13 he13).2.1 (hN14.2 e13 he13).2.2.choose_spec.choose_spec.choose_spec.choose_spec rfl 9 (by decide) fl_S_70 rfl rfl d_S_layParts_92 ?_
              refine v_astoreQ (lv' := [some (.ref (ob 2)), some (.ref (ob (1000 + i))), some (.int (nI wd)), some (.int (nI nl)), some (.int 1), some (orf ob (tN T e13)), some (.ref (ob (1000 + e13)))]) hX ((tN T e13).map (fun i => ob (1000 + i))) d_S_layParts_95 (Nat.le_of_ble_eq_true rfl) rfl ?_
              refine v_goto hX d_S_layParts_97 (tgt := 38) (by decide) ?_
              exact ih38 (tN T e13) (some (.ref (ob (1000 + e13)))) lo14 va14 (csL + kc14) (ssL + ns14) nl14 ph14 (om_next hT he13 (by rw [hq12] at hk; have q : n - j12 < m9 + 1 := hk; show n - e13 < m9 + 1; omega)) hS14 hN14 hn14 hP14 (hfL.trans hf14) (fun e he => ⟨(hT.1 e13 e he13 he).2.1, ((hT.1 e13 e he13 he).2.2.trans hde13).trans ht_j12.2⟩)
            · have f63 : ¬ nlL ≤ nl := fun z => c63 ((nI_leI (a := nlL) (b := nl) (by omega) (by omega)).mpr z)
              refine v_aload_n hX d_S_layParts_66 rfl rfl ?_
              refine v_aload hX d_S_layParts_67 rfl ?_
              refine v_aload hX d_S_layParts_69 rfl ?_
              refine c_V hX 2 (rest := []) hl (c_S_hasLines hSL hNL hT k j12 e13 ht_j12.1 he13 (by omega)) ml_S_59 im_S_hasLines se_S_hasLines in_S cd_S_hasLines rfl q_S_hasLines ⟨by show 20 * (4 + 2 * k) + 20 + 1 ≤ 20 * (10 + 4 * (k + 1)) + 20; omega, by show 8 + (3 + 11) + (300 * (4 + 2 * k) + 600) ≤ 300 * (10 + 4 * (k + 1)) + 600; omega⟩ hSL.set.1 hSL.set.2.1 hSL.set.2.2 rfl rfl rfl rfl (Nat.le_of_ble_eq_true rfl) d_S_layParts_71 ⟨by have a := hPL.2; have b := hxL; show _ + (120 + (2663816 - phL) / 16) ≤ 120 + (2663816 - ph) / 16; omega, by have a := hPL.1; have b := hxL; show _ + (700000 + (2663816 - phL)) ≤ 700000 + (2663816 - ph); omega⟩ (fun rv d2 lo2 va2 kc ns hp => ?_)
              obtain ⟨⟨v15, rfl, hv15⟩, rfl, rfl, rfl, rfl, rfl⟩ := hp
              show V X D CL A _ _ _ _ _ _ _ (.int v15 :: [])
              refine v_if_eq hX d_S_layParts_74 (tgt := 81) (by decide) (fun c74 => ?_) (fun c74 => ?_)
              · refine v_aload_n hX d_S_layParts_81 rfl rfl ?_
                refine v_aload hX d_S_layParts_82 rfl ?_
                refine v_aload hX d_S_layParts_84 rfl ?_
                refine v_iload_n hX d_S_layParts_86 rfl rfl ?_
                refine c_V hX 2 (rest := []) hl (c_S_layPart hSL hNL hT k H ht_j12.1 he13 (by omega) hwd (by omega)) ml_S_66 im_S_layPart se_S_layPart in_S cd_S_layPart rfl q_S_layPart ⟨by show 20 * (13 + 4 * k) + 20 + 1 ≤ 20 * (10 + 4 * (k + 1)) + 20; omega, by show 8 + (5 + 11) + (300 * (13 + 4 * k) + 600) ≤ 300 * (10 + 4 * (k + 1)) + 600; omega⟩ hSL.set.1 hSL.set.2.1 hSL.set.2.2 rfl rfl rfl rfl (Nat.le_of_ble_eq_true rfl) d_S_layParts_87 ⟨by have a := hPL.2; have b := hxL; show _ + (120 + (2663816 - phL) / 16) ≤ 120 + (2663816 - ph) / 16; omega, by have a := hPL.1; have b := hxL; show _ + (700000 + (2663816 - phL)) ≤ 700000 + (2663816 - ph); omega⟩ (fun rv d2 lo16 va16 kc16 ns16 hp => ?_)
                obtain ⟨rfl, rfl, ⟨nl16, ph16, hS16, hm16, hp16⟩, hN16, hf16⟩ := hp
                show V X D CL A _ _ _ _ _ _ _ []
                have hP16 : (ssL + ns16) + ph ≤ ph16 ∧ 16 * (csL + kc16) + ph ≤ ph16 := ⟨by have a := hPL.1; have b := hp16.1; omega, by have a := hPL.2; have b := hp16.2; omega⟩
                have hx16 : ph16 ≤ 2663816 := hS16.phi
                have hn16 : nl ≤ nl16 := Nat.le_trans hnL hm16
                have hz16 := hS16.hnl
                refine v_aload hX d_S_layParts_90 rfl ?_
                refine v_get hX (1000 + e13) (v := orf ob (tN T e13)) inT0 (hN16.2 e13 he13).1 (hN16.2 e13 he13).2.1 (hN16.2 e13 he13).2.2.choose_spec.choose_spec.choose_spec.choose_spec rfl 9 (by decide) fl_S_70 rfl rfl d_S_layParts_92 ?_
                refine v_astoreQ (lv' := [some (.ref (ob 2)), some (.ref (ob (1000 + i))), some (.int (nI wd)), some (.int (nI nl)), some (.int 1), some (orf ob (tN T e13)), some (.ref (ob (1000 + e13)))]) hX ((tN T e13).map (fun i => ob (1000 + i))) d_S_layParts_95 (Nat.le_of_ble_eq_true rfl) rfl ?_
                refine v_goto hX d_S_layParts_97 (tgt := 38) (by decide) ?_
                exact ih38 (tN T e13) (some (.ref (ob (1000 + e13)))) lo16 va16 (csL + kc16) (ssL + ns16) nl16 ph16 (om_next hT he13 (by rw [hq12] at hk; have q : n - j12 < m9 + 1 := hk; show n - e13 < m9 + 1; omega)) hS16 hN16 hn16 hP16 (hfL.trans hf16) (fun e he => ⟨(hT.1 e13 e he13 he).2.1, ((hT.1 e13 e he13 he).2.2.trans hde13).trans ht_j12.2⟩)
              · refine v_aload_n hX d_S_layParts_77 rfl rfl ?_
                refine c_V hX 2 (rest := []) hl (c_S_putBetween hSL (by omega) (by omega)) ml_S_63 im_S_putBetween se_S_putBetween in_S cd_S_putBetween rfl q_S_putBetween ⟨Nat.le_trans (m := 200) (Nat.le_of_ble_eq_true rfl) (by show 200 ≤ 20 * (10 + 4 * (k + 1)) + 20; omega), Nat.le_trans (m := 3400) (Nat.le_of_ble_eq_true rfl) (by show 3400 ≤ 300 * (10 + 4 * (k + 1)) + 600; omega)⟩ hSL.set.1 hSL.set.2.1 hSL.set.2.2 rfl rfl rfl rfl (Nat.le_of_ble_eq_true rfl) d_S_layParts_78 ⟨by have a := hPL.2; have b := hxL; show _ + (120 + (2663816 - phL) / 16) ≤ 120 + (2663816 - ph) / 16; omega, by have a := hPL.1; have b := hxL; show _ + (700000 + (2663816 - phL)) ≤ 700000 + (2663816 - ph); omega⟩ (fun rv d2 lo17 va17 kc17 ns17 hp => ?_)
                obtain ⟨rfl, rfl, ⟨nl17, ph17, hS17, hm17, hp17⟩, hf17⟩ := hp
                show V X D CL A _ _ _ _ _ _ _ []
                have hP17 : (ssL + ns17) + ph ≤ ph17 ∧ 16 * (csL + kc17) + ph ≤ ph17 := ⟨by have a := hPL.1; have b := hp17.1; omega, by have a := hPL.2; have b := hp17.2; omega⟩
                have hx17 : ph17 ≤ 2663816 := hS17.phi
                have hn17 : nl ≤ nl17 := Nat.le_trans hnL hm17
                have hN17 := hNL.fr hf17
                have hz17 := hS17.hnl
                refine v_aload_n hX d_S_layParts_81 rfl rfl ?_
                refine v_aload hX d_S_layParts_82 rfl ?_
                refine v_aload hX d_S_layParts_84 rfl ?_
                refine v_iload_n hX d_S_layParts_86 rfl rfl ?_
                refine c_V hX 2 (rest := []) hl (c_S_layPart hS17 hN17 hT k H ht_j12.1 he13 (by omega) hwd (by omega)) ml_S_66 im_S_layPart se_S_layPart in_S cd_S_layPart rfl q_S_layPart ⟨by show 20 * (13 + 4 * k) + 20 + 1 ≤ 20 * (10 + 4 * (k + 1)) + 20; omega, by show 8 + (5 + 11) + (300 * (13 + 4 * k) + 600) ≤ 300 * (10 + 4 * (k + 1)) + 600; omega⟩ hS17.set.1 hS17.set.2.1 hS17.set.2.2 rfl rfl rfl rfl (Nat.le_of_ble_eq_true rfl) d_S_layParts_87 ⟨by have a := hP17.2; have b := hx17; show _ + (120 + (2663816 - ph17) / 16) ≤ 120 + (2663816 - ph) / 16; omega, by have a := hP17.1; have b := hx17; show _ + (700000 + (2663816 - ph17)) ≤ 700000 + (2663816 - ph); omega⟩ (fun rv d2 lo18 va18 kc18 ns18 hp => ?_)
                obtain ⟨rfl, rfl, ⟨nl18, ph18, hS18, hm18, hp18⟩, hN18, hf18⟩ := hp
                show V X D CL A _ _ _ _ _ _ _ []
                have hP18 : (ssL + ns17 + ns18) + ph ≤ ph18 ∧ 16 * (csL + kc17 + kc18) + ph ≤ ph18 := ⟨by have a := hP17.1; have b := hp18.1; omega, by have a := hP17.2; have b := hp18.2; omega⟩
                have hx18 : ph18 ≤ 2663816 := hS18.phi
                have hn18 : nl ≤ nl18 := Nat.le_trans hn17 hm18
                have hz18 := hS18.hnl
                refine v_aload hX d_S_layParts_90 rfl ?_
                refine v_get hX (1000 + e13) (v := orf ob (tN T e13)) inT0 (hN18.2 e13 he13).1 (hN18.2 e13 he13).2.1 (hN18.2 e13 he13).2.2.choose_spec.choose_spec.choose_spec.choose_spec rfl 9 (by decide) fl_S_70 rfl rfl d_S_layParts_92 ?_
                refine v_astoreQ (lv' := [some (.ref (ob 2)), some (.ref (ob (1000 + i))), some (.int (nI wd)), some (.int (nI nl)), some (.int 1), some (orf ob (tN T e13)), some (.ref (ob (1000 + e13)))]) hX ((tN T e13).map (fun i => ob (1000 + i))) d_S_layParts_95 (Nat.le_of_ble_eq_true rfl) rfl ?_
                refine v_goto hX d_S_layParts_97 (tgt := 38) (by decide) ?_
                exact ih38 (tN T e13) (some (.ref (ob (1000 + e13)))) lo18 va18 (csL + kc17 + kc18) (ssL + ns17 + ns18) nl18 ph18 (om_next hT he13 (by rw [hq12] at hk; have q : n - j12 < m9 + 1 := hk; show n - e13 < m9 + 1; omega)) hS18 hN18 hn18 hP18 ((hfL.trans hf17.toN).trans hf18) (fun e he => ⟨(hT.1 e13 e he13 he).2.1, ((hT.1 e13 e he13 he).2.2.trans hde13).trans ht_j12.2⟩)
      exact loop38 _ _ none loc val (0) (0) nl ph (Nat.lt_succ_self _) hS hN (Nat.le_refl nl) hP frN.rf (fun e he => ⟨(hT.2.1 i e hi he).2.1, (hT.2.1 i e hi he).2.2⟩)
theorem c_S_layParts {l : Launch} {D : va_G} {A : Nat → Prop} {cI cB cZ cJ cN : ClassId} {ob : Nat → Nat} {T : TR} {n td pf tl : Nat} {dom : Nat → Prop} (hT : TreeI T n) : ∀ k, KLP l D A cI cB cZ cJ cN ob T n td pf tl dom k := by
  intro k
  induction k with
  | zero => intro loc val a nl ph wd i hS hN hi hd; have := (hT.2.2 i hi).2; omega
  | succ k ih => intro loc val a nl ph wd i hS hN hi hd ha hwd; exact c_S_layParts1 hS hN hT k ih hi hd hwd ha
