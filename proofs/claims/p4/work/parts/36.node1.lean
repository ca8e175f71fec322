theorem c_P_isOneOf {l : Launch} {D : va_G} {A : Nat → Prop} {cI cB cZ cJ cN : ClassId} {dom : Nat → Prop} {loc : Nat → Nat} {val : Nat → va_E} (x y : Int32) : kM l y_P_isOneOf (Cond.code y_P_isOneOf b_P_isOneOf 2 (some FieldType.boolean) :: TT) (rmL 1) D CL (TY cI cB cZ cJ cN) A [.int x, .int y] dom loc val (fun rv d lo va kc ns => rv = some (.int (oneOf x y)) ∧ dom = d ∧ loc = lo ∧ val = va ∧ kc = 0 ∧ ns = 0) := by
  refine kM_of (lv0 := [some (.int x), some (.int y)]) (own := "ProsePages") (by decide) rfl (List.forall_mem_cons.mpr ⟨rfl, List.forall_mem_cons.mpr ⟨rfl, fun _ h => nomatch h⟩⟩) (Nat.le_of_ble_eq_true rfl) rfl (Nat.le_of_ble_eq_true rfl) (fun X hl hX hE hin0 => ?_)
  refine v_iload_n hX d_P_isOneOf_0 rfl rfl ?_
  refine v_if_lt hX d_P_isOneOf_1 (tgt := 23) (by decide) (fun c1 => ?_) (fun c1 => ?_)
  · refine v_iconst (v := 0) hX d_P_isOneOf_23 (by decide) ?_
    exact v_zret hX hE (by first | decide | rfl | exact oneOf_nar | exact blk_nar | exact inl_nar | assumption) d_P_isOneOf_24 (Nat.le_of_ble_eq_true rfl) (Nat.le_of_ble_eq_true rfl) ⟨by simp [oneOf, c1], rfl, rfl, rfl, rfl, rfl⟩
  · refine v_iload_n hX d_P_isOneOf_4 rfl rfl ?_
    refine v_bipush (v := 10) hX d_P_isOneOf_5 (by decide) ?_
    refine v_icmp_gt hX d_P_isOneOf_7 (tgt := 23) (by decide) (fun c7 => ?_) (fun c7 => ?_)
    · refine v_iconst (v := 0) hX d_P_isOneOf_23 (by decide) ?_
      exact v_zret hX hE (by first | decide | rfl | exact oneOf_nar | exact blk_nar | exact inl_nar | assumption) d_P_isOneOf_24 (Nat.le_of_ble_eq_true rfl) (Nat.le_of_ble_eq_true rfl) ⟨by simp [oneOf, c1, c7], rfl, rfl, rfl, rfl, rfl⟩
    · refine v_iload_n hX d_P_isOneOf_10 rfl rfl ?_
      refine v_iload_n hX d_P_isOneOf_11 rfl rfl ?_
      refine v_ishr hX d_P_isOneOf_12 ?_
      refine v_iconst (v := 1) hX d_P_isOneOf_13 (by decide) ?_
      refine v_iand hX d_P_isOneOf_14 ?_
      refine v_iconst (v := 1) hX d_P_isOneOf_15 (by decide) ?_
      refine v_icmp_ne hX d_P_isOneOf_16 (tgt := 23) (by decide) (fun c16 => ?_) (fun c16 => ?_)
      · refine v_iconst (v := 0) hX d_P_isOneOf_23 (by decide) ?_
        exact v_zret hX hE (by first | decide | rfl | exact oneOf_nar | exact blk_nar | exact inl_nar | assumption) d_P_isOneOf_24 (Nat.le_of_ble_eq_true rfl) (Nat.le_of_ble_eq_true rfl) ⟨by simp [oneOf, c1, c7, c16], rfl, rfl, rfl, rfl, rfl⟩
      · refine v_iconst (v := 1) hX d_P_isOneOf_19 (by decide) ?_
        refine v_goto hX d_P_isOneOf_20 (tgt := 24) (by decide) ?_
        exact v_zret hX hE (by first | decide | rfl | exact oneOf_nar | exact blk_nar | exact inl_nar | assumption) d_P_isOneOf_24 (Nat.le_of_ble_eq_true rfl) (Nat.le_of_ble_eq_true rfl) ⟨by simp [oneOf, c1, c7, c16], rfl, rfl, rfl, rfl, rfl⟩
set_option maxHeartbeats 4000000 in
set_option maxRecDepth 100000 in
theorem c_N_isInline {l : Launch} {D : va_G} {A : Nat → Prop} {cI cB cZ cJ cN : ClassId} {ob : Nat → Nat} {dom : Nat → Prop} {loc : Nat → Nat} {val : Nat → va_E} {T : TR} {n : Nat} (hN : NodesI ob T n dom loc val) (hT : TreeI T n) {i : Nat} (hi : i < n) : kM l y_N_isInline (Cond.code y_N_isInline b_N_isInline 1 (some FieldType.boolean) :: TT) (rmL 2) D CL (TY cI cB cZ cJ cN) A [.ref (ob (1000 + i))] dom loc val (fun rv d lo va kc ns => rv = some (.int (oneOf (tK T i) 1792)) ∧ dom = d ∧ loc = lo ∧ val = va ∧ kc = 0 ∧ ns = 0) := by
  refine kM_of (lv0 := [some (.ref (ob (1000 + i)))]) (own := "ProsePages$Node") (by decide) rfl (List.forall_mem_cons.mpr ⟨rfl, fun _ h => nomatch h⟩) (Nat.le_of_ble_eq_true rfl) rfl (Nat.le_of_ble_eq_true rfl) (fun X hl hX hE hin0 => ?_)
  refine v_aload_n hX d_N_isInline_0 rfl rfl ?_
  refine v_get hX (1000 + i) (v := .int (tK T i)) inT0 (hN.2 i hi).1 (hN.2 i hi).2.1 (hN.2 i hi).2.2.choose_spec.choose_spec.choose_spec.choose_spec rfl 1 (by decide) fl_N_18 rfl rfl d_N_isInline_1 ?_
  refine v_sipush (v := 1792) hX d_N_isInline_4 (by decide) ?_
  refine c_SN hX (rest := []) hl (c_P_isOneOf (tK T i) 1792) (host := "ProsePages") (by decide) sm_P_isOneOf in_P cd_P_isOneOf q_P_isOneOf ⟨(Nat.le_of_ble_eq_true rfl), (Nat.le_of_ble_eq_true rfl)⟩ rfl rfl rfl (Nat.le_of_ble_eq_true rfl) d_N_isInline_7 ⟨(Nat.le_of_ble_eq_true rfl), (Nat.le_of_ble_eq_true rfl)⟩ (fun rv d2 lo2 va2 kc ns hp => ?_)
  obtain ⟨rfl, rfl, rfl, rfl, rfl, rfl⟩ := hp
  show V X D CL A _ _ _ _ _ _ _ (.int (oneOf (tK T i) 1792) :: [])
  exact v_zret hX hE (by first | decide | rfl | exact oneOf_nar | exact blk_nar | exact inl_nar | assumption) d_N_isInline_10 (Nat.le_of_ble_eq_true rfl) (Nat.le_of_ble_eq_true rfl) ⟨rfl, rfl, rfl, rfl, rfl, rfl⟩
set_option maxHeartbeats 4000000 in
set_option maxRecDepth 100000 in
theorem c_N_lastOfPart {l : Launch} {D : va_G} {A : Nat → Prop} {cI cB cZ cJ cN : ClassId} {ob : Nat → Nat} {dom : Nat → Prop} {loc : Nat → Nat} {val : Nat → va_E} {T : TR} {n : Nat} (hN : NodesI ob T n dom loc val) (hT : TreeI T n) {i : Nat} (hi : i < n) : kM l y_N_lastOfPart (Cond.code y_N_lastOfPart b_N_lastOfPart 2 (some (FieldType.object "ProsePages$Node")) :: TT) (rmL 3) D CL (TY cI cB cZ cJ cN) A [.ref (ob (1000 + i))] dom loc val (fun rv d lo va kc ns => (∃ e, e < n ∧ tD T e = tD T i ∧ rv = some (.ref (ob (1000 + e)))) ∧ dom = d ∧ loc = lo ∧ val = va ∧ kc = 0 ∧ ns = 0) := by
  refine kM_of (lv0 := [some (.ref (ob (1000 + i))), none]) (own := "ProsePages$Node") (by decide) rfl (List.forall_mem_cons.mpr ⟨rfl, fun _ h => nomatch h⟩) (Nat.le_of_ble_eq_true rfl) rfl (Nat.le_of_ble_eq_true rfl) (fun X hl hX hE hin0 => ?_)
  refine v_aload_n hX d_N_lastOfPart_0 rfl rfl ?_
  refine v_astore_n (lv' := [some (.ref (ob (1000 + i))), some (.ref (ob (1000 + i)))]) hX d_N_lastOfPart_1 rfl (Nat.le_of_ble_eq_true rfl) rfl ?_
  have loop : ∀ (m9 : Nat) (e : Nat), n - e < m9 → e < n → tD T e = tD T i → V X D CL A dom loc val (0) (0) 2 [some (.ref (ob (1000 + i))), some (.ref (ob (1000 + e)))] [] := by
    intro m9
    induction m9 with
    | zero => intro e hk he hd; exact absurd hk (Nat.not_lt_zero _)
    | succ m9 ih =>
      intro e hk he hd
      refine v_aload_n hX d_N_lastOfPart_2 rfl rfl ?_
      refine c_V hX (1000 + i) (rest := []) hl (c_N_isInline hN hT hi) ml_N_50 im_N_isInline se_N_isInline in_N cd_N_isInline rfl q_N_isInline ⟨(Nat.le_of_ble_eq_true rfl), (Nat.le_of_ble_eq_true rfl)⟩ (hN.2 i hi).1 (hN.2 i hi).2.1 (hN.2 i hi).2.2.choose_spec.choose_spec.choose_spec.choose_spec rfl rfl rfl rfl (Nat.le_of_ble_eq_true rfl) d_N_lastOfPart_3 ⟨(Nat.le_of_ble_eq_true rfl), (Nat.le_of_ble_eq_true rfl)⟩ (fun rv d2 lo2 va2 kc ns hp => ?_)
      obtain ⟨rfl, rfl, rfl, rfl, rfl, rfl⟩ := hp
      show V X D CL A _ _ _ _ _ _ _ (.int (oneOf (tK T i) 1792) :: [])
      refine v_if_eq hX d_N_lastOfPart_6 (tgt := 34) (by decide) (fun c6 => ?_) (fun c6 => ?_)
      · refine v_aload_n hX d_N_lastOfPart_34 rfl rfl ?_
        exact v_aret hX hE (some (ob (1000 + e))) d_N_lastOfPart_35 (Nat.le_of_ble_eq_true rfl) (Nat.le_of_ble_eq_true rfl) ⟨⟨e, he, hd, rfl⟩, rfl, rfl, rfl, rfl, rfl⟩
      · refine v_aload_n hX d_N_lastOfPart_9 rfl rfl ?_
        refine v_get hX (1000 + e) (v := orf ob (tN T e)) inT0 (hN.2 e he).1 (hN.2 e he).2.1 (hN.2 e he).2.2.choose_spec.choose_spec.choose_spec.choose_spec rfl 9 (by decide) fl_N_47 rfl rfl d_N_lastOfPart_10 ?_
        rcases hq1 : (tN T e) with _ | j1
        · refine v_ifnull hX none d_N_lastOfPart_13 (tgt := 34) (by decide) (fun _ => ?_) (fun _ h => nomatch h)
          refine v_aload_n hX d_N_lastOfPart_34 rfl rfl ?_
          exact v_aret hX hE (some (ob (1000 + e))) d_N_lastOfPart_35 (Nat.le_of_ble_eq_true rfl) (Nat.le_of_ble_eq_true rfl) ⟨⟨e, he, hd, rfl⟩, rfl, rfl, rfl, rfl, rfl⟩
        · have ht_j1 := hT.1 e j1 he hq1
          refine v_ifnull hX (some (ob (1000 + j1))) d_N_lastOfPart_13 (tgt := 34) (by decide) (fun h => nomatch h) (fun _ _ => ?_)
          refine v_aload_n hX d_N_lastOfPart_16 rfl rfl ?_
          refine v_get hX (1000 + e) (v := .ref (ob (1000 + j1))) inT0 (hN.2 e he).1 (hN.2 e he).2.1 (hN.2 e he).2.2.choose_spec.choose_spec.choose_spec.choose_spec rfl 9 (by decide) fl_N_47 rfl (by show some (orf ob (tN T e)) = _; rw [hq1]; rfl) d_N_lastOfPart_17 ?_
          refine c_V hX (1000 + j1) (rest := []) hl (c_N_isInline hN hT ht_j1.2.1) ml_N_50 im_N_isInline se_N_isInline in_N cd_N_isInline rfl q_N_isInline ⟨(Nat.le_of_ble_eq_true rfl), (Nat.le_of_ble_eq_true rfl)⟩ (hN.2 j1 ht_j1.2.1).1 (hN.2 j1 ht_j1.2.1).2.1 (hN.2 j1 ht_j1.2.1).2.2.choose_spec.choose_spec.choose_spec.choose_spec rfl rfl rfl rfl (Nat.le_of_ble_eq_true rfl) d_N_lastOfPart_20 ⟨(Nat.le_of_ble_eq_true rfl), (Nat.le_of_ble_eq_true rfl)⟩ (fun rv d2 lo2 va2 kc ns hp => ?_)
          obtain ⟨rfl, rfl, rfl, rfl, rfl, rfl⟩ := hp
          show V X D CL A _ _ _ _ _ _ _ (.int (oneOf (tK T j1) 1792) :: [])
          refine v_if_eq hX d_N_lastOfPart_23 (tgt := 34) (by decide) (fun c23 => ?_) (fun c23 => ?_)
          · refine v_aload_n hX d_N_lastOfPart_34 rfl rfl ?_
            exact v_aret hX hE (some (ob (1000 + e))) d_N_lastOfPart_35 (Nat.le_of_ble_eq_true rfl) (Nat.le_of_ble_eq_true rfl) ⟨⟨e, he, hd, rfl⟩, rfl, rfl, rfl, rfl, rfl⟩
          · refine v_aload_n hX d_N_lastOfPart_26 rfl rfl ?_
            refine v_get hX (1000 + e) (v := .ref (ob (1000 + j1))) inT0 (hN.2 e he).1 (hN.2 e he).2.1 (hN.2 e he).2.2.choose_spec.choose_spec.choose_spec.choose_spec rfl 9 (by decide) fl_N_47 rfl (by show some (orf ob (tN T e)) = _; rw [hq1]; rfl) d_N_lastOfPart_27 ?_
            refine v_astore_n (lv' := [some (.ref (ob (1000 + i))), some (.ref (ob (1000 + j1)))]) hX d_N_lastOfPart_30 rfl (Nat.le_of_ble_eq_true rfl) rfl ?_
            refine v_goto hX d_N_lastOfPart_31 (tgt := 2) (by decide) ?_
            exact ih j1 (by omega) ht_j1.2.1 (ht_j1.2.2.trans hd)
  exact loop _ _ (Nat.lt_succ_self _) hi rfl
