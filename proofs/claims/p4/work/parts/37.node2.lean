set_option maxHeartbeats 4000000 in
set_option maxRecDepth 100000 in
theorem c_S_hasWords {l : Launch} {D : va_G} {A : Nat → Prop} {cI cB cZ cJ cN : ClassId} {ob : Nat → Nat} {td w c a al nl pf tl ph : Nat} {dom : Nat → Prop} {loc : Nat → Nat} {val : Nat → va_E} (hS : LayS cI ob td w c a al nl pf tl ph dom loc val) (x y : Int32) : kM l y_S_hasWords (Cond.code y_S_hasWords b_S_hasWords 4 (some FieldType.boolean) :: TT) (rmP 2 ph) D CL (TY cI cB cZ cJ cN) A [.ref (ob 2), .int x, .int y] dom loc val (fun rv d lo va kc ns => (∃ v, rv = some (.int v) ∧ narrow .boolean (.int v) = .int v) ∧ dom = d ∧ loc = lo ∧ val = va ∧ kc = 0 ∧ ns = 0) := by
  refine kM_of (lv0 := [some (.ref (ob 2)), some (.int x), some (.int y), none]) (own := "ProsePages$Setter") (by decide) rfl (List.forall_mem_cons.mpr ⟨rfl, List.forall_mem_cons.mpr ⟨rfl, List.forall_mem_cons.mpr ⟨rfl, fun _ h => nomatch h⟩⟩⟩) (Nat.le_of_ble_eq_true rfl) rfl (Nat.le_of_ble_eq_true rfl) (fun X hl hX hE hin0 => ?_)
  have hP : 0 + ph ≤ ph ∧ 16 * 0 + ph ≤ ph := ⟨by omega, by omega⟩
  have hx : ph ≤ 2663816 := hS.phi
  refine v_iload_n hX d_S_hasWords_0 rfl rfl ?_
  refine v_istore_n (lv' := [some (.ref (ob 2)), some (.int x), some (.int y), some (.int x)]) hX d_S_hasWords_1 rfl (Nat.le_of_ble_eq_true rfl) rfl ?_
  have loop : ∀ (m9 : Nat) (k : Int32), (y.toInt - k.toInt).toNat < m9 → V X D CL A dom loc val (0) (0) 2 [some (.ref (ob 2)), some (.int x), some (.int y), some (.int k)] [] := by
    intro m9
    induction m9 with
    | zero => intro k hk; exact absurd hk (Nat.not_lt_zero _)
    | succ m9 ih =>
      intro k hk
      refine v_iload_n hX d_S_hasWords_2 rfl rfl ?_
      refine v_iload_n hX d_S_hasWords_3 rfl rfl ?_
      refine v_icmp_ge hX d_S_hasWords_4 (tgt := 29) (by decide) (fun c4 => ?_) (fun c4 => ?_)
      · refine v_iconst (v := 0) hX d_S_hasWords_29 (by decide) ?_
        exact v_zret hX hE (by first | decide | rfl | exact oneOf_nar | exact blk_nar | exact inl_nar | assumption) d_S_hasWords_30 (by have a := hP.2; have b := hx; show _ ≤ 120 + (2663816 - ph) / 16; omega) (by have a := hP.1; have b := hx; show _ ≤ 700000 + (2663816 - ph); omega) ⟨⟨_, rfl, by first | decide | assumption⟩, rfl, rfl, rfl, rfl, rfl⟩
      · refine v_aload_n hX d_S_hasWords_7 rfl rfl ?_
        refine v_get hX 2 (v := .ref (ob 3)) inT2 hS.set.1 hS.set.2.1 hS.set.2.2 rfl 0 (by decide) fl_S_12 rfl rfl d_S_hasWords_8 ?_
        refine v_iload_n hX d_S_hasWords_11 rfl rfl ?_
        refine c_V hX 3 (rest := []) hl (S_get hS 3 (by decide) k) ml_S_125 im_R_get se_R_get in_R cd_R_get rfl q_R_get ⟨(Nat.le_of_ble_eq_true rfl), (Nat.le_of_ble_eq_true rfl)⟩ (hS.row 3 (by decide)).1 (hS.row 3 (by decide)).2.1 (hS.row 3 (by decide)).2.2.choose_spec rfl rfl rfl rfl (Nat.le_of_ble_eq_true rfl) d_S_hasWords_12 ⟨by have a := hP.2; have b := hx; show _ + 100 ≤ 120 + (2663816 - ph) / 16; omega, by have a := hP.1; have b := hx; show _ + 200000 ≤ 700000 + (2663816 - ph); omega⟩ (fun rv d2 lo2 va2 kc ns hp => ?_)
        obtain ⟨⟨v1, rfl⟩, rfl, rfl, rfl, rfl, rfl⟩ := hp
        show V X D CL A _ _ _ _ _ _ _ (.int v1 :: [])
        refine c_SN hX (rest := []) hl (c_P_isWhite v1) (host := "ProsePages") (by decide) sm_P_isWhite in_P cd_P_isWhite q_P_isWhite ⟨(Nat.le_of_ble_eq_true rfl), (Nat.le_of_ble_eq_true rfl)⟩ rfl rfl rfl (Nat.le_of_ble_eq_true rfl) d_S_hasWords_15 ⟨by have a := hP.2; have b := hx; show _ + 100 ≤ 120 + (2663816 - ph) / 16; omega, by have a := hP.1; have b := hx; show _ + 200000 ≤ 700000 + (2663816 - ph); omega⟩ (fun rv d2 lo2 va2 kc ns hp => ?_)
        obtain ⟨⟨v2, rfl⟩, rfl, rfl, rfl, rfl, rfl⟩ := hp
        show V X D CL A _ _ _ _ _ _ _ (.int v2 :: [])
        refine v_if_ne hX d_S_hasWords_18 (tgt := 23) (by decide) (fun c18 => ?_) (fun c18 => ?_)
        · refine v_iinc (y := (k + 1)) (lv' := [some (.ref (ob 2)), some (.int x), some (.int y), some (.int (k + 1))]) hX d_S_hasWords_23 rfl (by rfl) rfl ?_
          refine v_goto hX d_S_hasWords_26 (tgt := 2) (by decide) ?_
          exact ih _ (iter_lt (Int32.not_le.mp c4) hk)
        · refine v_iconst (v := 1) hX d_S_hasWords_21 (by decide) ?_
          exact v_zret hX hE (by first | decide | rfl | exact oneOf_nar | exact blk_nar | exact inl_nar | assumption) d_S_hasWords_22 (by have a := hP.2; have b := hx; show _ ≤ 120 + (2663816 - ph) / 16; omega) (by have a := hP.1; have b := hx; show _ ≤ 700000 + (2663816 - ph); omega) ⟨⟨_, rfl, by first | decide | assumption⟩, rfl, rfl, rfl, rfl, rfl⟩
  exact loop _ _ (Nat.lt_succ_self _)
set_option maxHeartbeats 4000000 in
set_option maxRecDepth 100000 in
theorem c_S_holdsPar {l : Launch} {D : va_G} {A : Nat → Prop} {cI cB cZ cJ cN : ClassId} {ob : Nat → Nat} {td w c a al nl pf tl ph : Nat} {dom : Nat → Prop} {loc : Nat → Nat} {val : Nat → va_E} (hS : LayS cI ob td w c a al nl pf tl ph dom loc val) {T : TR} {n : Nat} (hN : NodesI ob T n dom loc val) (hT : TreeI T n) {i : Nat} (hi : i < n) : kM l y_S_holdsParagraph (Cond.code y_S_holdsParagraph b_S_holdsParagraph 3 (some FieldType.boolean) :: TT) (rmP 3 ph) D CL (TY cI cB cZ cJ cN) A [.ref (ob 2), .ref (ob (1000 + i))] dom loc val (fun rv d lo va kc ns => (∃ v, rv = some (.int v) ∧ narrow .boolean (.int v) = .int v) ∧ dom = d ∧ loc = lo ∧ val = va ∧ kc = 0 ∧ ns = 0) := by
  refine kM_of (lv0 := [some (.ref (ob 2)), some (.ref (ob (1000 + i))), none]) (own := "ProsePages$Setter") (by decide) rfl (List.forall_mem_cons.mpr ⟨rfl, List.forall_mem_cons.mpr ⟨rfl, fun _ h => nomatch h⟩⟩) (Nat.le_of_ble_eq_true rfl) rfl (Nat.le_of_ble_eq_true rfl) (fun X hl hX hE hin0 => ?_)
  have hP : 0 + ph ≤ ph ∧ 16 * 0 + ph ≤ ph := ⟨by omega, by omega⟩
  have hx : ph ≤ 2663816 := hS.phi
  refine v_aload_n hX d_S_holdsParagraph_0 rfl rfl ?_
  refine v_get hX (1000 + i) (v := orf ob (tF T i)) inT0 (hN.2 i hi).1 (hN.2 i hi).2.1 (hN.2 i hi).2.2.choose_spec.choose_spec.choose_spec.choose_spec rfl 7 (by decide) fl_S_51 rfl rfl d_S_holdsParagraph_1 ?_
  refine v_astore_nQ (lv' := [some (.ref (ob 2)), some (.ref (ob (1000 + i))), some (orf ob (tF T i))]) hX ((tF T i).map (fun i => ob (1000 + i))) d_S_holdsParagraph_4 rfl (Nat.le_of_ble_eq_true rfl) rfl ?_
  have loop : ∀ (m9 : Nat) (o : Option Nat), om n o < m9 → (∀ j, o = some j → j < n) → V X D CL A dom loc val (0) (0) 5 [some (.ref (ob 2)), some (.ref (ob (1000 + i))), some (orf ob o)] [] := by
    intro m9
    induction m9 with
    | zero => intro o hk hO; exact absurd hk (Nat.not_lt_zero _)
    | succ m9 ih =>
      intro o hk hO
      refine v_aload_nQ hX (o.map (fun i => ob (1000 + i))) d_S_holdsParagraph_5 rfl rfl ?_
      rcases hq1 : o with _ | j1
      · refine v_ifnull hX none d_S_holdsParagraph_6 (tgt := 41) (by decide) (fun _ => ?_) (fun _ h => nomatch h)
        refine v_iconst (v := 0) hX d_S_holdsParagraph_41 (by decide) ?_
        exact v_zret hX hE (by first | decide | rfl | exact oneOf_nar | exact blk_nar | exact inl_nar | assumption) d_S_holdsParagraph_42 (by have a := hP.2; have b := hx; show _ ≤ 120 + (2663816 - ph) / 16; omega) (by have a := hP.1; have b := hx; show _ ≤ 700000 + (2663816 - ph); omega) ⟨⟨_, rfl, by first | decide | assumption⟩, rfl, rfl, rfl, rfl, rfl⟩
      · have ht_j1 : j1 < n := hO j1 hq1
        refine v_ifnull hX (some (ob (1000 + j1))) d_S_holdsParagraph_6 (tgt := 41) (by decide) (fun h => nomatch h) (fun _ _ => ?_)
        refine v_aload_n hX d_S_holdsParagraph_9 rfl rfl ?_
        refine v_get hX (1000 + j1) (v := .int (tK T j1)) inT0 (hN.2 j1 ht_j1).1 (hN.2 j1 ht_j1).2.1 (hN.2 j1 ht_j1).2.2.choose_spec.choose_spec.choose_spec.choose_spec rfl 1 (by decide) fl_S_41 rfl rfl d_S_holdsParagraph_10 ?_
        refine v_if_ne hX d_S_holdsParagraph_13 (tgt := 33) (by decide) (fun c13 => ?_) (fun c13 => ?_)
        · refine v_aload_n hX d_S_holdsParagraph_33 rfl rfl ?_
          refine v_get hX (1000 + j1) (v := orf ob (tN T j1)) inT0 (hN.2 j1 ht_j1).1 (hN.2 j1 ht_j1).2.1 (hN.2 j1 ht_j1).2.2.choose_spec.choose_spec.choose_spec.choose_spec rfl 9 (by decide) fl_S_70 rfl rfl d_S_holdsParagraph_34 ?_
          refine v_astore_nQ (lv' := [some (.ref (ob 2)), some (.ref (ob (1000 + i))), some (orf ob (tN T j1))]) hX ((tN T j1).map (fun i => ob (1000 + i))) d_S_holdsParagraph_37 rfl (Nat.le_of_ble_eq_true rfl) rfl ?_
          refine v_goto hX d_S_holdsParagraph_38 (tgt := 5) (by decide) ?_
          exact ih (tN T j1) (om_next hT ht_j1 (by rw [hq1] at hk; exact hk)) (fun e he => (hT.1 j1 e ht_j1 he).2.1)
        · refine v_aload_n hX d_S_holdsParagraph_16 rfl rfl ?_
          refine v_aload_n hX d_S_holdsParagraph_17 rfl rfl ?_
          refine v_get hX (1000 + j1) (v := .int ((hN.2 j1 ht_j1).2.2.choose)) inT0 (hN.2 j1 ht_j1).1 (hN.2 j1 ht_j1).2.1 (hN.2 j1 ht_j1).2.2.choose_spec.choose_spec.choose_spec.choose_spec rfl 4 (by decide) fl_S_83 rfl rfl d_S_holdsParagraph_18 ?_
          refine v_aload_n hX d_S_holdsParagraph_21 rfl rfl ?_
          refine v_get hX (1000 + j1) (v := .int ((hN.2 j1 ht_j1).2.2.choose_spec.choose)) inT0 (hN.2 j1 ht_j1).1 (hN.2 j1 ht_j1).2.1 (hN.2 j1 ht_j1).2.2.choose_spec.choose_spec.choose_spec.choose_spec rfl 5 (by decide) fl_S_86 rfl rfl d_S_holdsParagraph_22 ?_
          refine c_V hX 2 (rest := []) hl (c_S_hasWords hS ((hN.2 j1 ht_j1).2.2.choose) ((hN.2 j1 ht_j1).2.2.choose_spec.choose)) ml_S_170 im_S_hasWords se_S_hasWords in_S cd_S_hasWords rfl q_S_hasWords ⟨(Nat.le_of_ble_eq_true rfl), (Nat.le_of_ble_eq_true rfl)⟩ hS.set.1 hS.set.2.1 hS.set.2.2 rfl rfl rfl rfl (Nat.le_of_ble_eq_true rfl) d_S_holdsParagraph_25 ⟨by have a := hP.2; have b := hx; show _ + (120 + (2663816 - ph) / 16) ≤ 120 + (2663816 - ph) / 16; omega, by have a := hP.1; have b := hx; show _ + (700000 + (2663816 - ph)) ≤ 700000 + (2663816 - ph); omega⟩ (fun rv d2 lo2 va2 kc ns hp => ?_)
          obtain ⟨⟨v2, rfl, hv2⟩, rfl, rfl, rfl, rfl, rfl⟩ := hp
          show V X D CL A _ _ _ _ _ _ _ (.int v2 :: [])
          refine v_if_eq hX d_S_holdsParagraph_28 (tgt := 33) (by decide) (fun c28 => ?_) (fun c28 => ?_)
          · refine v_aload_n hX d_S_holdsParagraph_33 rfl rfl ?_
            refine v_get hX (1000 + j1) (v := orf ob (tN T j1)) inT0 (hN.2 j1 ht_j1).1 (hN.2 j1 ht_j1).2.1 (hN.2 j1 ht_j1).2.2.choose_spec.choose_spec.choose_spec.choose_spec rfl 9 (by decide) fl_S_70 rfl rfl d_S_holdsParagraph_34 ?_
            refine v_astore_nQ (lv' := [some (.ref (ob 2)), some (.ref (ob (1000 + i))), some (orf ob (tN T j1))]) hX ((tN T j1).map (fun i => ob (1000 + i))) d_S_holdsParagraph_37 rfl (Nat.le_of_ble_eq_true rfl) rfl ?_
            refine v_goto hX d_S_holdsParagraph_38 (tgt := 5) (by decide) ?_
            exact ih (tN T j1) (om_next hT ht_j1 (by rw [hq1] at hk; exact hk)) (fun e he => (hT.1 j1 e ht_j1 he).2.1)
          · refine v_iconst (v := 1) hX d_S_holdsParagraph_31 (by decide) ?_
            exact v_zret hX hE (by first | decide | rfl | exact oneOf_nar | exact blk_nar | exact inl_nar | assumption) d_S_holdsParagraph_32 (by have a := hP.2; have b := hx; show _ ≤ 120 + (2663816 - ph) / 16; omega) (by have a := hP.1; have b := hx; show _ ≤ 700000 + (2663816 - ph); omega) ⟨⟨_, rfl, by first | decide | assumption⟩, rfl, rfl, rfl, rfl, rfl⟩
  exact loop _ _ (Nat.lt_succ_self _) (fun e he => (hT.2.1 i e hi he).2.1)
