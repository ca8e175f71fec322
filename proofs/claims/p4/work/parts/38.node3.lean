set_option maxHeartbeats 4000000 in
set_option maxRecDepth 100000 in
theorem c_S_holdsLines {l : Launch} {D : va_G} {A : Nat → Prop} {cI cB cZ cJ cN : ClassId} {ob : Nat → Nat} {td w c a al nl pf tl ph : Nat} {dom : Nat → Prop} {loc : Nat → Nat} {val : Nat → va_E} (hS : LayS cI ob td w c a al nl pf tl ph dom loc val) {T : TR} {n : Nat} (hN : NodesI ob T n dom loc val) (hT : TreeI T n) (k : Nat) (H : ∀ i j, i < n → j < n → 13 ≤ tD T i + k → kM l y_S_hasLines (Cond.code y_S_hasLines b_S_hasLines 3 (some FieldType.boolean) :: TT) (rmP (4 + 2 * k) ph) D CL (TY cI cB cZ cJ cN) A [.ref (ob 2), .ref (ob (1000 + i)), .ref (ob (1000 + j))] dom loc val (fun rv d lo va kc ns => (∃ v, rv = some (.int v) ∧ narrow .boolean (.int v) = .int v) ∧ dom = d ∧ loc = lo ∧ val = va ∧ kc = 0 ∧ ns = 0)) {i : Nat} (hi : i < n) (hd : 13 ≤ tD T i + (k + 1)) : kM l y_S_holdsLines (Cond.code y_S_holdsLines b_S_holdsLines 3 (some FieldType.boolean) :: TT) (rmP (5 + 2 * k) ph) D CL (TY cI cB cZ cJ cN) A [.ref (ob 2), .ref (ob (1000 + i))] dom loc val (fun rv d lo va kc ns => (∃ v, rv = some (.int v) ∧ narrow .boolean (.int v) = .int v) ∧ dom = d ∧ loc = lo ∧ val = va ∧ kc = 0 ∧ ns = 0) := by
  refine kM_of (lv0 := [some (.ref (ob 2)), some (.ref (ob (1000 + i))), none]) (own := "ProsePages$Setter") (by decide) rfl (List.forall_mem_cons.mpr ⟨rfl, List.forall_mem_cons.mpr ⟨rfl, fun _ h => nomatch h⟩⟩) (Nat.le_of_ble_eq_true rfl) rfl (Nat.le_of_ble_eq_true rfl) (fun X hl hX hE hin0 => ?_)
  have hP : 0 + ph ≤ ph ∧ 16 * 0 + ph ≤ ph := ⟨by omega, by omega⟩
  have hx : ph ≤ 2663816 := hS.phi
  refine v_aload_n hX d_S_holdsLines_0 rfl rfl ?_
  refine v_get hX (1000 + i) (v := orf ob (tF T i)) inT0 (hN.2 i hi).1 (hN.2 i hi).2.1 (hN.2 i hi).2.2.choose_spec.choose_spec.choose_spec.choose_spec rfl 7 (by decide) fl_S_51 rfl rfl d_S_holdsLines_1 ?_
  refine v_astore_nQ (lv' := [some (.ref (ob 2)), some (.ref (ob (1000 + i))), some (orf ob (tF T i))]) hX ((tF T i).map (fun i => ob (1000 + i))) d_S_holdsLines_4 rfl (Nat.le_of_ble_eq_true rfl) rfl ?_
  have loop : ∀ (m9 : Nat) (o : Option Nat), om n o < m9 → (∀ j, o = some j → j < n ∧ tD T j = tD T i + 1) → V X D CL A dom loc val (0) (0) 5 [some (.ref (ob 2)), some (.ref (ob (1000 + i))), some (orf ob o)] [] := by
    intro m9
    induction m9 with
    | zero => intro o hk hO; exact absurd hk (Nat.not_lt_zero _)
    | succ m9 ih =>
      intro o hk hO
      refine v_aload_nQ hX (o.map (fun i => ob (1000 + i))) d_S_holdsLines_5 rfl rfl ?_
      rcases hq1 : o with _ | j1
      · refine v_ifnull hX none d_S_holdsLines_6 (tgt := 28) (by decide) (fun _ => ?_) (fun _ h => nomatch h)
        refine v_iconst (v := 0) hX d_S_holdsLines_28 (by decide) ?_
        exact v_zret hX hE (by first | decide | rfl | exact oneOf_nar | exact blk_nar | exact inl_nar | assumption) d_S_holdsLines_29 (by have a := hP.2; have b := hx; show _ ≤ 120 + (2663816 - ph) / 16; omega) (by have a := hP.1; have b := hx; show _ ≤ 700000 + (2663816 - ph); omega) ⟨⟨_, rfl, by first | decide | assumption⟩, rfl, rfl, rfl, rfl, rfl⟩
      · have ht_j1 := hO j1 hq1
        refine v_ifnull hX (some (ob (1000 + j1))) d_S_holdsLines_6 (tgt := 28) (by decide) (fun h => nomatch h) (fun _ _ => ?_)
        refine v_aload_n hX d_S_holdsLines_9 rfl rfl ?_
        refine v_aload_n hX d_S_holdsLines_10 rfl rfl ?_
        refine v_aload_n hX d_S_holdsLines_11 rfl rfl ?_
        refine c_V hX 2 (rest := []) hl (H j1 j1 ht_j1.1 ht_j1.1 (by omega)) ml_S_59 im_S_hasLines se_S_hasLines in_S cd_S_hasLines rfl q_S_hasLines ⟨by show 20 * (4 + 2 * k) + 20 + 1 ≤ 20 * (5 + 2 * k) + 20; omega, by show 8 + (3 + 11) + (300 * (4 + 2 * k) + 600) ≤ 300 * (5 + 2 * k) + 600; omega⟩ hS.set.1 hS.set.2.1 hS.set.2.2 rfl rfl rfl rfl (Nat.le_of_ble_eq_true rfl) d_S_holdsLines_12 ⟨by have a := hP.2; have b := hx; show _ + (120 + (2663816 - ph) / 16) ≤ 120 + (2663816 - ph) / 16; omega, by have a := hP.1; have b := hx; show _ + (700000 + (2663816 - ph)) ≤ 700000 + (2663816 - ph); omega⟩ (fun rv d2 lo2 va2 kc ns hp => ?_)
        obtain ⟨⟨v2, rfl, hv2⟩, rfl, rfl, rfl, rfl, rfl⟩ := hp
        show V X D CL A _ _ _ _ _ _ _ (.int v2 :: [])
        refine v_if_eq hX d_S_holdsLines_15 (tgt := 20) (by decide) (fun c15 => ?_) (fun c15 => ?_)
        · refine v_aload_n hX d_S_holdsLines_20 rfl rfl ?_
          refine v_get hX (1000 + j1) (v := orf ob (tN T j1)) inT0 (hN.2 j1 ht_j1.1).1 (hN.2 j1 ht_j1.1).2.1 (hN.2 j1 ht_j1.1).2.2.choose_spec.choose_spec.choose_spec.choose_spec rfl 9 (by decide) fl_S_70 rfl rfl d_S_holdsLines_21 ?_
          refine v_astore_nQ (lv' := [some (.ref (ob 2)), some (.ref (ob (1000 + i))), some (orf ob (tN T j1))]) hX ((tN T j1).map (fun i => ob (1000 + i))) d_S_holdsLines_24 rfl (Nat.le_of_ble_eq_true rfl) rfl ?_
          refine v_goto hX d_S_holdsLines_25 (tgt := 5) (by decide) ?_
          exact ih (tN T j1) (om_next hT ht_j1.1 (by rw [hq1] at hk; exact hk)) (fun e he => ⟨(hT.1 j1 e ht_j1.1 he).2.1, (hT.1 j1 e ht_j1.1 he).2.2.trans ht_j1.2⟩)
        · refine v_iconst (v := 1) hX d_S_holdsLines_18 (by decide) ?_
          exact v_zret hX hE (by first | decide | rfl | exact oneOf_nar | exact blk_nar | exact inl_nar | assumption) d_S_holdsLines_19 (by have a := hP.2; have b := hx; show _ ≤ 120 + (2663816 - ph) / 16; omega) (by have a := hP.1; have b := hx; show _ ≤ 700000 + (2663816 - ph); omega) ⟨⟨_, rfl, by first | decide | assumption⟩, rfl, rfl, rfl, rfl, rfl⟩
  exact loop _ _ (Nat.lt_succ_self _) (fun e he => ⟨(hT.2.1 i e hi he).2.1, (hT.2.1 i e hi he).2.2⟩)
set_option maxHeartbeats 4000000 in
set_option maxRecDepth 100000 in
theorem c_S_hasLines1 {l : Launch} {D : va_G} {A : Nat → Prop} {cI cB cZ cJ cN : ClassId} {ob : Nat → Nat} {td w c a al nl pf tl ph : Nat} {dom : Nat → Prop} {loc : Nat → Nat} {val : Nat → va_E} (hS : LayS cI ob td w c a al nl pf tl ph dom loc val) {T : TR} {n : Nat} (hN : NodesI ob T n dom loc val) (hT : TreeI T n) (k : Nat) (H : ∀ i j, i < n → j < n → 13 ≤ tD T i + k → kM l y_S_hasLines (Cond.code y_S_hasLines b_S_hasLines 3 (some FieldType.boolean) :: TT) (rmP (4 + 2 * k) ph) D CL (TY cI cB cZ cJ cN) A [.ref (ob 2), .ref (ob (1000 + i)), .ref (ob (1000 + j))] dom loc val (fun rv d lo va kc ns => (∃ v, rv = some (.int v) ∧ narrow .boolean (.int v) = .int v) ∧ dom = d ∧ loc = lo ∧ val = va ∧ kc = 0 ∧ ns = 0)) {i j : Nat} (hi : i < n) (hj : j < n) (hd : 13 ≤ tD T i + (k + 1)) : kM l y_S_hasLines (Cond.code y_S_hasLines b_S_hasLines 3 (some FieldType.boolean) :: TT) (rmP (4 + 2 * (k + 1)) ph) D CL (TY cI cB cZ cJ cN) A [.ref (ob 2), .ref (ob (1000 + i)), .ref (ob (1000 + j))] dom loc val (fun rv d lo va kc ns => (∃ v, rv = some (.int v) ∧ narrow .boolean (.int v) = .int v) ∧ dom = d ∧ loc = lo ∧ val = va ∧ kc = 0 ∧ ns = 0) := by
  refine kM_of (lv0 := [some (.ref (ob 2)), some (.ref (ob (1000 + i))), some (.ref (ob (1000 + j)))]) (own := "ProsePages$Setter") (by decide) rfl (List.forall_mem_cons.mpr ⟨rfl, List.forall_mem_cons.mpr ⟨rfl, List.forall_mem_cons.mpr ⟨rfl, fun _ h => nomatch h⟩⟩⟩) (Nat.le_of_ble_eq_true rfl) rfl (Nat.le_of_ble_eq_true rfl) (fun X hl hX hE hin0 => ?_)
  have hP : 0 + ph ≤ ph ∧ 16 * 0 + ph ≤ ph := ⟨by omega, by omega⟩
  have hx : ph ≤ 2663816 := hS.phi
  refine v_aload_n hX d_S_hasLines_0 rfl rfl ?_
  refine v_get hX (1000 + i) (v := .int (tK T i)) inT0 (hN.2 i hi).1 (hN.2 i hi).2.1 (hN.2 i hi).2.2.choose_spec.choose_spec.choose_spec.choose_spec rfl 1 (by decide) fl_S_41 rfl rfl d_S_hasLines_1 ?_
  by_cases hw : ((tK T i)).toInt < 1 ∨ 6 < ((tK T i)).toInt
  · refine v_tableOut hX d_S_hasLines_4 (tgt := 82) hw (by decide) ?_
    refine v_aload_n hX d_S_hasLines_82 rfl rfl ?_
    refine v_aload_n hX d_S_hasLines_83 rfl rfl ?_
    refine v_get hX (1000 + i) (v := .int ((hN.2 i hi).2.2.choose)) inT0 (hN.2 i hi).1 (hN.2 i hi).2.1 (hN.2 i hi).2.2.choose_spec.choose_spec.choose_spec.choose_spec rfl 4 (by decide) fl_S_83 rfl rfl d_S_hasLines_84 ?_
    refine v_aload_n hX d_S_hasLines_87 rfl rfl ?_
    refine v_get hX (1000 + j) (v := .int ((hN.2 j hj).2.2.choose_spec.choose)) inT0 (hN.2 j hj).1 (hN.2 j hj).2.1 (hN.2 j hj).2.2.choose_spec.choose_spec.choose_spec.choose_spec rfl 5 (by decide) fl_S_86 rfl rfl d_S_hasLines_88 ?_
    refine c_V hX 2 (rest := []) hl (c_S_hasWords hS ((hN.2 i hi).2.2.choose) ((hN.2 j hj).2.2.choose_spec.choose)) ml_S_170 im_S_hasWords se_S_hasWords in_S cd_S_hasWords rfl q_S_hasWords ⟨by show 20 * (2) + 20 + 1 ≤ 20 * (4 + 2 * (k + 1)) + 20; omega, by show 8 + (4 + 11) + (300 * (2) + 600) ≤ 300 * (4 + 2 * (k + 1)) + 600; omega⟩ hS.set.1 hS.set.2.1 hS.set.2.2 rfl rfl rfl rfl (Nat.le_of_ble_eq_true rfl) d_S_hasLines_91 ⟨by have a := hP.2; have b := hx; show _ + (120 + (2663816 - ph) / 16) ≤ 120 + (2663816 - ph) / 16; omega, by have a := hP.1; have b := hx; show _ + (700000 + (2663816 - ph)) ≤ 700000 + (2663816 - ph); omega⟩ (fun rv d2 lo2 va2 kc ns hp => ?_)
    obtain ⟨⟨v1, rfl, hv1⟩, rfl, rfl, rfl, rfl, rfl⟩ := hp
    show V X D CL A _ _ _ _ _ _ _ (.int v1 :: [])
    exact v_zret hX hE (by first | decide | rfl | exact oneOf_nar | exact blk_nar | exact inl_nar | assumption) d_S_hasLines_94 (by have a := hP.2; have b := hx; show _ ≤ 120 + (2663816 - ph) / 16; omega) (by have a := hP.1; have b := hx; show _ ≤ 700000 + (2663816 - ph); omega) ⟨⟨_, rfl, by first | decide | assumption⟩, rfl, rfl, rfl, rfl, rfl⟩
  · have hk9 : ((tK T i)).toInt = 1 ∨ ((tK T i)).toInt = 2 ∨ ((tK T i)).toInt = 3 ∨ ((tK T i)).toInt = 4 ∨ ((tK T i)).toInt = 5 ∨ ((tK T i)).toInt = 6 := by omega
    rcases hk9 with hk9 | hk9 | hk9 | hk9 | hk9 | hk9
    · refine v_tableIn hX d_S_hasLines_4 (tgt := 44) (by omega) (by omega) (off := 40) (by rw [hk9]; rfl) (by decide) ?_
      refine v_iconst (v := 1) hX d_S_hasLines_44 (by decide) ?_
      exact v_zret hX hE (by first | decide | rfl | exact oneOf_nar | exact blk_nar | exact inl_nar | assumption) d_S_hasLines_45 (by have a := hP.2; have b := hx; show _ ≤ 120 + (2663816 - ph) / 16; omega) (by have a := hP.1; have b := hx; show _ ≤ 700000 + (2663816 - ph); omega) ⟨⟨_, rfl, by first | decide | assumption⟩, rfl, rfl, rfl, rfl, rfl⟩
    · refine v_tableIn hX d_S_hasLines_4 (tgt := 44) (by omega) (by omega) (off := 40) (by rw [hk9]; rfl) (by decide) ?_
      refine v_iconst (v := 1) hX d_S_hasLines_44 (by decide) ?_
      exact v_zret hX hE (by first | decide | rfl | exact oneOf_nar | exact blk_nar | exact inl_nar | assumption) d_S_hasLines_45 (by have a := hP.2; have b := hx; show _ ≤ 120 + (2663816 - ph) / 16; omega) (by have a := hP.1; have b := hx; show _ ≤ 700000 + (2663816 - ph); omega) ⟨⟨_, rfl, by first | decide | assumption⟩, rfl, rfl, rfl, rfl, rfl⟩
    · refine v_tableIn hX d_S_hasLines_4 (tgt := 46) (by omega) (by omega) (off := 42) (by rw [hk9]; rfl) (by decide) ?_
      refine v_aload_n hX d_S_hasLines_46 rfl rfl ?_
      refine v_get hX (1000 + i) (v := .int ((hN.2 i hi).2.2.choose_spec.choose)) inT0 (hN.2 i hi).1 (hN.2 i hi).2.1 (hN.2 i hi).2.2.choose_spec.choose_spec.choose_spec.choose_spec rfl 5 (by decide) fl_S_86 rfl rfl d_S_hasLines_47 ?_
      refine v_aload_n hX d_S_hasLines_50 rfl rfl ?_
      refine v_get hX (1000 + i) (v := .int ((hN.2 i hi).2.2.choose)) inT0 (hN.2 i hi).1 (hN.2 i hi).2.1 (hN.2 i hi).2.2.choose_spec.choose_spec.choose_spec.choose_spec rfl 4 (by decide) fl_S_83 rfl rfl d_S_hasLines_51 ?_
      refine v_icmp_le hX d_S_hasLines_54 (tgt := 61) (by decide) (fun c54 => ?_) (fun c54 => ?_)
      · refine v_iconst (v := 0) hX d_S_hasLines_61 (by decide) ?_
        exact v_zret hX hE (by first | decide | rfl | exact oneOf_nar | exact blk_nar | exact inl_nar | assumption) d_S_hasLines_62 (by have a := hP.2; have b := hx; show _ ≤ 120 + (2663816 - ph) / 16; omega) (by have a := hP.1; have b := hx; show _ ≤ 700000 + (2663816 - ph); omega) ⟨⟨_, rfl, by first | decide | assumption⟩, rfl, rfl, rfl, rfl, rfl⟩
      · refine v_iconst (v := 1) hX d_S_hasLines_57 (by decide) ?_
        refine v_goto hX d_S_hasLines_58 (tgt := 62) (by decide) ?_
        exact v_zret hX hE (by first | decide | rfl | exact oneOf_nar | exact blk_nar | exact inl_nar | assumption) d_S_hasLines_62 (by have a := hP.2; have b := hx; show _ ≤ 120 + (2663816 - ph) / 16; omega) (by have a := hP.1; have b := hx; show _ ≤ 700000 + (2663816 - ph); omega) ⟨⟨_, rfl, by first | decide | assumption⟩, rfl, rfl, rfl, rfl, rfl⟩
    · refine v_tableIn hX d_S_hasLines_4 (tgt := 63) (by omega) (by omega) (off := 59) (by rw [hk9]; rfl) (by decide) ?_
      refine v_aload_n hX d_S_hasLines_63 rfl rfl ?_
      refine v_aload_n hX d_S_hasLines_64 rfl rfl ?_
      refine c_V hX 2 (rest := []) hl (c_S_holdsLines hS hN hT k H hi hd) ml_S_167 im_S_holdsLines se_S_holdsLines in_S cd_S_holdsLines rfl q_S_holdsLines ⟨by show 20 * (5 + 2 * k) + 20 + 1 ≤ 20 * (4 + 2 * (k + 1)) + 20; omega, by show 8 + (3 + 11) + (300 * (5 + 2 * k) + 600) ≤ 300 * (4 + 2 * (k + 1)) + 600; omega⟩ hS.set.1 hS.set.2.1 hS.set.2.2 rfl rfl rfl rfl (Nat.le_of_ble_eq_true rfl) d_S_hasLines_65 ⟨by have a := hP.2; have b := hx; show _ + (120 + (2663816 - ph) / 16) ≤ 120 + (2663816 - ph) / 16; omega, by have a := hP.1; have b := hx; show _ + (700000 + (2663816 - ph)) ≤ 700000 + (2663816 - ph); omega⟩ (fun rv d2 lo2 va2 kc ns hp => ?_)
      obtain ⟨⟨v2, rfl, hv2⟩, rfl, rfl, rfl, rfl, rfl⟩ := hp
      show V X D CL A _ _ _ _ _ _ _ (.int v2 :: [])
      exact v_zret hX hE (by first | decide | rfl | exact oneOf_nar | exact blk_nar | exact inl_nar | assumption) d_S_hasLines_68 (by have a := hP.2; have b := hx; show _ ≤ 120 + (2663816 - ph) / 16; omega) (by have a := hP.1; have b := hx; show _ ≤ 700000 + (2663816 - ph); omega) ⟨⟨_, rfl, by first | decide | assumption⟩, rfl, rfl, rfl, rfl, rfl⟩
    · refine v_tableIn hX d_S_hasLines_4 (tgt := 69) (by omega) (by omega) (off := 65) (by rw [hk9]; rfl) (by decide) ?_
      refine v_aload_n hX d_S_hasLines_69 rfl rfl ?_
      refine v_get hX (1000 + i) (v := orf ob (tF T i)) inT0 (hN.2 i hi).1 (hN.2 i hi).2.1 (hN.2 i hi).2.2.choose_spec.choose_spec.choose_spec.choose_spec rfl 7 (by decide) fl_S_51 rfl rfl d_S_hasLines_70 ?_
      rcases hq3 : (tF T i) with _ | j3
      · refine v_ifnull hX none d_S_hasLines_73 (tgt := 80) (by decide) (fun _ => ?_) (fun _ h => nomatch h)
        refine v_iconst (v := 0) hX d_S_hasLines_80 (by decide) ?_
        exact v_zret hX hE (by first | decide | rfl | exact oneOf_nar | exact blk_nar | exact inl_nar | assumption) d_S_hasLines_81 (by have a := hP.2; have b := hx; show _ ≤ 120 + (2663816 - ph) / 16; omega) (by have a := hP.1; have b := hx; show _ ≤ 700000 + (2663816 - ph); omega) ⟨⟨_, rfl, by first | decide | assumption⟩, rfl, rfl, rfl, rfl, rfl⟩
      · have ht_j3 := hT.2.1 i j3 hi hq3
        refine v_ifnull hX (some (ob (1000 + j3))) d_S_hasLines_73 (tgt := 80) (by decide) (fun h => nomatch h) (fun _ _ => ?_)
        refine v_iconst (v := 1) hX d_S_hasLines_76 (by decide) ?_
        refine v_goto hX d_S_hasLines_77 (tgt := 81) (by decide) ?_
        exact v_zret hX hE (by first | decide | rfl | exact oneOf_nar | exact blk_nar | exact inl_nar | assumption) d_S_hasLines_81 (by have a := hP.2; have b := hx; show _ ≤ 120 + (2663816 - ph) / 16; omega) (by have a := hP.1; have b := hx; show _ ≤ 700000 + (2663816 - ph); omega) ⟨⟨_, rfl, by first | decide | assumption⟩, rfl, rfl, rfl, rfl, rfl⟩
    · refine v_tableIn hX d_S_hasLines_4 (tgt := 69) (by omega) (by omega) (off := 65) (by rw [hk9]; rfl) (by decide) ?_
      refine v_aload_n hX d_S_hasLines_69 rfl rfl ?_
      refine v_get hX (1000 + i) (v := orf ob (tF T i)) inT0 (hN.2 i hi).1 (hN.2 i hi).2.1 (hN.2 i hi).2.2.choose_spec.choose_spec.choose_spec.choose_spec rfl 7 (by decide) fl_S_51 rfl rfl d_S_hasLines_70 ?_
      rcases hq4 : (tF T i) with _ | j4
      · refine v_ifnull hX none d_S_hasLines_73 (tgt := 80) (by decide) (fun _ => ?_) (fun _ h => nomatch h)
        refine v_iconst (v := 0) hX d_S_hasLines_80 (by decide) ?_
        exact v_zret hX hE (by first | decide | rfl | exact oneOf_nar | exact blk_nar | exact inl_nar | assumption) d_S_hasLines_81 (by have a := hP.2; have b := hx; show _ ≤ 120 + (2663816 - ph) / 16; omega) (by have a := hP.1; have b := hx; show _ ≤ 700000 + (2663816 - ph); omega) ⟨⟨_, rfl, by first | decide | assumption⟩, rfl, rfl, rfl, rfl, rfl⟩
      · have ht_j4 := hT.2.1 i j4 hi hq4
        refine v_ifnull hX (some (ob (1000 + j4))) d_S_hasLines_73 (tgt := 80) (by decide) (fun h => nomatch h) (fun _ _ => ?_)
        refine v_iconst (v := 1) hX d_S_hasLines_76 (by decide) ?_
        refine v_goto hX d_S_hasLines_77 (tgt := 81) (by decide) ?_
        exact v_zret hX hE (by first | decide | rfl | exact oneOf_nar | exact blk_nar | exact inl_nar | assumption) d_S_hasLines_81 (by have a := hP.2; have b := hx; show _ ≤ 120 + (2663816 - ph) / 16; omega) (by have a := hP.1; have b := hx; show _ ≤ 700000 + (2663816 - ph); omega) ⟨⟨_, rfl, by first | decide | assumption⟩, rfl, rfl, rfl, rfl, rfl⟩
theorem c_S_hasLines {l : Launch} {D : va_G} {A : Nat → Prop} {cI cB cZ cJ cN : ClassId} {ob : Nat → Nat} {td w c a al nl pf tl ph : Nat} {dom : Nat → Prop} {loc : Nat → Nat} {val : Nat → va_E} (hS : LayS cI ob td w c a al nl pf tl ph dom loc val) {T : TR} {n : Nat} (hN : NodesI ob T n dom loc val) (hT : TreeI T n) : ∀ (k i j : Nat), i < n → j < n → 13 ≤ tD T i + k → kM l y_S_hasLines (Cond.code y_S_hasLines b_S_hasLines 3 (some FieldType.boolean) :: TT) (rmP (4 + 2 * k) ph) D CL (TY cI cB cZ cJ cN) A [.ref (ob 2), .ref (ob (1000 + i)), .ref (ob (1000 + j))] dom loc val (fun rv d lo va kc ns => (∃ v, rv = some (.int v) ∧ narrow .boolean (.int v) = .int v) ∧ dom = d ∧ loc = lo ∧ val = va ∧ kc = 0 ∧ ns = 0) := by
  intro k
  induction k with
  | zero => intro i j hi hj hd; have := (hT.2.2 i hi).2; omega
  | succ k ih => intro i j hi hj hd; exact c_S_hasLines1 hS hN hT k ih hi hj hd
