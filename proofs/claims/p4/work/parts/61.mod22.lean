set_option maxHeartbeats 4000000 in
set_option maxRecDepth 100000 in
theorem c_M_endNode {l : Launch} {D : va_G} {A : Nat → Prop} {cI cB cZ cJ cN : ClassId} {ob : Nat → Nat} {C : CT} {T : TS} {O : OS} {dom : Nat → Prop} {loc : Nat → Nat} {val : Nat → va_E} (hM : ModI cI cB cZ ob C T O dom loc val) (hO : OI O) {x : Nat} (hx : x < ttN T) (hT : TrI T) (hS : SI T x C) (hwm : zWm C ≤ 4000) (hb : zCnt C < 30000000) (hc : ooCt O = 0 → zCnt (en T x C) ≤ 1501) : kM l y_M_endNode (Cond.code y_M_endNode b_M_endNode 3 none :: TT) (rmM 8) D CL (TY cI cB cZ cJ cN) A [.ref (ob 48), .int (nI x)] dom loc val (PMo cI cB cZ ob T O dom loc val (fun rv C2 O2 => rv = none ∧ en T x C = C2)) := by
  refine kM_of (lv0 := [some (.ref (ob 48)), some (.int (nI x)), none]) (own := "ProsePagesModel") (by decide) rfl (List.forall_mem_cons.mpr ⟨rfl, List.forall_mem_cons.mpr ⟨rfl, fun _ h => nomatch h⟩⟩) (Nat.le_of_ble_eq_true rfl) rfl (Nat.le_of_ble_eq_true rfl) (fun X hl hX hE hin0 => ?_)
  have hTn := hT.1
  have hcc := hT.hc x hx
  obtain ⟨s1, s2, s3, s4, s5, s6⟩ := hS
  have h1 : 1 ≤ zHo C := by omega
  have h13 : zHo C ≤ 13 := by omega
  have hkin := hT.kin hx
  simp only [KS1, List.mem_cons, List.not_mem_nil, or_false] at hkin
  rcases hkin with e | e | e | e | e | e | e | e | e | e | e | e
  · have qk : en T x C = el C := en_el (by rw [e]; decide) C
    have ho := s4 (Or.inl e)
    obtain ⟨g1, g2, g3⟩ := s3 ho
    obtain ⟨l1, l2, l3, l4, l5, l6, l7, l8, l9, l0⟩ := el_ok C (by omega) g3 (by omega) h13
    have hLL := l0 s6 (by omega)
    refine v_aload_n hX d_M_endNode_0 rfl rfl ?_
    refine v_mget hX hM 1 (v := .ref (ob 49)) (by decide) fl_M_7 rfl rfl d_M_endNode_1 ?_
    refine v_iload_n hX d_M_endNode_4 rfl rfl ?_
    refine v_mild hX hM 0 (i := x) (v := 0) ga_kind (by omega) (by decide) e d_M_endNode_5 ?_
    refine v_istore_n (lv' := [some (.ref (ob 48)), some (.int (nI x)), some (.int 0)]) hX d_M_endNode_6 rfl (Nat.le_of_ble_eq_true rfl) rfl ?_
    refine v_iload_n hX d_M_endNode_7 rfl rfl ?_
    refine v_if_eq hX d_M_endNode_8 (tgt := 16) (by decide) (fun _ => ?_) (fun c => absurd (by decide) c)
    refine v_aload_n hX d_M_endNode_16 rfl rfl ?_
    refine c_V hX 48 (rest := []) hl (c_M_endLeaf hM hO (by omega) ⟨by omega, by omega⟩ (by omega) (by omega) (fun z => by have q1 := hc (rfl.symm.trans z); rw [qk] at q1; exact q1)) ml_M_210 im_M_endLeaf se_M_endLeaf in_M cd_M_endLeaf rfl q_M_endLeaf ⟨(Nat.le_of_ble_eq_true rfl), (Nat.le_of_ble_eq_true rfl)⟩ hM.1.1 hM.1.2.1 hM.1.2.2 rfl rfl rfl rfl (Nat.le_of_ble_eq_true rfl) d_M_endNode_17 ⟨(Nat.le_of_ble_eq_true rfl), (Nat.le_of_ble_eq_true rfl)⟩ (fun rv d2 lo2 va1 kc ns hp => ?_)
    obtain ⟨rfl, rfl, rfl, rfl, C1, o1, ⟨rfl, hC1⟩, hM1, hO1, hf1⟩ := hp
    show V X D CL A _ _ _ _ _ _ _ []
    refine v_iload_n hX d_M_endNode_20 rfl rfl ?_
    refine v_iconst (v := 1) hX d_M_endNode_21 (by decide) ?_
    refine v_icmp_ne hX d_M_endNode_22 (tgt := 57) (by decide) (fun _ => ?_) (fun c => absurd c (by decide))
    refine v_iload_n hX d_M_endNode_57 rfl rfl ?_
    refine v_bipush (v := 7) hX d_M_endNode_58 (by decide) ?_
    refine v_icmp_ne hX d_M_endNode_60 (tgt := 103) (by decide) (fun _ => ?_) (fun c => absurd c (by decide))
    refine v_iload_n hX d_M_endNode_103 rfl rfl ?_
    refine v_bipush (v := 11) hX d_M_endNode_104 (by decide) ?_
    refine v_icmp_eq hX d_M_endNode_106 (tgt := 120) (by decide) (fun c => absurd c (by decide)) (fun _ => ?_)
    refine v_iload_n hX d_M_endNode_109 rfl rfl ?_
    refine v_iconst (v := 4) hX d_M_endNode_110 (by decide) ?_
    refine v_icmp_lt hX d_M_endNode_111 (tgt := 130) (by decide) (fun _ => ?_) (fun c => absurd (by decide) c)
    exact v_vret hX hE d_M_endNode_130 (Nat.le_of_ble_eq_true rfl) (Nat.le_of_ble_eq_true rfl) ⟨rfl, rfl, rfl, rfl, C1, o1, ⟨rfl, qk.trans hC1⟩, hM1, ⟨hO1.1, (hO1.2.trans rfl)⟩, (frM.rf.trans hf1)⟩
  · have qk : en T x C = el C := en_el (by rw [e]; decide) C
    have ho := s4 (Or.inr (Or.inl e))
    obtain ⟨g1, g2, g3⟩ := s3 ho
    obtain ⟨l1, l2, l3, l4, l5, l6, l7, l8, l9, l0⟩ := el_ok C (by omega) g3 (by omega) h13
    have hLL := l0 s6 (by omega)
    refine v_aload_n hX d_M_endNode_0 rfl rfl ?_
    refine v_mget hX hM 1 (v := .ref (ob 49)) (by decide) fl_M_7 rfl rfl d_M_endNode_1 ?_
    refine v_iload_n hX d_M_endNode_4 rfl rfl ?_
    refine v_mild hX hM 0 (i := x) (v := 1) ga_kind (by omega) (by decide) e d_M_endNode_5 ?_
    refine v_istore_n (lv' := [some (.ref (ob 48)), some (.int (nI x)), some (.int 1)]) hX d_M_endNode_6 rfl (Nat.le_of_ble_eq_true rfl) rfl ?_
    refine v_iload_n hX d_M_endNode_7 rfl rfl ?_
    refine v_if_eq hX d_M_endNode_8 (tgt := 16) (by decide) (fun c => absurd c (by decide)) (fun _ => ?_)
    refine v_iload_n hX d_M_endNode_11 rfl rfl ?_
    refine v_iconst (v := 1) hX d_M_endNode_12 (by decide) ?_
    refine v_icmp_ne hX d_M_endNode_13 (tgt := 57) (by decide) (fun c => absurd (by decide) c) (fun _ => ?_)
    refine v_aload_n hX d_M_endNode_16 rfl rfl ?_
    refine c_V hX 48 (rest := []) hl (c_M_endLeaf hM hO (by omega) ⟨by omega, by omega⟩ (by omega) (by omega) (fun z => by have q1 := hc (rfl.symm.trans z); rw [qk] at q1; exact q1)) ml_M_210 im_M_endLeaf se_M_endLeaf in_M cd_M_endLeaf rfl q_M_endLeaf ⟨(Nat.le_of_ble_eq_true rfl), (Nat.le_of_ble_eq_true rfl)⟩ hM.1.1 hM.1.2.1 hM.1.2.2 rfl rfl rfl rfl (Nat.le_of_ble_eq_true rfl) d_M_endNode_17 ⟨(Nat.le_of_ble_eq_true rfl), (Nat.le_of_ble_eq_true rfl)⟩ (fun rv d2 lo2 va2 kc ns hp => ?_)
    obtain ⟨rfl, rfl, rfl, rfl, C2, o2, ⟨rfl, hC2⟩, hM2, hO2, hf2⟩ := hp
    show V X D CL A _ _ _ _ _ _ _ []
    refine v_iload_n hX d_M_endNode_20 rfl rfl ?_
    refine v_iconst (v := 1) hX d_M_endNode_21 (by decide) ?_
    refine v_icmp_ne hX d_M_endNode_22 (tgt := 57) (by decide) (fun c => absurd (by decide) c) (fun _ => ?_)
    refine v_aload_n hX d_M_endNode_25 rfl rfl ?_
    refine v_mget hX hM2 44 (v := .int (ooCt o2)) (by decide) fl_M_162 rfl gf_counts d_M_endNode_26 ?_
    refine v_if_ne hX d_M_endNode_29 (tgt := 57) (by decide) (fun c29 => ?_) (fun c29 => ?_)
    · refine v_iload_n hX d_M_endNode_57 rfl rfl ?_
      refine v_bipush (v := 7) hX d_M_endNode_58 (by decide) ?_
      refine v_icmp_ne hX d_M_endNode_60 (tgt := 103) (by decide) (fun _ => ?_) (fun c => absurd c (by decide))
      refine v_iload_n hX d_M_endNode_103 rfl rfl ?_
      refine v_bipush (v := 11) hX d_M_endNode_104 (by decide) ?_
      refine v_icmp_eq hX d_M_endNode_106 (tgt := 120) (by decide) (fun c => absurd c (by decide)) (fun _ => ?_)
      refine v_iload_n hX d_M_endNode_109 rfl rfl ?_
      refine v_iconst (v := 4) hX d_M_endNode_110 (by decide) ?_
      refine v_icmp_lt hX d_M_endNode_111 (tgt := 130) (by decide) (fun _ => ?_) (fun c => absurd (by decide) c)
      exact v_vret hX hE d_M_endNode_130 (Nat.le_of_ble_eq_true rfl) (Nat.le_of_ble_eq_true rfl) ⟨rfl, rfl, rfl, rfl, C2, o2, ⟨rfl, qk.trans hC2⟩, hM2, ⟨hO2.1, (hO2.2.trans rfl)⟩, (frM.rf.trans hf2)⟩
    · rw [hC2] at qk hLL
      have hce : zCnt C2 ≤ 1501 := by have q1 := hc ((hO2.2.trans rfl).symm.trans c29); rw [qk] at q1; exact q1
      refine v_aload_n hX d_M_endNode_32 rfl rfl ?_
      refine v_mget hX hM2 42 (v := .int (zLl C2)) (by decide) fl_M_176 rfl gf_leafLine d_M_endNode_33 ?_
      refine v_if_lt hX d_M_endNode_36 (tgt := 57) (by decide) (fun c36 => ?_) (fun c36 => ?_)
      · refine v_iload_n hX d_M_endNode_57 rfl rfl ?_
        refine v_bipush (v := 7) hX d_M_endNode_58 (by decide) ?_
        refine v_icmp_ne hX d_M_endNode_60 (tgt := 103) (by decide) (fun _ => ?_) (fun c => absurd c (by decide))
        refine v_iload_n hX d_M_endNode_103 rfl rfl ?_
        refine v_bipush (v := 11) hX d_M_endNode_104 (by decide) ?_
        refine v_icmp_eq hX d_M_endNode_106 (tgt := 120) (by decide) (fun c => absurd c (by decide)) (fun _ => ?_)
        refine v_iload_n hX d_M_endNode_109 rfl rfl ?_
        refine v_iconst (v := 4) hX d_M_endNode_110 (by decide) ?_
        refine v_icmp_lt hX d_M_endNode_111 (tgt := 130) (by decide) (fun _ => ?_) (fun c => absurd (by decide) c)
        exact v_vret hX hE d_M_endNode_130 (Nat.le_of_ble_eq_true rfl) (Nat.le_of_ble_eq_true rfl) ⟨rfl, rfl, rfl, rfl, C2, o2, ⟨rfl, qk⟩, hM2, ⟨hO2.1, (hO2.2.trans rfl)⟩, (frM.rf.trans hf2)⟩
      · obtain ⟨jl, hjl, hjl2⟩ := ll_nat hLL c36
        refine v_aload_n hX d_M_endNode_39 rfl rfl ?_
        refine v_mget hX hM2 13 (v := .ref (ob 58)) (by decide) fl_M_38 rfl rfl d_M_endNode_40 ?_
        refine v_aload_n hX d_M_endNode_43 rfl rfl ?_
        refine v_mget hX hM2 42 (v := .int (nI jl)) (by decide) fl_M_176 rfl (gf_leafLine.trans (congrArg (fun z => some (Value.int z)) hjl)) d_M_endNode_44 ?_
        refine v_aload_n hX d_M_endNode_47 rfl rfl ?_
        refine v_mget hX hM2 23 (v := .int (nI (zCnt C2))) (by decide) fl_M_159 rfl gf_counted d_M_endNode_48 ?_
        refine v_aload_n hX d_M_endNode_51 rfl rfl ?_
        refine v_mget hX hM2 42 (v := .int (nI jl)) (by decide) fl_M_176 rfl (gf_leafLine.trans (congrArg (fun z => some (Value.int z)) hjl)) d_M_endNode_52 ?_
        refine v_isubE (v := nI ((zCnt C2) - jl)) hX d_M_endNode_55 (nI_sub (a := (zCnt C2)) (b := jl) (by omega)) ?_
        refine v_mist hX hM2 9 C2 T (soHe o2 (upd (ooHe o2) jl (nI ((zCnt C2) - jl)))) (i := jl) (by decide) ga_head (by omega) (by decide) qf_head qa_head d_M_endNode_56 (fun va3 hM3 hf3 => ?_)
        refine v_iload_n hX d_M_endNode_57 rfl rfl ?_
        refine v_bipush (v := 7) hX d_M_endNode_58 (by decide) ?_
        refine v_icmp_ne hX d_M_endNode_60 (tgt := 103) (by decide) (fun _ => ?_) (fun c => absurd c (by decide))
        refine v_iload_n hX d_M_endNode_103 rfl rfl ?_
        refine v_bipush (v := 11) hX d_M_endNode_104 (by decide) ?_
        refine v_icmp_eq hX d_M_endNode_106 (tgt := 120) (by decide) (fun c => absurd c (by decide)) (fun _ => ?_)
        refine v_iload_n hX d_M_endNode_109 rfl rfl ?_
        refine v_iconst (v := 4) hX d_M_endNode_110 (by decide) ?_
        refine v_icmp_lt hX d_M_endNode_111 (tgt := 130) (by decide) (fun _ => ?_) (fun c => absurd (by decide) c)
        exact v_vret hX hE d_M_endNode_130 (Nat.le_of_ble_eq_true rfl) (Nat.le_of_ble_eq_true rfl) ⟨rfl, rfl, rfl, rfl, C2, (soHe o2 (upd (ooHe o2) jl (nI ((zCnt C2) - jl)))), ⟨rfl, qk⟩, hM3, ⟨⟨hO2.1.1, (OI_he hO2.1.2.1 (show (nI (zCnt C2 - jl)).toInt ≤ 3000 by rw [nI_toInt (by omega)]; omega)), hO2.1.2.2.1, hO2.1.2.2.2.1, (by have q9 := hO2.1.2.2.2.2; first | exact q9 | omega | (show (ooSm o2) ≤ 4300; omega))⟩, (hO2.2.trans rfl)⟩, ((frM.rf.trans hf2).trans hf3)⟩
  · have qk : en T x C = C := en_no (by rw [e]; decide) C
    refine v_aload_n hX d_M_endNode_0 rfl rfl ?_
    refine v_mget hX hM 1 (v := .ref (ob 49)) (by decide) fl_M_7 rfl rfl d_M_endNode_1 ?_
    refine v_iload_n hX d_M_endNode_4 rfl rfl ?_
    refine v_mild hX hM 0 (i := x) (v := 2) ga_kind (by omega) (by decide) e d_M_endNode_5 ?_
    refine v_istore_n (lv' := [some (.ref (ob 48)), some (.int (nI x)), some (.int 2)]) hX d_M_endNode_6 rfl (Nat.le_of_ble_eq_true rfl) rfl ?_
    refine v_iload_n hX d_M_endNode_7 rfl rfl ?_
    refine v_if_eq hX d_M_endNode_8 (tgt := 16) (by decide) (fun c => absurd c (by decide)) (fun _ => ?_)
    refine v_iload_n hX d_M_endNode_11 rfl rfl ?_
    refine v_iconst (v := 1) hX d_M_endNode_12 (by decide) ?_
    refine v_icmp_ne hX d_M_endNode_13 (tgt := 57) (by decide) (fun _ => ?_) (fun c => absurd c (by decide))
    refine v_iload_n hX d_M_endNode_57 rfl rfl ?_
    refine v_bipush (v := 7) hX d_M_endNode_58 (by decide) ?_
    refine v_icmp_ne hX d_M_endNode_60 (tgt := 103) (by decide) (fun _ => ?_) (fun c => absurd c (by decide))
    refine v_iload_n hX d_M_endNode_103 rfl rfl ?_
    refine v_bipush (v := 11) hX d_M_endNode_104 (by decide) ?_
    refine v_icmp_eq hX d_M_endNode_106 (tgt := 120) (by decide) (fun c => absurd c (by decide)) (fun _ => ?_)
    refine v_iload_n hX d_M_endNode_109 rfl rfl ?_
    refine v_iconst (v := 4) hX d_M_endNode_110 (by decide) ?_
    refine v_icmp_lt hX d_M_endNode_111 (tgt := 130) (by decide) (fun _ => ?_) (fun c => absurd (by decide) c)
    exact v_vret hX hE d_M_endNode_130 (Nat.le_of_ble_eq_true rfl) (Nat.le_of_ble_eq_true rfl) ⟨rfl, rfl, rfl, rfl, C, O, ⟨rfl, qk⟩, hM, ⟨hO, rfl⟩, frM.rf⟩
  · have qk : en T x C = C := en_no (by rw [e]; decide) C
    refine v_aload_n hX d_M_endNode_0 rfl rfl ?_
    refine v_mget hX hM 1 (v := .ref (ob 49)) (by decide) fl_M_7 rfl rfl d_M_endNode_1 ?_
    refine v_iload_n hX d_M_endNode_4 rfl rfl ?_
    refine v_mild hX hM 0 (i := x) (v := 3) ga_kind (by omega) (by decide) e d_M_endNode_5 ?_
    refine v_istore_n (lv' := [some (.ref (ob 48)), some (.int (nI x)), some (.int 3)]) hX d_M_endNode_6 rfl (Nat.le_of_ble_eq_true rfl) rfl ?_
    refine v_iload_n hX d_M_endNode_7 rfl rfl ?_
    refine v_if_eq hX d_M_endNode_8 (tgt := 16) (by decide) (fun c => absurd c (by decide)) (fun _ => ?_)
    refine v_iload_n hX d_M_endNode_11 rfl rfl ?_
    refine v_iconst (v := 1) hX d_M_endNode_12 (by decide) ?_
    refine v_icmp_ne hX d_M_endNode_13 (tgt := 57) (by decide) (fun _ => ?_) (fun c => absurd c (by decide))
    refine v_iload_n hX d_M_endNode_57 rfl rfl ?_
    refine v_bipush (v := 7) hX d_M_endNode_58 (by decide) ?_
    refine v_icmp_ne hX d_M_endNode_60 (tgt := 103) (by decide) (fun _ => ?_) (fun c => absurd c (by decide))
    refine v_iload_n hX d_M_endNode_103 rfl rfl ?_
    refine v_bipush (v := 11) hX d_M_endNode_104 (by decide) ?_
    refine v_icmp_eq hX d_M_endNode_106 (tgt := 120) (by decide) (fun c => absurd c (by decide)) (fun _ => ?_)
    refine v_iload_n hX d_M_endNode_109 rfl rfl ?_
    refine v_iconst (v := 4) hX d_M_endNode_110 (by decide) ?_
    refine v_icmp_lt hX d_M_endNode_111 (tgt := 130) (by decide) (fun _ => ?_) (fun c => absurd (by decide) c)
    exact v_vret hX hE d_M_endNode_130 (Nat.le_of_ble_eq_true rfl) (Nat.le_of_ble_eq_true rfl) ⟨rfl, rfl, rfl, rfl, C, O, ⟨rfl, qk⟩, hM, ⟨hO, rfl⟩, frM.rf⟩
  · have qk : en T x C = szHo C (zHo C - 1) := en_ho (by rw [e]; decide) C
    refine v_aload_n hX d_M_endNode_0 rfl rfl ?_
    refine v_mget hX hM 1 (v := .ref (ob 49)) (by decide) fl_M_7 rfl rfl d_M_endNode_1 ?_
    refine v_iload_n hX d_M_endNode_4 rfl rfl ?_
    refine v_mild hX hM 0 (i := x) (v := 4) ga_kind (by omega) (by decide) e d_M_endNode_5 ?_
    refine v_istore_n (lv' := [some (.ref (ob 48)), some (.int (nI x)), some (.int 4)]) hX d_M_endNode_6 rfl (Nat.le_of_ble_eq_true rfl) rfl ?_
    refine v_iload_n hX d_M_endNode_7 rfl rfl ?_
    refine v_if_eq hX d_M_endNode_8 (tgt := 16) (by decide) (fun c => absurd c (by decide)) (fun _ => ?_)
    refine v_iload_n hX d_M_endNode_11 rfl rfl ?_
    refine v_iconst (v := 1) hX d_M_endNode_12 (by decide) ?_
    refine v_icmp_ne hX d_M_endNode_13 (tgt := 57) (by decide) (fun _ => ?_) (fun c => absurd c (by decide))
    refine v_iload_n hX d_M_endNode_57 rfl rfl ?_
    refine v_bipush (v := 7) hX d_M_endNode_58 (by decide) ?_
    refine v_icmp_ne hX d_M_endNode_60 (tgt := 103) (by decide) (fun _ => ?_) (fun c => absurd c (by decide))
    refine v_iload_n hX d_M_endNode_103 rfl rfl ?_
    refine v_bipush (v := 11) hX d_M_endNode_104 (by decide) ?_
    refine v_icmp_eq hX d_M_endNode_106 (tgt := 120) (by decide) (fun c => absurd c (by decide)) (fun _ => ?_)
    refine v_iload_n hX d_M_endNode_109 rfl rfl ?_
    refine v_iconst (v := 4) hX d_M_endNode_110 (by decide) ?_
    refine v_icmp_lt hX d_M_endNode_111 (tgt := 130) (by decide) (fun c => absurd c (by decide)) (fun _ => ?_)
    refine v_iload_n hX d_M_endNode_114 rfl rfl ?_
    refine v_bipush (v := 7) hX d_M_endNode_115 (by decide) ?_
    refine v_icmp_gt hX d_M_endNode_117 (tgt := 130) (by decide) (fun c => absurd c (by decide)) (fun _ => ?_)
    refine v_aload_n hX d_M_endNode_120 rfl rfl ?_
    refine v_dup hX d_M_endNode_121 rfl ?_
    refine v_mget hX hM 34 (v := .int (nI (zHo C))) (by decide) fl_M_166 rfl gf_holders d_M_endNode_122 ?_
    refine v_iconst (v := 1) hX d_M_endNode_125 (by decide) ?_
    refine v_isubE (v := nI ((zHo C) - 1)) hX d_M_endNode_126 (nI_sub (a := (zHo C)) (b := 1) (by omega)) ?_
    refine v_mput hX hM 34 (szHo C ((zHo C) - 1)) T O (by decide) fl_M_166 rfl rfl rfl rfl pf_holders pa_holders d_M_endNode_127 (fun va4 hM4 hf4 => ?_)
    exact v_vret hX hE d_M_endNode_130 (Nat.le_of_ble_eq_true rfl) (Nat.le_of_ble_eq_true rfl) ⟨rfl, rfl, rfl, rfl, (szHo C ((zHo C) - 1)), O, ⟨rfl, qk⟩, hM4, ⟨hO, rfl⟩, (frM.rf.trans hf4)⟩
  · have qk : en T x C = szHo C (zHo C - 1) := en_ho (by rw [e]; decide) C
    refine v_aload_n hX d_M_endNode_0 rfl rfl ?_
    refine v_mget hX hM 1 (v := .ref (ob 49)) (by decide) fl_M_7 rfl rfl d_M_endNode_1 ?_
    refine v_iload_n hX d_M_endNode_4 rfl rfl ?_
    refine v_mild hX hM 0 (i := x) (v := 5) ga_kind (by omega) (by decide) e d_M_endNode_5 ?_
    refine v_istore_n (lv' := [some (.ref (ob 48)), some (.int (nI x)), some (.int 5)]) hX d_M_endNode_6 rfl (Nat.le_of_ble_eq_true rfl) rfl ?_
    refine v_iload_n hX d_M_endNode_7 rfl rfl ?_
    refine v_if_eq hX d_M_endNode_8 (tgt := 16) (by decide) (fun c => absurd c (by decide)) (fun _ => ?_)
    refine v_iload_n hX d_M_endNode_11 rfl rfl ?_
    refine v_iconst (v := 1) hX d_M_endNode_12 (by decide) ?_
    refine v_icmp_ne hX d_M_endNode_13 (tgt := 57) (by decide) (fun _ => ?_) (fun c => absurd c (by decide))
    refine v_iload_n hX d_M_endNode_57 rfl rfl ?_
    refine v_bipush (v := 7) hX d_M_endNode_58 (by decide) ?_
    refine v_icmp_ne hX d_M_endNode_60 (tgt := 103) (by decide) (fun _ => ?_) (fun c => absurd c (by decide))
    refine v_iload_n hX d_M_endNode_103 rfl rfl ?_
    refine v_bipush (v := 11) hX d_M_endNode_104 (by decide) ?_
    refine v_icmp_eq hX d_M_endNode_106 (tgt := 120) (by decide) (fun c => absurd c (by decide)) (fun _ => ?_)
    refine v_iload_n hX d_M_endNode_109 rfl rfl ?_
    refine v_iconst (v := 4) hX d_M_endNode_110 (by decide) ?_
    refine v_icmp_lt hX d_M_endNode_111 (tgt := 130) (by decide) (fun c => absurd c (by decide)) (fun _ => ?_)
    refine v_iload_n hX d_M_endNode_114 rfl rfl ?_
    refine v_bipush (v := 7) hX d_M_endNode_115 (by decide) ?_
    refine v_icmp_gt hX d_M_endNode_117 (tgt := 130) (by decide) (fun c => absurd c (by decide)) (fun _ => ?_)
    refine v_aload_n hX d_M_endNode_120 rfl rfl ?_
    refine v_dup hX d_M_endNode_121 rfl ?_
    refine v_mget hX hM 34 (v := .int (nI (zHo C))) (by decide) fl_M_166 rfl gf_holders d_M_endNode_122 ?_
    refine v_iconst (v := 1) hX d_M_endNode_125 (by decide) ?_
    refine v_isubE (v := nI ((zHo C) - 1)) hX d_M_endNode_126 (nI_sub (a := (zHo C)) (b := 1) (by omega)) ?_
    refine v_mput hX hM 34 (szHo C ((zHo C) - 1)) T O (by decide) fl_M_166 rfl rfl rfl rfl pf_holders pa_holders d_M_endNode_127 (fun va5 hM5 hf5 => ?_)
    exact v_vret hX hE d_M_endNode_130 (Nat.le_of_ble_eq_true rfl) (Nat.le_of_ble_eq_true rfl) ⟨rfl, rfl, rfl, rfl, (szHo C ((zHo C) - 1)), O, ⟨rfl, qk⟩, hM5, ⟨hO, rfl⟩, (frM.rf.trans hf5)⟩
  · have qk : en T x C = szHo C (zHo C - 1) := en_ho (by rw [e]; decide) C
    refine v_aload_n hX d_M_endNode_0 rfl rfl ?_
    refine v_mget hX hM 1 (v := .ref (ob 49)) (by decide) fl_M_7 rfl rfl d_M_endNode_1 ?_
    refine v_iload_n hX d_M_endNode_4 rfl rfl ?_
    refine v_mild hX hM 0 (i := x) (v := 6) ga_kind (by omega) (by decide) e d_M_endNode_5 ?_
    refine v_istore_n (lv' := [some (.ref (ob 48)), some (.int (nI x)), some (.int 6)]) hX d_M_endNode_6 rfl (Nat.le_of_ble_eq_true rfl) rfl ?_
    refine v_iload_n hX d_M_endNode_7 rfl rfl ?_
    refine v_if_eq hX d_M_endNode_8 (tgt := 16) (by decide) (fun c => absurd c (by decide)) (fun _ => ?_)
    refine v_iload_n hX d_M_endNode_11 rfl rfl ?_
    refine v_iconst (v := 1) hX d_M_endNode_12 (by decide) ?_
    refine v_icmp_ne hX d_M_endNode_13 (tgt := 57) (by decide) (fun _ => ?_) (fun c => absurd c (by decide))
    refine v_iload_n hX d_M_endNode_57 rfl rfl ?_
    refine v_bipush (v := 7) hX d_M_endNode_58 (by decide) ?_
    refine v_icmp_ne hX d_M_endNode_60 (tgt := 103) (by decide) (fun _ => ?_) (fun c => absurd c (by decide))
    refine v_iload_n hX d_M_endNode_103 rfl rfl ?_
    refine v_bipush (v := 11) hX d_M_endNode_104 (by decide) ?_
    refine v_icmp_eq hX d_M_endNode_106 (tgt := 120) (by decide) (fun c => absurd c (by decide)) (fun _ => ?_)
    refine v_iload_n hX d_M_endNode_109 rfl rfl ?_
    refine v_iconst (v := 4) hX d_M_endNode_110 (by decide) ?_
    refine v_icmp_lt hX d_M_endNode_111 (tgt := 130) (by decide) (fun c => absurd c (by decide)) (fun _ => ?_)
    refine v_iload_n hX d_M_endNode_114 rfl rfl ?_
    refine v_bipush (v := 7) hX d_M_endNode_115 (by decide) ?_
    refine v_icmp_gt hX d_M_endNode_117 (tgt := 130) (by decide) (fun c => absurd c (by decide)) (fun _ => ?_)
    refine v_aload_n hX d_M_endNode_120 rfl rfl ?_
    refine v_dup hX d_M_endNode_121 rfl ?_
    refine v_mget hX hM 34 (v := .int (nI (zHo C))) (by decide) fl_M_166 rfl gf_holders d_M_endNode_122 ?_
    refine v_iconst (v := 1) hX d_M_endNode_125 (by decide) ?_
    refine v_isubE (v := nI ((zHo C) - 1)) hX d_M_endNode_126 (nI_sub (a := (zHo C)) (b := 1) (by omega)) ?_
    refine v_mput hX hM 34 (szHo C ((zHo C) - 1)) T O (by decide) fl_M_166 rfl rfl rfl rfl pf_holders pa_holders d_M_endNode_127 (fun va6 hM6 hf6 => ?_)
    exact v_vret hX hE d_M_endNode_130 (Nat.le_of_ble_eq_true rfl) (Nat.le_of_ble_eq_true rfl) ⟨rfl, rfl, rfl, rfl, (szHo C ((zHo C) - 1)), O, ⟨rfl, qk⟩, hM6, ⟨hO, rfl⟩, (frM.rf.trans hf6)⟩
  · have qk := en7 e C
    refine v_aload_n hX d_M_endNode_0 rfl rfl ?_
    refine v_mget hX hM 1 (v := .ref (ob 49)) (by decide) fl_M_7 rfl rfl d_M_endNode_1 ?_
    refine v_iload_n hX d_M_endNode_4 rfl rfl ?_
    refine v_mild hX hM 0 (i := x) (v := 7) ga_kind (by omega) (by decide) e d_M_endNode_5 ?_
    refine v_istore_n (lv' := [some (.ref (ob 48)), some (.int (nI x)), some (.int 7)]) hX d_M_endNode_6 rfl (Nat.le_of_ble_eq_true rfl) rfl ?_
    refine v_iload_n hX d_M_endNode_7 rfl rfl ?_
    refine v_if_eq hX d_M_endNode_8 (tgt := 16) (by decide) (fun c => absurd c (by decide)) (fun _ => ?_)
    refine v_iload_n hX d_M_endNode_11 rfl rfl ?_
    refine v_iconst (v := 1) hX d_M_endNode_12 (by decide) ?_
    refine v_icmp_ne hX d_M_endNode_13 (tgt := 57) (by decide) (fun _ => ?_) (fun c => absurd c (by decide))
    refine v_iload_n hX d_M_endNode_57 rfl rfl ?_
    refine v_bipush (v := 7) hX d_M_endNode_58 (by decide) ?_
    refine v_icmp_ne hX d_M_endNode_60 (tgt := 103) (by decide) (fun c => absurd (by decide) c) (fun _ => ?_)
    refine v_aload_n hX d_M_endNode_63 rfl rfl ?_
    refine v_mget hX hM 43 (v := .int (zLo C)) (by decide) fl_M_198 rfl gf_leafOpen d_M_endNode_64 ?_
    refine v_if_eq hX d_M_endNode_67 (tgt := 74) (by decide) (fun c67 => ?_) (fun c67 => ?_)
    · have qB : enB 7 C = C := by unfold enB; rw [if_pos rfl, if_pos c67]
      have hb1 : 1 ≤ zHo C := by omega
      have hb13 : zHo C ≤ 13 := by omega
      refine v_aload_n hX d_M_endNode_74 rfl rfl ?_
      refine v_mget hX hM 30 (v := .ref (ob 69)) (by decide) fl_M_73 rfl rfl d_M_endNode_75 ?_
      refine v_aload_n hX d_M_endNode_78 rfl rfl ?_
      refine v_mget hX hM 34 (v := .int (nI (zHo C))) (by decide) fl_M_166 rfl gf_holders d_M_endNode_79 ?_
      refine v_iconst (v := 1) hX d_M_endNode_82 (by decide) ?_
      refine v_isubE (v := nI ((zHo C) - 1)) hX d_M_endNode_83 (nI_sub (a := (zHo C)) (b := 1) (by omega)) ?_
      refine v_mzld hX hM 20 (i := ((zHo C) - 1)) (v := ((zD C) ((zHo C) - 1))) ga_hDue (by omega) (by decide) rfl d_M_endNode_84 ?_
      refine v_if_eq hX d_M_endNode_85 (tgt := 103) (by decide) (fun c85 => ?_) (fun c85 => ?_)
      · refine v_iload_n hX d_M_endNode_103 rfl rfl ?_
        refine v_bipush (v := 11) hX d_M_endNode_104 (by decide) ?_
        refine v_icmp_eq hX d_M_endNode_106 (tgt := 120) (by decide) (fun c => absurd c (by decide)) (fun _ => ?_)
        refine v_iload_n hX d_M_endNode_109 rfl rfl ?_
        refine v_iconst (v := 4) hX d_M_endNode_110 (by decide) ?_
        refine v_icmp_lt hX d_M_endNode_111 (tgt := 130) (by decide) (fun c => absurd c (by decide)) (fun _ => ?_)
        refine v_iload_n hX d_M_endNode_114 rfl rfl ?_
        refine v_bipush (v := 7) hX d_M_endNode_115 (by decide) ?_
        refine v_icmp_gt hX d_M_endNode_117 (tgt := 130) (by decide) (fun c => absurd c (by decide)) (fun _ => ?_)
        refine v_aload_n hX d_M_endNode_120 rfl rfl ?_
        refine v_dup hX d_M_endNode_121 rfl ?_
        refine v_mget hX hM 34 (v := .int (nI (zHo C))) (by decide) fl_M_166 rfl gf_holders d_M_endNode_122 ?_
        refine v_iconst (v := 1) hX d_M_endNode_125 (by decide) ?_
        refine v_isubE (v := nI ((zHo C) - 1)) hX d_M_endNode_126 (nI_sub (a := (zHo C)) (b := 1) (by omega)) ?_
        refine v_mput hX hM 34 (szHo C ((zHo C) - 1)) T O (by decide) fl_M_166 rfl rfl rfl rfl pf_holders pa_holders d_M_endNode_127 (fun va7 hM7 hf7 => ?_)
        exact v_vret hX hE d_M_endNode_130 (Nat.le_of_ble_eq_true rfl) (Nat.le_of_ble_eq_true rfl) ⟨rfl, rfl, rfl, rfl, (szHo C ((zHo C) - 1)), O, ⟨rfl, (by rw [qk, qB]; unfold enC; rw [if_pos rfl, if_pos c85])⟩, hM7, ⟨hO, rfl⟩, (frM.rf.trans hf7)⟩
      · refine v_aload_n hX d_M_endNode_88 rfl rfl ?_
        refine v_iconst (v := (-1)) hX d_M_endNode_89 (by decide) ?_
        refine v_mput hX hM 42 (szLl C (-1)) T O (by decide) fl_M_176 rfl rfl rfl rfl pf_leafLine pa_leafLine d_M_endNode_90 (fun va8 hM8 hf8 => ?_)
        refine v_aload_n hX d_M_endNode_93 rfl rfl ?_
        refine v_aload_n hX d_M_endNode_94 rfl rfl ?_
        refine v_mget hX hM8 35 (v := .ref (ob 73)) (by decide) fl_M_85 rfl rfl d_M_endNode_95 ?_
        refine v_iconst (v := 0) hX d_M_endNode_98 (by decide) ?_
        refine v_iconst (v := 0) hX d_M_endNode_99 (by decide) ?_
        refine c_V hX 48 (rest := []) hl (c_M_giveLine hM8 hO (j := 24) (p := 0) (q := 0) (Or.inl rfl) (by omega) (show zHo C ≤ 13 by omega) (fun z => by have q1 := hc (rfl.symm.trans z); have q4 : zCnt (en T x C) = zCnt (enC 7 (enB 7 C)) := (by rw [qk]); rw [qB] at q4; have q5 : enC 7 C = gl (szLl C (-1)) := (by unfold enC; rw [if_pos rfl, if_neg c85]); rw [q5] at q4; omega)) ml_M_182 im_M_giveLine se_M_giveLine in_M cd_M_giveLine rfl q_M_giveLine ⟨(Nat.le_of_ble_eq_true rfl), (Nat.le_of_ble_eq_true rfl)⟩ hM8.1.1 hM8.1.2.1 hM8.1.2.2 rfl rfl rfl rfl (Nat.le_of_ble_eq_true rfl) d_M_endNode_100 ⟨(Nat.le_of_ble_eq_true rfl), (Nat.le_of_ble_eq_true rfl)⟩ (fun rv d2 lo2 va9 kc ns hp => ?_)
        obtain ⟨rfl, rfl, rfl, rfl, C9, o9, ⟨rfl, hC9⟩, hM9, hO9, hf9⟩ := hp
        show V X D CL A _ _ _ _ _ _ _ []
        have hg9 := (gl_ok (szLl C (-1))).1.1
        rw [hC9] at hg9
        have hh9 : zHo C9 = zHo C := hg9
        refine v_iload_n hX d_M_endNode_103 rfl rfl ?_
        refine v_bipush (v := 11) hX d_M_endNode_104 (by decide) ?_
        refine v_icmp_eq hX d_M_endNode_106 (tgt := 120) (by decide) (fun c => absurd c (by decide)) (fun _ => ?_)
        refine v_iload_n hX d_M_endNode_109 rfl rfl ?_
        refine v_iconst (v := 4) hX d_M_endNode_110 (by decide) ?_
        refine v_icmp_lt hX d_M_endNode_111 (tgt := 130) (by decide) (fun c => absurd c (by decide)) (fun _ => ?_)
        refine v_iload_n hX d_M_endNode_114 rfl rfl ?_
        refine v_bipush (v := 7) hX d_M_endNode_115 (by decide) ?_
        refine v_icmp_gt hX d_M_endNode_117 (tgt := 130) (by decide) (fun c => absurd c (by decide)) (fun _ => ?_)
        refine v_aload_n hX d_M_endNode_120 rfl rfl ?_
        refine v_dup hX d_M_endNode_121 rfl ?_
        refine v_mget hX hM9 34 (v := .int (nI (zHo C9))) (by decide) fl_M_166 rfl gf_holders d_M_endNode_122 ?_
        refine v_iconst (v := 1) hX d_M_endNode_125 (by decide) ?_
        refine v_isubE (v := nI ((zHo C9) - 1)) hX d_M_endNode_126 (nI_sub (a := (zHo C9)) (b := 1) (by omega)) ?_
        refine v_mput hX hM9 34 (szHo C9 ((zHo C9) - 1)) T o9 (by decide) fl_M_166 rfl rfl rfl rfl pf_holders pa_holders d_M_endNode_127 (fun va10 hM10 hf10 => ?_)
        exact v_vret hX hE d_M_endNode_130 (Nat.le_of_ble_eq_true rfl) (Nat.le_of_ble_eq_true rfl) ⟨rfl, rfl, rfl, rfl, (szHo C9 ((zHo C9) - 1)), o9, ⟨rfl, (by rw [qk, qB]; unfold enC; rw [if_pos rfl, if_neg c85, hC9])⟩, hM10, ⟨hO9.1, (hO9.2.trans rfl)⟩, (((frM.rf.trans hf8).trans hf9).trans hf10)⟩
    · obtain ⟨g1, g2, g3⟩ := s3 c67
      obtain ⟨l1, l2, l3, l4, l5, l6, l7, l8, l9, l0⟩ := el_ok C (by omega) g3 (by omega) h13
      refine v_aload_n hX d_M_endNode_70 rfl rfl ?_
      refine c_V hX 48 (rest := []) hl (c_M_endLeaf hM hO (by omega) ⟨by omega, by omega⟩ (by omega) (by omega) (fun z => by have q1 := hc (rfl.symm.trans z); have q2 : enB 7 C = el C := (by unfold enB; rw [if_pos rfl, if_neg c67]); have q3 := (enC_mono (enB 7 C)).1; have q4 : zCnt (en T x C) = zCnt (enC 7 (enB 7 C)) := (by rw [qk]); rw [q2] at q3 q4; omega)) ml_M_210 im_M_endLeaf se_M_endLeaf in_M cd_M_endLeaf rfl q_M_endLeaf ⟨(Nat.le_of_ble_eq_true rfl), (Nat.le_of_ble_eq_true rfl)⟩ hM.1.1 hM.1.2.1 hM.1.2.2 rfl rfl rfl rfl (Nat.le_of_ble_eq_true rfl) d_M_endNode_71 ⟨(Nat.le_of_ble_eq_true rfl), (Nat.le_of_ble_eq_true rfl)⟩ (fun rv d2 lo2 va11 kc ns hp => ?_)
      obtain ⟨rfl, rfl, rfl, rfl, C11, o11, ⟨rfl, hC11⟩, hM11, hO11, hf11⟩ := hp
      show V X D CL A _ _ _ _ _ _ _ []
      rw [hC11] at l1
      have qB : enB 7 C = C11 := by unfold enB; rw [if_pos rfl, if_neg c67, hC11]
      have hb1 : 1 ≤ zHo C11 := by omega
      have hb13 : zHo C11 ≤ 13 := by omega
      refine v_aload_n hX d_M_endNode_74 rfl rfl ?_
      refine v_mget hX hM11 30 (v := .ref (ob 69)) (by decide) fl_M_73 rfl rfl d_M_endNode_75 ?_
      refine v_aload_n hX d_M_endNode_78 rfl rfl ?_
      refine v_mget hX hM11 34 (v := .int (nI (zHo C11))) (by decide) fl_M_166 rfl gf_holders d_M_endNode_79 ?_
      refine v_iconst (v := 1) hX d_M_endNode_82 (by decide) ?_
      refine v_isubE (v := nI ((zHo C11) - 1)) hX d_M_endNode_83 (nI_sub (a := (zHo C11)) (b := 1) (by omega)) ?_
      refine v_mzld hX hM11 20 (i := ((zHo C11) - 1)) (v := ((zD C11) ((zHo C11) - 1))) ga_hDue (by omega) (by decide) rfl d_M_endNode_84 ?_
      refine v_if_eq hX d_M_endNode_85 (tgt := 103) (by decide) (fun c85 => ?_) (fun c85 => ?_)
      · refine v_iload_n hX d_M_endNode_103 rfl rfl ?_
        refine v_bipush (v := 11) hX d_M_endNode_104 (by decide) ?_
        refine v_icmp_eq hX d_M_endNode_106 (tgt := 120) (by decide) (fun c => absurd c (by decide)) (fun _ => ?_)
        refine v_iload_n hX d_M_endNode_109 rfl rfl ?_
        refine v_iconst (v := 4) hX d_M_endNode_110 (by decide) ?_
        refine v_icmp_lt hX d_M_endNode_111 (tgt := 130) (by decide) (fun c => absurd c (by decide)) (fun _ => ?_)
        refine v_iload_n hX d_M_endNode_114 rfl rfl ?_
        refine v_bipush (v := 7) hX d_M_endNode_115 (by decide) ?_
        refine v_icmp_gt hX d_M_endNode_117 (tgt := 130) (by decide) (fun c => absurd c (by decide)) (fun _ => ?_)
        refine v_aload_n hX d_M_endNode_120 rfl rfl ?_
        refine v_dup hX d_M_endNode_121 rfl ?_
        refine v_mget hX hM11 34 (v := .int (nI (zHo C11))) (by decide) fl_M_166 rfl gf_holders d_M_endNode_122 ?_
        refine v_iconst (v := 1) hX d_M_endNode_125 (by decide) ?_
        refine v_isubE (v := nI ((zHo C11) - 1)) hX d_M_endNode_126 (nI_sub (a := (zHo C11)) (b := 1) (by omega)) ?_
        refine v_mput hX hM11 34 (szHo C11 ((zHo C11) - 1)) T o11 (by decide) fl_M_166 rfl rfl rfl rfl pf_holders pa_holders d_M_endNode_127 (fun va12 hM12 hf12 => ?_)
        exact v_vret hX hE d_M_endNode_130 (Nat.le_of_ble_eq_true rfl) (Nat.le_of_ble_eq_true rfl) ⟨rfl, rfl, rfl, rfl, (szHo C11 ((zHo C11) - 1)), o11, ⟨rfl, (by rw [qk, qB]; unfold enC; rw [if_pos rfl, if_pos c85])⟩, hM12, ⟨hO11.1, (hO11.2.trans rfl)⟩, ((frM.rf.trans hf11).trans hf12)⟩
      · refine v_aload_n hX d_M_endNode_88 rfl rfl ?_
        refine v_iconst (v := (-1)) hX d_M_endNode_89 (by decide) ?_
        refine v_mput hX hM11 42 (szLl C11 (-1)) T o11 (by decide) fl_M_176 rfl rfl rfl rfl pf_leafLine pa_leafLine d_M_endNode_90 (fun va13 hM13 hf13 => ?_)
        refine v_aload_n hX d_M_endNode_93 rfl rfl ?_
        refine v_aload_n hX d_M_endNode_94 rfl rfl ?_
        refine v_mget hX hM13 35 (v := .ref (ob 73)) (by decide) fl_M_85 rfl rfl d_M_endNode_95 ?_
        refine v_iconst (v := 0) hX d_M_endNode_98 (by decide) ?_
        refine v_iconst (v := 0) hX d_M_endNode_99 (by decide) ?_
        refine c_V hX 48 (rest := []) hl (c_M_giveLine hM13 hO11.1 (j := 24) (p := 0) (q := 0) (Or.inl rfl) (by omega) (show zHo C11 ≤ 13 by omega) (fun z => by have q1 := hc ((hO11.2.trans rfl).symm.trans z); have q4 : zCnt (en T x C) = zCnt (enC 7 (enB 7 C)) := (by rw [qk]); rw [qB] at q4; have q5 : enC 7 C11 = gl (szLl C11 (-1)) := (by unfold enC; rw [if_pos rfl, if_neg c85]); rw [q5] at q4; omega)) ml_M_182 im_M_giveLine se_M_giveLine in_M cd_M_giveLine rfl q_M_giveLine ⟨(Nat.le_of_ble_eq_true rfl), (Nat.le_of_ble_eq_true rfl)⟩ hM13.1.1 hM13.1.2.1 hM13.1.2.2 rfl rfl rfl rfl (Nat.le_of_ble_eq_true rfl) d_M_endNode_100 ⟨(Nat.le_of_ble_eq_true rfl), (Nat.le_of_ble_eq_true rfl)⟩ (fun rv d2 lo2 va14 kc ns hp => ?_)
        obtain ⟨rfl, rfl, rfl, rfl, C14, o14, ⟨rfl, hC14⟩, hM14, hO14, hf14⟩ := hp
        show V X D CL A _ _ _ _ _ _ _ []
        have hg14 := (gl_ok (szLl C11 (-1))).1.1
        rw [hC14] at hg14
        have hh14 : zHo C14 = zHo C11 := hg14
        refine v_iload_n hX d_M_endNode_103 rfl rfl ?_
        refine v_bipush (v := 11) hX d_M_endNode_104 (by decide) ?_
        refine v_icmp_eq hX d_M_endNode_106 (tgt := 120) (by decide) (fun c => absurd c (by decide)) (fun _ => ?_)
        refine v_iload_n hX d_M_endNode_109 rfl rfl ?_
        refine v_iconst (v := 4) hX d_M_endNode_110 (by decide) ?_
        refine v_icmp_lt hX d_M_endNode_111 (tgt := 130) (by decide) (fun c => absurd c (by decide)) (fun _ => ?_)
        refine v_iload_n hX d_M_endNode_114 rfl rfl ?_
        refine v_bipush (v := 7) hX d_M_endNode_115 (by decide) ?_
        refine v_icmp_gt hX d_M_endNode_117 (tgt := 130) (by decide) (fun c => absurd c (by decide)) (fun _ => ?_)
        refine v_aload_n hX d_M_endNode_120 rfl rfl ?_
        refine v_dup hX d_M_endNode_121 rfl ?_
        refine v_mget hX hM14 34 (v := .int (nI (zHo C14))) (by decide) fl_M_166 rfl gf_holders d_M_endNode_122 ?_
        refine v_iconst (v := 1) hX d_M_endNode_125 (by decide) ?_
        refine v_isubE (v := nI ((zHo C14) - 1)) hX d_M_endNode_126 (nI_sub (a := (zHo C14)) (b := 1) (by omega)) ?_
        refine v_mput hX hM14 34 (szHo C14 ((zHo C14) - 1)) T o14 (by decide) fl_M_166 rfl rfl rfl rfl pf_holders pa_holders d_M_endNode_127 (fun va15 hM15 hf15 => ?_)
        exact v_vret hX hE d_M_endNode_130 (Nat.le_of_ble_eq_true rfl) (Nat.le_of_ble_eq_true rfl) ⟨rfl, rfl, rfl, rfl, (szHo C14 ((zHo C14) - 1)), o14, ⟨rfl, (by rw [qk, qB]; unfold enC; rw [if_pos rfl, if_neg c85, hC14])⟩, hM15, ⟨hO14.1, (hO14.2.trans (hO11.2.trans rfl))⟩, ((((frM.rf.trans hf11).trans hf13).trans hf14).trans hf15)⟩
  · have qk : en T x C = C := en_no (by rw [e]; decide) C
    refine v_aload_n hX d_M_endNode_0 rfl rfl ?_
    refine v_mget hX hM 1 (v := .ref (ob 49)) (by decide) fl_M_7 rfl rfl d_M_endNode_1 ?_
    refine v_iload_n hX d_M_endNode_4 rfl rfl ?_
    refine v_mild hX hM 0 (i := x) (v := 8) ga_kind (by omega) (by decide) e d_M_endNode_5 ?_
    refine v_istore_n (lv' := [some (.ref (ob 48)), some (.int (nI x)), some (.int 8)]) hX d_M_endNode_6 rfl (Nat.le_of_ble_eq_true rfl) rfl ?_
    refine v_iload_n hX d_M_endNode_7 rfl rfl ?_
    refine v_if_eq hX d_M_endNode_8 (tgt := 16) (by decide) (fun c => absurd c (by decide)) (fun _ => ?_)
    refine v_iload_n hX d_M_endNode_11 rfl rfl ?_
    refine v_iconst (v := 1) hX d_M_endNode_12 (by decide) ?_
    refine v_icmp_ne hX d_M_endNode_13 (tgt := 57) (by decide) (fun _ => ?_) (fun c => absurd c (by decide))
    refine v_iload_n hX d_M_endNode_57 rfl rfl ?_
    refine v_bipush (v := 7) hX d_M_endNode_58 (by decide) ?_
    refine v_icmp_ne hX d_M_endNode_60 (tgt := 103) (by decide) (fun _ => ?_) (fun c => absurd c (by decide))
    refine v_iload_n hX d_M_endNode_103 rfl rfl ?_
    refine v_bipush (v := 11) hX d_M_endNode_104 (by decide) ?_
    refine v_icmp_eq hX d_M_endNode_106 (tgt := 120) (by decide) (fun c => absurd c (by decide)) (fun _ => ?_)
    refine v_iload_n hX d_M_endNode_109 rfl rfl ?_
    refine v_iconst (v := 4) hX d_M_endNode_110 (by decide) ?_
    refine v_icmp_lt hX d_M_endNode_111 (tgt := 130) (by decide) (fun c => absurd c (by decide)) (fun _ => ?_)
    refine v_iload_n hX d_M_endNode_114 rfl rfl ?_
    refine v_bipush (v := 7) hX d_M_endNode_115 (by decide) ?_
    refine v_icmp_gt hX d_M_endNode_117 (tgt := 130) (by decide) (fun _ => ?_) (fun c => absurd (by decide) c)
    exact v_vret hX hE d_M_endNode_130 (Nat.le_of_ble_eq_true rfl) (Nat.le_of_ble_eq_true rfl) ⟨rfl, rfl, rfl, rfl, C, O, ⟨rfl, qk⟩, hM, ⟨hO, rfl⟩, frM.rf⟩
  · have qk : en T x C = C := en_no (by rw [e]; decide) C
    refine v_aload_n hX d_M_endNode_0 rfl rfl ?_
    refine v_mget hX hM 1 (v := .ref (ob 49)) (by decide) fl_M_7 rfl rfl d_M_endNode_1 ?_
    refine v_iload_n hX d_M_endNode_4 rfl rfl ?_
    refine v_mild hX hM 0 (i := x) (v := 9) ga_kind (by omega) (by decide) e d_M_endNode_5 ?_
    refine v_istore_n (lv' := [some (.ref (ob 48)), some (.int (nI x)), some (.int 9)]) hX d_M_endNode_6 rfl (Nat.le_of_ble_eq_true rfl) rfl ?_
    refine v_iload_n hX d_M_endNode_7 rfl rfl ?_
    refine v_if_eq hX d_M_endNode_8 (tgt := 16) (by decide) (fun c => absurd c (by decide)) (fun _ => ?_)
    refine v_iload_n hX d_M_endNode_11 rfl rfl ?_
    refine v_iconst (v := 1) hX d_M_endNode_12 (by decide) ?_
    refine v_icmp_ne hX d_M_endNode_13 (tgt := 57) (by decide) (fun _ => ?_) (fun c => absurd c (by decide))
    refine v_iload_n hX d_M_endNode_57 rfl rfl ?_
    refine v_bipush (v := 7) hX d_M_endNode_58 (by decide) ?_
    refine v_icmp_ne hX d_M_endNode_60 (tgt := 103) (by decide) (fun _ => ?_) (fun c => absurd c (by decide))
    refine v_iload_n hX d_M_endNode_103 rfl rfl ?_
    refine v_bipush (v := 11) hX d_M_endNode_104 (by decide) ?_
    refine v_icmp_eq hX d_M_endNode_106 (tgt := 120) (by decide) (fun c => absurd c (by decide)) (fun _ => ?_)
    refine v_iload_n hX d_M_endNode_109 rfl rfl ?_
    refine v_iconst (v := 4) hX d_M_endNode_110 (by decide) ?_
    refine v_icmp_lt hX d_M_endNode_111 (tgt := 130) (by decide) (fun c => absurd c (by decide)) (fun _ => ?_)
    refine v_iload_n hX d_M_endNode_114 rfl rfl ?_
    refine v_bipush (v := 7) hX d_M_endNode_115 (by decide) ?_
    refine v_icmp_gt hX d_M_endNode_117 (tgt := 130) (by decide) (fun _ => ?_) (fun c => absurd (by decide) c)
    exact v_vret hX hE d_M_endNode_130 (Nat.le_of_ble_eq_true rfl) (Nat.le_of_ble_eq_true rfl) ⟨rfl, rfl, rfl, rfl, C, O, ⟨rfl, qk⟩, hM, ⟨hO, rfl⟩, frM.rf⟩
  · have qk : en T x C = C := en_no (by rw [e]; decide) C
    refine v_aload_n hX d_M_endNode_0 rfl rfl ?_
    refine v_mget hX hM 1 (v := .ref (ob 49)) (by decide) fl_M_7 rfl rfl d_M_endNode_1 ?_
    refine v_iload_n hX d_M_endNode_4 rfl rfl ?_
    refine v_mild hX hM 0 (i := x) (v := 10) ga_kind (by omega) (by decide) e d_M_endNode_5 ?_
    refine v_istore_n (lv' := [some (.ref (ob 48)), some (.int (nI x)), some (.int 10)]) hX d_M_endNode_6 rfl (Nat.le_of_ble_eq_true rfl) rfl ?_
    refine v_iload_n hX d_M_endNode_7 rfl rfl ?_
    refine v_if_eq hX d_M_endNode_8 (tgt := 16) (by decide) (fun c => absurd c (by decide)) (fun _ => ?_)
    refine v_iload_n hX d_M_endNode_11 rfl rfl ?_
    refine v_iconst (v := 1) hX d_M_endNode_12 (by decide) ?_
    refine v_icmp_ne hX d_M_endNode_13 (tgt := 57) (by decide) (fun _ => ?_) (fun c => absurd c (by decide))
    refine v_iload_n hX d_M_endNode_57 rfl rfl ?_
    refine v_bipush (v := 7) hX d_M_endNode_58 (by decide) ?_
    refine v_icmp_ne hX d_M_endNode_60 (tgt := 103) (by decide) (fun _ => ?_) (fun c => absurd c (by decide))
    refine v_iload_n hX d_M_endNode_103 rfl rfl ?_
    refine v_bipush (v := 11) hX d_M_endNode_104 (by decide) ?_
    refine v_icmp_eq hX d_M_endNode_106 (tgt := 120) (by decide) (fun c => absurd c (by decide)) (fun _ => ?_)
    refine v_iload_n hX d_M_endNode_109 rfl rfl ?_
    refine v_iconst (v := 4) hX d_M_endNode_110 (by decide) ?_
    refine v_icmp_lt hX d_M_endNode_111 (tgt := 130) (by decide) (fun c => absurd c (by decide)) (fun _ => ?_)
    refine v_iload_n hX d_M_endNode_114 rfl rfl ?_
    refine v_bipush (v := 7) hX d_M_endNode_115 (by decide) ?_
    refine v_icmp_gt hX d_M_endNode_117 (tgt := 130) (by decide) (fun _ => ?_) (fun c => absurd (by decide) c)
    exact v_vret hX hE d_M_endNode_130 (Nat.le_of_ble_eq_true rfl) (Nat.le_of_ble_eq_true rfl) ⟨rfl, rfl, rfl, rfl, C, O, ⟨rfl, qk⟩, hM, ⟨hO, rfl⟩, frM.rf⟩
  · have qk : en T x C = szHo C (zHo C - 1) := en_ho (by rw [e]; decide) C
    refine v_aload_n hX d_M_endNode_0 rfl rfl ?_
    refine v_mget hX hM 1 (v := .ref (ob 49)) (by decide) fl_M_7 rfl rfl d_M_endNode_1 ?_
    refine v_iload_n hX d_M_endNode_4 rfl rfl ?_
    refine v_mild hX hM 0 (i := x) (v := 11) ga_kind (by omega) (by decide) e d_M_endNode_5 ?_
    refine v_istore_n (lv' := [some (.ref (ob 48)), some (.int (nI x)), some (.int 11)]) hX d_M_endNode_6 rfl (Nat.le_of_ble_eq_true rfl) rfl ?_
    refine v_iload_n hX d_M_endNode_7 rfl rfl ?_
    refine v_if_eq hX d_M_endNode_8 (tgt := 16) (by decide) (fun c => absurd c (by decide)) (fun _ => ?_)
    refine v_iload_n hX d_M_endNode_11 rfl rfl ?_
    refine v_iconst (v := 1) hX d_M_endNode_12 (by decide) ?_
    refine v_icmp_ne hX d_M_endNode_13 (tgt := 57) (by decide) (fun _ => ?_) (fun c => absurd c (by decide))
    refine v_iload_n hX d_M_endNode_57 rfl rfl ?_
    refine v_bipush (v := 7) hX d_M_endNode_58 (by decide) ?_
    refine v_icmp_ne hX d_M_endNode_60 (tgt := 103) (by decide) (fun _ => ?_) (fun c => absurd c (by decide))
    refine v_iload_n hX d_M_endNode_103 rfl rfl ?_
    refine v_bipush (v := 11) hX d_M_endNode_104 (by decide) ?_
    refine v_icmp_eq hX d_M_endNode_106 (tgt := 120) (by decide) (fun _ => ?_) (fun c => absurd (by decide) c)
    refine v_aload_n hX d_M_endNode_120 rfl rfl ?_
    refine v_dup hX d_M_endNode_121 rfl ?_
    refine v_mget hX hM 34 (v := .int (nI (zHo C))) (by decide) fl_M_166 rfl gf_holders d_M_endNode_122 ?_
    refine v_iconst (v := 1) hX d_M_endNode_125 (by decide) ?_
    refine v_isubE (v := nI ((zHo C) - 1)) hX d_M_endNode_126 (nI_sub (a := (zHo C)) (b := 1) (by omega)) ?_
    refine v_mput hX hM 34 (szHo C ((zHo C) - 1)) T O (by decide) fl_M_166 rfl rfl rfl rfl pf_holders pa_holders d_M_endNode_127 (fun va16 hM16 hf16 => ?_)
    exact v_vret hX hE d_M_endNode_130 (Nat.le_of_ble_eq_true rfl) (Nat.le_of_ble_eq_true rfl) ⟨rfl, rfl, rfl, rfl, (szHo C ((zHo C) - 1)), O, ⟨rfl, qk⟩, hM16, ⟨hO, rfl⟩, (frM.rf.trans hf16)⟩
