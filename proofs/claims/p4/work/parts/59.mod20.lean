set_option maxHeartbeats 4000000 in
set_option maxRecDepth 100000 in
theorem c_M_beginNode0 {l : Launch} {D : va_G} {A : Nat → Prop} {cI cB cZ cJ cN : ClassId} {ob : Nat → Nat} {C : CT} {T : TS} {O : OS} {dom : Nat → Prop} {loc : Nat → Nat} {val : Nat → va_E} (hM : ModI cI cB cZ ob C T O dom loc val) (hO : OI O) (hT : TrI T) (h0 : zHo C = 0) (hb : zCnt C ≤ 300000000) : kM l y_M_beginNode (Cond.code y_M_beginNode b_M_beginNode 7 none :: TT) (rmM 8) D CL (TY cI cB cZ cJ cN) A [.ref (ob 48), .int 0] dom loc val (PMo cI cB cZ ob T O dom loc val (fun rv C2 O2 => rv = none ∧ bn T 0 C = C2)) := by
  refine kM_of (lv0 := [some (.ref (ob 48)), some (.int 0), none, none, none, none, none]) (own := "ProsePagesModel") (by decide) rfl (List.forall_mem_cons.mpr ⟨rfl, List.forall_mem_cons.mpr ⟨rfl, fun _ h => nomatch h⟩⟩) (Nat.le_of_ble_eq_true rfl) rfl (Nat.le_of_ble_eq_true rfl) (fun X hl hX hE hin0 => ?_)
  have hTn := hT.1
  refine v_aload_n hX d_M_beginNode_0 rfl rfl ?_
  refine v_mget hX hM 1 (v := .ref (ob 49)) (by decide) fl_M_7 rfl rfl d_M_beginNode_1 ?_
  refine v_iload_n hX d_M_beginNode_4 rfl rfl ?_
  refine v_mild hX hM 0 (i := 0) (v := 11) ga_kind (by omega) (by decide) hT.2.1.1 d_M_beginNode_5 ?_
  refine v_istore_n (lv' := [some (.ref (ob 48)), some (.int 0), some (.int 11), none, none, none, none]) hX d_M_beginNode_6 rfl (Nat.le_of_ble_eq_true rfl) rfl ?_
  refine v_iload_n hX d_M_beginNode_7 rfl rfl ?_
  refine c_S hX (rest := []) hl (c_M_isBlock 11) ml_M_125 sm_M_isBlock in_M cd_M_isBlock rfl q_M_isBlock ⟨(Nat.le_of_ble_eq_true rfl), (Nat.le_of_ble_eq_true rfl)⟩ rfl rfl rfl (Nat.le_of_ble_eq_true rfl) d_M_beginNode_8 ⟨(Nat.le_of_ble_eq_true rfl), (Nat.le_of_ble_eq_true rfl)⟩ (fun rv d2 lo2 va2 kc ns hp => ?_)
  obtain ⟨rfl, rfl, rfl, rfl, rfl, rfl⟩ := hp
  show V X D CL A _ _ _ _ _ _ _ (.int (isB 11) :: [])
  refine v_if_eq hX d_M_beginNode_11 (tgt := 25) (by decide) (fun _ => ?_) (fun c => absurd (isB11.1) c)
  refine v_iload_n hX d_M_beginNode_25 rfl rfl ?_
  refine c_S hX (rest := []) hl (c_M_isInline 11) ml_M_129 sm_M_isInline in_M cd_M_isInline rfl q_M_isInline ⟨(Nat.le_of_ble_eq_true rfl), (Nat.le_of_ble_eq_true rfl)⟩ rfl rfl rfl (Nat.le_of_ble_eq_true rfl) d_M_beginNode_26 ⟨(Nat.le_of_ble_eq_true rfl), (Nat.le_of_ble_eq_true rfl)⟩ (fun rv d2 lo2 va2 kc ns hp => ?_)
  obtain ⟨rfl, rfl, rfl, rfl, rfl, rfl⟩ := hp
  show V X D CL A _ _ _ _ _ _ _ (.int (isL 11) :: [])
  refine v_if_eq hX d_M_beginNode_29 (tgt := 82) (by decide) (fun _ => ?_) (fun c => absurd (isB11.2) c)
  refine v_aload_n hX d_M_beginNode_82 rfl rfl ?_
  refine v_mget hX hM 34 (v := .int (nI (zHo C))) (by decide) fl_M_166 rfl gf_holders d_M_beginNode_83 ?_
  refine v_if_le hX d_M_beginNode_86 (tgt := 103) (by decide) (fun _ => ?_) (fun c => absurd (show nI (zHo C) ≤ 0 by rw [h0]; decide) c)
  refine v_aload_n hX d_M_beginNode_103 rfl rfl ?_
  refine v_mget hX hM 21 (v := .int (nI (ttCo T))) (by decide) fl_M_119 rfl gf_columns d_M_beginNode_104 ?_
  refine v_istore_n (lv' := [some (.ref (ob 48)), some (.int 0), some (.int 11), some (.int (nI (ttCo T))), none, none, none]) hX d_M_beginNode_107 rfl (Nat.le_of_ble_eq_true rfl) rfl ?_
  refine v_iload_n hX d_M_beginNode_108 rfl rfl ?_
  refine v_bipush (v := 10) hX d_M_beginNode_109 (by decide) ?_
  refine v_icmp_ne hX d_M_beginNode_111 (tgt := 133) (by decide) (fun _ => ?_) (fun c => absurd c (by decide))
  refine v_iconst (v := 0) hX d_M_beginNode_133 (by decide) ?_
  refine v_istore (lv' := [some (.ref (ob 48)), some (.int 0), some (.int 11), some (.int (nI (ttCo T))), some (.int 0), none, none]) hX d_M_beginNode_134 (Nat.le_of_ble_eq_true rfl) rfl ?_
  refine v_aload_n hX d_M_beginNode_136 rfl rfl ?_
  refine v_mget hX hM 25 (v := .ref (ob 64)) (by decide) fl_M_58 rfl rfl d_M_beginNode_137 ?_
  refine v_iload_n hX d_M_beginNode_140 rfl rfl ?_
  refine v_iload_n hX d_M_beginNode_141 rfl rfl ?_
  refine c_S hX (rest := [.int 0, .ref (ob 64)]) hl (c_M_isInline 11) ml_M_129 sm_M_isInline in_M cd_M_isInline rfl q_M_isInline ⟨(Nat.le_of_ble_eq_true rfl), (Nat.le_of_ble_eq_true rfl)⟩ rfl rfl rfl (Nat.le_of_ble_eq_true rfl) d_M_beginNode_142 ⟨(Nat.le_of_ble_eq_true rfl), (Nat.le_of_ble_eq_true rfl)⟩ (fun rv d2 lo2 va2 kc ns hp => ?_)
  obtain ⟨rfl, rfl, rfl, rfl, rfl, rfl⟩ := hp
  show V X D CL A _ _ _ _ _ _ _ (.int (isL 11) :: [.int 0, .ref (ob 64)])
  refine v_if_eq hX d_M_beginNode_145 (tgt := 174) (by decide) (fun _ => ?_) (fun c => absurd (isB11.2) c)
  refine v_bipush (v := (-2)) hX d_M_beginNode_174 (by decide) ?_
  refine v_aload_n hX d_M_beginNode_176 rfl rfl ?_
  refine v_mget hX hM 23 (v := .int (nI (zCnt C))) (by decide) fl_M_159 rfl gf_counted d_M_beginNode_177 ?_
  refine v_isub hX d_M_beginNode_180 ?_
  refine v_mist hX hM 15 C T (soSt O (upd (ooSt O) 0 ((-2) - (nI (zCnt C))))) (i := 0) (by decide) ga_start (by omega) (by decide) qf_start qa_start d_M_beginNode_181 (fun va1 hM1 hf1 => ?_)
  refine v_iload_n hX d_M_beginNode_182 rfl rfl ?_
  refine v_tableIn hX d_M_beginNode_183 (tgt := 244) (by decide) (by decide) (off := 61) (by decide) (by decide) ?_
  refine v_aload_n hX d_M_beginNode_244 rfl rfl ?_
  refine v_bipush (v := 11) hX d_M_beginNode_245 (by decide) ?_
  refine v_aload_n hX d_M_beginNode_247 rfl rfl ?_
  refine v_mget hX hM1 21 (v := .int (nI (ttCo T))) (by decide) fl_M_119 rfl ((nf_start 21).trans gf_columns) d_M_beginNode_248 ?_
  refine v_iconst (v := (-1)) hX d_M_beginNode_251 (by decide) ?_
  refine v_iconst (v := 1) hX d_M_beginNode_252 (by decide) ?_
  refine c_V hX 48 (rest := []) hl (c_M_hold hM1 ⟨(OI_st hO.1 (Or.inr (by rw [st_ok (by omega)]; omega))), hO.2.1, hO.2.2.1, hO.2.2.2.1, (by have q9 := hO.2.2.2.2; first | exact q9 | omega | (show (ooSm O) ≤ 4300; omega))⟩ 11 (nI (ttCo T)) (-1) 1 (show zHo C ≤ 13 by omega)) ml_M_213 im_M_hold se_M_hold in_M cd_M_hold rfl q_M_hold ⟨(Nat.le_of_ble_eq_true rfl), (Nat.le_of_ble_eq_true rfl)⟩ hM1.1.1 hM1.1.2.1 hM1.1.2.2 rfl rfl rfl rfl (Nat.le_of_ble_eq_true rfl) d_M_beginNode_253 ⟨(Nat.le_of_ble_eq_true rfl), (Nat.le_of_ble_eq_true rfl)⟩ (fun rv d2 lo2 va2 kc ns hp => ?_)
  obtain ⟨rfl, rfl, rfl, rfl, C2, o2, ⟨rfl, hC2⟩, hM2, hO2, hf2⟩ := hp
  show V X D CL A _ _ _ _ _ _ _ []
  refine v_goto hX d_M_beginNode_256 (tgt := 538) (by decide) ?_
  exact v_vret hX hE d_M_beginNode_538 (Nat.le_of_ble_eq_true rfl) (Nat.le_of_ble_eq_true rfl) ⟨rfl, rfl, rfl, rfl, C2, o2, ⟨rfl, (bn0_eq hT C).trans hC2⟩, hM2, ⟨hO2.1, (hO2.2.trans rfl)⟩, ((frM.rf.trans hf1).trans hf2)⟩
