set_option maxHeartbeats 4000000 in
set_option maxRecDepth 100000 in
theorem c_M_empty {l : Launch} {D : va_G} {A : Nat → Prop} {cI cB cZ cJ cN : ClassId} {ob : Nat → Nat} {C : CT} {T : TS} {O : OS} {dom : Nat → Prop} {loc : Nat → Nat} {val : Nat → va_E} (hM : ModI cI cB cZ ob C T O dom loc val) (hO : OI O)  : kM l y_M_empty (Cond.code y_M_empty b_M_empty 1 none :: TT) (rmM 1) D CL (TY cI cB cZ cJ cN) A [.ref (ob 48)] dom loc val (fun rv d lo va kc ns => dom = d ∧ loc = lo ∧ kc = 0 ∧ ns = 0 ∧ ∃ T2 O2, (rv = none ∧ clT T = T2) ∧ ModI cI cB cZ ob C T2 O2 dom loc va ∧ OI O2 ∧ frM val va) := by
  refine kM_of (lv0 := [some (.ref (ob 48))]) (own := "ProsePagesModel") (by decide) rfl (List.forall_mem_cons.mpr ⟨rfl, fun _ h => nomatch h⟩) (Nat.le_of_ble_eq_true rfl) rfl (Nat.le_of_ble_eq_true rfl) (fun X hl hX hE hin0 => ?_)
  refine v_aload_n hX d_M_empty_0 rfl rfl ?_
  refine v_mget hX hM 1 (v := .ref (ob 49)) (by decide) fl_M_7 rfl rfl d_M_empty_1 ?_
  refine v_iconst (v := 0) hX d_M_empty_4 (by decide) ?_
  refine v_bipush (v := 11) hX d_M_empty_5 (by decide) ?_
  refine v_mist hX hM 0 C (sxK T (upd (ttK T) 0 11)) O (i := 0) (by decide) ga_kind (by omega) (by decide) qf_kind qa_kind d_M_empty_7 (fun va1 hM1 hf1 => ?_)
  refine v_aload_n hX d_M_empty_8 rfl rfl ?_
  refine v_mget hX hM1 2 (v := .ref (ob 50)) (by decide) fl_M_13 rfl rfl d_M_empty_9 ?_
  refine v_iconst (v := 0) hX d_M_empty_12 (by decide) ?_
  refine v_iconst (v := (-1)) hX d_M_empty_13 (by decide) ?_
  refine v_mist hX hM1 1 C (sxU (sxK T (upd (ttK T) 0 11)) (upd (ttU T) 0 (-1))) O (i := 0) (by decide) ((na_kind 1 (by decide)).trans ga_up) (by omega) (by decide) qf_up qa_up d_M_empty_14 (fun va2 hM2 hf2 => ?_)
  refine v_aload_n hX d_M_empty_15 rfl rfl ?_
  refine v_mget hX hM2 4 (v := .ref (ob 52)) (by decide) fl_M_19 rfl rfl d_M_empty_16 ?_
  refine v_iconst (v := 0) hX d_M_empty_19 (by decide) ?_
  refine v_iconst (v := 1) hX d_M_empty_20 (by decide) ?_
  refine v_mist hX hM2 3 C (sxDe (sxU (sxK T (upd (ttK T) 0 11)) (upd (ttU T) 0 (-1))) (updN (ttDe T) 0 1)) O (i := 0) (by decide) ((na_up 3 (by decide)).trans ((na_kind 3 (by decide)).trans ga_deep)) (by omega) (by decide) qf_deep ((congrArg (fun f9 => (mar cI cB cZ C (sxU (sxK T (upd (ttK T) 0 11)) (upd (ttU T) 0 (-1))) O).set 3 (.inl (cI, 300, .inl f9))) (updN_nI (f := (ttDe T)) (k := 0) (x := 1))).trans qa_deep) d_M_empty_21 (fun va3 hM3 hf3 => ?_)
  refine v_aload_n hX d_M_empty_22 rfl rfl ?_
  refine v_mget hX hM3 7 (v := .ref (ob 55)) (by decide) fl_M_28 rfl rfl d_M_empty_23 ?_
  refine v_iconst (v := 0) hX d_M_empty_26 (by decide) ?_
  refine v_iconst (v := (-1)) hX d_M_empty_27 (by decide) ?_
  refine v_mist hX hM3 6 C (sxLa (sxDe (sxU (sxK T (upd (ttK T) 0 11)) (upd (ttU T) 0 (-1))) (updN (ttDe T) 0 1)) (upd (ttLa T) 0 (-1))) O (i := 0) (by decide) ((na_deep 6 (by decide)).trans ((na_up 6 (by decide)).trans ((na_kind 6 (by decide)).trans ga_lastIn))) (by omega) (by decide) qf_lastIn qa_lastIn d_M_empty_28 (fun va4 hM4 hf4 => ?_)
  refine v_aload_n hX d_M_empty_29 rfl rfl ?_
  refine v_mget hX hM4 3 (v := .ref (ob 51)) (by decide) fl_M_16 rfl rfl d_M_empty_30 ?_
  refine v_iconst (v := 0) hX d_M_empty_33 (by decide) ?_
  refine v_iconst (v := 0) hX d_M_empty_34 (by decide) ?_
  refine v_mist hX hM4 2 C (sxNu (sxLa (sxDe (sxU (sxK T (upd (ttK T) 0 11)) (upd (ttU T) 0 (-1))) (updN (ttDe T) 0 1)) (upd (ttLa T) 0 (-1))) (upd (ttNu T) 0 0)) O (i := 0) (by decide) ((na_lastIn 2 (by decide)).trans ((na_deep 2 (by decide)).trans ((na_up 2 (by decide)).trans ((na_kind 2 (by decide)).trans ga_number)))) (by omega) (by decide) qf_number qa_number d_M_empty_35 (fun va5 hM5 hf5 => ?_)
  refine v_aload_n hX d_M_empty_36 rfl rfl ?_
  refine v_mget hX hM5 6 (v := .ref (ob 54)) (by decide) fl_M_25 rfl rfl d_M_empty_37 ?_
  refine v_iconst (v := 0) hX d_M_empty_40 (by decide) ?_
  refine v_iconst (v := 0) hX d_M_empty_41 (by decide) ?_
  refine v_mist hX hM5 5 C (sxMa (sxNu (sxLa (sxDe (sxU (sxK T (upd (ttK T) 0 11)) (upd (ttU T) 0 (-1))) (updN (ttDe T) 0 1)) (upd (ttLa T) 0 (-1))) (upd (ttNu T) 0 0)) (updN (ttMa T) 0 0)) O (i := 0) (by decide) ((na_number 5 (by decide)).trans ((na_lastIn 5 (by decide)).trans ((na_deep 5 (by decide)).trans ((na_up 5 (by decide)).trans ((na_kind 5 (by decide)).trans ga_many))))) (by omega) (by decide) qf_many ((congrArg (fun f9 => (mar cI cB cZ C (sxNu (sxLa (sxDe (sxU (sxK T (upd (ttK T) 0 11)) (upd (ttU T) 0 (-1))) (updN (ttDe T) 0 1)) (upd (ttLa T) 0 (-1))) (upd (ttNu T) 0 0)) O).set 5 (.inl (cI, 300, .inl f9))) (updN_nI (f := (ttMa T)) (k := 0) (x := 0))).trans qa_many) d_M_empty_42 (fun va6 hM6 hf6 => ?_)
  refine v_aload_n hX d_M_empty_43 rfl rfl ?_
  refine v_iconst (v := 1) hX d_M_empty_44 (by decide) ?_
  refine v_mput hX hM6 9 C (sxN (sxMa (sxNu (sxLa (sxDe (sxU (sxK T (upd (ttK T) 0 11)) (upd (ttU T) 0 (-1))) (updN (ttDe T) 0 1)) (upd (ttLa T) 0 (-1))) (upd (ttNu T) 0 0)) (updN (ttMa T) 0 0)) 1) O (by decide) fl_M_101 rfl rfl rfl rfl pf_nodes pa_nodes d_M_empty_45 (fun va7 hM7 hf7 => ?_)
  refine v_aload_n hX d_M_empty_48 rfl rfl ?_
  refine v_iconst (v := 0) hX d_M_empty_49 (by decide) ?_
  refine v_mput hX hM7 10 C (sxCh (sxN (sxMa (sxNu (sxLa (sxDe (sxU (sxK T (upd (ttK T) 0 11)) (upd (ttU T) 0 (-1))) (updN (ttDe T) 0 1)) (upd (ttLa T) 0 (-1))) (upd (ttNu T) 0 0)) (updN (ttMa T) 0 0)) 1) 0) O (by decide) fl_M_104 rfl rfl rfl rfl pf_characters pa_characters d_M_empty_50 (fun va8 hM8 hf8 => ?_)
  refine v_aload_n hX d_M_empty_53 rfl rfl ?_
  refine v_iconst (v := 0) hX d_M_empty_54 (by decide) ?_
  refine v_mput hX hM8 11 C (sxHa (sxCh (sxN (sxMa (sxNu (sxLa (sxDe (sxU (sxK T (upd (ttK T) 0 11)) (upd (ttU T) 0 (-1))) (updN (ttDe T) 0 1)) (upd (ttLa T) 0 (-1))) (upd (ttNu T) 0 0)) (updN (ttMa T) 0 0)) 1) 0) 0) O (by decide) fl_M_107 rfl rfl rfl rfl pf_hand pa_hand d_M_empty_55 (fun va9 hM9 hf9 => ?_)
  refine v_aload_n hX d_M_empty_58 rfl rfl ?_
  refine v_iconst (v := 0) hX d_M_empty_59 (by decide) ?_
  refine v_mput hX hM9 19 C (sxHa (sxCh (sxN (sxMa (sxNu (sxLa (sxDe (sxU (sxK T (upd (ttK T) 0 11)) (upd (ttU T) 0 (-1))) (updN (ttDe T) 0 1)) (upd (ttLa T) 0 (-1))) (upd (ttNu T) 0 0)) (updN (ttMa T) 0 0)) 1) 0) 0) (soPm O 0) (by decide) fl_M_110 rfl rfl rfl rfl pf_pageMany pa_pageMany d_M_empty_60 (fun va10 hM10 hf10 => ?_)
  refine v_aload_n hX d_M_empty_63 rfl rfl ?_
  refine v_iconst (v := 0) hX d_M_empty_64 (by decide) ?_
  refine v_mput hX hM10 18 C (sxHa (sxCh (sxN (sxMa (sxNu (sxLa (sxDe (sxU (sxK T (upd (ttK T) 0 11)) (upd (ttU T) 0 (-1))) (updN (ttDe T) 0 1)) (upd (ttLa T) 0 (-1))) (upd (ttNu T) 0 0)) (updN (ttMa T) 0 0)) 1) 0) 0) (soLi (soPm O 0) 0) (by decide) fl_M_113 rfl rfl rfl rfl pf_lines pa_lines d_M_empty_65 (fun va11 hM11 hf11 => ?_)
  refine v_aload_n hX d_M_empty_68 rfl rfl ?_
  refine v_iconst (v := 0) hX d_M_empty_69 (by decide) ?_
  refine v_mput hX hM11 20 C (sxHa (sxCh (sxN (sxMa (sxNu (sxLa (sxDe (sxU (sxK T (upd (ttK T) 0 11)) (upd (ttU T) 0 (-1))) (updN (ttDe T) 0 1)) (upd (ttLa T) 0 (-1))) (upd (ttNu T) 0 0)) (updN (ttMa T) 0 0)) 1) 0) 0) (soRo (soLi (soPm O 0) 0) 0) (by decide) fl_M_116 rfl rfl rfl rfl pf_rows pa_rows d_M_empty_70 (fun va12 hM12 hf12 => ?_)
  refine v_aload_n hX d_M_empty_73 rfl rfl ?_
  refine v_iconst (v := 0) hX d_M_empty_74 (by decide) ?_
  refine v_mput hX hM12 21 C (sxCo (sxHa (sxCh (sxN (sxMa (sxNu (sxLa (sxDe (sxU (sxK T (upd (ttK T) 0 11)) (upd (ttU T) 0 (-1))) (updN (ttDe T) 0 1)) (upd (ttLa T) 0 (-1))) (upd (ttNu T) 0 0)) (updN (ttMa T) 0 0)) 1) 0) 0) 0) (soRo (soLi (soPm O 0) 0) 0) (by decide) fl_M_119 rfl rfl rfl rfl pf_columns pa_columns d_M_empty_75 (fun va13 hM13 hf13 => ?_)
  refine v_aload_n hX d_M_empty_78 rfl rfl ?_
  refine v_iconst (v := 0) hX d_M_empty_79 (by decide) ?_
  refine v_mput hX hM13 22 C (sxCo (sxHa (sxCh (sxN (sxMa (sxNu (sxLa (sxDe (sxU (sxK T (upd (ttK T) 0 11)) (upd (ttU T) 0 (-1))) (updN (ttDe T) 0 1)) (upd (ttLa T) 0 (-1))) (upd (ttNu T) 0 0)) (updN (ttMa T) 0 0)) 1) 0) 0) 0) (soLa (soRo (soLi (soPm O 0) 0) 0) 0) (by decide) fl_M_122 rfl rfl rfl rfl pf_laid pa_laid d_M_empty_80 (fun va14 hM14 hf14 => ?_)
  exact v_vret hX hE d_M_empty_83 (Nat.le_of_ble_eq_true rfl) (Nat.le_of_ble_eq_true rfl) ⟨rfl, rfl, rfl, rfl, (sxCo (sxHa (sxCh (sxN (sxMa (sxNu (sxLa (sxDe (sxU (sxK T (upd (ttK T) 0 11)) (upd (ttU T) 0 (-1))) (updN (ttDe T) 0 1)) (upd (ttLa T) 0 (-1))) (upd (ttNu T) 0 0)) (updN (ttMa T) 0 0)) 1) 0) 0) 0), (soLa (soRo (soLi (soPm O 0) 0) 0) 0), ⟨rfl, rfl⟩, hM14, ⟨hO.1, hO.2.1, (show 0 ≤ 1500 by omega), (show 0 ≤ 300 by omega), (by have q9 := hO.2.2.2.2; first | exact q9 | omega | (show (ooSm O) ≤ 4300; omega))⟩, ((((((((((((((frM.rf.trans hf1).trans hf2).trans hf3).trans hf4).trans hf5).trans hf6).trans hf7).trans hf8).trans hf9).trans hf10).trans hf11).trans hf12).trans hf13).trans hf14)⟩
set_option maxHeartbeats 4000000 in
set_option maxRecDepth 100000 in
theorem c_M_clear {l : Launch} {D : va_G} {A : Nat → Prop} {cI cB cZ cJ cN : ClassId} {ob : Nat → Nat} {C : CT} {T : TS} {O : OS} {dom : Nat → Prop} {loc : Nat → Nat} {val : Nat → va_E} (hM : ModI cI cB cZ ob C T O dom loc val) (hO : OI O)  : kM l y_M_clear (Cond.code y_M_clear b_M_clear 1 none :: TT) (rmM 2) D CL (TY cI cB cZ cJ cN) A [.ref (ob 48)] dom loc val (fun rv d lo va kc ns => dom = d ∧ loc = lo ∧ kc = 0 ∧ ns = 0 ∧ ∃ T2 O2, (rv = none ∧ clT T = T2) ∧ ModI cI cB cZ ob C T2 O2 dom loc va ∧ OI O2 ∧ frM val va) := by
  refine kM_of (lv0 := [some (.ref (ob 48))]) (own := "ProsePagesModel") (by decide) rfl (List.forall_mem_cons.mpr ⟨rfl, fun _ h => nomatch h⟩) (Nat.le_of_ble_eq_true rfl) rfl (Nat.le_of_ble_eq_true rfl) (fun X hl hX hE hin0 => ?_)
  refine v_aload_n hX d_M_clear_0 rfl rfl ?_
  refine v_iconst (v := 0) hX d_M_clear_1 (by decide) ?_
  refine v_mput hX hM 0 C T (soTh O 0) (by decide) fl_M_97 rfl rfl rfl rfl pf_thrown pa_thrown d_M_clear_2 (fun va1 hM1 hf1 => ?_)
  refine v_aload_n hX d_M_clear_5 rfl rfl ?_
  refine c_V hX 48 (rest := []) hl (c_M_empty hM1 ⟨hO.1, hO.2.1, hO.2.2.1, hO.2.2.2.1, (by have q9 := hO.2.2.2.2; first | exact q9 | omega | (show (ooSm O) ≤ 4300; omega))⟩) ml_M_94 im_M_empty se_M_empty in_M cd_M_empty rfl q_M_empty ⟨(Nat.le_of_ble_eq_true rfl), (Nat.le_of_ble_eq_true rfl)⟩ hM1.1.1 hM1.1.2.1 hM1.1.2.2 rfl rfl rfl rfl (Nat.le_of_ble_eq_true rfl) d_M_clear_6 ⟨(Nat.le_of_ble_eq_true rfl), (Nat.le_of_ble_eq_true rfl)⟩ (fun rv d2 lo2 va2 kc ns hp => ?_)
  obtain ⟨rfl, rfl, rfl, rfl, _, o2, ⟨rfl, rfl⟩, hM2, hO2, hf2⟩ := hp
  show V X D CL A _ _ _ _ _ _ _ []
  exact v_vret hX hE d_M_clear_9 (Nat.le_of_ble_eq_true rfl) (Nat.le_of_ble_eq_true rfl) ⟨rfl, rfl, rfl, rfl, (clT T), o2, ⟨rfl, rfl⟩, hM2, hO2, ((frM.rf.trans hf1).trans hf2)⟩
set_option maxHeartbeats 4000000 in
set_option maxRecDepth 100000 in
theorem c_M_end {l : Launch} {D : va_G} {A : Nat → Prop} {cI cB cZ cJ cN : ClassId} {ob : Nat → Nat} {C : CT} {T : TS} {O : OS} {dom : Nat → Prop} {loc : Nat → Nat} {val : Nat → va_E} (hM : ModI cI cB cZ ob C T O dom loc val) (hO : OI O) (hT : TrI T) : kM l y_M_end (Cond.code y_M_end b_M_end 1 (some FieldType.int) :: TT) (rmM 1) D CL (TY cI cB cZ cJ cN) A [.ref (ob 48)] dom loc val (fun rv d lo va kc ns => dom = d ∧ loc = lo ∧ kc = 0 ∧ ns = 0 ∧ ∃ T2 O2, ((ttHa T = 0 ∧ T = T2 ∧ rv = some (.int (-1))) ∨ (¬ ttHa T = 0 ∧ sxHa T (pu T (ttHa T)) = T2 ∧ rv = some (.int (nI (pu T (ttHa T)))))) ∧ ModI cI cB cZ ob C T2 O2 dom loc va ∧ OI O2 ∧ frM val va) := by
  refine kM_of (lv0 := [some (.ref (ob 48))]) (own := "ProsePagesModel") (by decide) rfl (List.forall_mem_cons.mpr ⟨rfl, fun _ h => nomatch h⟩) (Nat.le_of_ble_eq_true rfl) rfl (Nat.le_of_ble_eq_true rfl) (fun X hl hX hE hin0 => ?_)
  have hTn := hT.1
  refine v_aload_n hX d_M_end_0 rfl rfl ?_
  refine v_iconst (v := 0) hX d_M_end_1 (by decide) ?_
  refine v_mput hX hM 0 C T (soTh O 0) (by decide) fl_M_97 rfl rfl rfl rfl pf_thrown pa_thrown d_M_end_2 (fun va1 hM1 hf1 => ?_)
  refine v_aload_n hX d_M_end_5 rfl rfl ?_
  refine v_mget hX hM1 11 (v := .int (nI (ttHa T))) (by decide) fl_M_107 rfl ((nf_thrown 11 (by decide)).trans gf_hand) d_M_end_6 ?_
  refine v_if_ne hX d_M_end_9 (tgt := 14) (by decide) (fun c9 => ?_) (fun c9 => ?_)
  · have f9 : ¬ (ttHa T) = 0 := fun z => c9 ((nI_eq (a := (ttHa T)) (b := 0) (by omega) (by omega)).mpr z)
    have hx0 : ttHa T ≠ 0 := f9
    obtain ⟨b1, b2, b3⟩ := hT.2.2.1 (ttHa T) (by omega) (by omega)
    refine v_aload_n hX d_M_end_14 rfl rfl ?_
    refine v_aload_n hX d_M_end_15 rfl rfl ?_
    refine v_mget hX hM1 2 (v := .ref (ob 50)) (by decide) fl_M_13 rfl rfl d_M_end_16 ?_
    refine v_aload_n hX d_M_end_19 rfl rfl ?_
    refine v_mget hX hM1 11 (v := .int (nI (ttHa T))) (by decide) fl_M_107 rfl ((nf_thrown 11 (by decide)).trans gf_hand) d_M_end_20 ?_
    refine v_mild hX hM1 1 (i := (ttHa T)) (v := (nI (pu T (ttHa T)))) ((na_thrown 1).trans ga_up) (by omega) (by decide) b2 d_M_end_23 ?_
    refine v_mput hX hM1 11 C (sxHa T (pu T (ttHa T))) (soTh O 0) (by decide) fl_M_107 rfl rfl rfl rfl pf_hand pa_hand d_M_end_24 (fun va2 hM2 hf2 => ?_)
    refine v_aload_n hX d_M_end_27 rfl rfl ?_
    refine v_mget hX hM2 11 (v := .int (nI (pu T (ttHa T)))) (by decide) fl_M_107 rfl ((nf_thrown 11 (by decide)).trans hf_hand) d_M_end_28 ?_
    exact v_iret hX hE d_M_end_31 (Nat.le_of_ble_eq_true rfl) (Nat.le_of_ble_eq_true rfl) ⟨rfl, rfl, rfl, rfl, (sxHa T (pu T (ttHa T))), (soTh O 0), (Or.inr ⟨f9, rfl, rfl⟩), hM2, ⟨hO.1, hO.2.1, hO.2.2.1, hO.2.2.2.1, (by have q9 := hO.2.2.2.2; first | exact q9 | omega | (show (ooSm O) ≤ 4300; omega))⟩, ((frM.rf.trans hf1).trans hf2)⟩
  · have f9 : (ttHa T) = 0 := (nI_eq (a := (ttHa T)) (b := 0) (by omega) (by omega)).mp c9
    refine v_iconst (v := (-1)) hX d_M_end_12 (by decide) ?_
    exact v_iret hX hE d_M_end_13 (Nat.le_of_ble_eq_true rfl) (Nat.le_of_ble_eq_true rfl) ⟨rfl, rfl, rfl, rfl, T, (soTh O 0), (Or.inl ⟨f9, rfl, rfl⟩), hM1, ⟨hO.1, hO.2.1, hO.2.2.1, hO.2.2.2.1, (by have q9 := hO.2.2.2.2; first | exact q9 | omega | (show (ooSm O) ≤ 4300; omega))⟩, (frM.rf.trans hf1)⟩
