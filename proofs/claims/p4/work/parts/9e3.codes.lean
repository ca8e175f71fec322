set_option maxHeartbeats 4000000 in
set_option maxRecDepth 100000 in
theorem c_M_thrown {l : Launch} {D : va_G} {A : Nat → Prop} {cI cB cZ cJ cN : ClassId} {ob : Nat → Nat} {C : CT} {T : TS} {O : OS} {dom : Nat → Prop} {loc : Nat → Nat} {val : Nat → va_E} (hM : ModI cI cB cZ ob C T O dom loc val) : kM l y_M_thrown (Cond.code y_M_thrown b_M_thrown 1 (some FieldType.int) :: TT) (rmM 1) D CL (TY cI cB cZ cJ cN) A [.ref (ob 48)] dom loc val (fun rv d lo va kc ns => rv = some (.int (ooTh O)) ∧ dom = d ∧ loc = lo ∧ val = va ∧ kc = 0 ∧ ns = 0) := by
  refine kM_of (lv0 := [some (.ref (ob 48))]) (own := "ProsePagesModel") (by decide) rfl (List.forall_mem_cons.mpr ⟨rfl, fun _ h => nomatch h⟩) (Nat.le_of_ble_eq_true rfl) rfl (Nat.le_of_ble_eq_true rfl) (fun X hl hX hE hin0 => ?_)
  refine v_aload_n hX d_M_thrown_0 rfl rfl ?_
  refine v_mget hX hM 0 (v := .int (ooTh O)) (by decide) fl_M_97 rfl rfl d_M_thrown_1 ?_
  exact v_iret hX hE d_M_thrown_4 (Nat.le_of_ble_eq_true rfl) (Nat.le_of_ble_eq_true rfl) ⟨rfl, rfl, rfl, rfl, rfl, rfl⟩
set_option maxHeartbeats 4000000 in
set_option maxRecDepth 100000 in
theorem c_M_add2 {l : Launch} {D : va_G} {A : Nat → Prop} {cI cB cZ cJ cN : ClassId} {ob : Nat → Nat} {C : CT} {T : TS} {O : OS} {dom : Nat → Prop} {loc : Nat → Nat} {val : Nat → va_E} (hM : ModI cI cB cZ ob C T O dom loc val) (hO : OI O) (k n : Int32) (hT : TrI T) (hN : ttN T < 300) : kM l y_M_add (Cond.code y_M_add b_M_add 4 (some FieldType.int) :: TT) (rmM 1) D CL (TY cI cB cZ cJ cN) A [.ref (ob 48), .int k, .int n] dom loc val (fun rv d lo va kc ns => dom = d ∧ loc = lo ∧ kc = 0 ∧ ns = 0 ∧ ∃ T2 O2, (rv = some (.int (nI (ttN T))) ∧ adT0 T k n = T2 ∧ O = O2) ∧ ModI cI cB cZ ob C T2 O2 dom loc va ∧ OI O2 ∧ frM val va) := by
  refine kM_of (lv0 := [some (.ref (ob 48)), some (.int k), some (.int n), none]) (own := "ProsePagesModel") (by decide) rfl (List.forall_mem_cons.mpr ⟨rfl, List.forall_mem_cons.mpr ⟨rfl, List.forall_mem_cons.mpr ⟨rfl, fun _ h => nomatch h⟩⟩⟩) (Nat.le_of_ble_eq_true rfl) rfl (Nat.le_of_ble_eq_true rfl) (fun X hl hX hE hin0 => ?_)
  have hTn := hT.1
  have hDe := hT.hc (ttHa T) hTn.2.2.2
  refine v_aload_n hX d_M_add_0 rfl rfl ?_
  refine v_mget hX hM 9 (v := .int (nI (ttN T))) (by decide) fl_M_101 rfl gf_nodes d_M_add_1 ?_
  refine v_istore_n (lv' := [some (.ref (ob 48)), some (.int k), some (.int n), some (.int (nI (ttN T)))]) hX d_M_add_4 rfl (Nat.le_of_ble_eq_true rfl) rfl ?_
  refine v_aload_n hX d_M_add_5 rfl rfl ?_
  refine v_mget hX hM 1 (v := .ref (ob 49)) (by decide) fl_M_7 rfl rfl d_M_add_6 ?_
  refine v_iload_n hX d_M_add_9 rfl rfl ?_
  refine v_iload_n hX d_M_add_10 rfl rfl ?_
  refine v_mist hX hM 0 C (sxK T (upd (ttK T) (ttN T) k)) O (i := (ttN T)) (by decide) ga_kind (by omega) (by decide) qf_kind qa_kind d_M_add_11 (fun va1 hM1 hf1 => ?_)
  refine v_aload_n hX d_M_add_12 rfl rfl ?_
  refine v_mget hX hM1 2 (v := .ref (ob 50)) (by decide) fl_M_13 rfl rfl d_M_add_13 ?_
  refine v_iload_n hX d_M_add_16 rfl rfl ?_
  refine v_aload_n hX d_M_add_17 rfl rfl ?_
  refine v_mget hX hM1 11 (v := .int (nI (ttHa T))) (by decide) fl_M_107 rfl ((nf_kind 11).trans gf_hand) d_M_add_18 ?_
  refine v_mist hX hM1 1 C (sxU (sxK T (upd (ttK T) (ttN T) k)) (upd (ttU T) (ttN T) (nI (ttHa T)))) O (i := (ttN T)) (by decide) ((na_kind 1 (by decide)).trans ga_up) (by omega) (by decide) qf_up qa_up d_M_add_21 (fun va2 hM2 hf2 => ?_)
  refine v_aload_n hX d_M_add_22 rfl rfl ?_
  refine v_mget hX hM2 3 (v := .ref (ob 51)) (by decide) fl_M_16 rfl rfl d_M_add_23 ?_
  refine v_iload_n hX d_M_add_26 rfl rfl ?_
  refine v_iload_n hX d_M_add_27 rfl rfl ?_
  refine v_mist hX hM2 2 C (sxNu (sxU (sxK T (upd (ttK T) (ttN T) k)) (upd (ttU T) (ttN T) (nI (ttHa T)))) (upd (ttNu T) (ttN T) n)) O (i := (ttN T)) (by decide) ((na_up 2 (by decide)).trans ((na_kind 2 (by decide)).trans ga_number)) (by omega) (by decide) qf_number qa_number d_M_add_28 (fun va3 hM3 hf3 => ?_)
  refine v_aload_n hX d_M_add_29 rfl rfl ?_
  refine v_mget hX hM3 4 (v := .ref (ob 52)) (by decide) fl_M_19 rfl rfl d_M_add_30 ?_
  refine v_iload_n hX d_M_add_33 rfl rfl ?_
  refine v_aload_n hX d_M_add_34 rfl rfl ?_
  refine v_mget hX hM3 4 (v := .ref (ob 52)) (by decide) fl_M_19 rfl rfl d_M_add_35 ?_
  refine v_aload_n hX d_M_add_38 rfl rfl ?_
  refine v_mget hX hM3 11 (v := .int (nI (ttHa T))) (by decide) fl_M_107 rfl ((nf_number 11).trans ((nf_up 11).trans ((nf_kind 11).trans gf_hand))) d_M_add_39 ?_
  refine v_mild hX hM3 3 (i := (ttHa T)) (v := (nI ((ttDe T) (ttHa T)))) ((na_number 3 (by decide)).trans ((na_up 3 (by decide)).trans ((na_kind 3 (by decide)).trans ga_deep))) (by omega) (by decide) rfl d_M_add_42 ?_
  refine v_iconst (v := 1) hX d_M_add_43 (by decide) ?_
  refine v_iaddE (v := nI (((ttDe T) (ttHa T)) + 1)) hX d_M_add_44 (nI_add ((ttDe T) (ttHa T)) 1) ?_
  refine v_mist hX hM3 3 C (sxDe (sxNu (sxU (sxK T (upd (ttK T) (ttN T) k)) (upd (ttU T) (ttN T) (nI (ttHa T)))) (upd (ttNu T) (ttN T) n)) (updN (ttDe T) (ttN T) (((ttDe T) (ttHa T)) + 1))) O (i := (ttN T)) (by decide) ((na_number 3 (by decide)).trans ((na_up 3 (by decide)).trans ((na_kind 3 (by decide)).trans ga_deep))) (by omega) (by decide) qf_deep ((congrArg (fun f9 => (mar cI cB cZ C (sxNu (sxU (sxK T (upd (ttK T) (ttN T) k)) (upd (ttU T) (ttN T) (nI (ttHa T)))) (upd (ttNu T) (ttN T) n)) O).set 3 (.inl (cI, 300, .inl f9))) (updN_nI (f := (ttDe T)) (k := (ttN T)) (x := (((ttDe T) (ttHa T)) + 1)))).trans qa_deep) d_M_add_45 (fun va4 hM4 hf4 => ?_)
  refine v_aload_n hX d_M_add_46 rfl rfl ?_
  refine v_mget hX hM4 5 (v := .ref (ob 53)) (by decide) fl_M_22 rfl rfl d_M_add_47 ?_
  refine v_iload_n hX d_M_add_50 rfl rfl ?_
  refine v_aload_n hX d_M_add_51 rfl rfl ?_
  refine v_mget hX hM4 10 (v := .int (nI (ttCh T))) (by decide) fl_M_104 rfl ((nf_deep 10).trans ((nf_number 10).trans ((nf_up 10).trans ((nf_kind 10).trans gf_characters)))) d_M_add_52 ?_
  refine v_mist hX hM4 4 C (sxFr (sxDe (sxNu (sxU (sxK T (upd (ttK T) (ttN T) k)) (upd (ttU T) (ttN T) (nI (ttHa T)))) (upd (ttNu T) (ttN T) n)) (updN (ttDe T) (ttN T) (((ttDe T) (ttHa T)) + 1))) (updN (ttFr T) (ttN T) (ttCh T))) O (i := (ttN T)) (by decide) ((na_deep 4 (by decide)).trans ((na_number 4 (by decide)).trans ((na_up 4 (by decide)).trans ((na_kind 4 (by decide)).trans ga_from)))) (by omega) (by decide) qf_from ((congrArg (fun f9 => (mar cI cB cZ C (sxDe (sxNu (sxU (sxK T (upd (ttK T) (ttN T) k)) (upd (ttU T) (ttN T) (nI (ttHa T)))) (upd (ttNu T) (ttN T) n)) (updN (ttDe T) (ttN T) (((ttDe T) (ttHa T)) + 1))) O).set 4 (.inl (cI, 300, .inl f9))) (updN_nI (f := (ttFr T)) (k := (ttN T)) (x := (ttCh T)))).trans qa_from) d_M_add_55 (fun va5 hM5 hf5 => ?_)
  refine v_aload_n hX d_M_add_56 rfl rfl ?_
  refine v_mget hX hM5 6 (v := .ref (ob 54)) (by decide) fl_M_25 rfl rfl d_M_add_57 ?_
  refine v_iload_n hX d_M_add_60 rfl rfl ?_
  refine v_iconst (v := 0) hX d_M_add_61 (by decide) ?_
  refine v_mist hX hM5 5 C (sxMa (sxFr (sxDe (sxNu (sxU (sxK T (upd (ttK T) (ttN T) k)) (upd (ttU T) (ttN T) (nI (ttHa T)))) (upd (ttNu T) (ttN T) n)) (updN (ttDe T) (ttN T) (((ttDe T) (ttHa T)) + 1))) (updN (ttFr T) (ttN T) (ttCh T))) (updN (ttMa T) (ttN T) 0)) O (i := (ttN T)) (by decide) ((na_from 5 (by decide)).trans ((na_deep 5 (by decide)).trans ((na_number 5 (by decide)).trans ((na_up 5 (by decide)).trans ((na_kind 5 (by decide)).trans ga_many))))) (by omega) (by decide) qf_many ((congrArg (fun f9 => (mar cI cB cZ C (sxFr (sxDe (sxNu (sxU (sxK T (upd (ttK T) (ttN T) k)) (upd (ttU T) (ttN T) (nI (ttHa T)))) (upd (ttNu T) (ttN T) n)) (updN (ttDe T) (ttN T) (((ttDe T) (ttHa T)) + 1))) (updN (ttFr T) (ttN T) (ttCh T))) O).set 5 (.inl (cI, 300, .inl f9))) (updN_nI (f := (ttMa T)) (k := (ttN T)) (x := 0))).trans qa_many) d_M_add_62 (fun va6 hM6 hf6 => ?_)
  refine v_aload_n hX d_M_add_63 rfl rfl ?_
  refine v_mget hX hM6 7 (v := .ref (ob 55)) (by decide) fl_M_28 rfl rfl d_M_add_64 ?_
  refine v_iload_n hX d_M_add_67 rfl rfl ?_
  refine v_iconst (v := (-1)) hX d_M_add_68 (by decide) ?_
  refine v_mist hX hM6 6 C (sxLa (sxMa (sxFr (sxDe (sxNu (sxU (sxK T (upd (ttK T) (ttN T) k)) (upd (ttU T) (ttN T) (nI (ttHa T)))) (upd (ttNu T) (ttN T) n)) (updN (ttDe T) (ttN T) (((ttDe T) (ttHa T)) + 1))) (updN (ttFr T) (ttN T) (ttCh T))) (updN (ttMa T) (ttN T) 0)) (upd (ttLa T) (ttN T) (-1))) O (i := (ttN T)) (by decide) ((na_many 6 (by decide)).trans ((na_from 6 (by decide)).trans ((na_deep 6 (by decide)).trans ((na_number 6 (by decide)).trans ((na_up 6 (by decide)).trans ((na_kind 6 (by decide)).trans ga_lastIn)))))) (by omega) (by decide) qf_lastIn qa_lastIn d_M_add_69 (fun va7 hM7 hf7 => ?_)
  refine v_aload_n hX d_M_add_70 rfl rfl ?_
  refine v_mget hX hM7 7 (v := .ref (ob 55)) (by decide) fl_M_28 rfl rfl d_M_add_71 ?_
  refine v_aload_n hX d_M_add_74 rfl rfl ?_
  refine v_mget hX hM7 11 (v := .int (nI (ttHa T))) (by decide) fl_M_107 rfl ((nf_lastIn 11).trans ((nf_many 11).trans ((nf_from 11).trans ((nf_deep 11).trans ((nf_number 11).trans ((nf_up 11).trans ((nf_kind 11).trans gf_hand))))))) d_M_add_75 ?_
  refine v_iload_n hX d_M_add_78 rfl rfl ?_
  refine v_mist hX hM7 6 C (sxLa (sxLa (sxMa (sxFr (sxDe (sxNu (sxU (sxK T (upd (ttK T) (ttN T) k)) (upd (ttU T) (ttN T) (nI (ttHa T)))) (upd (ttNu T) (ttN T) n)) (updN (ttDe T) (ttN T) (((ttDe T) (ttHa T)) + 1))) (updN (ttFr T) (ttN T) (ttCh T))) (updN (ttMa T) (ttN T) 0)) (upd (ttLa T) (ttN T) (-1))) (upd (upd (ttLa T) (ttN T) (-1)) (ttHa T) (nI (ttN T)))) O (i := (ttHa T)) (by decide) ha_lastIn (by omega) (by decide) qf_lastIn qa_lastIn d_M_add_79 (fun va8 hM8 hf8 => ?_)
  refine v_aload_n hX d_M_add_80 rfl rfl ?_
  refine v_dup hX d_M_add_81 rfl ?_
  refine v_mget hX hM8 9 (v := .int (nI (ttN T))) (by decide) fl_M_101 rfl ((nf_lastIn 9).trans ((nf_lastIn 9).trans ((nf_many 9).trans ((nf_from 9).trans ((nf_deep 9).trans ((nf_number 9).trans ((nf_up 9).trans ((nf_kind 9).trans gf_nodes)))))))) d_M_add_82 ?_
  refine v_iconst (v := 1) hX d_M_add_85 (by decide) ?_
  refine v_iaddE (v := nI ((ttN T) + 1)) hX d_M_add_86 (nI_add (ttN T) 1) ?_
  refine v_mput hX hM8 9 C (sxN (sxLa (sxLa (sxMa (sxFr (sxDe (sxNu (sxU (sxK T (upd (ttK T) (ttN T) k)) (upd (ttU T) (ttN T) (nI (ttHa T)))) (upd (ttNu T) (ttN T) n)) (updN (ttDe T) (ttN T) (((ttDe T) (ttHa T)) + 1))) (updN (ttFr T) (ttN T) (ttCh T))) (updN (ttMa T) (ttN T) 0)) (upd (ttLa T) (ttN T) (-1))) (upd (upd (ttLa T) (ttN T) (-1)) (ttHa T) (nI (ttN T)))) ((ttN T) + 1)) O (by decide) fl_M_101 rfl rfl rfl rfl pf_nodes pa_nodes d_M_add_87 (fun va9 hM9 hf9 => ?_)
  refine v_iload_n hX d_M_add_90 rfl rfl ?_
  exact v_iret hX hE d_M_add_91 (Nat.le_of_ble_eq_true rfl) (Nat.le_of_ble_eq_true rfl) ⟨rfl, rfl, rfl, rfl, (sxN (sxLa (sxLa (sxMa (sxFr (sxDe (sxNu (sxU (sxK T (upd (ttK T) (ttN T) k)) (upd (ttU T) (ttN T) (nI (ttHa T)))) (upd (ttNu T) (ttN T) n)) (updN (ttDe T) (ttN T) (((ttDe T) (ttHa T)) + 1))) (updN (ttFr T) (ttN T) (ttCh T))) (updN (ttMa T) (ttN T) 0)) (upd (ttLa T) (ttN T) (-1))) (upd (upd (ttLa T) (ttN T) (-1)) (ttHa T) (nI (ttN T)))) ((ttN T) + 1)), O, ⟨rfl, rfl, rfl⟩, hM9, hO, (((((((((frM.rf.trans hf1).trans hf2).trans hf3).trans hf4).trans hf5).trans hf6).trans hf7).trans hf8).trans hf9)⟩
set_option maxHeartbeats 4000000 in
set_option maxRecDepth 100000 in
theorem c_M_say2 {l : Launch} {D : va_G} {A : Nat → Prop} {cI cB cZ cJ cN : ClassId} {ob : Nat → Nat} {C : CT} {T : TS} {O : OS} {dom : Nat → Prop} {loc : Nat → Nat} {val : Nat → va_E} (hM : ModI cI cB cZ ob C T O dom loc val) (hO : OI O) (a b c d n : Int32) (hT : TrI T) (hTX : TrX T) : kM l y_M_say (Cond.code y_M_say b_M_say 9 (some FieldType.int) :: TT) (rmM 3) D CL (TY cI cB cZ cJ cN) A [.ref (ob 48), .int a, .int b, .int c, .int d, .int n] dom loc val (fun rv d lo va kc ns => dom = d ∧ loc = lo ∧ kc = 0 ∧ ns = 0 ∧ ∃ T2 O2, ((¬ syM T n ∧ T = T2 ∧ rv = some (.int 0) ∧ ooTh O2 = if (1 ≤ n ∧ n ≤ 4 ∧ mh (ttK T (ttHa T)) 10 = 1) then 2 else 1) ∨ (syM T n ∧ ooTh O2 = 0 ∧ ∃ te nn i, (n = nI nn ∧ 1 ≤ nn ∧ nn ≤ 4) ∧ rv = some (.int (nI i)) ∧ ((anM T ∧ i = ttN T ∧ tlT (adT T 10 0) te i nn = T2) ∨ (¬ anM T ∧ i < ttN T ∧ ttLa T (ttHa T) = nI i ∧ ttK T i = 10 ∧ tlT T te i nn = T2)))) ∧ ModI cI cB cZ ob C T2 O2 dom loc va ∧ OI O2 ∧ frM val va) := by
  refine kM_of (lv0 := [some (.ref (ob 48)), some (.int a), some (.int b), some (.int c), some (.int d), some (.int n), none, none, none]) (own := "ProsePagesModel") (by decide) rfl (List.forall_mem_cons.mpr ⟨rfl, List.forall_mem_cons.mpr ⟨rfl, List.forall_mem_cons.mpr ⟨rfl, List.forall_mem_cons.mpr ⟨rfl, List.forall_mem_cons.mpr ⟨rfl, List.forall_mem_cons.mpr ⟨rfl, fun _ h => nomatch h⟩⟩⟩⟩⟩⟩) (Nat.le_of_ble_eq_true rfl) rfl (Nat.le_of_ble_eq_true rfl) (fun X hl hX hE hin0 => ?_)
  have hTn := hT.1
  have hDe := hT.hc (ttHa T) hTn.2.2.2
  have j39a : ∀  (CJ : CT) (oJ : OS) (vaJ : Nat → va_E), ModI cI cB cZ ob CJ T oJ dom loc vaJ → (OI oJ ∧ ooCt oJ = ooCt O) → frM val vaJ → (C = CJ) → (anM T) → V X D CL A dom loc vaJ 0 0 39 [some (.ref (ob 48)), some (.int a), some (.int b), some (.int c), some (.int d), some (.int n), some (.int 1), none, none] [] := by
    intro  CJ oJ vaJ hMJ hOJ hfJ hCJ hAn
    subst hCJ
    refine v_aload_n hX d_M_say_39 rfl rfl ?_
    refine v_iload hX d_M_say_40 rfl ?_
    refine v_iconst (v := 1) hX d_M_say_42 (by decide) ?_
    refine v_icmp_lt hX d_M_say_43 (tgt := 69) (by decide) (fun c43 => ?_) (fun c43 => ?_)
    · refine v_iconst (v := 1) hX d_M_say_69 (by decide) ?_
      refine v_goto hX d_M_say_70 (tgt := 103) (by decide) ?_
      refine v_mput hX hMJ 0 C T (soTh oJ 1) (by decide) fl_M_97 rfl rfl rfl rfl pf_thrown pa_thrown d_M_say_103 (fun va1 hM1 hf1 => ?_)
      refine v_aload_n hX d_M_say_106 rfl rfl ?_
      refine v_mget hX hM1 0 (v := .int 1) (by decide) fl_M_97 rfl hf_thrown d_M_say_107 ?_
      refine v_if_le hX d_M_say_110 (tgt := 115) (by decide) (fun c => absurd c (by decide)) (fun _ => ?_)
      refine v_iconst (v := 0) hX d_M_say_113 (by decide) ?_
      exact v_iret hX hE d_M_say_114 (Nat.le_of_ble_eq_true rfl) (Nat.le_of_ble_eq_true rfl) ⟨rfl, rfl, rfl, rfl, T, (soTh oJ 1), (Or.inl ⟨(fun z => absurd c43 (Int32.not_lt.mpr z.1)), rfl, rfl, (if_neg (fun z => absurd c43 (Int32.not_lt.mpr z.1))).symm⟩), hM1, ⟨hOJ.1.1, hOJ.1.2.1, hOJ.1.2.2.1, hOJ.1.2.2.2.1, (by have q9 := hOJ.1.2.2.2.2; first | exact q9 | omega | (show (ooSm oJ) ≤ 4300; omega))⟩, (hfJ.trans hf1)⟩
    · refine v_iload hX d_M_say_46 rfl ?_
      refine v_iconst (v := 4) hX d_M_say_48 (by decide) ?_
      refine v_icmp_gt hX d_M_say_49 (tgt := 69) (by decide) (fun c49 => ?_) (fun c49 => ?_)
      · refine v_iconst (v := 1) hX d_M_say_69 (by decide) ?_
        refine v_goto hX d_M_say_70 (tgt := 103) (by decide) ?_
        refine v_mput hX hMJ 0 C T (soTh oJ 1) (by decide) fl_M_97 rfl rfl rfl rfl pf_thrown pa_thrown d_M_say_103 (fun va2 hM2 hf2 => ?_)
        refine v_aload_n hX d_M_say_106 rfl rfl ?_
        refine v_mget hX hM2 0 (v := .int 1) (by decide) fl_M_97 rfl hf_thrown d_M_say_107 ?_
        refine v_if_le hX d_M_say_110 (tgt := 115) (by decide) (fun c => absurd c (by decide)) (fun _ => ?_)
        refine v_iconst (v := 0) hX d_M_say_113 (by decide) ?_
        exact v_iret hX hE d_M_say_114 (Nat.le_of_ble_eq_true rfl) (Nat.le_of_ble_eq_true rfl) ⟨rfl, rfl, rfl, rfl, T, (soTh oJ 1), (Or.inl ⟨(fun z => absurd c49 (Int32.not_lt.mpr z.2.1)), rfl, rfl, (if_neg (fun z => absurd c49 (Int32.not_lt.mpr z.2.1))).symm⟩), hM2, ⟨hOJ.1.1, hOJ.1.2.1, hOJ.1.2.2.1, hOJ.1.2.2.2.1, (by have q9 := hOJ.1.2.2.2.2; first | exact q9 | omega | (show (ooSm oJ) ≤ 4300; omega))⟩, (hfJ.trans hf2)⟩
      · refine v_aload_n hX d_M_say_52 rfl rfl ?_
        refine v_mget hX hMJ 1 (v := .ref (ob 49)) (by decide) fl_M_7 rfl rfl d_M_say_53 ?_
        refine v_aload_n hX d_M_say_56 rfl rfl ?_
        refine v_mget hX hMJ 11 (v := .int (nI (ttHa T))) (by decide) fl_M_107 rfl gf_hand d_M_say_57 ?_
        refine v_mild hX hMJ 0 (i := (ttHa T)) (v := ((ttK T) (ttHa T))) ga_kind (by omega) (by decide) rfl d_M_say_60 ?_
        refine v_bipush (v := 10) hX d_M_say_61 (by decide) ?_
        refine c_S hX (rest := [.ref (ob 48)]) hl (c_M_mayHold ((ttK T) (ttHa T)) 10) ml_M_132 sm_M_mayHold in_M cd_M_mayHold rfl q_M_mayHold ⟨(Nat.le_of_ble_eq_true rfl), (Nat.le_of_ble_eq_true rfl)⟩ rfl rfl rfl (Nat.le_of_ble_eq_true rfl) d_M_say_63 ⟨(Nat.le_of_ble_eq_true rfl), (Nat.le_of_ble_eq_true rfl)⟩ (fun rv d2 lo2 va2 kc ns hp => ?_)
        obtain ⟨rfl, rfl, rfl, rfl, rfl, rfl⟩ := hp
        show V X D CL A _ _ _ _ _ _ _ (.int (mh ((ttK T) (ttHa T)) 10) :: [.ref (ob 48)])
        refine v_if_ne hX d_M_say_66 (tgt := 73) (by decide) (fun c66 => ?_) (fun c66 => ?_)
        · obtain ⟨nn, hn1, hn2, rfl⟩ := n_nat c43 c49
          refine v_aload_n hX d_M_say_73 rfl rfl ?_
          refine v_mget hX hMJ 10 (v := .int (nI (ttCh T))) (by decide) fl_M_104 rfl gf_characters d_M_say_74 ?_
          refine v_iload hX d_M_say_77 rfl ?_
          refine v_iaddE (v := nI ((ttCh T) + nn)) hX d_M_say_79 (nI_add (ttCh T) nn) ?_
          refine v_sipush (v := 4000) hX d_M_say_80 (by decide) ?_
          refine v_icmp_gt hX d_M_say_83 (tgt := 98) (by decide) (fun c83 => ?_) (fun c83 => ?_)
          · have f83 : 4000 < ((ttCh T) + nn) := (nI_ltI (a := 4000) (b := ((ttCh T) + nn)) (by omega) (by omega)).mp c83
            refine v_iconst (v := 2) hX d_M_say_98 (by decide) ?_
            refine v_goto hX d_M_say_99 (tgt := 103) (by decide) ?_
            refine v_mput hX hMJ 0 C T (soTh oJ 2) (by decide) fl_M_97 rfl rfl rfl rfl pf_thrown pa_thrown d_M_say_103 (fun va3 hM3 hf3 => ?_)
            refine v_aload_n hX d_M_say_106 rfl rfl ?_
            refine v_mget hX hM3 0 (v := .int 2) (by decide) fl_M_97 rfl hf_thrown d_M_say_107 ?_
            refine v_if_le hX d_M_say_110 (tgt := 115) (by decide) (fun c => absurd c (by decide)) (fun _ => ?_)
            refine v_iconst (v := 0) hX d_M_say_113 (by decide) ?_
            exact v_iret hX hE d_M_say_114 (Nat.le_of_ble_eq_true rfl) (Nat.le_of_ble_eq_true rfl) ⟨rfl, rfl, rfl, rfl, T, (soTh oJ 2), (Or.inl ⟨(fun z => by have q1 := z.2.2.2.1; rw [nI_clamp (by omega)] at q1; omega), rfl, rfl, (if_pos ⟨Int32.not_lt.mp c43, Int32.not_lt.mp c49, (mh_01 _ _).resolve_left c66⟩).symm⟩), hM3, ⟨hOJ.1.1, hOJ.1.2.1, hOJ.1.2.2.1, hOJ.1.2.2.2.1, (by have q9 := hOJ.1.2.2.2.2; first | exact q9 | omega | (show (ooSm oJ) ≤ 4300; omega))⟩, (hfJ.trans hf3)⟩
          · have f83 : ¬ 4000 < ((ttCh T) + nn) := fun z => c83 ((nI_ltI (a := 4000) (b := ((ttCh T) + nn)) (by omega) (by omega)).mpr z)
            refine v_iload hX d_M_say_86 rfl ?_
            refine v_if_eq hX d_M_say_88 (tgt := 102) (by decide) (fun c => absurd c (by decide)) (fun _ => ?_)
            refine v_aload_n hX d_M_say_91 rfl rfl ?_
            refine c_V hX 48 (rest := [.ref (ob 48)]) hl (c_M_isFull hMJ hOJ.1 hT) ml_M_137 im_M_isFull se_M_isFull in_M cd_M_isFull rfl q_M_isFull ⟨(Nat.le_of_ble_eq_true rfl), (Nat.le_of_ble_eq_true rfl)⟩ hMJ.1.1 hMJ.1.2.1 hMJ.1.2.2 rfl rfl rfl rfl (Nat.le_of_ble_eq_true rfl) d_M_say_92 ⟨(Nat.le_of_ble_eq_true rfl), (Nat.le_of_ble_eq_true rfl)⟩ (fun rv d2 lo2 va2 kc ns hp => ?_)
            obtain ⟨rfl, rfl, rfl, rfl, rfl, rfl⟩ := hp
            show V X D CL A _ _ _ _ _ _ _ (.int (flM T) :: [.ref (ob 48)])
            refine v_if_eq hX d_M_say_95 (tgt := 102) (by decide) (fun c95 => ?_) (fun c95 => ?_)
            · refine v_iconst (v := 0) hX d_M_say_102 (by decide) ?_
              refine v_mput hX hMJ 0 C T (soTh oJ 0) (by decide) fl_M_97 rfl rfl rfl rfl pf_thrown pa_thrown d_M_say_103 (fun va4 hM4 hf4 => ?_)
              refine v_aload_n hX d_M_say_106 rfl rfl ?_
              refine v_mget hX hM4 0 (v := .int 0) (by decide) fl_M_97 rfl hf_thrown d_M_say_107 ?_
              refine v_if_le hX d_M_say_110 (tgt := 115) (by decide) (fun _ => ?_) (fun c => absurd (by decide) c)
              have hsy : syM T (nI nn) := ⟨Int32.not_lt.mp c43, Int32.not_lt.mp c49, (mh_01 _ _).resolve_left c66, by rw [nI_clamp (by omega)]; omega, fun _ => c95⟩
              have hroom := fl_room hT c95
              refine v_iload hX d_M_say_115 rfl ?_
              refine v_if_eq hX d_M_say_117 (tgt := 130) (by decide) (fun c => absurd c (by decide)) (fun _ => ?_)
              refine v_aload_n hX d_M_say_120 rfl rfl ?_
              refine v_bipush (v := 10) hX d_M_say_121 (by decide) ?_
              refine v_iconst (v := 0) hX d_M_say_123 (by decide) ?_
              refine c_V hX 48 (rest := []) hl (c_M_add2 hM4 ⟨hOJ.1.1, hOJ.1.2.1, hOJ.1.2.2.1, hOJ.1.2.2.2.1, (by have q9 := hOJ.1.2.2.2.2; first | exact q9 | omega | (show (ooSm oJ) ≤ 4300; omega))⟩ 10 0 hT hroom.1) ml_M_141 im_M_add se_M_add in_M cd_M_add rfl q_M_add ⟨(Nat.le_of_ble_eq_true rfl), (Nat.le_of_ble_eq_true rfl)⟩ hM4.1.1 hM4.1.2.1 hM4.1.2.2 rfl rfl rfl rfl (Nat.le_of_ble_eq_true rfl) d_M_say_124 ⟨(Nat.le_of_ble_eq_true rfl), (Nat.le_of_ble_eq_true rfl)⟩ (fun rv d2 lo2 va5 kc ns hp => ?_)
              obtain ⟨rfl, rfl, rfl, rfl, _, _, ⟨rfl, rfl, rfl⟩, hM5, hO5, hf5⟩ := hp
              show V X D CL A _ _ _ _ _ _ _ (.int (nI (ttN T)) :: [])
              refine v_goto hX d_M_say_127 (tgt := 139) (by decide) ?_
              refine v_istore (lv' := [some (.ref (ob 48)), some (.int a), some (.int b), some (.int c), some (.int d), some (.int (nI nn)), some (.int 1), some (.int (nI (ttN T))), none]) hX d_M_say_139 (Nat.le_of_ble_eq_true rfl) rfl ?_
              have hch : ttCh (adT0 T 10 0) = ttCh T := rfl
              refine v_iconst (v := 0) hX d_M_say_141 (by decide) ?_
              refine v_istore (lv' := [some (.ref (ob 48)), some (.int a), some (.int b), some (.int c), some (.int d), some (.int (nI nn)), some (.int 1), some (.int (nI (ttN T))), some (.int 0)]) hX d_M_say_142 (Nat.le_of_ble_eq_true rfl) rfl ?_
              have h4 : nn = 1 ∨ nn = 2 ∨ nn = 3 ∨ nn = 4 := by omega
              rcases h4 with rfl | rfl | rfl | rfl
              · refine v_iload hX d_M_say_144 rfl ?_
                refine v_iload hX d_M_say_146 rfl ?_
                refine v_icmp_ge hX d_M_say_148 (tgt := 208) (by decide) (fun c => absurd c (by decide)) (fun _ => ?_)
                refine v_aload_n hX d_M_say_151 rfl rfl ?_
                refine v_mget hX hM5 8 (v := .ref (ob 56)) (by decide) fl_M_31 rfl rfl d_M_say_152 ?_
                refine v_aload_n hX d_M_say_155 rfl rfl ?_
                refine v_mget hX hM5 10 (v := .int (nI (ttCh (adT0 T 10 0)))) (by decide) fl_M_104 rfl gf_characters d_M_say_156 ?_
                refine v_iload hX d_M_say_159 rfl ?_
                refine v_if_ne hX d_M_say_161 (tgt := 168) (by decide) (fun c => absurd (by decide) c) (fun _ => ?_)
                refine v_iload_n hX d_M_say_164 rfl rfl ?_
                refine v_goto hX d_M_say_165 (tgt := 190) (by decide) ?_
                refine v_i2b hX d_M_say_190 rfl ?_
                refine v_mbst hX hM5 7 C (sxTe (adT0 T 10 0) (upd (ttTe (adT0 T 10 0)) (ttCh (adT0 T 10 0)) (vp_nar .byte ((a : Int32).toInt8.toInt32)))) (soTh oJ 0) (i := (ttCh (adT0 T 10 0))) (by decide) ga_text (by omega) (by decide) qf_text qa_text d_M_say_191 (fun va6 hM6 hf6 => ?_)
                refine v_aload_n hX d_M_say_192 rfl rfl ?_
                refine v_dup hX d_M_say_193 rfl ?_
                refine v_mget hX hM6 10 (v := .int (nI (ttCh (adT0 T 10 0)))) (by decide) fl_M_104 rfl ((nf_text 10).trans gf_characters) d_M_say_194 ?_
                refine v_iconst (v := 1) hX d_M_say_197 (by decide) ?_
                refine v_iaddE (v := nI ((ttCh (adT0 T 10 0)) + 1)) hX d_M_say_198 (nI_add (ttCh (adT0 T 10 0)) 1) ?_
                refine v_mput hX hM6 10 C (sxCh (sxTe (adT0 T 10 0) (upd (ttTe (adT0 T 10 0)) (ttCh (adT0 T 10 0)) (vp_nar .byte ((a : Int32).toInt8.toInt32)))) ((ttCh (adT0 T 10 0)) + 1)) (soTh oJ 0) (by decide) fl_M_104 rfl rfl rfl rfl pf_characters pa_characters d_M_say_199 (fun va7 hM7 hf7 => ?_)
                refine v_iinc (y := 1) (lv' := [some (.ref (ob 48)), some (.int a), some (.int b), some (.int c), some (.int d), some (.int (nI 1)), some (.int 1), some (.int (nI (ttN T))), some (.int 1)]) hX d_M_say_202 rfl (by decide) rfl ?_
                refine v_goto hX d_M_say_205 (tgt := 144) (by decide) ?_
                refine v_iload hX d_M_say_144 rfl ?_
                refine v_iload hX d_M_say_146 rfl ?_
                refine v_icmp_ge hX d_M_say_148 (tgt := 208) (by decide) (fun _ => ?_) (fun c => absurd (by decide) c)
                refine v_aload_n hX d_M_say_208 rfl rfl ?_
                refine v_mget hX hM7 6 (v := .ref (ob 54)) (by decide) fl_M_25 rfl rfl d_M_say_209 ?_
                refine v_iload hX d_M_say_212 rfl ?_
                refine v_dup2 hX d_M_say_214 rfl rfl ?_
                refine v_mild hX hM7 5 (i := (ttN T)) (v := (nI ((ttMa (adT0 T 10 0)) (ttN T)))) ((na_characters 5).trans ((na_text 5 (by decide)).trans ga_many)) (by omega) (by decide) rfl d_M_say_215 ?_
                refine v_iload hX d_M_say_216 rfl ?_
                refine v_iaddE (v := nI (((ttMa (adT0 T 10 0)) (ttN T)) + 1)) hX d_M_say_218 (nI_add ((ttMa (adT0 T 10 0)) (ttN T)) 1) ?_
                refine v_mist hX hM7 5 C (sxMa (sxCh (sxTe (adT0 T 10 0) (upd (ttTe (adT0 T 10 0)) (ttCh (adT0 T 10 0)) (vp_nar .byte ((a : Int32).toInt8.toInt32)))) ((ttCh (adT0 T 10 0)) + 1)) (updN (ttMa (adT0 T 10 0)) (ttN T) (((ttMa (adT0 T 10 0)) (ttN T)) + 1))) (soTh oJ 0) (i := (ttN T)) (by decide) ((na_characters 5).trans ((na_text 5 (by decide)).trans ga_many)) (by omega) (by decide) qf_many ((congrArg (fun f9 => (mar cI cB cZ C (sxCh (sxTe (adT0 T 10 0) (upd (ttTe (adT0 T 10 0)) (ttCh (adT0 T 10 0)) (vp_nar .byte ((a : Int32).toInt8.toInt32)))) ((ttCh (adT0 T 10 0)) + 1)) (soTh oJ 0)).set 5 (.inl (cI, 300, .inl f9))) (updN_nI (f := (ttMa (adT0 T 10 0))) (k := (ttN T)) (x := (((ttMa (adT0 T 10 0)) (ttN T)) + 1)))).trans qa_many) d_M_say_219 (fun va8 hM8 hf8 => ?_)
                refine v_iload hX d_M_say_220 rfl ?_
                exact v_iret hX hE d_M_say_222 (Nat.le_of_ble_eq_true rfl) (Nat.le_of_ble_eq_true rfl) ⟨rfl, rfl, rfl, rfl, (tlT (adT T 10 0) (upd (ttTe (adT0 T 10 0)) (ttCh (adT0 T 10 0)) (vp_nar .byte ((a : Int32).toInt8.toInt32))) (ttN T) 1), (soTh oJ 0), (Or.inr ⟨hsy, rfl, (upd (ttTe (adT0 T 10 0)) (ttCh (adT0 T 10 0)) (vp_nar .byte ((a : Int32).toInt8.toInt32))), 1, (ttN T), ⟨rfl, by omega, by omega⟩, rfl, Or.inl ⟨hAn, rfl, rfl⟩⟩), (by have h9 := hM8; skip; exact (h9.tl rfl).tlad), hO5, (((((hfJ.trans hf4).trans hf5).trans hf6).trans hf7).trans hf8)⟩
              · refine v_iload hX d_M_say_144 rfl ?_
                refine v_iload hX d_M_say_146 rfl ?_
                refine v_icmp_ge hX d_M_say_148 (tgt := 208) (by decide) (fun c => absurd c (by decide)) (fun _ => ?_)
                refine v_aload_n hX d_M_say_151 rfl rfl ?_
                refine v_mget hX hM5 8 (v := .ref (ob 56)) (by decide) fl_M_31 rfl rfl d_M_say_152 ?_
                refine v_aload_n hX d_M_say_155 rfl rfl ?_
                refine v_mget hX hM5 10 (v := .int (nI (ttCh (adT0 T 10 0)))) (by decide) fl_M_104 rfl gf_characters d_M_say_156 ?_
                refine v_iload hX d_M_say_159 rfl ?_
                refine v_if_ne hX d_M_say_161 (tgt := 168) (by decide) (fun c => absurd (by decide) c) (fun _ => ?_)
                refine v_iload_n hX d_M_say_164 rfl rfl ?_
                refine v_goto hX d_M_say_165 (tgt := 190) (by decide) ?_
                refine v_i2b hX d_M_say_190 rfl ?_
                refine v_mbst hX hM5 7 C (sxTe (adT0 T 10 0) (upd (ttTe (adT0 T 10 0)) (ttCh (adT0 T 10 0)) (vp_nar .byte ((a : Int32).toInt8.toInt32)))) (soTh oJ 0) (i := (ttCh (adT0 T 10 0))) (by decide) ga_text (by omega) (by decide) qf_text qa_text d_M_say_191 (fun va9 hM9 hf9 => ?_)
                refine v_aload_n hX d_M_say_192 rfl rfl ?_
                refine v_dup hX d_M_say_193 rfl ?_
                refine v_mget hX hM9 10 (v := .int (nI (ttCh (adT0 T 10 0)))) (by decide) fl_M_104 rfl ((nf_text 10).trans gf_characters) d_M_say_194 ?_
                refine v_iconst (v := 1) hX d_M_say_197 (by decide) ?_
                refine v_iaddE (v := nI ((ttCh (adT0 T 10 0)) + 1)) hX d_M_say_198 (nI_add (ttCh (adT0 T 10 0)) 1) ?_
                refine v_mput hX hM9 10 C (sxCh (sxTe (adT0 T 10 0) (upd (ttTe (adT0 T 10 0)) (ttCh (adT0 T 10 0)) (vp_nar .byte ((a : Int32).toInt8.toInt32)))) ((ttCh (adT0 T 10 0)) + 1)) (soTh oJ 0) (by decide) fl_M_104 rfl rfl rfl rfl pf_characters pa_characters d_M_say_199 (fun va10 hM10 hf10 => ?_)
                refine v_iinc (y := 1) (lv' := [some (.ref (ob 48)), some (.int a), some (.int b), some (.int c), some (.int d), some (.int (nI 2)), some (.int 1), some (.int (nI (ttN T))), some (.int 1)]) hX d_M_say_202 rfl (by decide) rfl ?_
                refine v_goto hX d_M_say_205 (tgt := 144) (by decide) ?_
                refine v_iload hX d_M_say_144 rfl ?_
                refine v_iload hX d_M_say_146 rfl ?_
                refine v_icmp_ge hX d_M_say_148 (tgt := 208) (by decide) (fun c => absurd c (by decide)) (fun _ => ?_)
                refine v_aload_n hX d_M_say_151 rfl rfl ?_
                refine v_mget hX hM10 8 (v := .ref (ob 56)) (by decide) fl_M_31 rfl rfl d_M_say_152 ?_
                refine v_aload_n hX d_M_say_155 rfl rfl ?_
                refine v_mget hX hM10 10 (v := .int (nI ((ttCh (adT0 T 10 0)) + 1))) (by decide) fl_M_104 rfl hf_characters d_M_say_156 ?_
                refine v_iload hX d_M_say_159 rfl ?_
                refine v_if_ne hX d_M_say_161 (tgt := 168) (by decide) (fun _ => ?_) (fun c => absurd c (by decide))
                refine v_iload hX d_M_say_168 rfl ?_
                refine v_iconst (v := 1) hX d_M_say_170 (by decide) ?_
                refine v_icmp_ne hX d_M_say_171 (tgt := 178) (by decide) (fun c => absurd (by decide) c) (fun _ => ?_)
                refine v_iload_n hX d_M_say_174 rfl rfl ?_
                refine v_goto hX d_M_say_175 (tgt := 190) (by decide) ?_
                refine v_i2b hX d_M_say_190 rfl ?_
                refine v_mbst hX hM10 7 C (sxTe (sxCh (sxTe (adT0 T 10 0) (upd (ttTe (adT0 T 10 0)) (ttCh (adT0 T 10 0)) (vp_nar .byte ((a : Int32).toInt8.toInt32)))) ((ttCh (adT0 T 10 0)) + 1)) (upd (upd (ttTe (adT0 T 10 0)) (ttCh (adT0 T 10 0)) (vp_nar .byte ((a : Int32).toInt8.toInt32))) ((ttCh (adT0 T 10 0)) + 1) (vp_nar .byte ((b : Int32).toInt8.toInt32)))) (soTh oJ 0) (i := ((ttCh (adT0 T 10 0)) + 1)) (by decide) ((na_characters 7).trans ha_text) (by omega) (by decide) qf_text qa_text d_M_say_191 (fun va11 hM11 hf11 => ?_)
                refine v_aload_n hX d_M_say_192 rfl rfl ?_
                refine v_dup hX d_M_say_193 rfl ?_
                refine v_mget hX hM11 10 (v := .int (nI ((ttCh (adT0 T 10 0)) + 1))) (by decide) fl_M_104 rfl ((nf_text 10).trans hf_characters) d_M_say_194 ?_
                refine v_iconst (v := 1) hX d_M_say_197 (by decide) ?_
                refine v_iaddE (v := nI (((ttCh (adT0 T 10 0)) + 1) + 1)) hX d_M_say_198 (nI_add ((ttCh (adT0 T 10 0)) + 1) 1) ?_
                refine v_mput hX hM11 10 C (sxCh (sxTe (sxCh (sxTe (adT0 T 10 0) (upd (ttTe (adT0 T 10 0)) (ttCh (adT0 T 10 0)) (vp_nar .byte ((a : Int32).toInt8.toInt32)))) ((ttCh (adT0 T 10 0)) + 1)) (upd (upd (ttTe (adT0 T 10 0)) (ttCh (adT0 T 10 0)) (vp_nar .byte ((a : Int32).toInt8.toInt32))) ((ttCh (adT0 T 10 0)) + 1) (vp_nar .byte ((b : Int32).toInt8.toInt32)))) (((ttCh (adT0 T 10 0)) + 1) + 1)) (soTh oJ 0) (by decide) fl_M_104 rfl rfl rfl rfl pf_characters pa_characters d_M_say_199 (fun va12 hM12 hf12 => ?_)
                refine v_iinc (y := 2) (lv' := [some (.ref (ob 48)), some (.int a), some (.int b), some (.int c), some (.int d), some (.int (nI 2)), some (.int 1), some (.int (nI (ttN T))), some (.int 2)]) hX d_M_say_202 rfl (by decide) rfl ?_
                refine v_goto hX d_M_say_205 (tgt := 144) (by decide) ?_
                refine v_iload hX d_M_say_144 rfl ?_
                refine v_iload hX d_M_say_146 rfl ?_
                refine v_icmp_ge hX d_M_say_148 (tgt := 208) (by decide) (fun _ => ?_) (fun c => absurd (by decide) c)
                refine v_aload_n hX d_M_say_208 rfl rfl ?_
                refine v_mget hX hM12 6 (v := .ref (ob 54)) (by decide) fl_M_25 rfl rfl d_M_say_209 ?_
                refine v_iload hX d_M_say_212 rfl ?_
                refine v_dup2 hX d_M_say_214 rfl rfl ?_
                refine v_mild hX hM12 5 (i := (ttN T)) (v := (nI ((ttMa (adT0 T 10 0)) (ttN T)))) ((na_characters 5).trans ((na_text 5 (by decide)).trans ((na_characters 5).trans ((na_text 5 (by decide)).trans ga_many)))) (by omega) (by decide) rfl d_M_say_215 ?_
                refine v_iload hX d_M_say_216 rfl ?_
                refine v_iaddE (v := nI (((ttMa (adT0 T 10 0)) (ttN T)) + 2)) hX d_M_say_218 (nI_add ((ttMa (adT0 T 10 0)) (ttN T)) 2) ?_
                refine v_mist hX hM12 5 C (sxMa (sxCh (sxTe (sxCh (sxTe (adT0 T 10 0) (upd (ttTe (adT0 T 10 0)) (ttCh (adT0 T 10 0)) (vp_nar .byte ((a : Int32).toInt8.toInt32)))) ((ttCh (adT0 T 10 0)) + 1)) (upd (upd (ttTe (adT0 T 10 0)) (ttCh (adT0 T 10 0)) (vp_nar .byte ((a : Int32).toInt8.toInt32))) ((ttCh (adT0 T 10 0)) + 1) (vp_nar .byte ((b : Int32).toInt8.toInt32)))) (((ttCh (adT0 T 10 0)) + 1) + 1)) (updN (ttMa (adT0 T 10 0)) (ttN T) (((ttMa (adT0 T 10 0)) (ttN T)) + 2))) (soTh oJ 0) (i := (ttN T)) (by decide) ((na_characters 5).trans ((na_text 5 (by decide)).trans ((na_characters 5).trans ((na_text 5 (by decide)).trans ga_many)))) (by omega) (by decide) qf_many ((congrArg (fun f9 => (mar cI cB cZ C (sxCh (sxTe (sxCh (sxTe (adT0 T 10 0) (upd (ttTe (adT0 T 10 0)) (ttCh (adT0 T 10 0)) (vp_nar .byte ((a : Int32).toInt8.toInt32)))) ((ttCh (adT0 T 10 0)) + 1)) (upd (upd (ttTe (adT0 T 10 0)) (ttCh (adT0 T 10 0)) (vp_nar .byte ((a : Int32).toInt8.toInt32))) ((ttCh (adT0 T 10 0)) + 1) (vp_nar .byte ((b : Int32).toInt8.toInt32)))) (((ttCh (adT0 T 10 0)) + 1) + 1)) (soTh oJ 0)).set 5 (.inl (cI, 300, .inl f9))) (updN_nI (f := (ttMa (adT0 T 10 0))) (k := (ttN T)) (x := (((ttMa (adT0 T 10 0)) (ttN T)) + 2)))).trans qa_many) d_M_say_219 (fun va13 hM13 hf13 => ?_)
                refine v_iload hX d_M_say_220 rfl ?_
                exact v_iret hX hE d_M_say_222 (Nat.le_of_ble_eq_true rfl) (Nat.le_of_ble_eq_true rfl) ⟨rfl, rfl, rfl, rfl, (tlT (adT T 10 0) (upd (upd (ttTe (adT0 T 10 0)) (ttCh (adT0 T 10 0)) (vp_nar .byte ((a : Int32).toInt8.toInt32))) ((ttCh (adT0 T 10 0)) + 1) (vp_nar .byte ((b : Int32).toInt8.toInt32))) (ttN T) 2), (soTh oJ 0), (Or.inr ⟨hsy, rfl, (upd (upd (ttTe (adT0 T 10 0)) (ttCh (adT0 T 10 0)) (vp_nar .byte ((a : Int32).toInt8.toInt32))) ((ttCh (adT0 T 10 0)) + 1) (vp_nar .byte ((b : Int32).toInt8.toInt32))), 2, (ttN T), ⟨rfl, by omega, by omega⟩, rfl, Or.inl ⟨hAn, rfl, rfl⟩⟩), (by have h9 := hM13; rw [tlc] at h9; exact (h9.tl rfl).tlad), hO5, (((((((hfJ.trans hf4).trans hf5).trans hf9).trans hf10).trans hf11).trans hf12).trans hf13)⟩
              · refine v_iload hX d_M_say_144 rfl ?_
                refine v_iload hX d_M_say_146 rfl ?_
                refine v_icmp_ge hX d_M_say_148 (tgt := 208) (by decide) (fun c => absurd c (by decide)) (fun _ => ?_)
                refine v_aload_n hX d_M_say_151 rfl rfl ?_
                refine v_mget hX hM5 8 (v := .ref (ob 56)) (by decide) fl_M_31 rfl rfl d_M_say_152 ?_
                refine v_aload_n hX d_M_say_155 rfl rfl ?_
                refine v_mget hX hM5 10 (v := .int (nI (ttCh (adT0 T 10 0)))) (by decide) fl_M_104 rfl gf_characters d_M_say_156 ?_
                refine v_iload hX d_M_say_159 rfl ?_
                refine v_if_ne hX d_M_say_161 (tgt := 168) (by decide) (fun c => absurd (by decide) c) (fun _ => ?_)
                refine v_iload_n hX d_M_say_164 rfl rfl ?_
                refine v_goto hX d_M_say_165 (tgt := 190) (by decide) ?_
                refine v_i2b hX d_M_say_190 rfl ?_
                refine v_mbst hX hM5 7 C (sxTe (adT0 T 10 0) (upd (ttTe (adT0 T 10 0)) (ttCh (adT0 T 10 0)) (vp_nar .byte ((a : Int32).toInt8.toInt32)))) (soTh oJ 0) (i := (ttCh (adT0 T 10 0))) (by decide) ga_text (by omega) (by decide) qf_text qa_text d_M_say_191 (fun va14 hM14 hf14 => ?_)
                refine v_aload_n hX d_M_say_192 rfl rfl ?_
                refine v_dup hX d_M_say_193 rfl ?_
                refine v_mget hX hM14 10 (v := .int (nI (ttCh (adT0 T 10 0)))) (by decide) fl_M_104 rfl ((nf_text 10).trans gf_characters) d_M_say_194 ?_
                refine v_iconst (v := 1) hX d_M_say_197 (by decide) ?_
                refine v_iaddE (v := nI ((ttCh (adT0 T 10 0)) + 1)) hX d_M_say_198 (nI_add (ttCh (adT0 T 10 0)) 1) ?_
                refine v_mput hX hM14 10 C (sxCh (sxTe (adT0 T 10 0) (upd (ttTe (adT0 T 10 0)) (ttCh (adT0 T 10 0)) (vp_nar .byte ((a : Int32).toInt8.toInt32)))) ((ttCh (adT0 T 10 0)) + 1)) (soTh oJ 0) (by decide) fl_M_104 rfl rfl rfl rfl pf_characters pa_characters d_M_say_199 (fun va15 hM15 hf15 => ?_)
                refine v_iinc (y := 1) (lv' := [some (.ref (ob 48)), some (.int a), some (.int b), some (.int c), some (.int d), some (.int (nI 3)), some (.int 1), some (.int (nI (ttN T))), some (.int 1)]) hX d_M_say_202 rfl (by decide) rfl ?_
                refine v_goto hX d_M_say_205 (tgt := 144) (by decide) ?_
                refine v_iload hX d_M_say_144 rfl ?_
                refine v_iload hX d_M_say_146 rfl ?_
                refine v_icmp_ge hX d_M_say_148 (tgt := 208) (by decide) (fun c => absurd c (by decide)) (fun _ => ?_)
                refine v_aload_n hX d_M_say_151 rfl rfl ?_
                refine v_mget hX hM15 8 (v := .ref (ob 56)) (by decide) fl_M_31 rfl rfl d_M_say_152 ?_
                refine v_aload_n hX d_M_say_155 rfl rfl ?_
                refine v_mget hX hM15 10 (v := .int (nI ((ttCh (adT0 T 10 0)) + 1))) (by decide) fl_M_104 rfl hf_characters d_M_say_156 ?_
                refine v_iload hX d_M_say_159 rfl ?_
                refine v_if_ne hX d_M_say_161 (tgt := 168) (by decide) (fun _ => ?_) (fun c => absurd c (by decide))
                refine v_iload hX d_M_say_168 rfl ?_
                refine v_iconst (v := 1) hX d_M_say_170 (by decide) ?_
                refine v_icmp_ne hX d_M_say_171 (tgt := 178) (by decide) (fun c => absurd (by decide) c) (fun _ => ?_)
                refine v_iload_n hX d_M_say_174 rfl rfl ?_
                refine v_goto hX d_M_say_175 (tgt := 190) (by decide) ?_
                refine v_i2b hX d_M_say_190 rfl ?_
                refine v_mbst hX hM15 7 C (sxTe (sxCh (sxTe (adT0 T 10 0) (upd (ttTe (adT0 T 10 0)) (ttCh (adT0 T 10 0)) (vp_nar .byte ((a : Int32).toInt8.toInt32)))) ((ttCh (adT0 T 10 0)) + 1)) (upd (upd (ttTe (adT0 T 10 0)) (ttCh (adT0 T 10 0)) (vp_nar .byte ((a : Int32).toInt8.toInt32))) ((ttCh (adT0 T 10 0)) + 1) (vp_nar .byte ((b : Int32).toInt8.toInt32)))) (soTh oJ 0) (i := ((ttCh (adT0 T 10 0)) + 1)) (by decide) ((na_characters 7).trans ha_text) (by omega) (by decide) qf_text qa_text d_M_say_191 (fun va16 hM16 hf16 => ?_)
                refine v_aload_n hX d_M_say_192 rfl rfl ?_
                refine v_dup hX d_M_say_193 rfl ?_
                refine v_mget hX hM16 10 (v := .int (nI ((ttCh (adT0 T 10 0)) + 1))) (by decide) fl_M_104 rfl ((nf_text 10).trans hf_characters) d_M_say_194 ?_
                refine v_iconst (v := 1) hX d_M_say_197 (by decide) ?_
                refine v_iaddE (v := nI (((ttCh (adT0 T 10 0)) + 1) + 1)) hX d_M_say_198 (nI_add ((ttCh (adT0 T 10 0)) + 1) 1) ?_
                refine v_mput hX hM16 10 C (sxCh (sxTe (sxCh (sxTe (adT0 T 10 0) (upd (ttTe (adT0 T 10 0)) (ttCh (adT0 T 10 0)) (vp_nar .byte ((a : Int32).toInt8.toInt32)))) ((ttCh (adT0 T 10 0)) + 1)) (upd (upd (ttTe (adT0 T 10 0)) (ttCh (adT0 T 10 0)) (vp_nar .byte ((a : Int32).toInt8.toInt32))) ((ttCh (adT0 T 10 0)) + 1) (vp_nar .byte ((b : Int32).toInt8.toInt32)))) (((ttCh (adT0 T 10 0)) + 1) + 1)) (soTh oJ 0) (by decide) fl_M_104 rfl rfl rfl rfl pf_characters pa_characters d_M_say_199 (fun va17 hM17 hf17 => ?_)
                refine v_iinc (y := 2) (lv' := [some (.ref (ob 48)), some (.int a), some (.int b), some (.int c), some (.int d), some (.int (nI 3)), some (.int 1), some (.int (nI (ttN T))), some (.int 2)]) hX d_M_say_202 rfl (by decide) rfl ?_
                refine v_goto hX d_M_say_205 (tgt := 144) (by decide) ?_
                refine v_iload hX d_M_say_144 rfl ?_
                refine v_iload hX d_M_say_146 rfl ?_
                refine v_icmp_ge hX d_M_say_148 (tgt := 208) (by decide) (fun c => absurd c (by decide)) (fun _ => ?_)
                refine v_aload_n hX d_M_say_151 rfl rfl ?_
                refine v_mget hX hM17 8 (v := .ref (ob 56)) (by decide) fl_M_31 rfl rfl d_M_say_152 ?_
                refine v_aload_n hX d_M_say_155 rfl rfl ?_
                refine v_mget hX hM17 10 (v := .int (nI (((ttCh (adT0 T 10 0)) + 1) + 1))) (by decide) fl_M_104 rfl hf_characters d_M_say_156 ?_
                refine v_iload hX d_M_say_159 rfl ?_
                refine v_if_ne hX d_M_say_161 (tgt := 168) (by decide) (fun _ => ?_) (fun c => absurd c (by decide))
                refine v_iload hX d_M_say_168 rfl ?_
                refine v_iconst (v := 1) hX d_M_say_170 (by decide) ?_
                refine v_icmp_ne hX d_M_say_171 (tgt := 178) (by decide) (fun _ => ?_) (fun c => absurd c (by decide))
                refine v_iload hX d_M_say_178 rfl ?_
                refine v_iconst (v := 2) hX d_M_say_180 (by decide) ?_
                refine v_icmp_ne hX d_M_say_181 (tgt := 188) (by decide) (fun c => absurd (by decide) c) (fun _ => ?_)
                refine v_iload_n hX d_M_say_184 rfl rfl ?_
                refine v_goto hX d_M_say_185 (tgt := 190) (by decide) ?_
                refine v_i2b hX d_M_say_190 rfl ?_
                refine v_mbst hX hM17 7 C (sxTe (sxCh (sxTe (sxCh (sxTe (adT0 T 10 0) (upd (ttTe (adT0 T 10 0)) (ttCh (adT0 T 10 0)) (vp_nar .byte ((a : Int32).toInt8.toInt32)))) ((ttCh (adT0 T 10 0)) + 1)) (upd (upd (ttTe (adT0 T 10 0)) (ttCh (adT0 T 10 0)) (vp_nar .byte ((a : Int32).toInt8.toInt32))) ((ttCh (adT0 T 10 0)) + 1) (vp_nar .byte ((b : Int32).toInt8.toInt32)))) (((ttCh (adT0 T 10 0)) + 1) + 1)) (upd (upd (upd (ttTe (adT0 T 10 0)) (ttCh (adT0 T 10 0)) (vp_nar .byte ((a : Int32).toInt8.toInt32))) ((ttCh (adT0 T 10 0)) + 1) (vp_nar .byte ((b : Int32).toInt8.toInt32))) (((ttCh (adT0 T 10 0)) + 1) + 1) (vp_nar .byte ((c : Int32).toInt8.toInt32)))) (soTh oJ 0) (i := (((ttCh (adT0 T 10 0)) + 1) + 1)) (by decide) ((na_characters 7).trans ha_text) (by omega) (by decide) qf_text qa_text d_M_say_191 (fun va18 hM18 hf18 => ?_)
                refine v_aload_n hX d_M_say_192 rfl rfl ?_
                refine v_dup hX d_M_say_193 rfl ?_
                refine v_mget hX hM18 10 (v := .int (nI (((ttCh (adT0 T 10 0)) + 1) + 1))) (by decide) fl_M_104 rfl ((nf_text 10).trans hf_characters) d_M_say_194 ?_
                refine v_iconst (v := 1) hX d_M_say_197 (by decide) ?_
                refine v_iaddE (v := nI ((((ttCh (adT0 T 10 0)) + 1) + 1) + 1)) hX d_M_say_198 (nI_add (((ttCh (adT0 T 10 0)) + 1) + 1) 1) ?_
                refine v_mput hX hM18 10 C (sxCh (sxTe (sxCh (sxTe (sxCh (sxTe (adT0 T 10 0) (upd (ttTe (adT0 T 10 0)) (ttCh (adT0 T 10 0)) (vp_nar .byte ((a : Int32).toInt8.toInt32)))) ((ttCh (adT0 T 10 0)) + 1)) (upd (upd (ttTe (adT0 T 10 0)) (ttCh (adT0 T 10 0)) (vp_nar .byte ((a : Int32).toInt8.toInt32))) ((ttCh (adT0 T 10 0)) + 1) (vp_nar .byte ((b : Int32).toInt8.toInt32)))) (((ttCh (adT0 T 10 0)) + 1) + 1)) (upd (upd (upd (ttTe (adT0 T 10 0)) (ttCh (adT0 T 10 0)) (vp_nar .byte ((a : Int32).toInt8.toInt32))) ((ttCh (adT0 T 10 0)) + 1) (vp_nar .byte ((b : Int32).toInt8.toInt32))) (((ttCh (adT0 T 10 0)) + 1) + 1) (vp_nar .byte ((c : Int32).toInt8.toInt32)))) ((((ttCh (adT0 T 10 0)) + 1) + 1) + 1)) (soTh oJ 0) (by decide) fl_M_104 rfl rfl rfl rfl pf_characters pa_characters d_M_say_199 (fun va19 hM19 hf19 => ?_)
                refine v_iinc (y := 3) (lv' := [some (.ref (ob 48)), some (.int a), some (.int b), some (.int c), some (.int d), some (.int (nI 3)), some (.int 1), some (.int (nI (ttN T))), some (.int 3)]) hX d_M_say_202 rfl (by decide) rfl ?_
                refine v_goto hX d_M_say_205 (tgt := 144) (by decide) ?_
                refine v_iload hX d_M_say_144 rfl ?_
                refine v_iload hX d_M_say_146 rfl ?_
                refine v_icmp_ge hX d_M_say_148 (tgt := 208) (by decide) (fun _ => ?_) (fun c => absurd (by decide) c)
                refine v_aload_n hX d_M_say_208 rfl rfl ?_
                refine v_mget hX hM19 6 (v := .ref (ob 54)) (by decide) fl_M_25 rfl rfl d_M_say_209 ?_
                refine v_iload hX d_M_say_212 rfl ?_
                refine v_dup2 hX d_M_say_214 rfl rfl ?_
                refine v_mild hX hM19 5 (i := (ttN T)) (v := (nI ((ttMa (adT0 T 10 0)) (ttN T)))) ((na_characters 5).trans ((na_text 5 (by decide)).trans ((na_characters 5).trans ((na_text 5 (by decide)).trans ((na_characters 5).trans ((na_text 5 (by decide)).trans ga_many)))))) (by omega) (by decide) rfl d_M_say_215 ?_
                refine v_iload hX d_M_say_216 rfl ?_
                refine v_iaddE (v := nI (((ttMa (adT0 T 10 0)) (ttN T)) + 3)) hX d_M_say_218 (nI_add ((ttMa (adT0 T 10 0)) (ttN T)) 3) ?_
                refine v_mist hX hM19 5 C (sxMa (sxCh (sxTe (sxCh (sxTe (sxCh (sxTe (adT0 T 10 0) (upd (ttTe (adT0 T 10 0)) (ttCh (adT0 T 10 0)) (vp_nar .byte ((a : Int32).toInt8.toInt32)))) ((ttCh (adT0 T 10 0)) + 1)) (upd (upd (ttTe (adT0 T 10 0)) (ttCh (adT0 T 10 0)) (vp_nar .byte ((a : Int32).toInt8.toInt32))) ((ttCh (adT0 T 10 0)) + 1) (vp_nar .byte ((b : Int32).toInt8.toInt32)))) (((ttCh (adT0 T 10 0)) + 1) + 1)) (upd (upd (upd (ttTe (adT0 T 10 0)) (ttCh (adT0 T 10 0)) (vp_nar .byte ((a : Int32).toInt8.toInt32))) ((ttCh (adT0 T 10 0)) + 1) (vp_nar .byte ((b : Int32).toInt8.toInt32))) (((ttCh (adT0 T 10 0)) + 1) + 1) (vp_nar .byte ((c : Int32).toInt8.toInt32)))) ((((ttCh (adT0 T 10 0)) + 1) + 1) + 1)) (updN (ttMa (adT0 T 10 0)) (ttN T) (((ttMa (adT0 T 10 0)) (ttN T)) + 3))) (soTh oJ 0) (i := (ttN T)) (by decide) ((na_characters 5).trans ((na_text 5 (by decide)).trans ((na_characters 5).trans ((na_text 5 (by decide)).trans ((na_characters 5).trans ((na_text 5 (by decide)).trans ga_many)))))) (by omega) (by decide) qf_many ((congrArg (fun f9 => (mar cI cB cZ C (sxCh (sxTe (sxCh (sxTe (sxCh (sxTe (adT0 T 10 0) (upd (ttTe (adT0 T 10 0)) (ttCh (adT0 T 10 0)) (vp_nar .byte ((a : Int32).toInt8.toInt32)))) ((ttCh (adT0 T 10 0)) + 1)) (upd (upd (ttTe (adT0 T 10 0)) (ttCh (adT0 T 10 0)) (vp_nar .byte ((a : Int32).toInt8.toInt32))) ((ttCh (adT0 T 10 0)) + 1) (vp_nar .byte ((b : Int32).toInt8.toInt32)))) (((ttCh (adT0 T 10 0)) + 1) + 1)) (upd (upd (upd (ttTe (adT0 T 10 0)) (ttCh (adT0 T 10 0)) (vp_nar .byte ((a : Int32).toInt8.toInt32))) ((ttCh (adT0 T 10 0)) + 1) (vp_nar .byte ((b : Int32).toInt8.toInt32))) (((ttCh (adT0 T 10 0)) + 1) + 1) (vp_nar .byte ((c : Int32).toInt8.toInt32)))) ((((ttCh (adT0 T 10 0)) + 1) + 1) + 1)) (soTh oJ 0)).set 5 (.inl (cI, 300, .inl f9))) (updN_nI (f := (ttMa (adT0 T 10 0))) (k := (ttN T)) (x := (((ttMa (adT0 T 10 0)) (ttN T)) + 3)))).trans qa_many) d_M_say_219 (fun va20 hM20 hf20 => ?_)
                refine v_iload hX d_M_say_220 rfl ?_
                exact v_iret hX hE d_M_say_222 (Nat.le_of_ble_eq_true rfl) (Nat.le_of_ble_eq_true rfl) ⟨rfl, rfl, rfl, rfl, (tlT (adT T 10 0) (upd (upd (upd (ttTe (adT0 T 10 0)) (ttCh (adT0 T 10 0)) (vp_nar .byte ((a : Int32).toInt8.toInt32))) ((ttCh (adT0 T 10 0)) + 1) (vp_nar .byte ((b : Int32).toInt8.toInt32))) (((ttCh (adT0 T 10 0)) + 1) + 1) (vp_nar .byte ((c : Int32).toInt8.toInt32))) (ttN T) 3), (soTh oJ 0), (Or.inr ⟨hsy, rfl, (upd (upd (upd (ttTe (adT0 T 10 0)) (ttCh (adT0 T 10 0)) (vp_nar .byte ((a : Int32).toInt8.toInt32))) ((ttCh (adT0 T 10 0)) + 1) (vp_nar .byte ((b : Int32).toInt8.toInt32))) (((ttCh (adT0 T 10 0)) + 1) + 1) (vp_nar .byte ((c : Int32).toInt8.toInt32))), 3, (ttN T), ⟨rfl, by omega, by omega⟩, rfl, Or.inl ⟨hAn, rfl, rfl⟩⟩), (by have h9 := hM20; rw [tlc] at h9; rw [tlc] at h9; exact (h9.tl rfl).tlad), hO5, (((((((((hfJ.trans hf4).trans hf5).trans hf14).trans hf15).trans hf16).trans hf17).trans hf18).trans hf19).trans hf20)⟩
              · refine v_iload hX d_M_say_144 rfl ?_
                refine v_iload hX d_M_say_146 rfl ?_
                refine v_icmp_ge hX d_M_say_148 (tgt := 208) (by decide) (fun c => absurd c (by decide)) (fun _ => ?_)
                refine v_aload_n hX d_M_say_151 rfl rfl ?_
                refine v_mget hX hM5 8 (v := .ref (ob 56)) (by decide) fl_M_31 rfl rfl d_M_say_152 ?_
                refine v_aload_n hX d_M_say_155 rfl rfl ?_
                refine v_mget hX hM5 10 (v := .int (nI (ttCh (adT0 T 10 0)))) (by decide) fl_M_104 rfl gf_characters d_M_say_156 ?_
                refine v_iload hX d_M_say_159 rfl ?_
                refine v_if_ne hX d_M_say_161 (tgt := 168) (by decide) (fun c => absurd (by decide) c) (fun _ => ?_)
                refine v_iload_n hX d_M_say_164 rfl rfl ?_
                refine v_goto hX d_M_say_165 (tgt := 190) (by decide) ?_
                refine v_i2b hX d_M_say_190 rfl ?_
                refine v_mbst hX hM5 7 C (sxTe (adT0 T 10 0) (upd (ttTe (adT0 T 10 0)) (ttCh (adT0 T 10 0)) (vp_nar .byte ((a : Int32).toInt8.toInt32)))) (soTh oJ 0) (i := (ttCh (adT0 T 10 0))) (by decide) ga_text (by omega) (by decide) qf_text qa_text d_M_say_191 (fun va21 hM21 hf21 => ?_)
                refine v_aload_n hX d_M_say_192 rfl rfl ?_
                refine v_dup hX d_M_say_193 rfl ?_
                refine v_mget hX hM21 10 (v := .int (nI (ttCh (adT0 T 10 0)))) (by decide) fl_M_104 rfl ((nf_text 10).trans gf_characters) d_M_say_194 ?_
                refine v_iconst (v := 1) hX d_M_say_197 (by decide) ?_
                refine v_iaddE (v := nI ((ttCh (adT0 T 10 0)) + 1)) hX d_M_say_198 (nI_add (ttCh (adT0 T 10 0)) 1) ?_
                refine v_mput hX hM21 10 C (sxCh (sxTe (adT0 T 10 0) (upd (ttTe (adT0 T 10 0)) (ttCh (adT0 T 10 0)) (vp_nar .byte ((a : Int32).toInt8.toInt32)))) ((ttCh (adT0 T 10 0)) + 1)) (soTh oJ 0) (by decide) fl_M_104 rfl rfl rfl rfl pf_characters pa_characters d_M_say_199 (fun va22 hM22 hf22 => ?_)
                refine v_iinc (y := 1) (lv' := [some (.ref (ob 48)), some (.int a), some (.int b), some (.int c), some (.int d), some (.int (nI 4)), some (.int 1), some (.int (nI (ttN T))), some (.int 1)]) hX d_M_say_202 rfl (by decide) rfl ?_
                refine v_goto hX d_M_say_205 (tgt := 144) (by decide) ?_
                refine v_iload hX d_M_say_144 rfl ?_
                refine v_iload hX d_M_say_146 rfl ?_
                refine v_icmp_ge hX d_M_say_148 (tgt := 208) (by decide) (fun c => absurd c (by decide)) (fun _ => ?_)
                refine v_aload_n hX d_M_say_151 rfl rfl ?_
                refine v_mget hX hM22 8 (v := .ref (ob 56)) (by decide) fl_M_31 rfl rfl d_M_say_152 ?_
                refine v_aload_n hX d_M_say_155 rfl rfl ?_
                refine v_mget hX hM22 10 (v := .int (nI ((ttCh (adT0 T 10 0)) + 1))) (by decide) fl_M_104 rfl hf_characters d_M_say_156 ?_
                refine v_iload hX d_M_say_159 rfl ?_
                refine v_if_ne hX d_M_say_161 (tgt := 168) (by decide) (fun _ => ?_) (fun c => absurd c (by decide))
                refine v_iload hX d_M_say_168 rfl ?_
                refine v_iconst (v := 1) hX d_M_say_170 (by decide) ?_
                refine v_icmp_ne hX d_M_say_171 (tgt := 178) (by decide) (fun c => absurd (by decide) c) (fun _ => ?_)
                refine v_iload_n hX d_M_say_174 rfl rfl ?_
                refine v_goto hX d_M_say_175 (tgt := 190) (by decide) ?_
                refine v_i2b hX d_M_say_190 rfl ?_
                refine v_mbst hX hM22 7 C (sxTe (sxCh (sxTe (adT0 T 10 0) (upd (ttTe (adT0 T 10 0)) (ttCh (adT0 T 10 0)) (vp_nar .byte ((a : Int32).toInt8.toInt32)))) ((ttCh (adT0 T 10 0)) + 1)) (upd (upd (ttTe (adT0 T 10 0)) (ttCh (adT0 T 10 0)) (vp_nar .byte ((a : Int32).toInt8.toInt32))) ((ttCh (adT0 T 10 0)) + 1) (vp_nar .byte ((b : Int32).toInt8.toInt32)))) (soTh oJ 0) (i := ((ttCh (adT0 T 10 0)) + 1)) (by decide) ((na_characters 7).trans ha_text) (by omega) (by decide) qf_text qa_text d_M_say_191 (fun va23 hM23 hf23 => ?_)
                refine v_aload_n hX d_M_say_192 rfl rfl ?_
                refine v_dup hX d_M_say_193 rfl ?_
                refine v_mget hX hM23 10 (v := .int (nI ((ttCh (adT0 T 10 0)) + 1))) (by decide) fl_M_104 rfl ((nf_text 10).trans hf_characters) d_M_say_194 ?_
                refine v_iconst (v := 1) hX d_M_say_197 (by decide) ?_
                refine v_iaddE (v := nI (((ttCh (adT0 T 10 0)) + 1) + 1)) hX d_M_say_198 (nI_add ((ttCh (adT0 T 10 0)) + 1) 1) ?_
                refine v_mput hX hM23 10 C (sxCh (sxTe (sxCh (sxTe (adT0 T 10 0) (upd (ttTe (adT0 T 10 0)) (ttCh (adT0 T 10 0)) (vp_nar .byte ((a : Int32).toInt8.toInt32)))) ((ttCh (adT0 T 10 0)) + 1)) (upd (upd (ttTe (adT0 T 10 0)) (ttCh (adT0 T 10 0)) (vp_nar .byte ((a : Int32).toInt8.toInt32))) ((ttCh (adT0 T 10 0)) + 1) (vp_nar .byte ((b : Int32).toInt8.toInt32)))) (((ttCh (adT0 T 10 0)) + 1) + 1)) (soTh oJ 0) (by decide) fl_M_104 rfl rfl rfl rfl pf_characters pa_characters d_M_say_199 (fun va24 hM24 hf24 => ?_)
                refine v_iinc (y := 2) (lv' := [some (.ref (ob 48)), some (.int a), some (.int b), some (.int c), some (.int d), some (.int (nI 4)), some (.int 1), some (.int (nI (ttN T))), some (.int 2)]) hX d_M_say_202 rfl (by decide) rfl ?_
                refine v_goto hX d_M_say_205 (tgt := 144) (by decide) ?_
                refine v_iload hX d_M_say_144 rfl ?_
                refine v_iload hX d_M_say_146 rfl ?_
                refine v_icmp_ge hX d_M_say_148 (tgt := 208) (by decide) (fun c => absurd c (by decide)) (fun _ => ?_)
                refine v_aload_n hX d_M_say_151 rfl rfl ?_
                refine v_mget hX hM24 8 (v := .ref (ob 56)) (by decide) fl_M_31 rfl rfl d_M_say_152 ?_
                refine v_aload_n hX d_M_say_155 rfl rfl ?_
                refine v_mget hX hM24 10 (v := .int (nI (((ttCh (adT0 T 10 0)) + 1) + 1))) (by decide) fl_M_104 rfl hf_characters d_M_say_156 ?_
                refine v_iload hX d_M_say_159 rfl ?_
                refine v_if_ne hX d_M_say_161 (tgt := 168) (by decide) (fun _ => ?_) (fun c => absurd c (by decide))
                refine v_iload hX d_M_say_168 rfl ?_
                refine v_iconst (v := 1) hX d_M_say_170 (by decide) ?_
                refine v_icmp_ne hX d_M_say_171 (tgt := 178) (by decide) (fun _ => ?_) (fun c => absurd c (by decide))
                refine v_iload hX d_M_say_178 rfl ?_
                refine v_iconst (v := 2) hX d_M_say_180 (by decide) ?_
                refine v_icmp_ne hX d_M_say_181 (tgt := 188) (by decide) (fun c => absurd (by decide) c) (fun _ => ?_)
                refine v_iload_n hX d_M_say_184 rfl rfl ?_
                refine v_goto hX d_M_say_185 (tgt := 190) (by decide) ?_
                refine v_i2b hX d_M_say_190 rfl ?_
                refine v_mbst hX hM24 7 C (sxTe (sxCh (sxTe (sxCh (sxTe (adT0 T 10 0) (upd (ttTe (adT0 T 10 0)) (ttCh (adT0 T 10 0)) (vp_nar .byte ((a : Int32).toInt8.toInt32)))) ((ttCh (adT0 T 10 0)) + 1)) (upd (upd (ttTe (adT0 T 10 0)) (ttCh (adT0 T 10 0)) (vp_nar .byte ((a : Int32).toInt8.toInt32))) ((ttCh (adT0 T 10 0)) + 1) (vp_nar .byte ((b : Int32).toInt8.toInt32)))) (((ttCh (adT0 T 10 0)) + 1) + 1)) (upd (upd (upd (ttTe (adT0 T 10 0)) (ttCh (adT0 T 10 0)) (vp_nar .byte ((a : Int32).toInt8.toInt32))) ((ttCh (adT0 T 10 0)) + 1) (vp_nar .byte ((b : Int32).toInt8.toInt32))) (((ttCh (adT0 T 10 0)) + 1) + 1) (vp_nar .byte ((c : Int32).toInt8.toInt32)))) (soTh oJ 0) (i := (((ttCh (adT0 T 10 0)) + 1) + 1)) (by decide) ((na_characters 7).trans ha_text) (by omega) (by decide) qf_text qa_text d_M_say_191 (fun va25 hM25 hf25 => ?_)
                refine v_aload_n hX d_M_say_192 rfl rfl ?_
                refine v_dup hX d_M_say_193 rfl ?_
                refine v_mget hX hM25 10 (v := .int (nI (((ttCh (adT0 T 10 0)) + 1) + 1))) (by decide) fl_M_104 rfl ((nf_text 10).trans hf_characters) d_M_say_194 ?_
                refine v_iconst (v := 1) hX d_M_say_197 (by decide) ?_
                refine v_iaddE (v := nI ((((ttCh (adT0 T 10 0)) + 1) + 1) + 1)) hX d_M_say_198 (nI_add (((ttCh (adT0 T 10 0)) + 1) + 1) 1) ?_
                refine v_mput hX hM25 10 C (sxCh (sxTe (sxCh (sxTe (sxCh (sxTe (adT0 T 10 0) (upd (ttTe (adT0 T 10 0)) (ttCh (adT0 T 10 0)) (vp_nar .byte ((a : Int32).toInt8.toInt32)))) ((ttCh (adT0 T 10 0)) + 1)) (upd (upd (ttTe (adT0 T 10 0)) (ttCh (adT0 T 10 0)) (vp_nar .byte ((a : Int32).toInt8.toInt32))) ((ttCh (adT0 T 10 0)) + 1) (vp_nar .byte ((b : Int32).toInt8.toInt32)))) (((ttCh (adT0 T 10 0)) + 1) + 1)) (upd (upd (upd (ttTe (adT0 T 10 0)) (ttCh (adT0 T 10 0)) (vp_nar .byte ((a : Int32).toInt8.toInt32))) ((ttCh (adT0 T 10 0)) + 1) (vp_nar .byte ((b : Int32).toInt8.toInt32))) (((ttCh (adT0 T 10 0)) + 1) + 1) (vp_nar .byte ((c : Int32).toInt8.toInt32)))) ((((ttCh (adT0 T 10 0)) + 1) + 1) + 1)) (soTh oJ 0) (by decide) fl_M_104 rfl rfl rfl rfl pf_characters pa_characters d_M_say_199 (fun va26 hM26 hf26 => ?_)
                refine v_iinc (y := 3) (lv' := [some (.ref (ob 48)), some (.int a), some (.int b), some (.int c), some (.int d), some (.int (nI 4)), some (.int 1), some (.int (nI (ttN T))), some (.int 3)]) hX d_M_say_202 rfl (by decide) rfl ?_
                refine v_goto hX d_M_say_205 (tgt := 144) (by decide) ?_
                refine v_iload hX d_M_say_144 rfl ?_
                refine v_iload hX d_M_say_146 rfl ?_
                refine v_icmp_ge hX d_M_say_148 (tgt := 208) (by decide) (fun c => absurd c (by decide)) (fun _ => ?_)
                refine v_aload_n hX d_M_say_151 rfl rfl ?_
                refine v_mget hX hM26 8 (v := .ref (ob 56)) (by decide) fl_M_31 rfl rfl d_M_say_152 ?_
                refine v_aload_n hX d_M_say_155 rfl rfl ?_
                refine v_mget hX hM26 10 (v := .int (nI ((((ttCh (adT0 T 10 0)) + 1) + 1) + 1))) (by decide) fl_M_104 rfl hf_characters d_M_say_156 ?_
                refine v_iload hX d_M_say_159 rfl ?_
                refine v_if_ne hX d_M_say_161 (tgt := 168) (by decide) (fun _ => ?_) (fun c => absurd c (by decide))
                refine v_iload hX d_M_say_168 rfl ?_
                refine v_iconst (v := 1) hX d_M_say_170 (by decide) ?_
                refine v_icmp_ne hX d_M_say_171 (tgt := 178) (by decide) (fun _ => ?_) (fun c => absurd c (by decide))
                refine v_iload hX d_M_say_178 rfl ?_
                refine v_iconst (v := 2) hX d_M_say_180 (by decide) ?_
                refine v_icmp_ne hX d_M_say_181 (tgt := 188) (by decide) (fun _ => ?_) (fun c => absurd c (by decide))
                refine v_iload hX d_M_say_188 rfl ?_
                refine v_i2b hX d_M_say_190 rfl ?_
                refine v_mbst hX hM26 7 C (sxTe (sxCh (sxTe (sxCh (sxTe (sxCh (sxTe (adT0 T 10 0) (upd (ttTe (adT0 T 10 0)) (ttCh (adT0 T 10 0)) (vp_nar .byte ((a : Int32).toInt8.toInt32)))) ((ttCh (adT0 T 10 0)) + 1)) (upd (upd (ttTe (adT0 T 10 0)) (ttCh (adT0 T 10 0)) (vp_nar .byte ((a : Int32).toInt8.toInt32))) ((ttCh (adT0 T 10 0)) + 1) (vp_nar .byte ((b : Int32).toInt8.toInt32)))) (((ttCh (adT0 T 10 0)) + 1) + 1)) (upd (upd (upd (ttTe (adT0 T 10 0)) (ttCh (adT0 T 10 0)) (vp_nar .byte ((a : Int32).toInt8.toInt32))) ((ttCh (adT0 T 10 0)) + 1) (vp_nar .byte ((b : Int32).toInt8.toInt32))) (((ttCh (adT0 T 10 0)) + 1) + 1) (vp_nar .byte ((c : Int32).toInt8.toInt32)))) ((((ttCh (adT0 T 10 0)) + 1) + 1) + 1)) (upd (upd (upd (upd (ttTe (adT0 T 10 0)) (ttCh (adT0 T 10 0)) (vp_nar .byte ((a : Int32).toInt8.toInt32))) ((ttCh (adT0 T 10 0)) + 1) (vp_nar .byte ((b : Int32).toInt8.toInt32))) (((ttCh (adT0 T 10 0)) + 1) + 1) (vp_nar .byte ((c : Int32).toInt8.toInt32))) ((((ttCh (adT0 T 10 0)) + 1) + 1) + 1) (vp_nar .byte ((d : Int32).toInt8.toInt32)))) (soTh oJ 0) (i := ((((ttCh (adT0 T 10 0)) + 1) + 1) + 1)) (by decide) ((na_characters 7).trans ha_text) (by omega) (by decide) qf_text qa_text d_M_say_191 (fun va27 hM27 hf27 => ?_)
                refine v_aload_n hX d_M_say_192 rfl rfl ?_
                refine v_dup hX d_M_say_193 rfl ?_
                refine v_mget hX hM27 10 (v := .int (nI ((((ttCh (adT0 T 10 0)) + 1) + 1) + 1))) (by decide) fl_M_104 rfl ((nf_text 10).trans hf_characters) d_M_say_194 ?_
                refine v_iconst (v := 1) hX d_M_say_197 (by decide) ?_
                refine v_iaddE (v := nI (((((ttCh (adT0 T 10 0)) + 1) + 1) + 1) + 1)) hX d_M_say_198 (nI_add ((((ttCh (adT0 T 10 0)) + 1) + 1) + 1) 1) ?_
                refine v_mput hX hM27 10 C (sxCh (sxTe (sxCh (sxTe (sxCh (sxTe (sxCh (sxTe (adT0 T 10 0) (upd (ttTe (adT0 T 10 0)) (ttCh (adT0 T 10 0)) (vp_nar .byte ((a : Int32).toInt8.toInt32)))) ((ttCh (adT0 T 10 0)) + 1)) (upd (upd (ttTe (adT0 T 10 0)) (ttCh (adT0 T 10 0)) (vp_nar .byte ((a : Int32).toInt8.toInt32))) ((ttCh (adT0 T 10 0)) + 1) (vp_nar .byte ((b : Int32).toInt8.toInt32)))) (((ttCh (adT0 T 10 0)) + 1) + 1)) (upd (upd (upd (ttTe (adT0 T 10 0)) (ttCh (adT0 T 10 0)) (vp_nar .byte ((a : Int32).toInt8.toInt32))) ((ttCh (adT0 T 10 0)) + 1) (vp_nar .byte ((b : Int32).toInt8.toInt32))) (((ttCh (adT0 T 10 0)) + 1) + 1) (vp_nar .byte ((c : Int32).toInt8.toInt32)))) ((((ttCh (adT0 T 10 0)) + 1) + 1) + 1)) (upd (upd (upd (upd (ttTe (adT0 T 10 0)) (ttCh (adT0 T 10 0)) (vp_nar .byte ((a : Int32).toInt8.toInt32))) ((ttCh (adT0 T 10 0)) + 1) (vp_nar .byte ((b : Int32).toInt8.toInt32))) (((ttCh (adT0 T 10 0)) + 1) + 1) (vp_nar .byte ((c : Int32).toInt8.toInt32))) ((((ttCh (adT0 T 10 0)) + 1) + 1) + 1) (vp_nar .byte ((d : Int32).toInt8.toInt32)))) (((((ttCh (adT0 T 10 0)) + 1) + 1) + 1) + 1)) (soTh oJ 0) (by decide) fl_M_104 rfl rfl rfl rfl pf_characters pa_characters d_M_say_199 (fun va28 hM28 hf28 => ?_)
                refine v_iinc (y := 4) (lv' := [some (.ref (ob 48)), some (.int a), some (.int b), some (.int c), some (.int d), some (.int (nI 4)), some (.int 1), some (.int (nI (ttN T))), some (.int 4)]) hX d_M_say_202 rfl (by decide) rfl ?_
                refine v_goto hX d_M_say_205 (tgt := 144) (by decide) ?_
                refine v_iload hX d_M_say_144 rfl ?_
                refine v_iload hX d_M_say_146 rfl ?_
                refine v_icmp_ge hX d_M_say_148 (tgt := 208) (by decide) (fun _ => ?_) (fun c => absurd (by decide) c)
                refine v_aload_n hX d_M_say_208 rfl rfl ?_
                refine v_mget hX hM28 6 (v := .ref (ob 54)) (by decide) fl_M_25 rfl rfl d_M_say_209 ?_
                refine v_iload hX d_M_say_212 rfl ?_
                refine v_dup2 hX d_M_say_214 rfl rfl ?_
                refine v_mild hX hM28 5 (i := (ttN T)) (v := (nI ((ttMa (adT0 T 10 0)) (ttN T)))) ((na_characters 5).trans ((na_text 5 (by decide)).trans ((na_characters 5).trans ((na_text 5 (by decide)).trans ((na_characters 5).trans ((na_text 5 (by decide)).trans ((na_characters 5).trans ((na_text 5 (by decide)).trans ga_many)))))))) (by omega) (by decide) rfl d_M_say_215 ?_
                refine v_iload hX d_M_say_216 rfl ?_
                refine v_iaddE (v := nI (((ttMa (adT0 T 10 0)) (ttN T)) + 4)) hX d_M_say_218 (nI_add ((ttMa (adT0 T 10 0)) (ttN T)) 4) ?_
                refine v_mist hX hM28 5 C (sxMa (sxCh (sxTe (sxCh (sxTe (sxCh (sxTe (sxCh (sxTe (adT0 T 10 0) (upd (ttTe (adT0 T 10 0)) (ttCh (adT0 T 10 0)) (vp_nar .byte ((a : Int32).toInt8.toInt32)))) ((ttCh (adT0 T 10 0)) + 1)) (upd (upd (ttTe (adT0 T 10 0)) (ttCh (adT0 T 10 0)) (vp_nar .byte ((a : Int32).toInt8.toInt32))) ((ttCh (adT0 T 10 0)) + 1) (vp_nar .byte ((b : Int32).toInt8.toInt32)))) (((ttCh (adT0 T 10 0)) + 1) + 1)) (upd (upd (upd (ttTe (adT0 T 10 0)) (ttCh (adT0 T 10 0)) (vp_nar .byte ((a : Int32).toInt8.toInt32))) ((ttCh (adT0 T 10 0)) + 1) (vp_nar .byte ((b : Int32).toInt8.toInt32))) (((ttCh (adT0 T 10 0)) + 1) + 1) (vp_nar .byte ((c : Int32).toInt8.toInt32)))) ((((ttCh (adT0 T 10 0)) + 1) + 1) + 1)) (upd (upd (upd (upd (ttTe (adT0 T 10 0)) (ttCh (adT0 T 10 0)) (vp_nar .byte ((a : Int32).toInt8.toInt32))) ((ttCh (adT0 T 10 0)) + 1) (vp_nar .byte ((b : Int32).toInt8.toInt32))) (((ttCh (adT0 T 10 0)) + 1) + 1) (vp_nar .byte ((c : Int32).toInt8.toInt32))) ((((ttCh (adT0 T 10 0)) + 1) + 1) + 1) (vp_nar .byte ((d : Int32).toInt8.toInt32)))) (((((ttCh (adT0 T 10 0)) + 1) + 1) + 1) + 1)) (updN (ttMa (adT0 T 10 0)) (ttN T) (((ttMa (adT0 T 10 0)) (ttN T)) + 4))) (soTh oJ 0) (i := (ttN T)) (by decide) ((na_characters 5).trans ((na_text 5 (by decide)).trans ((na_characters 5).trans ((na_text 5 (by decide)).trans ((na_characters 5).trans ((na_text 5 (by decide)).trans ((na_characters 5).trans ((na_text 5 (by decide)).trans ga_many)))))))) (by omega) (by decide) qf_many ((congrArg (fun f9 => (mar cI cB cZ C (sxCh (sxTe (sxCh (sxTe (sxCh (sxTe (sxCh (sxTe (adT0 T 10 0) (upd (ttTe (adT0 T 10 0)) (ttCh (adT0 T 10 0)) (vp_nar .byte ((a : Int32).toInt8.toInt32)))) ((ttCh (adT0 T 10 0)) + 1)) (upd (upd (ttTe (adT0 T 10 0)) (ttCh (adT0 T 10 0)) (vp_nar .byte ((a : Int32).toInt8.toInt32))) ((ttCh (adT0 T 10 0)) + 1) (vp_nar .byte ((b : Int32).toInt8.toInt32)))) (((ttCh (adT0 T 10 0)) + 1) + 1)) (upd (upd (upd (ttTe (adT0 T 10 0)) (ttCh (adT0 T 10 0)) (vp_nar .byte ((a : Int32).toInt8.toInt32))) ((ttCh (adT0 T 10 0)) + 1) (vp_nar .byte ((b : Int32).toInt8.toInt32))) (((ttCh (adT0 T 10 0)) + 1) + 1) (vp_nar .byte ((c : Int32).toInt8.toInt32)))) ((((ttCh (adT0 T 10 0)) + 1) + 1) + 1)) (upd (upd (upd (upd (ttTe (adT0 T 10 0)) (ttCh (adT0 T 10 0)) (vp_nar .byte ((a : Int32).toInt8.toInt32))) ((ttCh (adT0 T 10 0)) + 1) (vp_nar .byte ((b : Int32).toInt8.toInt32))) (((ttCh (adT0 T 10 0)) + 1) + 1) (vp_nar .byte ((c : Int32).toInt8.toInt32))) ((((ttCh (adT0 T 10 0)) + 1) + 1) + 1) (vp_nar .byte ((d : Int32).toInt8.toInt32)))) (((((ttCh (adT0 T 10 0)) + 1) + 1) + 1) + 1)) (soTh oJ 0)).set 5 (.inl (cI, 300, .inl f9))) (updN_nI (f := (ttMa (adT0 T 10 0))) (k := (ttN T)) (x := (((ttMa (adT0 T 10 0)) (ttN T)) + 4)))).trans qa_many) d_M_say_219 (fun va29 hM29 hf29 => ?_)
                refine v_iload hX d_M_say_220 rfl ?_
                exact v_iret hX hE d_M_say_222 (Nat.le_of_ble_eq_true rfl) (Nat.le_of_ble_eq_true rfl) ⟨rfl, rfl, rfl, rfl, (tlT (adT T 10 0) (upd (upd (upd (upd (ttTe (adT0 T 10 0)) (ttCh (adT0 T 10 0)) (vp_nar .byte ((a : Int32).toInt8.toInt32))) ((ttCh (adT0 T 10 0)) + 1) (vp_nar .byte ((b : Int32).toInt8.toInt32))) (((ttCh (adT0 T 10 0)) + 1) + 1) (vp_nar .byte ((c : Int32).toInt8.toInt32))) ((((ttCh (adT0 T 10 0)) + 1) + 1) + 1) (vp_nar .byte ((d : Int32).toInt8.toInt32))) (ttN T) 4), (soTh oJ 0), (Or.inr ⟨hsy, rfl, (upd (upd (upd (upd (ttTe (adT0 T 10 0)) (ttCh (adT0 T 10 0)) (vp_nar .byte ((a : Int32).toInt8.toInt32))) ((ttCh (adT0 T 10 0)) + 1) (vp_nar .byte ((b : Int32).toInt8.toInt32))) (((ttCh (adT0 T 10 0)) + 1) + 1) (vp_nar .byte ((c : Int32).toInt8.toInt32))) ((((ttCh (adT0 T 10 0)) + 1) + 1) + 1) (vp_nar .byte ((d : Int32).toInt8.toInt32))), 4, (ttN T), ⟨rfl, by omega, by omega⟩, rfl, Or.inl ⟨hAn, rfl, rfl⟩⟩), (by have h9 := hM29; rw [tlc] at h9; rw [tlc] at h9; rw [tlc] at h9; exact (h9.tl rfl).tlad), hO5, (((((((((((hfJ.trans hf4).trans hf5).trans hf21).trans hf22).trans hf23).trans hf24).trans hf25).trans hf26).trans hf27).trans hf28).trans hf29)⟩
            · refine v_iconst (v := 2) hX d_M_say_98 (by decide) ?_
              refine v_goto hX d_M_say_99 (tgt := 103) (by decide) ?_
              refine v_mput hX hMJ 0 C T (soTh oJ 2) (by decide) fl_M_97 rfl rfl rfl rfl pf_thrown pa_thrown d_M_say_103 (fun va30 hM30 hf30 => ?_)
              refine v_aload_n hX d_M_say_106 rfl rfl ?_
              refine v_mget hX hM30 0 (v := .int 2) (by decide) fl_M_97 rfl hf_thrown d_M_say_107 ?_
              refine v_if_le hX d_M_say_110 (tgt := 115) (by decide) (fun c => absurd c (by decide)) (fun _ => ?_)
              refine v_iconst (v := 0) hX d_M_say_113 (by decide) ?_
              exact v_iret hX hE d_M_say_114 (Nat.le_of_ble_eq_true rfl) (Nat.le_of_ble_eq_true rfl) ⟨rfl, rfl, rfl, rfl, T, (soTh oJ 2), (Or.inl ⟨(fun z => absurd (z.2.2.2.2 hAn) c95), rfl, rfl, (if_pos ⟨Int32.not_lt.mp c43, Int32.not_lt.mp c49, (mh_01 _ _).resolve_left c66⟩).symm⟩), hM30, ⟨hOJ.1.1, hOJ.1.2.1, hOJ.1.2.2.1, hOJ.1.2.2.2.1, (by have q9 := hOJ.1.2.2.2.2; first | exact q9 | omega | (show (ooSm oJ) ≤ 4300; omega))⟩, (hfJ.trans hf30)⟩
        · refine v_iconst (v := 1) hX d_M_say_69 (by decide) ?_
          refine v_goto hX d_M_say_70 (tgt := 103) (by decide) ?_
          refine v_mput hX hMJ 0 C T (soTh oJ 1) (by decide) fl_M_97 rfl rfl rfl rfl pf_thrown pa_thrown d_M_say_103 (fun va31 hM31 hf31 => ?_)
          refine v_aload_n hX d_M_say_106 rfl rfl ?_
          refine v_mget hX hM31 0 (v := .int 1) (by decide) fl_M_97 rfl hf_thrown d_M_say_107 ?_
          refine v_if_le hX d_M_say_110 (tgt := 115) (by decide) (fun c => absurd c (by decide)) (fun _ => ?_)
          refine v_iconst (v := 0) hX d_M_say_113 (by decide) ?_
          exact v_iret hX hE d_M_say_114 (Nat.le_of_ble_eq_true rfl) (Nat.le_of_ble_eq_true rfl) ⟨rfl, rfl, rfl, rfl, T, (soTh oJ 1), (Or.inl ⟨(fun z => absurd (c66.symm.trans z.2.2.1) (by decide)), rfl, rfl, (if_neg (fun z => absurd (c66.symm.trans z.2.2) (by decide))).symm⟩), hM31, ⟨hOJ.1.1, hOJ.1.2.1, hOJ.1.2.2.1, hOJ.1.2.2.2.1, (by have q9 := hOJ.1.2.2.2.2; first | exact q9 | omega | (show (ooSm oJ) ≤ 4300; omega))⟩, (hfJ.trans hf31)⟩
  have j39b : ∀ (jt : Nat) (CJ : CT) (oJ : OS) (vaJ : Nat → va_E), ModI cI cB cZ ob CJ T oJ dom loc vaJ → (OI oJ ∧ ooCt oJ = ooCt O) → frM val vaJ → (C = CJ) → (jt < ttN T) → (ttLa T (ttHa T) = nI jt) → (ttK T jt = 10) → V X D CL A dom loc vaJ 0 0 39 [some (.ref (ob 48)), some (.int a), some (.int b), some (.int c), some (.int d), some (.int n), some (.int 0), none, none] [] := by
    intro jt CJ oJ vaJ hMJ hOJ hfJ hCJ hjt hje hk10
    subst hCJ
    have hna : ¬ anM T := by unfold anM; rw [hje, nI_clamp (by omega)]; exact fun z => z.elim (nI_nm1 (by omega)) (fun z => z hk10)
    refine v_aload_n hX d_M_say_39 rfl rfl ?_
    refine v_iload hX d_M_say_40 rfl ?_
    refine v_iconst (v := 1) hX d_M_say_42 (by decide) ?_
    refine v_icmp_lt hX d_M_say_43 (tgt := 69) (by decide) (fun c43 => ?_) (fun c43 => ?_)
    · refine v_iconst (v := 1) hX d_M_say_69 (by decide) ?_
      refine v_goto hX d_M_say_70 (tgt := 103) (by decide) ?_
      refine v_mput hX hMJ 0 C T (soTh oJ 1) (by decide) fl_M_97 rfl rfl rfl rfl pf_thrown pa_thrown d_M_say_103 (fun va32 hM32 hf32 => ?_)
      refine v_aload_n hX d_M_say_106 rfl rfl ?_
      refine v_mget hX hM32 0 (v := .int 1) (by decide) fl_M_97 rfl hf_thrown d_M_say_107 ?_
      refine v_if_le hX d_M_say_110 (tgt := 115) (by decide) (fun c => absurd c (by decide)) (fun _ => ?_)
      refine v_iconst (v := 0) hX d_M_say_113 (by decide) ?_
      exact v_iret hX hE d_M_say_114 (Nat.le_of_ble_eq_true rfl) (Nat.le_of_ble_eq_true rfl) ⟨rfl, rfl, rfl, rfl, T, (soTh oJ 1), (Or.inl ⟨(fun z => absurd c43 (Int32.not_lt.mpr z.1)), rfl, rfl, (if_neg (fun z => absurd c43 (Int32.not_lt.mpr z.1))).symm⟩), hM32, ⟨hOJ.1.1, hOJ.1.2.1, hOJ.1.2.2.1, hOJ.1.2.2.2.1, (by have q9 := hOJ.1.2.2.2.2; first | exact q9 | omega | (show (ooSm oJ) ≤ 4300; omega))⟩, (hfJ.trans hf32)⟩
    · refine v_iload hX d_M_say_46 rfl ?_
      refine v_iconst (v := 4) hX d_M_say_48 (by decide) ?_
      refine v_icmp_gt hX d_M_say_49 (tgt := 69) (by decide) (fun c49 => ?_) (fun c49 => ?_)
      · refine v_iconst (v := 1) hX d_M_say_69 (by decide) ?_
        refine v_goto hX d_M_say_70 (tgt := 103) (by decide) ?_
        refine v_mput hX hMJ 0 C T (soTh oJ 1) (by decide) fl_M_97 rfl rfl rfl rfl pf_thrown pa_thrown d_M_say_103 (fun va33 hM33 hf33 => ?_)
        refine v_aload_n hX d_M_say_106 rfl rfl ?_
        refine v_mget hX hM33 0 (v := .int 1) (by decide) fl_M_97 rfl hf_thrown d_M_say_107 ?_
        refine v_if_le hX d_M_say_110 (tgt := 115) (by decide) (fun c => absurd c (by decide)) (fun _ => ?_)
        refine v_iconst (v := 0) hX d_M_say_113 (by decide) ?_
        exact v_iret hX hE d_M_say_114 (Nat.le_of_ble_eq_true rfl) (Nat.le_of_ble_eq_true rfl) ⟨rfl, rfl, rfl, rfl, T, (soTh oJ 1), (Or.inl ⟨(fun z => absurd c49 (Int32.not_lt.mpr z.2.1)), rfl, rfl, (if_neg (fun z => absurd c49 (Int32.not_lt.mpr z.2.1))).symm⟩), hM33, ⟨hOJ.1.1, hOJ.1.2.1, hOJ.1.2.2.1, hOJ.1.2.2.2.1, (by have q9 := hOJ.1.2.2.2.2; first | exact q9 | omega | (show (ooSm oJ) ≤ 4300; omega))⟩, (hfJ.trans hf33)⟩
      · refine v_aload_n hX d_M_say_52 rfl rfl ?_
        refine v_mget hX hMJ 1 (v := .ref (ob 49)) (by decide) fl_M_7 rfl rfl d_M_say_53 ?_
        refine v_aload_n hX d_M_say_56 rfl rfl ?_
        refine v_mget hX hMJ 11 (v := .int (nI (ttHa T))) (by decide) fl_M_107 rfl gf_hand d_M_say_57 ?_
        refine v_mild hX hMJ 0 (i := (ttHa T)) (v := ((ttK T) (ttHa T))) ga_kind (by omega) (by decide) rfl d_M_say_60 ?_
        refine v_bipush (v := 10) hX d_M_say_61 (by decide) ?_
        refine c_S hX (rest := [.ref (ob 48)]) hl (c_M_mayHold ((ttK T) (ttHa T)) 10) ml_M_132 sm_M_mayHold in_M cd_M_mayHold rfl q_M_mayHold ⟨(Nat.le_of_ble_eq_true rfl), (Nat.le_of_ble_eq_true rfl)⟩ rfl rfl rfl (Nat.le_of_ble_eq_true rfl) d_M_say_63 ⟨(Nat.le_of_ble_eq_true rfl), (Nat.le_of_ble_eq_true rfl)⟩ (fun rv d2 lo2 va2 kc ns hp => ?_)
        obtain ⟨rfl, rfl, rfl, rfl, rfl, rfl⟩ := hp
        show V X D CL A _ _ _ _ _ _ _ (.int (mh ((ttK T) (ttHa T)) 10) :: [.ref (ob 48)])
        refine v_if_ne hX d_M_say_66 (tgt := 73) (by decide) (fun c66 => ?_) (fun c66 => ?_)
        · obtain ⟨nn, hn1, hn2, rfl⟩ := n_nat c43 c49
          refine v_aload_n hX d_M_say_73 rfl rfl ?_
          refine v_mget hX hMJ 10 (v := .int (nI (ttCh T))) (by decide) fl_M_104 rfl gf_characters d_M_say_74 ?_
          refine v_iload hX d_M_say_77 rfl ?_
          refine v_iaddE (v := nI ((ttCh T) + nn)) hX d_M_say_79 (nI_add (ttCh T) nn) ?_
          refine v_sipush (v := 4000) hX d_M_say_80 (by decide) ?_
          refine v_icmp_gt hX d_M_say_83 (tgt := 98) (by decide) (fun c83 => ?_) (fun c83 => ?_)
          · have f83 : 4000 < ((ttCh T) + nn) := (nI_ltI (a := 4000) (b := ((ttCh T) + nn)) (by omega) (by omega)).mp c83
            refine v_iconst (v := 2) hX d_M_say_98 (by decide) ?_
            refine v_goto hX d_M_say_99 (tgt := 103) (by decide) ?_
            refine v_mput hX hMJ 0 C T (soTh oJ 2) (by decide) fl_M_97 rfl rfl rfl rfl pf_thrown pa_thrown d_M_say_103 (fun va34 hM34 hf34 => ?_)
            refine v_aload_n hX d_M_say_106 rfl rfl ?_
            refine v_mget hX hM34 0 (v := .int 2) (by decide) fl_M_97 rfl hf_thrown d_M_say_107 ?_
            refine v_if_le hX d_M_say_110 (tgt := 115) (by decide) (fun c => absurd c (by decide)) (fun _ => ?_)
            refine v_iconst (v := 0) hX d_M_say_113 (by decide) ?_
            exact v_iret hX hE d_M_say_114 (Nat.le_of_ble_eq_true rfl) (Nat.le_of_ble_eq_true rfl) ⟨rfl, rfl, rfl, rfl, T, (soTh oJ 2), (Or.inl ⟨(fun z => by have q1 := z.2.2.2.1; rw [nI_clamp (by omega)] at q1; omega), rfl, rfl, (if_pos ⟨Int32.not_lt.mp c43, Int32.not_lt.mp c49, (mh_01 _ _).resolve_left c66⟩).symm⟩), hM34, ⟨hOJ.1.1, hOJ.1.2.1, hOJ.1.2.2.1, hOJ.1.2.2.2.1, (by have q9 := hOJ.1.2.2.2.2; first | exact q9 | omega | (show (ooSm oJ) ≤ 4300; omega))⟩, (hfJ.trans hf34)⟩
          · have f83 : ¬ 4000 < ((ttCh T) + nn) := fun z => c83 ((nI_ltI (a := 4000) (b := ((ttCh T) + nn)) (by omega) (by omega)).mpr z)
            refine v_iload hX d_M_say_86 rfl ?_
            refine v_if_eq hX d_M_say_88 (tgt := 102) (by decide) (fun _ => ?_) (fun c => absurd (by decide) c)
            refine v_iconst (v := 0) hX d_M_say_102 (by decide) ?_
            refine v_mput hX hMJ 0 C T (soTh oJ 0) (by decide) fl_M_97 rfl rfl rfl rfl pf_thrown pa_thrown d_M_say_103 (fun va35 hM35 hf35 => ?_)
            refine v_aload_n hX d_M_say_106 rfl rfl ?_
            refine v_mget hX hM35 0 (v := .int 0) (by decide) fl_M_97 rfl hf_thrown d_M_say_107 ?_
            refine v_if_le hX d_M_say_110 (tgt := 115) (by decide) (fun _ => ?_) (fun c => absurd (by decide) c)
            have hsy : syM T (nI nn) := ⟨Int32.not_lt.mp c43, Int32.not_lt.mp c49, (mh_01 _ _).resolve_left c66, by rw [nI_clamp (by omega)]; omega, fun z => absurd z hna⟩
            refine v_iload hX d_M_say_115 rfl ?_
            refine v_if_eq hX d_M_say_117 (tgt := 130) (by decide) (fun _ => ?_) (fun c => absurd (by decide) c)
            refine v_aload_n hX d_M_say_130 rfl rfl ?_
            refine v_mget hX hM35 7 (v := .ref (ob 55)) (by decide) fl_M_28 rfl rfl d_M_say_131 ?_
            refine v_aload_n hX d_M_say_134 rfl rfl ?_
            refine v_mget hX hM35 11 (v := .int (nI (ttHa T))) (by decide) fl_M_107 rfl ((nf_thrown 11 (by decide)).trans gf_hand) d_M_say_135 ?_
            refine v_mild hX hM35 6 (i := (ttHa T)) (v := (nI jt)) ((na_thrown 6).trans ga_lastIn) (by omega) (by decide) hje d_M_say_138 ?_
            refine v_istore (lv' := [some (.ref (ob 48)), some (.int a), some (.int b), some (.int c), some (.int d), some (.int (nI nn)), some (.int 0), some (.int (nI jt)), none]) hX d_M_say_139 (Nat.le_of_ble_eq_true rfl) rfl ?_
            refine v_iconst (v := 0) hX d_M_say_141 (by decide) ?_
            refine v_istore (lv' := [some (.ref (ob 48)), some (.int a), some (.int b), some (.int c), some (.int d), some (.int (nI nn)), some (.int 0), some (.int (nI jt)), some (.int 0)]) hX d_M_say_142 (Nat.le_of_ble_eq_true rfl) rfl ?_
            have h4 : nn = 1 ∨ nn = 2 ∨ nn = 3 ∨ nn = 4 := by omega
            rcases h4 with rfl | rfl | rfl | rfl
            · refine v_iload hX d_M_say_144 rfl ?_
              refine v_iload hX d_M_say_146 rfl ?_
              refine v_icmp_ge hX d_M_say_148 (tgt := 208) (by decide) (fun c => absurd c (by decide)) (fun _ => ?_)
              refine v_aload_n hX d_M_say_151 rfl rfl ?_
              refine v_mget hX hM35 8 (v := .ref (ob 56)) (by decide) fl_M_31 rfl rfl d_M_say_152 ?_
              refine v_aload_n hX d_M_say_155 rfl rfl ?_
              refine v_mget hX hM35 10 (v := .int (nI (ttCh T))) (by decide) fl_M_104 rfl ((nf_thrown 10 (by decide)).trans gf_characters) d_M_say_156 ?_
              refine v_iload hX d_M_say_159 rfl ?_
              refine v_if_ne hX d_M_say_161 (tgt := 168) (by decide) (fun c => absurd (by decide) c) (fun _ => ?_)
              refine v_iload_n hX d_M_say_164 rfl rfl ?_
              refine v_goto hX d_M_say_165 (tgt := 190) (by decide) ?_
              refine v_i2b hX d_M_say_190 rfl ?_
              refine v_mbst hX hM35 7 C (sxTe T (upd (ttTe T) (ttCh T) (vp_nar .byte ((a : Int32).toInt8.toInt32)))) (soTh oJ 0) (i := (ttCh T)) (by decide) ((na_thrown 7).trans ga_text) (by omega) (by decide) qf_text qa_text d_M_say_191 (fun va36 hM36 hf36 => ?_)
              refine v_aload_n hX d_M_say_192 rfl rfl ?_
              refine v_dup hX d_M_say_193 rfl ?_
              refine v_mget hX hM36 10 (v := .int (nI (ttCh T))) (by decide) fl_M_104 rfl ((nf_text 10).trans ((nf_thrown 10 (by decide)).trans gf_characters)) d_M_say_194 ?_
              refine v_iconst (v := 1) hX d_M_say_197 (by decide) ?_
              refine v_iaddE (v := nI ((ttCh T) + 1)) hX d_M_say_198 (nI_add (ttCh T) 1) ?_
              refine v_mput hX hM36 10 C (sxCh (sxTe T (upd (ttTe T) (ttCh T) (vp_nar .byte ((a : Int32).toInt8.toInt32)))) ((ttCh T) + 1)) (soTh oJ 0) (by decide) fl_M_104 rfl rfl rfl rfl pf_characters pa_characters d_M_say_199 (fun va37 hM37 hf37 => ?_)
              refine v_iinc (y := 1) (lv' := [some (.ref (ob 48)), some (.int a), some (.int b), some (.int c), some (.int d), some (.int (nI 1)), some (.int 0), some (.int (nI jt)), some (.int 1)]) hX d_M_say_202 rfl (by decide) rfl ?_
              refine v_goto hX d_M_say_205 (tgt := 144) (by decide) ?_
              refine v_iload hX d_M_say_144 rfl ?_
              refine v_iload hX d_M_say_146 rfl ?_
              refine v_icmp_ge hX d_M_say_148 (tgt := 208) (by decide) (fun _ => ?_) (fun c => absurd (by decide) c)
              refine v_aload_n hX d_M_say_208 rfl rfl ?_
              refine v_mget hX hM37 6 (v := .ref (ob 54)) (by decide) fl_M_25 rfl rfl d_M_say_209 ?_
              refine v_iload hX d_M_say_212 rfl ?_
              refine v_dup2 hX d_M_say_214 rfl rfl ?_
              refine v_mild hX hM37 5 (i := jt) (v := (nI ((ttMa T) jt))) ((na_characters 5).trans ((na_text 5 (by decide)).trans ((na_thrown 5).trans ga_many))) (by omega) (by decide) rfl d_M_say_215 ?_
              refine v_iload hX d_M_say_216 rfl ?_
              refine v_iaddE (v := nI (((ttMa T) jt) + 1)) hX d_M_say_218 (nI_add ((ttMa T) jt) 1) ?_
              refine v_mist hX hM37 5 C (sxMa (sxCh (sxTe T (upd (ttTe T) (ttCh T) (vp_nar .byte ((a : Int32).toInt8.toInt32)))) ((ttCh T) + 1)) (updN (ttMa T) jt (((ttMa T) jt) + 1))) (soTh oJ 0) (i := jt) (by decide) ((na_characters 5).trans ((na_text 5 (by decide)).trans ((na_thrown 5).trans ga_many))) (by omega) (by decide) qf_many ((congrArg (fun f9 => (mar cI cB cZ C (sxCh (sxTe T (upd (ttTe T) (ttCh T) (vp_nar .byte ((a : Int32).toInt8.toInt32)))) ((ttCh T) + 1)) (soTh oJ 0)).set 5 (.inl (cI, 300, .inl f9))) (updN_nI (f := (ttMa T)) (k := jt) (x := (((ttMa T) jt) + 1)))).trans qa_many) d_M_say_219 (fun va38 hM38 hf38 => ?_)
              refine v_iload hX d_M_say_220 rfl ?_
              exact v_iret hX hE d_M_say_222 (Nat.le_of_ble_eq_true rfl) (Nat.le_of_ble_eq_true rfl) ⟨rfl, rfl, rfl, rfl, (tlT T (upd (ttTe T) (ttCh T) (vp_nar .byte ((a : Int32).toInt8.toInt32))) jt 1), (soTh oJ 0), (Or.inr ⟨hsy, rfl, (upd (ttTe T) (ttCh T) (vp_nar .byte ((a : Int32).toInt8.toInt32))), 1, jt, ⟨rfl, by omega, by omega⟩, rfl, Or.inr ⟨hna, hjt, hje, hk10, rfl⟩⟩), (by have h9 := hM38; skip; exact h9.tl rfl), ⟨hOJ.1.1, hOJ.1.2.1, hOJ.1.2.2.1, hOJ.1.2.2.2.1, (by have q9 := hOJ.1.2.2.2.2; first | exact q9 | omega | (show (ooSm oJ) ≤ 4300; omega))⟩, ((((hfJ.trans hf35).trans hf36).trans hf37).trans hf38)⟩
            · refine v_iload hX d_M_say_144 rfl ?_
              refine v_iload hX d_M_say_146 rfl ?_
              refine v_icmp_ge hX d_M_say_148 (tgt := 208) (by decide) (fun c => absurd c (by decide)) (fun _ => ?_)
              refine v_aload_n hX d_M_say_151 rfl rfl ?_
              refine v_mget hX hM35 8 (v := .ref (ob 56)) (by decide) fl_M_31 rfl rfl d_M_say_152 ?_
              refine v_aload_n hX d_M_say_155 rfl rfl ?_
              refine v_mget hX hM35 10 (v := .int (nI (ttCh T))) (by decide) fl_M_104 rfl ((nf_thrown 10 (by decide)).trans gf_characters) d_M_say_156 ?_
              refine v_iload hX d_M_say_159 rfl ?_
              refine v_if_ne hX d_M_say_161 (tgt := 168) (by decide) (fun c => absurd (by decide) c) (fun _ => ?_)
              refine v_iload_n hX d_M_say_164 rfl rfl ?_
              refine v_goto hX d_M_say_165 (tgt := 190) (by decide) ?_
              refine v_i2b hX d_M_say_190 rfl ?_
              refine v_mbst hX hM35 7 C (sxTe T (upd (ttTe T) (ttCh T) (vp_nar .byte ((a : Int32).toInt8.toInt32)))) (soTh oJ 0) (i := (ttCh T)) (by decide) ((na_thrown 7).trans ga_text) (by omega) (by decide) qf_text qa_text d_M_say_191 (fun va39 hM39 hf39 => ?_)
              refine v_aload_n hX d_M_say_192 rfl rfl ?_
              refine v_dup hX d_M_say_193 rfl ?_
              refine v_mget hX hM39 10 (v := .int (nI (ttCh T))) (by decide) fl_M_104 rfl ((nf_text 10).trans ((nf_thrown 10 (by decide)).trans gf_characters)) d_M_say_194 ?_
              refine v_iconst (v := 1) hX d_M_say_197 (by decide) ?_
              refine v_iaddE (v := nI ((ttCh T) + 1)) hX d_M_say_198 (nI_add (ttCh T) 1) ?_
              refine v_mput hX hM39 10 C (sxCh (sxTe T (upd (ttTe T) (ttCh T) (vp_nar .byte ((a : Int32).toInt8.toInt32)))) ((ttCh T) + 1)) (soTh oJ 0) (by decide) fl_M_104 rfl rfl rfl rfl pf_characters pa_characters d_M_say_199 (fun va40 hM40 hf40 => ?_)
              refine v_iinc (y := 1) (lv' := [some (.ref (ob 48)), some (.int a), some (.int b), some (.int c), some (.int d), some (.int (nI 2)), some (.int 0), some (.int (nI jt)), some (.int 1)]) hX d_M_say_202 rfl (by decide) rfl ?_
              refine v_goto hX d_M_say_205 (tgt := 144) (by decide) ?_
              refine v_iload hX d_M_say_144 rfl ?_
              refine v_iload hX d_M_say_146 rfl ?_
              refine v_icmp_ge hX d_M_say_148 (tgt := 208) (by decide) (fun c => absurd c (by decide)) (fun _ => ?_)
              refine v_aload_n hX d_M_say_151 rfl rfl ?_
              refine v_mget hX hM40 8 (v := .ref (ob 56)) (by decide) fl_M_31 rfl rfl d_M_say_152 ?_
              refine v_aload_n hX d_M_say_155 rfl rfl ?_
              refine v_mget hX hM40 10 (v := .int (nI ((ttCh T) + 1))) (by decide) fl_M_104 rfl ((nf_thrown 10 (by decide)).trans hf_characters) d_M_say_156 ?_
              refine v_iload hX d_M_say_159 rfl ?_
              refine v_if_ne hX d_M_say_161 (tgt := 168) (by decide) (fun _ => ?_) (fun c => absurd c (by decide))
              refine v_iload hX d_M_say_168 rfl ?_
              refine v_iconst (v := 1) hX d_M_say_170 (by decide) ?_
              refine v_icmp_ne hX d_M_say_171 (tgt := 178) (by decide) (fun c => absurd (by decide) c) (fun _ => ?_)
              refine v_iload_n hX d_M_say_174 rfl rfl ?_
              refine v_goto hX d_M_say_175 (tgt := 190) (by decide) ?_
              refine v_i2b hX d_M_say_190 rfl ?_
              refine v_mbst hX hM40 7 C (sxTe (sxCh (sxTe T (upd (ttTe T) (ttCh T) (vp_nar .byte ((a : Int32).toInt8.toInt32)))) ((ttCh T) + 1)) (upd (upd (ttTe T) (ttCh T) (vp_nar .byte ((a : Int32).toInt8.toInt32))) ((ttCh T) + 1) (vp_nar .byte ((b : Int32).toInt8.toInt32)))) (soTh oJ 0) (i := ((ttCh T) + 1)) (by decide) ((na_characters 7).trans ((na_thrown 7).trans ha_text)) (by omega) (by decide) qf_text qa_text d_M_say_191 (fun va41 hM41 hf41 => ?_)
              refine v_aload_n hX d_M_say_192 rfl rfl ?_
              refine v_dup hX d_M_say_193 rfl ?_
              refine v_mget hX hM41 10 (v := .int (nI ((ttCh T) + 1))) (by decide) fl_M_104 rfl ((nf_text 10).trans ((nf_thrown 10 (by decide)).trans hf_characters)) d_M_say_194 ?_
              refine v_iconst (v := 1) hX d_M_say_197 (by decide) ?_
              refine v_iaddE (v := nI (((ttCh T) + 1) + 1)) hX d_M_say_198 (nI_add ((ttCh T) + 1) 1) ?_
              refine v_mput hX hM41 10 C (sxCh (sxTe (sxCh (sxTe T (upd (ttTe T) (ttCh T) (vp_nar .byte ((a : Int32).toInt8.toInt32)))) ((ttCh T) + 1)) (upd (upd (ttTe T) (ttCh T) (vp_nar .byte ((a : Int32).toInt8.toInt32))) ((ttCh T) + 1) (vp_nar .byte ((b : Int32).toInt8.toInt32)))) (((ttCh T) + 1) + 1)) (soTh oJ 0) (by decide) fl_M_104 rfl rfl rfl rfl pf_characters pa_characters d_M_say_199 (fun va42 hM42 hf42 => ?_)
              refine v_iinc (y := 2) (lv' := [some (.ref (ob 48)), some (.int a), some (.int b), some (.int c), some (.int d), some (.int (nI 2)), some (.int 0), some (.int (nI jt)), some (.int 2)]) hX d_M_say_202 rfl (by decide) rfl ?_
              refine v_goto hX d_M_say_205 (tgt := 144) (by decide) ?_
              refine v_iload hX d_M_say_144 rfl ?_
              refine v_iload hX d_M_say_146 rfl ?_
              refine v_icmp_ge hX d_M_say_148 (tgt := 208) (by decide) (fun _ => ?_) (fun c => absurd (by decide) c)
              refine v_aload_n hX d_M_say_208 rfl rfl ?_
              refine v_mget hX hM42 6 (v := .ref (ob 54)) (by decide) fl_M_25 rfl rfl d_M_say_209 ?_
              refine v_iload hX d_M_say_212 rfl ?_
              refine v_dup2 hX d_M_say_214 rfl rfl ?_
              refine v_mild hX hM42 5 (i := jt) (v := (nI ((ttMa T) jt))) ((na_characters 5).trans ((na_text 5 (by decide)).trans ((na_characters 5).trans ((na_text 5 (by decide)).trans ((na_thrown 5).trans ga_many))))) (by omega) (by decide) rfl d_M_say_215 ?_
              refine v_iload hX d_M_say_216 rfl ?_
              refine v_iaddE (v := nI (((ttMa T) jt) + 2)) hX d_M_say_218 (nI_add ((ttMa T) jt) 2) ?_
              refine v_mist hX hM42 5 C (sxMa (sxCh (sxTe (sxCh (sxTe T (upd (ttTe T) (ttCh T) (vp_nar .byte ((a : Int32).toInt8.toInt32)))) ((ttCh T) + 1)) (upd (upd (ttTe T) (ttCh T) (vp_nar .byte ((a : Int32).toInt8.toInt32))) ((ttCh T) + 1) (vp_nar .byte ((b : Int32).toInt8.toInt32)))) (((ttCh T) + 1) + 1)) (updN (ttMa T) jt (((ttMa T) jt) + 2))) (soTh oJ 0) (i := jt) (by decide) ((na_characters 5).trans ((na_text 5 (by decide)).trans ((na_characters 5).trans ((na_text 5 (by decide)).trans ((na_thrown 5).trans ga_many))))) (by omega) (by decide) qf_many ((congrArg (fun f9 => (mar cI cB cZ C (sxCh (sxTe (sxCh (sxTe T (upd (ttTe T) (ttCh T) (vp_nar .byte ((a : Int32).toInt8.toInt32)))) ((ttCh T) + 1)) (upd (upd (ttTe T) (ttCh T) (vp_nar .byte ((a : Int32).toInt8.toInt32))) ((ttCh T) + 1) (vp_nar .byte ((b : Int32).toInt8.toInt32)))) (((ttCh T) + 1) + 1)) (soTh oJ 0)).set 5 (.inl (cI, 300, .inl f9))) (updN_nI (f := (ttMa T)) (k := jt) (x := (((ttMa T) jt) + 2)))).trans qa_many) d_M_say_219 (fun va43 hM43 hf43 => ?_)
              refine v_iload hX d_M_say_220 rfl ?_
              exact v_iret hX hE d_M_say_222 (Nat.le_of_ble_eq_true rfl) (Nat.le_of_ble_eq_true rfl) ⟨rfl, rfl, rfl, rfl, (tlT T (upd (upd (ttTe T) (ttCh T) (vp_nar .byte ((a : Int32).toInt8.toInt32))) ((ttCh T) + 1) (vp_nar .byte ((b : Int32).toInt8.toInt32))) jt 2), (soTh oJ 0), (Or.inr ⟨hsy, rfl, (upd (upd (ttTe T) (ttCh T) (vp_nar .byte ((a : Int32).toInt8.toInt32))) ((ttCh T) + 1) (vp_nar .byte ((b : Int32).toInt8.toInt32))), 2, jt, ⟨rfl, by omega, by omega⟩, rfl, Or.inr ⟨hna, hjt, hje, hk10, rfl⟩⟩), (by have h9 := hM43; rw [tlc] at h9; exact h9.tl rfl), ⟨hOJ.1.1, hOJ.1.2.1, hOJ.1.2.2.1, hOJ.1.2.2.2.1, (by have q9 := hOJ.1.2.2.2.2; first | exact q9 | omega | (show (ooSm oJ) ≤ 4300; omega))⟩, ((((((hfJ.trans hf35).trans hf39).trans hf40).trans hf41).trans hf42).trans hf43)⟩
            · refine v_iload hX d_M_say_144 rfl ?_
              refine v_iload hX d_M_say_146 rfl ?_
              refine v_icmp_ge hX d_M_say_148 (tgt := 208) (by decide) (fun c => absurd c (by decide)) (fun _ => ?_)
              refine v_aload_n hX d_M_say_151 rfl rfl ?_
              refine v_mget hX hM35 8 (v := .ref (ob 56)) (by decide) fl_M_31 rfl rfl d_M_say_152 ?_
              refine v_aload_n hX d_M_say_155 rfl rfl ?_
              refine v_mget hX hM35 10 (v := .int (nI (ttCh T))) (by decide) fl_M_104 rfl ((nf_thrown 10 (by decide)).trans gf_characters) d_M_say_156 ?_
              refine v_iload hX d_M_say_159 rfl ?_
              refine v_if_ne hX d_M_say_161 (tgt := 168) (by decide) (fun c => absurd (by decide) c) (fun _ => ?_)
              refine v_iload_n hX d_M_say_164 rfl rfl ?_
              refine v_goto hX d_M_say_165 (tgt := 190) (by decide) ?_
              refine v_i2b hX d_M_say_190 rfl ?_
              refine v_mbst hX hM35 7 C (sxTe T (upd (ttTe T) (ttCh T) (vp_nar .byte ((a : Int32).toInt8.toInt32)))) (soTh oJ 0) (i := (ttCh T)) (by decide) ((na_thrown 7).trans ga_text) (by omega) (by decide) qf_text qa_text d_M_say_191 (fun va44 hM44 hf44 => ?_)
              refine v_aload_n hX d_M_say_192 rfl rfl ?_
              refine v_dup hX d_M_say_193 rfl ?_
              refine v_mget hX hM44 10 (v := .int (nI (ttCh T))) (by decide) fl_M_104 rfl ((nf_text 10).trans ((nf_thrown 10 (by decide)).trans gf_characters)) d_M_say_194 ?_
              refine v_iconst (v := 1) hX d_M_say_197 (by decide) ?_
              refine v_iaddE (v := nI ((ttCh T) + 1)) hX d_M_say_198 (nI_add (ttCh T) 1) ?_
              refine v_mput hX hM44 10 C (sxCh (sxTe T (upd (ttTe T) (ttCh T) (vp_nar .byte ((a : Int32).toInt8.toInt32)))) ((ttCh T) + 1)) (soTh oJ 0) (by decide) fl_M_104 rfl rfl rfl rfl pf_characters pa_characters d_M_say_199 (fun va45 hM45 hf45 => ?_)
              refine v_iinc (y := 1) (lv' := [some (.ref (ob 48)), some (.int a), some (.int b), some (.int c), some (.int d), some (.int (nI 3)), some (.int 0), some (.int (nI jt)), some (.int 1)]) hX d_M_say_202 rfl (by decide) rfl ?_
              refine v_goto hX d_M_say_205 (tgt := 144) (by decide) ?_
              refine v_iload hX d_M_say_144 rfl ?_
              refine v_iload hX d_M_say_146 rfl ?_
              refine v_icmp_ge hX d_M_say_148 (tgt := 208) (by decide) (fun c => absurd c (by decide)) (fun _ => ?_)
              refine v_aload_n hX d_M_say_151 rfl rfl ?_
              refine v_mget hX hM45 8 (v := .ref (ob 56)) (by decide) fl_M_31 rfl rfl d_M_say_152 ?_
              refine v_aload_n hX d_M_say_155 rfl rfl ?_
              refine v_mget hX hM45 10 (v := .int (nI ((ttCh T) + 1))) (by decide) fl_M_104 rfl ((nf_thrown 10 (by decide)).trans hf_characters) d_M_say_156 ?_
              refine v_iload hX d_M_say_159 rfl ?_
              refine v_if_ne hX d_M_say_161 (tgt := 168) (by decide) (fun _ => ?_) (fun c => absurd c (by decide))
              refine v_iload hX d_M_say_168 rfl ?_
              refine v_iconst (v := 1) hX d_M_say_170 (by decide) ?_
              refine v_icmp_ne hX d_M_say_171 (tgt := 178) (by decide) (fun c => absurd (by decide) c) (fun _ => ?_)
              refine v_iload_n hX d_M_say_174 rfl rfl ?_
              refine v_goto hX d_M_say_175 (tgt := 190) (by decide) ?_
              refine v_i2b hX d_M_say_190 rfl ?_
              refine v_mbst hX hM45 7 C (sxTe (sxCh (sxTe T (upd (ttTe T) (ttCh T) (vp_nar .byte ((a : Int32).toInt8.toInt32)))) ((ttCh T) + 1)) (upd (upd (ttTe T) (ttCh T) (vp_nar .byte ((a : Int32).toInt8.toInt32))) ((ttCh T) + 1) (vp_nar .byte ((b : Int32).toInt8.toInt32)))) (soTh oJ 0) (i := ((ttCh T) + 1)) (by decide) ((na_characters 7).trans ((na_thrown 7).trans ha_text)) (by omega) (by decide) qf_text qa_text d_M_say_191 (fun va46 hM46 hf46 => ?_)
              refine v_aload_n hX d_M_say_192 rfl rfl ?_
              refine v_dup hX d_M_say_193 rfl ?_
              refine v_mget hX hM46 10 (v := .int (nI ((ttCh T) + 1))) (by decide) fl_M_104 rfl ((nf_text 10).trans ((nf_thrown 10 (by decide)).trans hf_characters)) d_M_say_194 ?_
              refine v_iconst (v := 1) hX d_M_say_197 (by decide) ?_
              refine v_iaddE (v := nI (((ttCh T) + 1) + 1)) hX d_M_say_198 (nI_add ((ttCh T) + 1) 1) ?_
              refine v_mput hX hM46 10 C (sxCh (sxTe (sxCh (sxTe T (upd (ttTe T) (ttCh T) (vp_nar .byte ((a : Int32).toInt8.toInt32)))) ((ttCh T) + 1)) (upd (upd (ttTe T) (ttCh T) (vp_nar .byte ((a : Int32).toInt8.toInt32))) ((ttCh T) + 1) (vp_nar .byte ((b : Int32).toInt8.toInt32)))) (((ttCh T) + 1) + 1)) (soTh oJ 0) (by decide) fl_M_104 rfl rfl rfl rfl pf_characters pa_characters d_M_say_199 (fun va47 hM47 hf47 => ?_)
              refine v_iinc (y := 2) (lv' := [some (.ref (ob 48)), some (.int a), some (.int b), some (.int c), some (.int d), some (.int (nI 3)), some (.int 0), some (.int (nI jt)), some (.int 2)]) hX d_M_say_202 rfl (by decide) rfl ?_
              refine v_goto hX d_M_say_205 (tgt := 144) (by decide) ?_
              refine v_iload hX d_M_say_144 rfl ?_
              refine v_iload hX d_M_say_146 rfl ?_
              refine v_icmp_ge hX d_M_say_148 (tgt := 208) (by decide) (fun c => absurd c (by decide)) (fun _ => ?_)
              refine v_aload_n hX d_M_say_151 rfl rfl ?_
              refine v_mget hX hM47 8 (v := .ref (ob 56)) (by decide) fl_M_31 rfl rfl d_M_say_152 ?_
              refine v_aload_n hX d_M_say_155 rfl rfl ?_
              refine v_mget hX hM47 10 (v := .int (nI (((ttCh T) + 1) + 1))) (by decide) fl_M_104 rfl ((nf_thrown 10 (by decide)).trans hf_characters) d_M_say_156 ?_
              refine v_iload hX d_M_say_159 rfl ?_
              refine v_if_ne hX d_M_say_161 (tgt := 168) (by decide) (fun _ => ?_) (fun c => absurd c (by decide))
              refine v_iload hX d_M_say_168 rfl ?_
              refine v_iconst (v := 1) hX d_M_say_170 (by decide) ?_
              refine v_icmp_ne hX d_M_say_171 (tgt := 178) (by decide) (fun _ => ?_) (fun c => absurd c (by decide))
              refine v_iload hX d_M_say_178 rfl ?_
              refine v_iconst (v := 2) hX d_M_say_180 (by decide) ?_
              refine v_icmp_ne hX d_M_say_181 (tgt := 188) (by decide) (fun c => absurd (by decide) c) (fun _ => ?_)
              refine v_iload_n hX d_M_say_184 rfl rfl ?_
              refine v_goto hX d_M_say_185 (tgt := 190) (by decide) ?_
              refine v_i2b hX d_M_say_190 rfl ?_
              refine v_mbst hX hM47 7 C (sxTe (sxCh (sxTe (sxCh (sxTe T (upd (ttTe T) (ttCh T) (vp_nar .byte ((a : Int32).toInt8.toInt32)))) ((ttCh T) + 1)) (upd (upd (ttTe T) (ttCh T) (vp_nar .byte ((a : Int32).toInt8.toInt32))) ((ttCh T) + 1) (vp_nar .byte ((b : Int32).toInt8.toInt32)))) (((ttCh T) + 1) + 1)) (upd (upd (upd (ttTe T) (ttCh T) (vp_nar .byte ((a : Int32).toInt8.toInt32))) ((ttCh T) + 1) (vp_nar .byte ((b : Int32).toInt8.toInt32))) (((ttCh T) + 1) + 1) (vp_nar .byte ((c : Int32).toInt8.toInt32)))) (soTh oJ 0) (i := (((ttCh T) + 1) + 1)) (by decide) ((na_characters 7).trans ((na_thrown 7).trans ha_text)) (by omega) (by decide) qf_text qa_text d_M_say_191 (fun va48 hM48 hf48 => ?_)
              refine v_aload_n hX d_M_say_192 rfl rfl ?_
              refine v_dup hX d_M_say_193 rfl ?_
              refine v_mget hX hM48 10 (v := .int (nI (((ttCh T) + 1) + 1))) (by decide) fl_M_104 rfl ((nf_text 10).trans ((nf_thrown 10 (by decide)).trans hf_characters)) d_M_say_194 ?_
              refine v_iconst (v := 1) hX d_M_say_197 (by decide) ?_
              refine v_iaddE (v := nI ((((ttCh T) + 1) + 1) + 1)) hX d_M_say_198 (nI_add (((ttCh T) + 1) + 1) 1) ?_
              refine v_mput hX hM48 10 C (sxCh (sxTe (sxCh (sxTe (sxCh (sxTe T (upd (ttTe T) (ttCh T) (vp_nar .byte ((a : Int32).toInt8.toInt32)))) ((ttCh T) + 1)) (upd (upd (ttTe T) (ttCh T) (vp_nar .byte ((a : Int32).toInt8.toInt32))) ((ttCh T) + 1) (vp_nar .byte ((b : Int32).toInt8.toInt32)))) (((ttCh T) + 1) + 1)) (upd (upd (upd (ttTe T) (ttCh T) (vp_nar .byte ((a : Int32).toInt8.toInt32))) ((ttCh T) + 1) (vp_nar .byte ((b : Int32).toInt8.toInt32))) (((ttCh T) + 1) + 1) (vp_nar .byte ((c : Int32).toInt8.toInt32)))) ((((ttCh T) + 1) + 1) + 1)) (soTh oJ 0) (by decide) fl_M_104 rfl rfl rfl rfl pf_characters pa_characters d_M_say_199 (fun va49 hM49 hf49 => ?_)
              refine v_iinc (y := 3) (lv' := [some (.ref (ob 48)), some (.int a), some (.int b), some (.int c), some (.int d), some (.int (nI 3)), some (.int 0), some (.int (nI jt)), some (.int 3)]) hX d_M_say_202 rfl (by decide) rfl ?_
              refine v_goto hX d_M_say_205 (tgt := 144) (by decide) ?_
              refine v_iload hX d_M_say_144 rfl ?_
              refine v_iload hX d_M_say_146 rfl ?_
              refine v_icmp_ge hX d_M_say_148 (tgt := 208) (by decide) (fun _ => ?_) (fun c => absurd (by decide) c)
              refine v_aload_n hX d_M_say_208 rfl rfl ?_
              refine v_mget hX hM49 6 (v := .ref (ob 54)) (by decide) fl_M_25 rfl rfl d_M_say_209 ?_
              refine v_iload hX d_M_say_212 rfl ?_
              refine v_dup2 hX d_M_say_214 rfl rfl ?_
              refine v_mild hX hM49 5 (i := jt) (v := (nI ((ttMa T) jt))) ((na_characters 5).trans ((na_text 5 (by decide)).trans ((na_characters 5).trans ((na_text 5 (by decide)).trans ((na_characters 5).trans ((na_text 5 (by decide)).trans ((na_thrown 5).trans ga_many))))))) (by omega) (by decide) rfl d_M_say_215 ?_
              refine v_iload hX d_M_say_216 rfl ?_
              refine v_iaddE (v := nI (((ttMa T) jt) + 3)) hX d_M_say_218 (nI_add ((ttMa T) jt) 3) ?_
              refine v_mist hX hM49 5 C (sxMa (sxCh (sxTe (sxCh (sxTe (sxCh (sxTe T (upd (ttTe T) (ttCh T) (vp_nar .byte ((a : Int32).toInt8.toInt32)))) ((ttCh T) + 1)) (upd (upd (ttTe T) (ttCh T) (vp_nar .byte ((a : Int32).toInt8.toInt32))) ((ttCh T) + 1) (vp_nar .byte ((b : Int32).toInt8.toInt32)))) (((ttCh T) + 1) + 1)) (upd (upd (upd (ttTe T) (ttCh T) (vp_nar .byte ((a : Int32).toInt8.toInt32))) ((ttCh T) + 1) (vp_nar .byte ((b : Int32).toInt8.toInt32))) (((ttCh T) + 1) + 1) (vp_nar .byte ((c : Int32).toInt8.toInt32)))) ((((ttCh T) + 1) + 1) + 1)) (updN (ttMa T) jt (((ttMa T) jt) + 3))) (soTh oJ 0) (i := jt) (by decide) ((na_characters 5).trans ((na_text 5 (by decide)).trans ((na_characters 5).trans ((na_text 5 (by decide)).trans ((na_characters 5).trans ((na_text 5 (by decide)).trans ((na_thrown 5).trans ga_many))))))) (by omega) (by decide) qf_many ((congrArg (fun f9 => (mar cI cB cZ C (sxCh (sxTe (sxCh (sxTe (sxCh (sxTe T (upd (ttTe T) (ttCh T) (vp_nar .byte ((a : Int32).toInt8.toInt32)))) ((ttCh T) + 1)) (upd (upd (ttTe T) (ttCh T) (vp_nar .byte ((a : Int32).toInt8.toInt32))) ((ttCh T) + 1) (vp_nar .byte ((b : Int32).toInt8.toInt32)))) (((ttCh T) + 1) + 1)) (upd (upd (upd (ttTe T) (ttCh T) (vp_nar .byte ((a : Int32).toInt8.toInt32))) ((ttCh T) + 1) (vp_nar .byte ((b : Int32).toInt8.toInt32))) (((ttCh T) + 1) + 1) (vp_nar .byte ((c : Int32).toInt8.toInt32)))) ((((ttCh T) + 1) + 1) + 1)) (soTh oJ 0)).set 5 (.inl (cI, 300, .inl f9))) (updN_nI (f := (ttMa T)) (k := jt) (x := (((ttMa T) jt) + 3)))).trans qa_many) d_M_say_219 (fun va50 hM50 hf50 => ?_)
              refine v_iload hX d_M_say_220 rfl ?_
              exact v_iret hX hE d_M_say_222 (Nat.le_of_ble_eq_true rfl) (Nat.le_of_ble_eq_true rfl) ⟨rfl, rfl, rfl, rfl, (tlT T (upd (upd (upd (ttTe T) (ttCh T) (vp_nar .byte ((a : Int32).toInt8.toInt32))) ((ttCh T) + 1) (vp_nar .byte ((b : Int32).toInt8.toInt32))) (((ttCh T) + 1) + 1) (vp_nar .byte ((c : Int32).toInt8.toInt32))) jt 3), (soTh oJ 0), (Or.inr ⟨hsy, rfl, (upd (upd (upd (ttTe T) (ttCh T) (vp_nar .byte ((a : Int32).toInt8.toInt32))) ((ttCh T) + 1) (vp_nar .byte ((b : Int32).toInt8.toInt32))) (((ttCh T) + 1) + 1) (vp_nar .byte ((c : Int32).toInt8.toInt32))), 3, jt, ⟨rfl, by omega, by omega⟩, rfl, Or.inr ⟨hna, hjt, hje, hk10, rfl⟩⟩), (by have h9 := hM50; rw [tlc] at h9; rw [tlc] at h9; exact h9.tl rfl), ⟨hOJ.1.1, hOJ.1.2.1, hOJ.1.2.2.1, hOJ.1.2.2.2.1, (by have q9 := hOJ.1.2.2.2.2; first | exact q9 | omega | (show (ooSm oJ) ≤ 4300; omega))⟩, ((((((((hfJ.trans hf35).trans hf44).trans hf45).trans hf46).trans hf47).trans hf48).trans hf49).trans hf50)⟩
            · refine v_iload hX d_M_say_144 rfl ?_
              refine v_iload hX d_M_say_146 rfl ?_
              refine v_icmp_ge hX d_M_say_148 (tgt := 208) (by decide) (fun c => absurd c (by decide)) (fun _ => ?_)
              refine v_aload_n hX d_M_say_151 rfl rfl ?_
              refine v_mget hX hM35 8 (v := .ref (ob 56)) (by decide) fl_M_31 rfl rfl d_M_say_152 ?_
              refine v_aload_n hX d_M_say_155 rfl rfl ?_
              refine v_mget hX hM35 10 (v := .int (nI (ttCh T))) (by decide) fl_M_104 rfl ((nf_thrown 10 (by decide)).trans gf_characters) d_M_say_156 ?_
              refine v_iload hX d_M_say_159 rfl ?_
              refine v_if_ne hX d_M_say_161 (tgt := 168) (by decide) (fun c => absurd (by decide) c) (fun _ => ?_)
              refine v_iload_n hX d_M_say_164 rfl rfl ?_
              refine v_goto hX d_M_say_165 (tgt := 190) (by decide) ?_
              refine v_i2b hX d_M_say_190 rfl ?_
              refine v_mbst hX hM35 7 C (sxTe T (upd (ttTe T) (ttCh T) (vp_nar .byte ((a : Int32).toInt8.toInt32)))) (soTh oJ 0) (i := (ttCh T)) (by decide) ((na_thrown 7).trans ga_text) (by omega) (by decide) qf_text qa_text d_M_say_191 (fun va51 hM51 hf51 => ?_)
              refine v_aload_n hX d_M_say_192 rfl rfl ?_
              refine v_dup hX d_M_say_193 rfl ?_
              refine v_mget hX hM51 10 (v := .int (nI (ttCh T))) (by decide) fl_M_104 rfl ((nf_text 10).trans ((nf_thrown 10 (by decide)).trans gf_characters)) d_M_say_194 ?_
              refine v_iconst (v := 1) hX d_M_say_197 (by decide) ?_
              refine v_iaddE (v := nI ((ttCh T) + 1)) hX d_M_say_198 (nI_add (ttCh T) 1) ?_
              refine v_mput hX hM51 10 C (sxCh (sxTe T (upd (ttTe T) (ttCh T) (vp_nar .byte ((a : Int32).toInt8.toInt32)))) ((ttCh T) + 1)) (soTh oJ 0) (by decide) fl_M_104 rfl rfl rfl rfl pf_characters pa_characters d_M_say_199 (fun va52 hM52 hf52 => ?_)
              refine v_iinc (y := 1) (lv' := [some (.ref (ob 48)), some (.int a), some (.int b), some (.int c), some (.int d), some (.int (nI 4)), some (.int 0), some (.int (nI jt)), some (.int 1)]) hX d_M_say_202 rfl (by decide) rfl ?_
              refine v_goto hX d_M_say_205 (tgt := 144) (by decide) ?_
              refine v_iload hX d_M_say_144 rfl ?_
              refine v_iload hX d_M_say_146 rfl ?_
              refine v_icmp_ge hX d_M_say_148 (tgt := 208) (by decide) (fun c => absurd c (by decide)) (fun _ => ?_)
              refine v_aload_n hX d_M_say_151 rfl rfl ?_
              refine v_mget hX hM52 8 (v := .ref (ob 56)) (by decide) fl_M_31 rfl rfl d_M_say_152 ?_
              refine v_aload_n hX d_M_say_155 rfl rfl ?_
              refine v_mget hX hM52 10 (v := .int (nI ((ttCh T) + 1))) (by decide) fl_M_104 rfl ((nf_thrown 10 (by decide)).trans hf_characters) d_M_say_156 ?_
              refine v_iload hX d_M_say_159 rfl ?_
              refine v_if_ne hX d_M_say_161 (tgt := 168) (by decide) (fun _ => ?_) (fun c => absurd c (by decide))
              refine v_iload hX d_M_say_168 rfl ?_
              refine v_iconst (v := 1) hX d_M_say_170 (by decide) ?_
              refine v_icmp_ne hX d_M_say_171 (tgt := 178) (by decide) (fun c => absurd (by decide) c) (fun _ => ?_)
              refine v_iload_n hX d_M_say_174 rfl rfl ?_
              refine v_goto hX d_M_say_175 (tgt := 190) (by decide) ?_
              refine v_i2b hX d_M_say_190 rfl ?_
              refine v_mbst hX hM52 7 C (sxTe (sxCh (sxTe T (upd (ttTe T) (ttCh T) (vp_nar .byte ((a : Int32).toInt8.toInt32)))) ((ttCh T) + 1)) (upd (upd (ttTe T) (ttCh T) (vp_nar .byte ((a : Int32).toInt8.toInt32))) ((ttCh T) + 1) (vp_nar .byte ((b : Int32).toInt8.toInt32)))) (soTh oJ 0) (i := ((ttCh T) + 1)) (by decide) ((na_characters 7).trans ((na_thrown 7).trans ha_text)) (by omega) (by decide) qf_text qa_text d_M_say_191 (fun va53 hM53 hf53 => ?_)
              refine v_aload_n hX d_M_say_192 rfl rfl ?_
              refine v_dup hX d_M_say_193 rfl ?_
              refine v_mget hX hM53 10 (v := .int (nI ((ttCh T) + 1))) (by decide) fl_M_104 rfl ((nf_text 10).trans ((nf_thrown 10 (by decide)).trans hf_characters)) d_M_say_194 ?_
              refine v_iconst (v := 1) hX d_M_say_197 (by decide) ?_
              refine v_iaddE (v := nI (((ttCh T) + 1) + 1)) hX d_M_say_198 (nI_add ((ttCh T) + 1) 1) ?_
              refine v_mput hX hM53 10 C (sxCh (sxTe (sxCh (sxTe T (upd (ttTe T) (ttCh T) (vp_nar .byte ((a : Int32).toInt8.toInt32)))) ((ttCh T) + 1)) (upd (upd (ttTe T) (ttCh T) (vp_nar .byte ((a : Int32).toInt8.toInt32))) ((ttCh T) + 1) (vp_nar .byte ((b : Int32).toInt8.toInt32)))) (((ttCh T) + 1) + 1)) (soTh oJ 0) (by decide) fl_M_104 rfl rfl rfl rfl pf_characters pa_characters d_M_say_199 (fun va54 hM54 hf54 => ?_)
              refine v_iinc (y := 2) (lv' := [some (.ref (ob 48)), some (.int a), some (.int b), some (.int c), some (.int d), some (.int (nI 4)), some (.int 0), some (.int (nI jt)), some (.int 2)]) hX d_M_say_202 rfl (by decide) rfl ?_
              refine v_goto hX d_M_say_205 (tgt := 144) (by decide) ?_
              refine v_iload hX d_M_say_144 rfl ?_
              refine v_iload hX d_M_say_146 rfl ?_
              refine v_icmp_ge hX d_M_say_148 (tgt := 208) (by decide) (fun c => absurd c (by decide)) (fun _ => ?_)
              refine v_aload_n hX d_M_say_151 rfl rfl ?_
              refine v_mget hX hM54 8 (v := .ref (ob 56)) (by decide) fl_M_31 rfl rfl d_M_say_152 ?_
              refine v_aload_n hX d_M_say_155 rfl rfl ?_
              refine v_mget hX hM54 10 (v := .int (nI (((ttCh T) + 1) + 1))) (by decide) fl_M_104 rfl ((nf_thrown 10 (by decide)).trans hf_characters) d_M_say_156 ?_
              refine v_iload hX d_M_say_159 rfl ?_
              refine v_if_ne hX d_M_say_161 (tgt := 168) (by decide) (fun _ => ?_) (fun c => absurd c (by decide))
              refine v_iload hX d_M_say_168 rfl ?_
              refine v_iconst (v := 1) hX d_M_say_170 (by decide) ?_
              refine v_icmp_ne hX d_M_say_171 (tgt := 178) (by decide) (fun _ => ?_) (fun c => absurd c (by decide))
              refine v_iload hX d_M_say_178 rfl ?_
              refine v_iconst (v := 2) hX d_M_say_180 (by decide) ?_
              refine v_icmp_ne hX d_M_say_181 (tgt := 188) (by decide) (fun c => absurd (by decide) c) (fun _ => ?_)
              refine v_iload_n hX d_M_say_184 rfl rfl ?_
              refine v_goto hX d_M_say_185 (tgt := 190) (by decide) ?_
              refine v_i2b hX d_M_say_190 rfl ?_
              refine v_mbst hX hM54 7 C (sxTe (sxCh (sxTe (sxCh (sxTe T (upd (ttTe T) (ttCh T) (vp_nar .byte ((a : Int32).toInt8.toInt32)))) ((ttCh T) + 1)) (upd (upd (ttTe T) (ttCh T) (vp_nar .byte ((a : Int32).toInt8.toInt32))) ((ttCh T) + 1) (vp_nar .byte ((b : Int32).toInt8.toInt32)))) (((ttCh T) + 1) + 1)) (upd (upd (upd (ttTe T) (ttCh T) (vp_nar .byte ((a : Int32).toInt8.toInt32))) ((ttCh T) + 1) (vp_nar .byte ((b : Int32).toInt8.toInt32))) (((ttCh T) + 1) + 1) (vp_nar .byte ((c : Int32).toInt8.toInt32)))) (soTh oJ 0) (i := (((ttCh T) + 1) + 1)) (by decide) ((na_characters 7).trans ((na_thrown 7).trans ha_text)) (by omega) (by decide) qf_text qa_text d_M_say_191 (fun va55 hM55 hf55 => ?_)
              refine v_aload_n hX d_M_say_192 rfl rfl ?_
              refine v_dup hX d_M_say_193 rfl ?_
              refine v_mget hX hM55 10 (v := .int (nI (((ttCh T) + 1) + 1))) (by decide) fl_M_104 rfl ((nf_text 10).trans ((nf_thrown 10 (by decide)).trans hf_characters)) d_M_say_194 ?_
              refine v_iconst (v := 1) hX d_M_say_197 (by decide) ?_
              refine v_iaddE (v := nI ((((ttCh T) + 1) + 1) + 1)) hX d_M_say_198 (nI_add (((ttCh T) + 1) + 1) 1) ?_
              refine v_mput hX hM55 10 C (sxCh (sxTe (sxCh (sxTe (sxCh (sxTe T (upd (ttTe T) (ttCh T) (vp_nar .byte ((a : Int32).toInt8.toInt32)))) ((ttCh T) + 1)) (upd (upd (ttTe T) (ttCh T) (vp_nar .byte ((a : Int32).toInt8.toInt32))) ((ttCh T) + 1) (vp_nar .byte ((b : Int32).toInt8.toInt32)))) (((ttCh T) + 1) + 1)) (upd (upd (upd (ttTe T) (ttCh T) (vp_nar .byte ((a : Int32).toInt8.toInt32))) ((ttCh T) + 1) (vp_nar .byte ((b : Int32).toInt8.toInt32))) (((ttCh T) + 1) + 1) (vp_nar .byte ((c : Int32).toInt8.toInt32)))) ((((ttCh T) + 1) + 1) + 1)) (soTh oJ 0) (by decide) fl_M_104 rfl rfl rfl rfl pf_characters pa_characters d_M_say_199 (fun va56 hM56 hf56 => ?_)
              refine v_iinc (y := 3) (lv' := [some (.ref (ob 48)), some (.int a), some (.int b), some (.int c), some (.int d), some (.int (nI 4)), some (.int 0), some (.int (nI jt)), some (.int 3)]) hX d_M_say_202 rfl (by decide) rfl ?_
              refine v_goto hX d_M_say_205 (tgt := 144) (by decide) ?_
              refine v_iload hX d_M_say_144 rfl ?_
              refine v_iload hX d_M_say_146 rfl ?_
              refine v_icmp_ge hX d_M_say_148 (tgt := 208) (by decide) (fun c => absurd c (by decide)) (fun _ => ?_)
              refine v_aload_n hX d_M_say_151 rfl rfl ?_
              refine v_mget hX hM56 8 (v := .ref (ob 56)) (by decide) fl_M_31 rfl rfl d_M_say_152 ?_
              refine v_aload_n hX d_M_say_155 rfl rfl ?_
              refine v_mget hX hM56 10 (v := .int (nI ((((ttCh T) + 1) + 1) + 1))) (by decide) fl_M_104 rfl ((nf_thrown 10 (by decide)).trans hf_characters) d_M_say_156 ?_
              refine v_iload hX d_M_say_159 rfl ?_
              refine v_if_ne hX d_M_say_161 (tgt := 168) (by decide) (fun _ => ?_) (fun c => absurd c (by decide))
              refine v_iload hX d_M_say_168 rfl ?_
              refine v_iconst (v := 1) hX d_M_say_170 (by decide) ?_
              refine v_icmp_ne hX d_M_say_171 (tgt := 178) (by decide) (fun _ => ?_) (fun c => absurd c (by decide))
              refine v_iload hX d_M_say_178 rfl ?_
              refine v_iconst (v := 2) hX d_M_say_180 (by decide) ?_
              refine v_icmp_ne hX d_M_say_181 (tgt := 188) (by decide) (fun _ => ?_) (fun c => absurd c (by decide))
              refine v_iload hX d_M_say_188 rfl ?_
              refine v_i2b hX d_M_say_190 rfl ?_
              refine v_mbst hX hM56 7 C (sxTe (sxCh (sxTe (sxCh (sxTe (sxCh (sxTe T (upd (ttTe T) (ttCh T) (vp_nar .byte ((a : Int32).toInt8.toInt32)))) ((ttCh T) + 1)) (upd (upd (ttTe T) (ttCh T) (vp_nar .byte ((a : Int32).toInt8.toInt32))) ((ttCh T) + 1) (vp_nar .byte ((b : Int32).toInt8.toInt32)))) (((ttCh T) + 1) + 1)) (upd (upd (upd (ttTe T) (ttCh T) (vp_nar .byte ((a : Int32).toInt8.toInt32))) ((ttCh T) + 1) (vp_nar .byte ((b : Int32).toInt8.toInt32))) (((ttCh T) + 1) + 1) (vp_nar .byte ((c : Int32).toInt8.toInt32)))) ((((ttCh T) + 1) + 1) + 1)) (upd (upd (upd (upd (ttTe T) (ttCh T) (vp_nar .byte ((a : Int32).toInt8.toInt32))) ((ttCh T) + 1) (vp_nar .byte ((b : Int32).toInt8.toInt32))) (((ttCh T) + 1) + 1) (vp_nar .byte ((c : Int32).toInt8.toInt32))) ((((ttCh T) + 1) + 1) + 1) (vp_nar .byte ((d : Int32).toInt8.toInt32)))) (soTh oJ 0) (i := ((((ttCh T) + 1) + 1) + 1)) (by decide) ((na_characters 7).trans ((na_thrown 7).trans ha_text)) (by omega) (by decide) qf_text qa_text d_M_say_191 (fun va57 hM57 hf57 => ?_)
              refine v_aload_n hX d_M_say_192 rfl rfl ?_
              refine v_dup hX d_M_say_193 rfl ?_
              refine v_mget hX hM57 10 (v := .int (nI ((((ttCh T) + 1) + 1) + 1))) (by decide) fl_M_104 rfl ((nf_text 10).trans ((nf_thrown 10 (by decide)).trans hf_characters)) d_M_say_194 ?_
              refine v_iconst (v := 1) hX d_M_say_197 (by decide) ?_
              refine v_iaddE (v := nI (((((ttCh T) + 1) + 1) + 1) + 1)) hX d_M_say_198 (nI_add ((((ttCh T) + 1) + 1) + 1) 1) ?_
              refine v_mput hX hM57 10 C (sxCh (sxTe (sxCh (sxTe (sxCh (sxTe (sxCh (sxTe T (upd (ttTe T) (ttCh T) (vp_nar .byte ((a : Int32).toInt8.toInt32)))) ((ttCh T) + 1)) (upd (upd (ttTe T) (ttCh T) (vp_nar .byte ((a : Int32).toInt8.toInt32))) ((ttCh T) + 1) (vp_nar .byte ((b : Int32).toInt8.toInt32)))) (((ttCh T) + 1) + 1)) (upd (upd (upd (ttTe T) (ttCh T) (vp_nar .byte ((a : Int32).toInt8.toInt32))) ((ttCh T) + 1) (vp_nar .byte ((b : Int32).toInt8.toInt32))) (((ttCh T) + 1) + 1) (vp_nar .byte ((c : Int32).toInt8.toInt32)))) ((((ttCh T) + 1) + 1) + 1)) (upd (upd (upd (upd (ttTe T) (ttCh T) (vp_nar .byte ((a : Int32).toInt8.toInt32))) ((ttCh T) + 1) (vp_nar .byte ((b : Int32).toInt8.toInt32))) (((ttCh T) + 1) + 1) (vp_nar .byte ((c : Int32).toInt8.toInt32))) ((((ttCh T) + 1) + 1) + 1) (vp_nar .byte ((d : Int32).toInt8.toInt32)))) (((((ttCh T) + 1) + 1) + 1) + 1)) (soTh oJ 0) (by decide) fl_M_104 rfl rfl rfl rfl pf_characters pa_characters d_M_say_199 (fun va58 hM58 hf58 => ?_)
              refine v_iinc (y := 4) (lv' := [some (.ref (ob 48)), some (.int a), some (.int b), some (.int c), some (.int d), some (.int (nI 4)), some (.int 0), some (.int (nI jt)), some (.int 4)]) hX d_M_say_202 rfl (by decide) rfl ?_
              refine v_goto hX d_M_say_205 (tgt := 144) (by decide) ?_
              refine v_iload hX d_M_say_144 rfl ?_
              refine v_iload hX d_M_say_146 rfl ?_
              refine v_icmp_ge hX d_M_say_148 (tgt := 208) (by decide) (fun _ => ?_) (fun c => absurd (by decide) c)
              refine v_aload_n hX d_M_say_208 rfl rfl ?_
              refine v_mget hX hM58 6 (v := .ref (ob 54)) (by decide) fl_M_25 rfl rfl d_M_say_209 ?_
              refine v_iload hX d_M_say_212 rfl ?_
              refine v_dup2 hX d_M_say_214 rfl rfl ?_
              refine v_mild hX hM58 5 (i := jt) (v := (nI ((ttMa T) jt))) ((na_characters 5).trans ((na_text 5 (by decide)).trans ((na_characters 5).trans ((na_text 5 (by decide)).trans ((na_characters 5).trans ((na_text 5 (by decide)).trans ((na_characters 5).trans ((na_text 5 (by decide)).trans ((na_thrown 5).trans ga_many))))))))) (by omega) (by decide) rfl d_M_say_215 ?_
              refine v_iload hX d_M_say_216 rfl ?_
              refine v_iaddE (v := nI (((ttMa T) jt) + 4)) hX d_M_say_218 (nI_add ((ttMa T) jt) 4) ?_
              refine v_mist hX hM58 5 C (sxMa (sxCh (sxTe (sxCh (sxTe (sxCh (sxTe (sxCh (sxTe T (upd (ttTe T) (ttCh T) (vp_nar .byte ((a : Int32).toInt8.toInt32)))) ((ttCh T) + 1)) (upd (upd (ttTe T) (ttCh T) (vp_nar .byte ((a : Int32).toInt8.toInt32))) ((ttCh T) + 1) (vp_nar .byte ((b : Int32).toInt8.toInt32)))) (((ttCh T) + 1) + 1)) (upd (upd (upd (ttTe T) (ttCh T) (vp_nar .byte ((a : Int32).toInt8.toInt32))) ((ttCh T) + 1) (vp_nar .byte ((b : Int32).toInt8.toInt32))) (((ttCh T) + 1) + 1) (vp_nar .byte ((c : Int32).toInt8.toInt32)))) ((((ttCh T) + 1) + 1) + 1)) (upd (upd (upd (upd (ttTe T) (ttCh T) (vp_nar .byte ((a : Int32).toInt8.toInt32))) ((ttCh T) + 1) (vp_nar .byte ((b : Int32).toInt8.toInt32))) (((ttCh T) + 1) + 1) (vp_nar .byte ((c : Int32).toInt8.toInt32))) ((((ttCh T) + 1) + 1) + 1) (vp_nar .byte ((d : Int32).toInt8.toInt32)))) (((((ttCh T) + 1) + 1) + 1) + 1)) (updN (ttMa T) jt (((ttMa T) jt) + 4))) (soTh oJ 0) (i := jt) (by decide) ((na_characters 5).trans ((na_text 5 (by decide)).trans ((na_characters 5).trans ((na_text 5 (by decide)).trans ((na_characters 5).trans ((na_text 5 (by decide)).trans ((na_characters 5).trans ((na_text 5 (by decide)).trans ((na_thrown 5).trans ga_many))))))))) (by omega) (by decide) qf_many ((congrArg (fun f9 => (mar cI cB cZ C (sxCh (sxTe (sxCh (sxTe (sxCh (sxTe (sxCh (sxTe T (upd (ttTe T) (ttCh T) (vp_nar .byte ((a : Int32).toInt8.toInt32)))) ((ttCh T) + 1)) (upd (upd (ttTe T) (ttCh T) (vp_nar .byte ((a : Int32).toInt8.toInt32))) ((ttCh T) + 1) (vp_nar .byte ((b : Int32).toInt8.toInt32)))) (((ttCh T) + 1) + 1)) (upd (upd (upd (ttTe T) (ttCh T) (vp_nar .byte ((a : Int32).toInt8.toInt32))) ((ttCh T) + 1) (vp_nar .byte ((b : Int32).toInt8.toInt32))) (((ttCh T) + 1) + 1) (vp_nar .byte ((c : Int32).toInt8.toInt32)))) ((((ttCh T) + 1) + 1) + 1)) (upd (upd (upd (upd (ttTe T) (ttCh T) (vp_nar .byte ((a : Int32).toInt8.toInt32))) ((ttCh T) + 1) (vp_nar .byte ((b : Int32).toInt8.toInt32))) (((ttCh T) + 1) + 1) (vp_nar .byte ((c : Int32).toInt8.toInt32))) ((((ttCh T) + 1) + 1) + 1) (vp_nar .byte ((d : Int32).toInt8.toInt32)))) (((((ttCh T) + 1) + 1) + 1) + 1)) (soTh oJ 0)).set 5 (.inl (cI, 300, .inl f9))) (updN_nI (f := (ttMa T)) (k := jt) (x := (((ttMa T) jt) + 4)))).trans qa_many) d_M_say_219 (fun va59 hM59 hf59 => ?_)
              refine v_iload hX d_M_say_220 rfl ?_
              exact v_iret hX hE d_M_say_222 (Nat.le_of_ble_eq_true rfl) (Nat.le_of_ble_eq_true rfl) ⟨rfl, rfl, rfl, rfl, (tlT T (upd (upd (upd (upd (ttTe T) (ttCh T) (vp_nar .byte ((a : Int32).toInt8.toInt32))) ((ttCh T) + 1) (vp_nar .byte ((b : Int32).toInt8.toInt32))) (((ttCh T) + 1) + 1) (vp_nar .byte ((c : Int32).toInt8.toInt32))) ((((ttCh T) + 1) + 1) + 1) (vp_nar .byte ((d : Int32).toInt8.toInt32))) jt 4), (soTh oJ 0), (Or.inr ⟨hsy, rfl, (upd (upd (upd (upd (ttTe T) (ttCh T) (vp_nar .byte ((a : Int32).toInt8.toInt32))) ((ttCh T) + 1) (vp_nar .byte ((b : Int32).toInt8.toInt32))) (((ttCh T) + 1) + 1) (vp_nar .byte ((c : Int32).toInt8.toInt32))) ((((ttCh T) + 1) + 1) + 1) (vp_nar .byte ((d : Int32).toInt8.toInt32))), 4, jt, ⟨rfl, by omega, by omega⟩, rfl, Or.inr ⟨hna, hjt, hje, hk10, rfl⟩⟩), (by have h9 := hM59; rw [tlc] at h9; rw [tlc] at h9; rw [tlc] at h9; exact h9.tl rfl), ⟨hOJ.1.1, hOJ.1.2.1, hOJ.1.2.2.1, hOJ.1.2.2.2.1, (by have q9 := hOJ.1.2.2.2.2; first | exact q9 | omega | (show (ooSm oJ) ≤ 4300; omega))⟩, ((((((((((hfJ.trans hf35).trans hf51).trans hf52).trans hf53).trans hf54).trans hf55).trans hf56).trans hf57).trans hf58).trans hf59)⟩
        · refine v_iconst (v := 1) hX d_M_say_69 (by decide) ?_
          refine v_goto hX d_M_say_70 (tgt := 103) (by decide) ?_
          refine v_mput hX hMJ 0 C T (soTh oJ 1) (by decide) fl_M_97 rfl rfl rfl rfl pf_thrown pa_thrown d_M_say_103 (fun va60 hM60 hf60 => ?_)
          refine v_aload_n hX d_M_say_106 rfl rfl ?_
          refine v_mget hX hM60 0 (v := .int 1) (by decide) fl_M_97 rfl hf_thrown d_M_say_107 ?_
          refine v_if_le hX d_M_say_110 (tgt := 115) (by decide) (fun c => absurd c (by decide)) (fun _ => ?_)
          refine v_iconst (v := 0) hX d_M_say_113 (by decide) ?_
          exact v_iret hX hE d_M_say_114 (Nat.le_of_ble_eq_true rfl) (Nat.le_of_ble_eq_true rfl) ⟨rfl, rfl, rfl, rfl, T, (soTh oJ 1), (Or.inl ⟨(fun z => absurd (c66.symm.trans z.2.2.1) (by decide)), rfl, rfl, (if_neg (fun z => absurd (c66.symm.trans z.2.2) (by decide))).symm⟩), hM60, ⟨hOJ.1.1, hOJ.1.2.1, hOJ.1.2.2.1, hOJ.1.2.2.2.1, (by have q9 := hOJ.1.2.2.2.2; first | exact q9 | omega | (show (ooSm oJ) ≤ 4300; omega))⟩, (hfJ.trans hf60)⟩
  refine v_aload_n hX d_M_say_0 rfl rfl ?_
  refine v_mget hX hM 7 (v := .ref (ob 55)) (by decide) fl_M_28 rfl rfl d_M_say_1 ?_
  refine v_aload_n hX d_M_say_4 rfl rfl ?_
  refine v_mget hX hM 11 (v := .int (nI (ttHa T))) (by decide) fl_M_107 rfl gf_hand d_M_say_5 ?_
  refine v_mild hX hM 6 (i := (ttHa T)) (v := ((ttLa T) (ttHa T))) ga_lastIn (by omega) (by decide) rfl d_M_say_8 ?_
  refine v_iconst (v := (-1)) hX d_M_say_9 (by decide) ?_
  refine v_icmp_eq hX d_M_say_10 (tgt := 32) (by decide) (fun c10 => ?_) (fun c10 => ?_)
  · refine v_iconst (v := 1) hX d_M_say_32 (by decide) ?_
    refine v_goto hX d_M_say_33 (tgt := 37) (by decide) ?_
    refine v_istore (lv' := [some (.ref (ob 48)), some (.int a), some (.int b), some (.int c), some (.int d), some (.int n), some (.int 1), none, none]) hX d_M_say_37 (Nat.le_of_ble_eq_true rfl) rfl ?_
    exact j39a C O val hM ⟨hO, rfl⟩ frM.rf rfl (Or.inl c10)
  · obtain ⟨jt, hjt, hje⟩ := (hTX.2.2 (ttHa T) (by omega)).resolve_left c10
    refine v_aload_n hX d_M_say_13 rfl rfl ?_
    refine v_mget hX hM 1 (v := .ref (ob 49)) (by decide) fl_M_7 rfl rfl d_M_say_14 ?_
    refine v_aload_n hX d_M_say_17 rfl rfl ?_
    refine v_mget hX hM 7 (v := .ref (ob 55)) (by decide) fl_M_28 rfl rfl d_M_say_18 ?_
    refine v_aload_n hX d_M_say_21 rfl rfl ?_
    refine v_mget hX hM 11 (v := .int (nI (ttHa T))) (by decide) fl_M_107 rfl gf_hand d_M_say_22 ?_
    refine v_mild hX hM 6 (i := (ttHa T)) (v := (nI jt)) ga_lastIn (by omega) (by decide) hje d_M_say_25 ?_
    refine v_mild hX hM 0 (i := jt) (v := ((ttK T) jt)) ga_kind (by omega) (by decide) rfl d_M_say_26 ?_
    refine v_bipush (v := 10) hX d_M_say_27 (by decide) ?_
    refine v_icmp_eq hX d_M_say_29 (tgt := 36) (by decide) (fun c29 => ?_) (fun c29 => ?_)
    · refine v_iconst (v := 0) hX d_M_say_36 (by decide) ?_
      refine v_istore (lv' := [some (.ref (ob 48)), some (.int a), some (.int b), some (.int c), some (.int d), some (.int n), some (.int 0), none, none]) hX d_M_say_37 (Nat.le_of_ble_eq_true rfl) rfl ?_
      exact j39b jt C O val hM ⟨hO, rfl⟩ frM.rf rfl hjt hje c29
    · refine v_iconst (v := 1) hX d_M_say_32 (by decide) ?_
      refine v_goto hX d_M_say_33 (tgt := 37) (by decide) ?_
      refine v_istore (lv' := [some (.ref (ob 48)), some (.int a), some (.int b), some (.int c), some (.int d), some (.int n), some (.int 1), none, none]) hX d_M_say_37 (Nat.le_of_ble_eq_true rfl) rfl ?_
      exact j39a C O val hM ⟨hO, rfl⟩ frM.rf rfl (Or.inr (by rw [hje, nI_clamp (by omega)]; exact c29))
set_option maxHeartbeats 4000000 in
set_option maxRecDepth 100000 in
theorem c_P_say2 {l : Launch} {D : va_G} {A : Nat → Prop} {cI cB cZ cJ cN : ClassId} {ob : Nat → Nat} {td : Nat} {rs : RS} {sh : Nat → Int32 × Int32 × Int32} {T : TR} {n ha ch ts : Nat} {hp : Int32} {dom : Nat → Prop} {loc : Nat → Nat} {val : Nat → va_E} (hI : LayI cI ob td rs sh dom loc val) (hN : NodesI ob T n dom loc val) (hD : DeskI cN ob n ha ch ts hp dom loc val) (hU : TreeU T n) (hha : ha < n) (hts : ts = 5 ∨ ts = 30) (hT : TreeI T n) (htl : (rs 3).1 ≤ 4300) (htr : l.stackTraces = false) (x0 x1 x2 x3 y : Int32) (hch : ch ≤ 4000) : kMX l y_P_say (Cond.code y_P_say b_P_say 7 (some FieldType.int) :: TT) (rmQ 60 (Phi rs)) D CL (TY cI cB cZ cJ cN) A [.ref (ob 0), .int x0, .int x1, .int x2, .int x3, .int y] dom loc val (fun rv d lo va kc ns => okS T n ha ch y ∧ ∃ nn, (y = nI nn ∧ 1 ≤ nn ∧ nn ≤ 4) ∧ ((anC T ha ∧ rv = some (.int (nI n)) ∧ ∃ (ob2 : Nat → Nat) (rs2 : RS), (∀ j, j ≠ 1000 + n → ob2 j = ob j) ∧ (∀ j, d j ↔ (j = 1000 + n ∨ dom j)) ∧ LayI cI ob2 td rs2 sh d lo va ∧ ((rs2 3).1 = (rs 3).1 + nn ∧ ∀ j, j ≠ 3 → rs2 j = rs j) ∧ NodesI ob2 (sTV (tkT (exT T n ha 10 0) ha n) n (tV (tkT (exT T n ha 10 0) ha n) n + nI nn)) (n + 1) d lo va ∧ DeskI cN ob2 (n + 1) ha (ch + nn) ts hp d lo va ∧ (ns + Phi rs ≤ Phi rs2 + 12 ∧ 16 * kc + Phi rs ≤ Phi rs2 + 16) ∧ frC loc val lo va) ∨ (∃ j, tL T ha = some j ∧ tK T j = 10 ∧ rv = some (.int (nI j)) ∧ dom = d ∧ ∃ (rs2 : RS), LayI cI ob td rs2 sh d lo va ∧ ((rs2 3).1 = (rs 3).1 + nn ∧ ∀ j, j ≠ 3 → rs2 j = rs j) ∧ NodesI ob (sTV T j (tV T j + nI nn)) n d lo va ∧ DeskI cN ob n ha (ch + nn) ts hp d lo va ∧ (ns + Phi rs ≤ Phi rs2 + 12 ∧ 16 * kc + Phi rs ≤ Phi rs2 + 16) ∧ frC loc val lo va))) (fun E d lo va kc ns => ((E = "java/lang/IllegalArgumentException" ∧ ¬ (¬ y < 1 ∧ ¬ 4 < y ∧ ¬ mhC (tK T ha) 10 = 0)) ∨ (E = "java/lang/IllegalStateException" ∧ (¬ y < 1 ∧ ¬ 4 < y ∧ ¬ mhC (tK T ha) 10 = 0))) ∧ ¬ okS T n ha ch y ∧ dom = d ∧ loc = lo ∧ val = va ∧ kc = 1 ∧ ns = 6) := by
  refine kMX_of (lv0 := [some (.ref (ob 0)), some (.int x0), some (.int x1), some (.int x2), some (.int x3), some (.int y), none]) (own := "ProsePages") (by decide) rfl (List.forall_mem_cons.mpr ⟨rfl, List.forall_mem_cons.mpr ⟨rfl, List.forall_mem_cons.mpr ⟨rfl, List.forall_mem_cons.mpr ⟨rfl, List.forall_mem_cons.mpr ⟨rfl, List.forall_mem_cons.mpr ⟨rfl, fun _ h => nomatch h⟩⟩⟩⟩⟩⟩) (Nat.le_of_ble_eq_true rfl) rfl (Nat.le_of_ble_eq_true rfl) (fun X hl hX hemp hE hthr => ?_)
  have hP : 0 + Phi rs ≤ Phi rs + 12 ∧ 16 * 0 + Phi rs ≤ Phi rs + 16 := ⟨by omega, by omega⟩
  have hx : Phi rs ≤ 2663816 := hI.1.phi
  have hn3 := hN.1
  have hde := (hT.2.2 ha hha).2
  refine v_iload hX d_P_say_0 rfl ?_
  refine v_iconst (v := 1) hX d_P_say_2 (by decide) ?_
  refine v_icmp_lt hX d_P_say_3 (tgt := 24) (by decide) (fun c3 => ?_) (fun c3 => ?_)
  · exact v_throw hX hemp (text := "not 1 to 4 characters, or no text may be here") (names := ["java/lang/RuntimeException", "java/lang/Exception"]) (hthr "java/lang/IllegalArgumentException" dom loc val (0 + 1) (0 + 6) ⟨Or.inl ⟨rfl, fun z => z.1 c3⟩, fun z => z.1 c3, rfl, rfl, rfl, rfl, rfl⟩) (by rw [hl]; exact htr) (by decide) (by decide) cl_P_58 in_IA rfl (by decide) at_iae d_P_say_24 d_P_say_27 d_P_say_28 d_P_say_30 d_P_say_33 (Nat.le_of_ble_eq_true rfl) (Nat.le_of_ble_eq_true rfl) (by have a := hP.2; have b := hx; show _ + 1 ≤ 140 + (2663816 - Phi rs) / 16; omega) (by have a := hP.1; have b := hx; show _ + 6 ≤ 700100 + (2663816 - Phi rs); omega) rfl (Nat.le_of_ble_eq_true rfl) (Nat.le_refl _) (Nat.le_refl _)
  · refine v_iload hX d_P_say_6 rfl ?_
    refine v_iconst (v := 4) hX d_P_say_8 (by decide) ?_
    refine v_icmp_gt hX d_P_say_9 (tgt := 24) (by decide) (fun c9 => ?_) (fun c9 => ?_)
    · exact v_throw hX hemp (text := "not 1 to 4 characters, or no text may be here") (names := ["java/lang/RuntimeException", "java/lang/Exception"]) (hthr "java/lang/IllegalArgumentException" dom loc val (0 + 1) (0 + 6) ⟨Or.inl ⟨rfl, fun z => z.2.1 c9⟩, fun z => z.2.1 c9, rfl, rfl, rfl, rfl, rfl⟩) (by rw [hl]; exact htr) (by decide) (by decide) cl_P_58 in_IA rfl (by decide) at_iae d_P_say_24 d_P_say_27 d_P_say_28 d_P_say_30 d_P_say_33 (Nat.le_of_ble_eq_true rfl) (Nat.le_of_ble_eq_true rfl) (by have a := hP.2; have b := hx; show _ + 1 ≤ 140 + (2663816 - Phi rs) / 16; omega) (by have a := hP.1; have b := hx; show _ + 6 ≤ 700100 + (2663816 - Phi rs); omega) rfl (Nat.le_of_ble_eq_true rfl) (Nat.le_refl _) (Nat.le_refl _)
    · refine v_aload_n hX d_P_say_12 rfl rfl ?_
      refine v_get hX 0 (v := .ref (ob (1000 + ha))) inT4 hD.1.1 hD.1.2.1 hD.1.2.2 rfl 3 (by decide) fl_P_36 rfl rfl d_P_say_13 ?_
      refine v_bipush (v := 10) hX d_P_say_16 (by decide) ?_
      refine c_V hX (1000 + ha) (rest := []) hl (c_N_mayHold hN hha 10) ml_P_54 im_N_mayHold se_N_mayHold in_N cd_N_mayHold rfl q_N_mayHold ⟨(Nat.le_of_ble_eq_true rfl), (Nat.le_of_ble_eq_true rfl)⟩ (hN.2 ha hha).1 (hN.2 ha hha).2.1 (hN.2 ha hha).2.2.choose_spec.choose_spec.choose_spec.choose_spec rfl rfl rfl rfl (Nat.le_of_ble_eq_true rfl) d_P_say_18 ⟨by have a := hP.2; have b := hx; show _ + 0 ≤ 140 + (2663816 - Phi rs) / 16; omega, by have a := hP.1; have b := hx; show _ + 0 ≤ 700100 + (2663816 - Phi rs); omega⟩ (fun rv d2 lo2 va2 kc ns hp => ?_)
      obtain ⟨rfl, rfl, rfl, rfl, rfl, rfl⟩ := hp
      show V X D CL A _ _ _ _ _ _ _ (.int (mhC (tK T ha) 10) :: [])
      refine v_if_ne hX d_P_say_21 (tgt := 34) (by decide) (fun c21 => ?_) (fun c21 => ?_)
      · obtain ⟨nn, hn1, hn2, rfl⟩ := n_nat c3 c9
        refine v_aload_n hX d_P_say_34 rfl rfl ?_
        refine v_get hX 0 (v := .int (nI ch)) inT4 hD.1.1 hD.1.2.1 hD.1.2.2 rfl 5 (by decide) fl_P_101 rfl rfl d_P_say_35 ?_
        refine v_iload hX d_P_say_38 rfl ?_
        refine v_iaddE (v := nI (ch + nn)) hX d_P_say_40 (nI_add ch nn) ?_
        refine v_sipush (v := 4000) hX d_P_say_41 (by decide) ?_
        refine v_icmp_le hX d_P_say_44 (tgt := 57) (by decide) (fun c44 => ?_) (fun c44 => ?_)
        · have f44 : (ch + nn) ≤ 4000 := (nI_leI (a := (ch + nn)) (b := 4000) (by omega) (by omega)).mp c44
          refine v_aload_n hX d_P_say_57 rfl rfl ?_
          refine v_get hX 0 (v := .ref (ob (1000 + ha))) inT4 hD.1.1 hD.1.2.1 hD.1.2.2 rfl 3 (by decide) fl_P_36 rfl rfl d_P_say_58 ?_
          refine v_get hX (1000 + ha) (v := orf ob (tL T ha)) inT0 (hN.2 ha hha).1 (hN.2 ha hha).2.1 (hN.2 ha hha).2.2.choose_spec.choose_spec.choose_spec.choose_spec rfl 8 (by decide) fl_P_106 rfl rfl d_P_say_61 ?_
          refine v_astoreQ (lv' := [some (.ref (ob 0)), some (.int x0), some (.int x1), some (.int x2), some (.int x3), some (.int (nI nn)), some (orf ob (tL T ha))]) hX ((tL T ha).map (fun i => ob (1000 + i))) d_P_say_64 (Nat.le_of_ble_eq_true rfl) rfl ?_
          refine v_aloadQ hX ((tL T ha).map (fun i => ob (1000 + i))) d_P_say_66 rfl ?_
          rcases hq1 : (tL T ha) with _ | j1
          · refine v_ifnull hX none d_P_say_68 (tgt := 81) (by decide) (fun _ => ?_) (fun _ h => nomatch h)
            refine v_aload_n hX d_P_say_81 rfl rfl ?_
            refine c_V hX 0 (rest := []) hl (c_P_refused hI hN hD hU hha hts hde) ml_P_43 im_P_isNodeRefused se_P_isNodeRefused in_P cd_P_isNodeRefused rfl q_P_isNodeRefused ⟨(Nat.le_of_ble_eq_true rfl), (Nat.le_of_ble_eq_true rfl)⟩ hD.1.1 hD.1.2.1 hD.1.2.2 rfl rfl rfl rfl (Nat.le_of_ble_eq_true rfl) d_P_say_82 ⟨by have a := hP.2; have b := hx; show _ + (120 + (2663816 - Phi rs) / 16) ≤ 140 + (2663816 - Phi rs) / 16; omega, by have a := hP.1; have b := hx; show _ + (700000 + (2663816 - Phi rs)) ≤ 700100 + (2663816 - Phi rs); omega⟩ (fun rv d2 lo2 va2 kc ns hp => ?_)
            obtain ⟨rfl, rfl, rfl, rfl, rfl, rfl⟩ := hp
            show V X D CL A _ _ _ _ _ _ _ (.int (if 300 ≤ n then 1 else if 12 ≤ tD T ha then 1 else 0) :: [])
            refine v_if_eq hX d_P_say_85 (tgt := 98) (by decide) (fun c85 => ?_) (fun c85 => ?_)
            · have hroom := okB_room (T := T) (n := n) (ha := ha) (k := 0) (x := 0) c85
              have hAn : anC T ha := (Or.inl hq1)
              refine v_aload_n hX d_P_say_98 rfl rfl ?_
              refine v_bipush (v := 10) hX d_P_say_99 (by decide) ?_
              refine v_iconst (v := 0) hX d_P_say_101 (by decide) ?_
              have hold0 := 0
              refine c_V hX 0 (rest := []) hl (c_P_addNode hI hN hD hU hha hts hT hroom.1 10 0) ml_P_69 im_P_addNode se_P_addNode in_P cd_P_addNode rfl q_P_addNode ⟨(Nat.le_of_ble_eq_true rfl), (Nat.le_of_ble_eq_true rfl)⟩ hD.1.1 hD.1.2.1 hD.1.2.2 rfl rfl rfl rfl (Nat.le_of_ble_eq_true rfl) d_P_say_102 ⟨by have a := hP.2; have b := hx; show _ + (120 + (2663816 - Phi rs) / 16) ≤ 140 + (2663816 - Phi rs) / 16; omega, by have a := hP.1; have b := hx; show _ + (700000 + (2663816 - Phi rs)) ≤ 700100 + (2663816 - Phi rs); omega⟩ (fun rv d2 lo2 va2 kc2 ns2 hp => ?_)
              obtain ⟨ob, hobk, rfl, hdm, hI2, hN2, hD2, rfl, rfl, hf2⟩ := hp
              show V X D CL A _ _ _ _ _ _ _ (.ref (ob (1000 + n)) :: [])
              rw [← hobk 0 (by omega)]
              have hU2 := tk_U hU hha 10 0
              have hP2 : (0 + 1 - 1 + (0 + 12)) + Phi rs ≤ Phi rs + 12 ∧ 16 * (0 + 1) + Phi rs ≤ Phi rs + 16 := ⟨by omega, by omega⟩
              refine v_astore (lv' := [some (.ref (ob 0)), some (.int x0), some (.int x1), some (.int x2), some (.int x3), some (.int (nI nn)), some (.ref (ob (1000 + n)))]) hX d_P_say_105 (Nat.le_of_ble_eq_true rfl) rfl ?_
              refine v_aload_n hX d_P_say_107 rfl rfl ?_
              refine v_iload_n hX d_P_say_108 rfl rfl ?_
              refine v_iload_n hX d_P_say_109 rfl rfl ?_
              refine v_iload_n hX d_P_say_110 rfl rfl ?_
              refine v_iload hX d_P_say_111 rfl ?_
              refine v_iload hX d_P_say_113 rfl ?_
              refine c_V hX 0 (rest := []) hl (c_P_addChars hI2 hN2 hD2 hU2 (Nat.lt_succ_of_lt hha) hts x0 x1 x2 x3 ⟨hn1, hn2⟩ htl) ml_P_112 im_P_addCharacters se_P_addCharacters in_P cd_P_addCharacters rfl q_P_addCharacters ⟨(Nat.le_of_ble_eq_true rfl), (Nat.le_of_ble_eq_true rfl)⟩ hD2.1.1 hD2.1.2.1 hD2.1.2.2 rfl rfl rfl rfl (Nat.le_of_ble_eq_true rfl) d_P_say_115 ⟨by have a := hP2.2; have b := hx; show _ + (120 + (2663816 - Phi rs) / 16) ≤ 140 + (2663816 - Phi rs) / 16; omega, by have a := hP2.1; have b := hx; show _ + (700000 + (2663816 - Phi rs)) ≤ 700100 + (2663816 - Phi rs); omega⟩ (fun rv d3 lo3 va3 kc3 ns3 hp => ?_)
              obtain ⟨rfl, rfl, hf3, ⟨rs3, hI3, hs3, ho3, hp3⟩, hN3, hD3⟩ := hp
              show V X D CL A _ _ _ _ _ _ _ []
              have hP3 : (0 + 12 + ns3) + Phi rs ≤ Phi rs3 + 12 ∧ 16 * (0 + 1 + kc3) + Phi rs ≤ Phi rs3 + 16 := ⟨by have a := hP2.1; have b := hp3.1; omega, by have a := hP2.2; have b := hp3.2; omega⟩
              have hx3 : Phi rs3 ≤ 2663816 := hI3.1.phi
              refine v_aload hX d_P_say_118 rfl ?_
              refine v_dup hX d_P_say_120 rfl ?_
              refine v_get hX (1000 + n) (v := .int (tV (tkT (exT T n ha 10 0) ha n) n)) inT0 (hN3.2 n (Nat.lt_succ_self n)).1 (hN3.2 n (Nat.lt_succ_self n)).2.1 (hN3.2 n (Nat.lt_succ_self n)).2.2.choose_spec.choose_spec.choose_spec.choose_spec rfl 6 (by decide) fl_P_116 rfl rfl d_P_say_121 ?_
              refine v_iload hX d_P_say_124 rfl ?_
              refine v_iadd hX d_P_say_126 ?_
              refine v_nVal hX hN3 (Nat.lt_succ_self n) (x := ((tV (tkT (exT T n ha 10 0) ha n) n) + (nI nn))) fl_P_116 d_P_say_127 (fun va4 hva4 hN4 hf4 => ?_)
              have hI4 : LayI cI ob td rs3 sh d2 lo3 va4 := by obtain ⟨e9, h9⟩ := hva4; rw [h9]; exact hI3.oth (Or.inr (by omega)) e9
              have hD4 := hD3.frN hf4
              refine v_aload hX d_P_say_130 rfl ?_
              refine v_aload_n hX d_P_say_132 rfl rfl ?_
              refine v_get hX 0 (v := .ref (ob 2)) inT4 hD4.1.1 hD4.1.2.1 hD4.1.2.2 rfl 1 (by decide) fl_P_18 rfl rfl d_P_say_133 ?_
              refine v_get hX 2 (v := .ref (ob 3)) inT2 hI4.2.2.2.1.1 hI4.2.2.2.1.2.1 hI4.2.2.2.1.2.2 rfl 0 (by decide) fl_P_73 rfl rfl d_P_say_136 ?_
              refine c_V hX 3 (rest := [.ref (ob (1000 + n))]) hl (L_size hI4 3 (by decide)) ml_P_83 im_R_size se_R_size in_R cd_R_size rfl q_R_size ⟨(Nat.le_of_ble_eq_true rfl), (Nat.le_of_ble_eq_true rfl)⟩ (hI4.1.1 3 (by decide)).1 (hI4.1.1 3 (by decide)).2.2.1 (hI4.1.1 3 (by decide)).2.2.2.1.v rfl rfl rfl rfl (Nat.le_of_ble_eq_true rfl) d_P_say_139 ⟨by have a := hP3.2; have b := hx3; show _ + 100 ≤ 140 + (2663816 - Phi rs) / 16; omega, by have a := hP3.1; have b := hx3; show _ + 200000 ≤ 700100 + (2663816 - Phi rs); omega⟩ (fun rv d3 lo9 va9 kc ns hp => ?_)
              obtain ⟨rfl, rfl, rfl, rfl, rfl, rfl⟩ := hp
              show V X D CL A _ _ _ _ _ _ _ (.int (nI (rs3 3).1) :: [.ref (ob (1000 + n))])
              refine c_V hX (1000 + n) (rest := []) hl (c_N_reachTo hN4 (sTV_U hU2) (Nat.lt_succ_self n) (nI (rs3 3).1)) ml_P_87 im_N_reachTo se_N_reachTo in_N cd_N_reachTo rfl q_N_reachTo ⟨(Nat.le_of_ble_eq_true rfl), (Nat.le_of_ble_eq_true rfl)⟩ (hN4.2 n (Nat.lt_succ_self n)).1 (hN4.2 n (Nat.lt_succ_self n)).2.1 (hN4.2 n (Nat.lt_succ_self n)).2.2.choose_spec.choose_spec.choose_spec.choose_spec rfl rfl rfl rfl (Nat.le_of_ble_eq_true rfl) d_P_say_142 ⟨by have a := hP3.2; have b := hx3; show _ + 0 ≤ 140 + (2663816 - Phi rs) / 16; omega, by have a := hP3.1; have b := hx3; show _ + 0 ≤ 700100 + (2663816 - Phi rs); omega⟩ (fun rv d3 lo9 va5 kc ns hp => ?_)
              obtain ⟨rfl, rfl, rfl, rfl, rfl, hN5, hf5⟩ := hp
              show V X D CL A _ _ _ _ _ _ _ []
              have hI5 := hI4.frO hf5
              have hD5 := hD4.frO hf5
              refine v_aload hX d_P_say_145 rfl ?_
              refine v_get hX (1000 + n) (v := .int (nI n)) inT0 (hN5.2 n (Nat.lt_succ_self n)).1 (hN5.2 n (Nat.lt_succ_self n)).2.1 (hN5.2 n (Nat.lt_succ_self n)).2.2.choose_spec.choose_spec.choose_spec.choose_spec rfl 0 (by decide) fl_P_93 rfl rfl d_P_say_147 ?_
              exact v_iret hX hE d_P_say_150 (by have a := hP3.2; have b := hx3; show _ ≤ 140 + (2663816 - Phi rs) / 16; omega) (by have a := hP3.1; have b := hx3; show _ ≤ 700100 + (2663816 - Phi rs); omega) ⟨⟨c3, c9, c21, by rw [nI_clamp (by omega)]; omega, fun _ => c85⟩, nn, ⟨rfl, hn1, hn2⟩, Or.inl ⟨hAn, rfl, ob, rs3, hobk, hdm, hI5, ⟨hs3, ho3⟩, hN5, hD5, ⟨by have a := hP3.1; omega, by have a := hP3.2; omega⟩, (((hf2.trans hf3).trans hf4.toC).trans hf5.toC)⟩⟩
            · exact v_throw hX hemp (text := "no room for one more node here") (names := ["java/lang/RuntimeException", "java/lang/Exception"]) (hthr "java/lang/IllegalStateException" dom loc val (0 + 1) (0 + 6) ⟨Or.inr ⟨rfl, c3, c9, c21⟩, fun z => c85 (z.2.2.2.2 (Or.inl hq1)), rfl, rfl, rfl, rfl, rfl⟩) (by rw [hl]; exact htr) (by decide) (by decide) cl_P_47 in_IS rfl (by decide) at_ise d_P_say_88 d_P_say_91 d_P_say_92 d_P_say_94 d_P_say_97 (Nat.le_of_ble_eq_true rfl) (Nat.le_of_ble_eq_true rfl) (by have a := hP.2; have b := hx; show _ + 1 ≤ 140 + (2663816 - Phi rs) / 16; omega) (by have a := hP.1; have b := hx; show _ + 6 ≤ 700100 + (2663816 - Phi rs); omega) rfl (Nat.le_of_ble_eq_true rfl) (Nat.le_refl _) (Nat.le_refl _)
          · have ht_j1 : j1 < n := (hU.2 ha j1 hha hq1).2
            refine v_ifnull hX (some (ob (1000 + j1))) d_P_say_68 (tgt := 81) (by decide) (fun h => nomatch h) (fun _ _ => ?_)
            refine v_aload hX d_P_say_71 rfl ?_
            refine v_get hX (1000 + j1) (v := .int (tK T j1)) inT0 (hN.2 j1 ht_j1).1 (hN.2 j1 ht_j1).2.1 (hN.2 j1 ht_j1).2.2.choose_spec.choose_spec.choose_spec.choose_spec rfl 1 (by decide) fl_P_109 rfl rfl d_P_say_73 ?_
            refine v_bipush (v := 10) hX d_P_say_76 (by decide) ?_
            refine v_icmp_eq hX d_P_say_78 (tgt := 107) (by decide) (fun c78 => ?_) (fun c78 => ?_)
            · refine v_aload_n hX d_P_say_107 rfl rfl ?_
              refine v_iload_n hX d_P_say_108 rfl rfl ?_
              refine v_iload_n hX d_P_say_109 rfl rfl ?_
              refine v_iload_n hX d_P_say_110 rfl rfl ?_
              refine v_iload hX d_P_say_111 rfl ?_
              refine v_iload hX d_P_say_113 rfl ?_
              refine c_V hX 0 (rest := []) hl (c_P_addChars hI hN hD hU hha hts x0 x1 x2 x3 ⟨hn1, hn2⟩ htl) ml_P_112 im_P_addCharacters se_P_addCharacters in_P cd_P_addCharacters rfl q_P_addCharacters ⟨(Nat.le_of_ble_eq_true rfl), (Nat.le_of_ble_eq_true rfl)⟩ hD.1.1 hD.1.2.1 hD.1.2.2 rfl rfl rfl rfl (Nat.le_of_ble_eq_true rfl) d_P_say_115 ⟨by have a := hP.2; have b := hx; show _ + (120 + (2663816 - Phi rs) / 16) ≤ 140 + (2663816 - Phi rs) / 16; omega, by have a := hP.1; have b := hx; show _ + (700000 + (2663816 - Phi rs)) ≤ 700100 + (2663816 - Phi rs); omega⟩ (fun rv d3 lo6 va6 kc6 ns6 hp => ?_)
              obtain ⟨rfl, rfl, hf6, ⟨rs6, hI6, hs6, ho6, hp6⟩, hN6, hD6⟩ := hp
              show V X D CL A _ _ _ _ _ _ _ []
              have hP6 : (0 + ns6) + Phi rs ≤ Phi rs6 + 12 ∧ 16 * (0 + kc6) + Phi rs ≤ Phi rs6 + 16 := ⟨by have a := hP.1; have b := hp6.1; omega, by have a := hP.2; have b := hp6.2; omega⟩
              have hx6 : Phi rs6 ≤ 2663816 := hI6.1.phi
              refine v_aload hX d_P_say_118 rfl ?_
              refine v_dup hX d_P_say_120 rfl ?_
              refine v_get hX (1000 + j1) (v := .int (tV T j1)) inT0 (hN6.2 j1 ht_j1).1 (hN6.2 j1 ht_j1).2.1 (hN6.2 j1 ht_j1).2.2.choose_spec.choose_spec.choose_spec.choose_spec rfl 6 (by decide) fl_P_116 rfl rfl d_P_say_121 ?_
              refine v_iload hX d_P_say_124 rfl ?_
              refine v_iadd hX d_P_say_126 ?_
              refine v_nVal hX hN6 ht_j1 (x := ((tV T j1) + (nI nn))) fl_P_116 d_P_say_127 (fun va7 hva7 hN7 hf7 => ?_)
              have hI7 : LayI cI ob td rs6 sh dom lo6 va7 := by obtain ⟨e9, h9⟩ := hva7; rw [h9]; exact hI6.oth (Or.inr (by omega)) e9
              have hD7 := hD6.frN hf7
              refine v_aload hX d_P_say_130 rfl ?_
              refine v_aload_n hX d_P_say_132 rfl rfl ?_
              refine v_get hX 0 (v := .ref (ob 2)) inT4 hD7.1.1 hD7.1.2.1 hD7.1.2.2 rfl 1 (by decide) fl_P_18 rfl rfl d_P_say_133 ?_
              refine v_get hX 2 (v := .ref (ob 3)) inT2 hI7.2.2.2.1.1 hI7.2.2.2.1.2.1 hI7.2.2.2.1.2.2 rfl 0 (by decide) fl_P_73 rfl rfl d_P_say_136 ?_
              refine c_V hX 3 (rest := [.ref (ob (1000 + j1))]) hl (L_size hI7 3 (by decide)) ml_P_83 im_R_size se_R_size in_R cd_R_size rfl q_R_size ⟨(Nat.le_of_ble_eq_true rfl), (Nat.le_of_ble_eq_true rfl)⟩ (hI7.1.1 3 (by decide)).1 (hI7.1.1 3 (by decide)).2.2.1 (hI7.1.1 3 (by decide)).2.2.2.1.v rfl rfl rfl rfl (Nat.le_of_ble_eq_true rfl) d_P_say_139 ⟨by have a := hP6.2; have b := hx6; show _ + 100 ≤ 140 + (2663816 - Phi rs) / 16; omega, by have a := hP6.1; have b := hx6; show _ + 200000 ≤ 700100 + (2663816 - Phi rs); omega⟩ (fun rv d3 lo9 va9 kc ns hp => ?_)
              obtain ⟨rfl, rfl, rfl, rfl, rfl, rfl⟩ := hp
              show V X D CL A _ _ _ _ _ _ _ (.int (nI (rs6 3).1) :: [.ref (ob (1000 + j1))])
              refine c_V hX (1000 + j1) (rest := []) hl (c_N_reachTo hN7 (sTV_U hU) ht_j1 (nI (rs6 3).1)) ml_P_87 im_N_reachTo se_N_reachTo in_N cd_N_reachTo rfl q_N_reachTo ⟨(Nat.le_of_ble_eq_true rfl), (Nat.le_of_ble_eq_true rfl)⟩ (hN7.2 j1 ht_j1).1 (hN7.2 j1 ht_j1).2.1 (hN7.2 j1 ht_j1).2.2.choose_spec.choose_spec.choose_spec.choose_spec rfl rfl rfl rfl (Nat.le_of_ble_eq_true rfl) d_P_say_142 ⟨by have a := hP6.2; have b := hx6; show _ + 0 ≤ 140 + (2663816 - Phi rs) / 16; omega, by have a := hP6.1; have b := hx6; show _ + 0 ≤ 700100 + (2663816 - Phi rs); omega⟩ (fun rv d3 lo9 va8 kc ns hp => ?_)
              obtain ⟨rfl, rfl, rfl, rfl, rfl, hN8, hf8⟩ := hp
              show V X D CL A _ _ _ _ _ _ _ []
              have hI8 := hI7.frO hf8
              have hD8 := hD7.frO hf8
              refine v_aload hX d_P_say_145 rfl ?_
              refine v_get hX (1000 + j1) (v := .int (nI j1)) inT0 (hN8.2 j1 ht_j1).1 (hN8.2 j1 ht_j1).2.1 (hN8.2 j1 ht_j1).2.2.choose_spec.choose_spec.choose_spec.choose_spec rfl 0 (by decide) fl_P_93 rfl rfl d_P_say_147 ?_
              exact v_iret hX hE d_P_say_150 (by have a := hP6.2; have b := hx6; show _ ≤ 140 + (2663816 - Phi rs) / 16; omega) (by have a := hP6.1; have b := hx6; show _ ≤ 700100 + (2663816 - Phi rs); omega) ⟨⟨c3, c9, c21, by rw [nI_clamp (by omega)]; omega, fun z => z.elim (fun z => by rw [hq1] at z; cases z) (fun ⟨j9, z1, z2⟩ => by rw [hq1] at z1; cases z1; exact absurd c78 z2)⟩, nn, ⟨rfl, hn1, hn2⟩, Or.inr ⟨j1, hq1, c78, rfl, rfl, rs6, hI8, ⟨hs6, ho6⟩, hN8, hD8, ⟨by have a := hP6.1; omega, by have a := hP6.2; omega⟩, (((frC.rf.trans hf6).trans hf7.toC).trans hf8.toC)⟩⟩
            · refine v_aload_n hX d_P_say_81 rfl rfl ?_
              refine c_V hX 0 (rest := []) hl (c_P_refused hI hN hD hU hha hts hde) ml_P_43 im_P_isNodeRefused se_P_isNodeRefused in_P cd_P_isNodeRefused rfl q_P_isNodeRefused ⟨(Nat.le_of_ble_eq_true rfl), (Nat.le_of_ble_eq_true rfl)⟩ hD.1.1 hD.1.2.1 hD.1.2.2 rfl rfl rfl rfl (Nat.le_of_ble_eq_true rfl) d_P_say_82 ⟨by have a := hP.2; have b := hx; show _ + (120 + (2663816 - Phi rs) / 16) ≤ 140 + (2663816 - Phi rs) / 16; omega, by have a := hP.1; have b := hx; show _ + (700000 + (2663816 - Phi rs)) ≤ 700100 + (2663816 - Phi rs); omega⟩ (fun rv d2 lo2 va2 kc ns hp => ?_)
              obtain ⟨rfl, rfl, rfl, rfl, rfl, rfl⟩ := hp
              show V X D CL A _ _ _ _ _ _ _ (.int (if 300 ≤ n then 1 else if 12 ≤ tD T ha then 1 else 0) :: [])
              refine v_if_eq hX d_P_say_85 (tgt := 98) (by decide) (fun c85 => ?_) (fun c85 => ?_)
              · have hroom := okB_room (T := T) (n := n) (ha := ha) (k := 0) (x := 0) c85
                have hAn : anC T ha := (Or.inr ⟨j1, hq1, c78⟩)
                refine v_aload_n hX d_P_say_98 rfl rfl ?_
                refine v_bipush (v := 10) hX d_P_say_99 (by decide) ?_
                refine v_iconst (v := 0) hX d_P_say_101 (by decide) ?_
                have hold0 := 0
                refine c_V hX 0 (rest := []) hl (c_P_addNode hI hN hD hU hha hts hT hroom.1 10 0) ml_P_69 im_P_addNode se_P_addNode in_P cd_P_addNode rfl q_P_addNode ⟨(Nat.le_of_ble_eq_true rfl), (Nat.le_of_ble_eq_true rfl)⟩ hD.1.1 hD.1.2.1 hD.1.2.2 rfl rfl rfl rfl (Nat.le_of_ble_eq_true rfl) d_P_say_102 ⟨by have a := hP.2; have b := hx; show _ + (120 + (2663816 - Phi rs) / 16) ≤ 140 + (2663816 - Phi rs) / 16; omega, by have a := hP.1; have b := hx; show _ + (700000 + (2663816 - Phi rs)) ≤ 700100 + (2663816 - Phi rs); omega⟩ (fun rv d2 lo9 va9 kc9 ns9 hp => ?_)
                obtain ⟨ob, hobk, rfl, hdm, hI9, hN9, hD9, rfl, rfl, hf9⟩ := hp
                show V X D CL A _ _ _ _ _ _ _ (.ref (ob (1000 + n)) :: [])
                rw [← hobk 0 (by omega)]
                have hU2 := tk_U hU hha 10 0
                have hP9 : (0 + 1 - 1 + (0 + 12)) + Phi rs ≤ Phi rs + 12 ∧ 16 * (0 + 1) + Phi rs ≤ Phi rs + 16 := ⟨by omega, by omega⟩
                refine v_astore (lv' := [some (.ref (ob 0)), some (.int x0), some (.int x1), some (.int x2), some (.int x3), some (.int (nI nn)), some (.ref (ob (1000 + n)))]) hX d_P_say_105 (Nat.le_of_ble_eq_true rfl) rfl ?_
                refine v_aload_n hX d_P_say_107 rfl rfl ?_
                refine v_iload_n hX d_P_say_108 rfl rfl ?_
                refine v_iload_n hX d_P_say_109 rfl rfl ?_
                refine v_iload_n hX d_P_say_110 rfl rfl ?_
                refine v_iload hX d_P_say_111 rfl ?_
                refine v_iload hX d_P_say_113 rfl ?_
                refine c_V hX 0 (rest := []) hl (c_P_addChars hI9 hN9 hD9 hU2 (Nat.lt_succ_of_lt hha) hts x0 x1 x2 x3 ⟨hn1, hn2⟩ htl) ml_P_112 im_P_addCharacters se_P_addCharacters in_P cd_P_addCharacters rfl q_P_addCharacters ⟨(Nat.le_of_ble_eq_true rfl), (Nat.le_of_ble_eq_true rfl)⟩ hD9.1.1 hD9.1.2.1 hD9.1.2.2 rfl rfl rfl rfl (Nat.le_of_ble_eq_true rfl) d_P_say_115 ⟨by have a := hP9.2; have b := hx; show _ + (120 + (2663816 - Phi rs) / 16) ≤ 140 + (2663816 - Phi rs) / 16; omega, by have a := hP9.1; have b := hx; show _ + (700000 + (2663816 - Phi rs)) ≤ 700100 + (2663816 - Phi rs); omega⟩ (fun rv d3 lo10 va10 kc10 ns10 hp => ?_)
                obtain ⟨rfl, rfl, hf10, ⟨rs10, hI10, hs10, ho10, hp10⟩, hN10, hD10⟩ := hp
                show V X D CL A _ _ _ _ _ _ _ []
                have hP10 : (0 + 12 + ns10) + Phi rs ≤ Phi rs10 + 12 ∧ 16 * (0 + 1 + kc10) + Phi rs ≤ Phi rs10 + 16 := ⟨by have a := hP9.1; have b := hp10.1; omega, by have a := hP9.2; have b := hp10.2; omega⟩
                have hx10 : Phi rs10 ≤ 2663816 := hI10.1.phi
                refine v_aload hX d_P_say_118 rfl ?_
                refine v_dup hX d_P_say_120 rfl ?_
                refine v_get hX (1000 + n) (v := .int (tV (tkT (exT T n ha 10 0) ha n) n)) inT0 (hN10.2 n (Nat.lt_succ_self n)).1 (hN10.2 n (Nat.lt_succ_self n)).2.1 (hN10.2 n (Nat.lt_succ_self n)).2.2.choose_spec.choose_spec.choose_spec.choose_spec rfl 6 (by decide) fl_P_116 rfl rfl d_P_say_121 ?_
                refine v_iload hX d_P_say_124 rfl ?_
                refine v_iadd hX d_P_say_126 ?_
                refine v_nVal hX hN10 (Nat.lt_succ_self n) (x := ((tV (tkT (exT T n ha 10 0) ha n) n) + (nI nn))) fl_P_116 d_P_say_127 (fun va11 hva11 hN11 hf11 => ?_)
                have hI11 : LayI cI ob td rs10 sh d2 lo10 va11 := by obtain ⟨e9, h9⟩ := hva11; rw [h9]; exact hI10.oth (Or.inr (by omega)) e9
                have hD11 := hD10.frN hf11
                refine v_aload hX d_P_say_130 rfl ?_
                refine v_aload_n hX d_P_say_132 rfl rfl ?_
                refine v_get hX 0 (v := .ref (ob 2)) inT4 hD11.1.1 hD11.1.2.1 hD11.1.2.2 rfl 1 (by decide) fl_P_18 rfl rfl d_P_say_133 ?_
                refine v_get hX 2 (v := .ref (ob 3)) inT2 hI11.2.2.2.1.1 hI11.2.2.2.1.2.1 hI11.2.2.2.1.2.2 rfl 0 (by decide) fl_P_73 rfl rfl d_P_say_136 ?_
                refine c_V hX 3 (rest := [.ref (ob (1000 + n))]) hl (L_size hI11 3 (by decide)) ml_P_83 im_R_size se_R_size in_R cd_R_size rfl q_R_size ⟨(Nat.le_of_ble_eq_true rfl), (Nat.le_of_ble_eq_true rfl)⟩ (hI11.1.1 3 (by decide)).1 (hI11.1.1 3 (by decide)).2.2.1 (hI11.1.1 3 (by decide)).2.2.2.1.v rfl rfl rfl rfl (Nat.le_of_ble_eq_true rfl) d_P_say_139 ⟨by have a := hP10.2; have b := hx10; show _ + 100 ≤ 140 + (2663816 - Phi rs) / 16; omega, by have a := hP10.1; have b := hx10; show _ + 200000 ≤ 700100 + (2663816 - Phi rs); omega⟩ (fun rv d3 lo9 va9 kc ns hp => ?_)
                obtain ⟨rfl, rfl, rfl, rfl, rfl, rfl⟩ := hp
                show V X D CL A _ _ _ _ _ _ _ (.int (nI (rs10 3).1) :: [.ref (ob (1000 + n))])
                refine c_V hX (1000 + n) (rest := []) hl (c_N_reachTo hN11 (sTV_U hU2) (Nat.lt_succ_self n) (nI (rs10 3).1)) ml_P_87 im_N_reachTo se_N_reachTo in_N cd_N_reachTo rfl q_N_reachTo ⟨(Nat.le_of_ble_eq_true rfl), (Nat.le_of_ble_eq_true rfl)⟩ (hN11.2 n (Nat.lt_succ_self n)).1 (hN11.2 n (Nat.lt_succ_self n)).2.1 (hN11.2 n (Nat.lt_succ_self n)).2.2.choose_spec.choose_spec.choose_spec.choose_spec rfl rfl rfl rfl (Nat.le_of_ble_eq_true rfl) d_P_say_142 ⟨by have a := hP10.2; have b := hx10; show _ + 0 ≤ 140 + (2663816 - Phi rs) / 16; omega, by have a := hP10.1; have b := hx10; show _ + 0 ≤ 700100 + (2663816 - Phi rs); omega⟩ (fun rv d3 lo9 va12 kc ns hp => ?_)
                obtain ⟨rfl, rfl, rfl, rfl, rfl, hN12, hf12⟩ := hp
                show V X D CL A _ _ _ _ _ _ _ []
                have hI12 := hI11.frO hf12
                have hD12 := hD11.frO hf12
                refine v_aload hX d_P_say_145 rfl ?_
                refine v_get hX (1000 + n) (v := .int (nI n)) inT0 (hN12.2 n (Nat.lt_succ_self n)).1 (hN12.2 n (Nat.lt_succ_self n)).2.1 (hN12.2 n (Nat.lt_succ_self n)).2.2.choose_spec.choose_spec.choose_spec.choose_spec rfl 0 (by decide) fl_P_93 rfl rfl d_P_say_147 ?_
                exact v_iret hX hE d_P_say_150 (by have a := hP10.2; have b := hx10; show _ ≤ 140 + (2663816 - Phi rs) / 16; omega) (by have a := hP10.1; have b := hx10; show _ ≤ 700100 + (2663816 - Phi rs); omega) ⟨⟨c3, c9, c21, by rw [nI_clamp (by omega)]; omega, fun _ => c85⟩, nn, ⟨rfl, hn1, hn2⟩, Or.inl ⟨hAn, rfl, ob, rs10, hobk, hdm, hI12, ⟨hs10, ho10⟩, hN12, hD12, ⟨by have a := hP10.1; omega, by have a := hP10.2; omega⟩, (((hf9.trans hf10).trans hf11.toC).trans hf12.toC)⟩⟩
              · exact v_throw hX hemp (text := "no room for one more node here") (names := ["java/lang/RuntimeException", "java/lang/Exception"]) (hthr "java/lang/IllegalStateException" dom loc val (0 + 1) (0 + 6) ⟨Or.inr ⟨rfl, c3, c9, c21⟩, fun z => c85 (z.2.2.2.2 (Or.inr ⟨j1, hq1, c78⟩)), rfl, rfl, rfl, rfl, rfl⟩) (by rw [hl]; exact htr) (by decide) (by decide) cl_P_47 in_IS rfl (by decide) at_ise d_P_say_88 d_P_say_91 d_P_say_92 d_P_say_94 d_P_say_97 (Nat.le_of_ble_eq_true rfl) (Nat.le_of_ble_eq_true rfl) (by have a := hP.2; have b := hx; show _ + 1 ≤ 140 + (2663816 - Phi rs) / 16; omega) (by have a := hP.1; have b := hx; show _ + 6 ≤ 700100 + (2663816 - Phi rs); omega) rfl (Nat.le_of_ble_eq_true rfl) (Nat.le_refl _) (Nat.le_refl _)
        · have f44 : ¬ (ch + nn) ≤ 4000 := fun z => c44 ((nI_leI (a := (ch + nn)) (b := 4000) (by omega) (by omega)).mpr z)
          exact v_throw hX hemp (text := "too many characters") (names := ["java/lang/RuntimeException", "java/lang/Exception"]) (hthr "java/lang/IllegalStateException" dom loc val (0 + 1) (0 + 6) ⟨Or.inr ⟨rfl, c3, c9, c21⟩, fun z => (by have q1 := z.2.2.2.1; rw [nI_clamp (by omega)] at q1; omega), rfl, rfl, rfl, rfl, rfl⟩) (by rw [hl]; exact htr) (by decide) (by decide) cl_P_47 in_IS rfl (by decide) at_ise d_P_say_47 d_P_say_50 d_P_say_51 d_P_say_53 d_P_say_56 (Nat.le_of_ble_eq_true rfl) (Nat.le_of_ble_eq_true rfl) (by have a := hP.2; have b := hx; show _ + 1 ≤ 140 + (2663816 - Phi rs) / 16; omega) (by have a := hP.1; have b := hx; show _ + 6 ≤ 700100 + (2663816 - Phi rs); omega) rfl (Nat.le_of_ble_eq_true rfl) (Nat.le_refl _) (Nat.le_refl _)
      · exact v_throw hX hemp (text := "not 1 to 4 characters, or no text may be here") (names := ["java/lang/RuntimeException", "java/lang/Exception"]) (hthr "java/lang/IllegalArgumentException" dom loc val (0 + 1) (0 + 6) ⟨Or.inl ⟨rfl, fun z => z.2.2 c21⟩, fun z => z.2.2.1 c21, rfl, rfl, rfl, rfl, rfl⟩) (by rw [hl]; exact htr) (by decide) (by decide) cl_P_58 in_IA rfl (by decide) at_iae d_P_say_24 d_P_say_27 d_P_say_28 d_P_say_30 d_P_say_33 (Nat.le_of_ble_eq_true rfl) (Nat.le_of_ble_eq_true rfl) (by have a := hP.2; have b := hx; show _ + 1 ≤ 140 + (2663816 - Phi rs) / 16; omega) (by have a := hP.1; have b := hx; show _ + 6 ≤ 700100 + (2663816 - Phi rs); omega) rfl (Nat.le_of_ble_eq_true rfl) (Nat.le_refl _) (Nat.le_refl _)
theorem lg_self (x : Int64) : lg_cmp x x = 0 := by unfold lg_cmp; rw [if_neg (fun h : x > x => Int64.lt_irrefl h), if_pos rfl]
