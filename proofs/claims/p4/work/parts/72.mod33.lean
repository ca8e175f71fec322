set_option maxHeartbeats 4000000 in
set_option maxRecDepth 100000 in
theorem c_M_say {l : Launch} {D : va_G} {A : Nat → Prop} {cI cB cZ cJ cN : ClassId} {ob : Nat → Nat} {C : CT} {T : TS} {O : OS} {dom : Nat → Prop} {loc : Nat → Nat} {val : Nat → va_E} (hM : ModI cI cB cZ ob C T O dom loc val) (hO : OI O) (a b c d n : Int32) (hT : TrI T) (hTX : TrX T) : kM l y_M_say (Cond.code y_M_say b_M_say 9 (some FieldType.int) :: TT) (rmM 3) D CL (TY cI cB cZ cJ cN) A [.ref (ob 48), .int a, .int b, .int c, .int d, .int n] dom loc val (fun rv d lo va kc ns => dom = d ∧ loc = lo ∧ kc = 0 ∧ ns = 0 ∧ ∃ T2 O2, ((¬ syM T n ∧ T = T2 ∧ rv = some (.int 0)) ∨ (syM T n ∧ ∃ te nn i, (n = nI nn ∧ 1 ≤ nn ∧ nn ≤ 4) ∧ rv = some (.int (nI i)) ∧ ((anM T ∧ i = ttN T ∧ tlT (adT T 10 0) te i nn = T2) ∨ (¬ anM T ∧ i < ttN T ∧ ttLa T (ttHa T) = nI i ∧ ttK T i = 10 ∧ tlT T te i nn = T2)))) ∧ ModI cI cB cZ ob C T2 O2 dom loc va ∧ OI O2 ∧ frM val va) := by
  refine kM_of (lv0 := [some (.ref (ob 48)), some (.int a), some (.int b), some (.int c), some (.int d), some (.int n), none, none, none]) (own := "ProsePagesModel") (by decide) rfl (List.forall_mem_cons.mpr ⟨rfl, List.forall_mem_cons.mpr ⟨rfl, List.forall_mem_cons.mpr ⟨rfl, List.forall_mem_cons.mpr ⟨rfl, List.forall_mem_cons.mpr ⟨rfl, List.forall_mem_cons.mpr ⟨rfl, fun _ h => nomatch h⟩⟩⟩⟩⟩⟩) (Nat.le_of_ble_eq_true rfl) rfl (Nat.le_of_ble_eq_true rfl) (fun X hl hX hE hin0 => ?_)
  have hTn := hT.1
  have hDe := hT.hc (ttHa T) hTn.2.2.2
  have j39a : ∀  (CJ : CT) (oJ : OS) (vaJ : Nat → va_E), ModI cI cB cZ ob CJ T oJ dom loc vaJ → (OI oJ ∧ ooCt oJ = ooCt O) → frM val vaJ → (C = CJ) → (anM T) → V X D CL A dom loc vaJ 0 0 39 [some (.ref (ob 48)), some (.int a), some (.int b), some (.int c), some (.int d), some (.int n), some (.int 1), none, none] [] := by
    intro  CJ oJ vaJ hMJ hOJ hfJ hCJ hAn
    subst hCJ
    refine v_aload_n hX d_M_say_39 rfl rfl ?_
    refine v_iload hX d_M_say_40 rfl ?_
    refine v_iconst (v := 1) hX d_M_say_42 (by decide) ?_
    refine v_icmp_lt hX d_M_say_43 (tgt := 69) (by decide) (fun c43 => ?_) (fun c43 => ?_)
    · refine v_iconst (v := 1) hX d_M_say_69 (by decide) ?_
      refine v_goto hX d_M_say_70 (tgt := 103) (by decide) ?_
      refine v_mput hX hMJ 0 C T (soTh oJ 1) (by decide) fl_M_97 rfl rfl rfl rfl pf_thrown pa_thrown d_M_say_103 (fun va1 hM1 hf1 => ?_)
      refine v_aload_n hX d_M_say_106 rfl rfl ?_
      refine v_mget hX hM1 0 (v := .int 1) (by decide) fl_M_97 rfl hf_thrown d_M_say_107 ?_
      refine v_if_le hX d_M_say_110 (tgt := 115) (by decide) (fun c => absurd c (by decide)) (fun _ => ?_)
      refine v_iconst (v := 0) hX d_M_say_113 (by decide) ?_
      exact v_iret hX hE d_M_say_114 (Nat.le_of_ble_eq_true rfl) (Nat.le_of_ble_eq_true rfl) ⟨rfl, rfl, rfl, rfl, T, (soTh oJ 1), (Or.inl ⟨fun z => absurd c43 (Int32.not_lt.mpr z.1), rfl, rfl⟩), hM1, ⟨hOJ.1.1, hOJ.1.2.1, hOJ.1.2.2.1, hOJ.1.2.2.2.1, (by have q9 := hOJ.1.2.2.2.2; first | exact q9 | omega | (show (ooSm oJ) ≤ 4300; omega))⟩, (hfJ.trans hf1)⟩
    · refine v_iload hX d_M_say_46 rfl ?_
      refine v_iconst (v := 4) hX d_M_say_48 (by decide) ?_
      refine v_icmp_gt hX d_M_say_49 (tgt := 69) (by decide) (fun c49 => ?_) (fun c49 => ?_)
      · refine v_iconst (v := 1) hX d_M_say_69 (by decide) ?_
        refine v_goto hX d_M_say_70 (tgt := 103) (by decide) ?_
        refine v_mput hX hMJ 0 C T (soTh oJ 1) (by decide) fl_M_97 rfl rfl rfl rfl pf_thrown pa_thrown d_M_say_103 (fun va2 hM2 hf2 => ?_)
        refine v_aload_n hX d_M_say_106 rfl rfl ?_
        refine v_mget hX hM2 0 (v := .int 1) (by decide) fl_M_97 rfl hf_thrown d_M_say_107 ?_
        refine v_if_le hX d_M_say_110 (tgt := 115) (by decide) (fun c => absurd c (by decide)) (fun _ => ?_)
        refine v_iconst (v := 0) hX d_M_say_113 (by decide) ?_
        exact v_iret hX hE d_M_say_114 (Nat.le_of_ble_eq_true rfl) (Nat.le_of_ble_eq_true rfl) ⟨rfl, rfl, rfl, rfl, T, (soTh oJ 1), (Or.inl ⟨fun z => absurd c49 (Int32.not_lt.mpr z.2.1), rfl, rfl⟩), hM2, ⟨hOJ.1.1, hOJ.1.2.1, hOJ.1.2.2.1, hOJ.1.2.2.2.1, (by have q9 := hOJ.1.2.2.2.2; first | exact q9 | omega | (show (ooSm oJ) ≤ 4300; omega))⟩, (hfJ.trans hf2)⟩
      · refine v_aload_n hX d_M_say_52 rfl rfl ?_
        refine v_mget hX hMJ 1 (v := .ref (ob 49)) (by decide) fl_M_7 rfl rfl d_M_say_53 ?_
        refine v_aload_n hX d_M_say_56 rfl rfl ?_
        refine v_mget hX hMJ 11 (v := .int (nI (ttHa T))) (by decide) fl_M_107 rfl gf_hand d_M_say_57 ?_
        refine v_mild hX hMJ 0 (i := (ttHa T)) (v := ((ttK T) (ttHa T))) ga_kind (by omega) (by decide) rfl d_M_say_60 ?_
        refine v_bipush (v := 10) hX d_M_say_61 (by decide) ?_
        refine c_S hX (rest := [.ref (ob 48)]) hl (c_M_mayHold ((ttK T) (ttHa T)) 10) ml_M_132 sm_M_mayHold in_M cd_M_mayHold rfl q_M_mayHold ⟨(Nat.le_of_ble_eq_true rfl), (Nat.le_of_ble_eq_true rfl)⟩ rfl rfl rfl (Nat.le_of_ble_eq_true rfl) d_M_say_63 ⟨(Nat.le_of_ble_eq_true rfl), (Nat.le_of_ble_eq_true rfl)⟩ (fun rv d2 lo2 va2 kc ns hp => ?_)
        obtain ⟨rfl, rfl, rfl, rfl, rfl, rfl⟩ := hp
        show V X D CL A _ _ _ _ _ _ _ (.int (mh ((ttK T) (ttHa T)) 10) :: [.ref (ob 48)])
        refine v_if_ne hX d_M_say_66 (tgt := 73) (by decide) (fun c66 => ?_) (fun c66 => ?_)
        · obtain ⟨nn, hn1, hn2, rfl⟩ := n_nat c43 c49
          refine v_aload_n hX d_M_say_73 rfl rfl ?_
          refine v_mget hX hMJ 10 (v := .int (nI (ttCh T))) (by decide) fl_M_104 rfl gf_characters d_M_say_74 ?_
          refine v_iload hX d_M_say_77 rfl ?_
          refine v_iaddE (v := nI ((ttCh T) + nn)) hX d_M_say_79 (nI_add (ttCh T) nn) ?_
          refine v_sipush (v := 4000) hX d_M_say_80 (by decide) ?_
          refine v_icmp_gt hX d_M_say_83 (tgt := 98) (by decide) (fun c83 => ?_) (fun c83 => ?_)
          · have f83 : 4000 < ((ttCh T) + nn) := (nI_ltI (a := 4000) (b := ((ttCh T) + nn)) (by omega) (by omega)).mp c83
            refine v_iconst (v := 2) hX d_M_say_98 (by decide) ?_
            refine v_goto hX d_M_say_99 (tgt := 103) (by decide) ?_
            refine v_mput hX hMJ 0 C T (soTh oJ 2) (by decide) fl_M_97 rfl rfl rfl rfl pf_thrown pa_thrown d_M_say_103 (fun va3 hM3 hf3 => ?_)
            refine v_aload_n hX d_M_say_106 rfl rfl ?_
            refine v_mget hX hM3 0 (v := .int 2) (by decide) fl_M_97 rfl hf_thrown d_M_say_107 ?_
            refine v_if_le hX d_M_say_110 (tgt := 115) (by decide) (fun c => absurd c (by decide)) (fun _ => ?_)
            refine v_iconst (v := 0) hX d_M_say_113 (by decide) ?_
            exact v_iret hX hE d_M_say_114 (Nat.le_of_ble_eq_true rfl) (Nat.le_of_ble_eq_true rfl) ⟨rfl, rfl, rfl, rfl, T, (soTh oJ 2), (Or.inl ⟨fun z => by have q1 := z.2.2.2.1; rw [nI_clamp (by omega)] at q1; omega, rfl, rfl⟩), hM3, ⟨hOJ.1.1, hOJ.1.2.1, hOJ.1.2.2.1, hOJ.1.2.2.2.1, (by have q9 := hOJ.1.2.2.2.2; first | exact q9 | omega | (show (ooSm oJ) ≤ 4300; omega))⟩, (hfJ.trans hf3)⟩
          · have f83 : ¬ 4000 < ((ttCh T) + nn) := fun z => c83 ((nI_ltI (a := 4000) (b := ((ttCh T) + nn)) (by omega) (by omega)).mpr z)
            refine v_iload hX d_M_say_86 rfl ?_
            refine v_if_eq hX d_M_say_88 (tgt := 102) (by decide) (fun c => absurd c (by decide)) (fun _ => ?_)
            refine v_aload_n hX d_M_say_91 rfl rfl ?_
            refine c_V hX 48 (rest := [.ref (ob 48)]) hl (c_M_isFull hMJ hOJ.1 hT) ml_M_137 im_M_isFull se_M_isFull in_M cd_M_isFull rfl q_M_isFull ⟨(Nat.le_of_ble_eq_true rfl), (Nat.le_of_ble_eq_true rfl)⟩ hMJ.1.1 hMJ.1.2.1 hMJ.1.2.2 rfl rfl rfl rfl (Nat.le_of_ble_eq_true rfl) d_M_say_92 ⟨(Nat.le_of_ble_eq_true rfl), (Nat.le_of_ble_eq_true rfl)⟩ (fun rv d2 lo2 va2 kc ns hp => ?_)
            obtain ⟨rfl, rfl, rfl, rfl, rfl, rfl⟩ := hp
            show V X D CL A _ _ _ _ _ _ _ (.int (flM T) :: [.ref (ob 48)])
            refine v_if_eq hX d_M_say_95 (tgt := 102) (by decide) (fun c95 => ?_) (fun c95 => ?_)
            · refine v_iconst (v := 0) hX d_M_say_102 (by decide) ?_
              refine v_mput hX hMJ 0 C T (soTh oJ 0) (by decide) fl_M_97 rfl rfl rfl rfl pf_thrown pa_thrown d_M_say_103 (fun va4 hM4 hf4 => ?_)
              refine v_aload_n hX d_M_say_106 rfl rfl ?_
              refine v_mget hX hM4 0 (v := .int 0) (by decide) fl_M_97 rfl hf_thrown d_M_say_107 ?_
              refine v_if_le hX d_M_say_110 (tgt := 115) (by decide) (fun _ => ?_) (fun c => absurd (by decide) c)
              have hsy : syM T (nI nn) := ⟨Int32.not_lt.mp c43, Int32.not_lt.mp c49, (mh_01 _ _).resolve_left c66, by rw [nI_clamp (by omega)]; omega, fun _ => c95⟩
              have hroom := fl_room hT c95
              refine v_iload hX d_M_say_115 rfl ?_
              refine v_if_eq hX d_M_say_117 (tgt := 130) (by decide) (fun c => absurd c (by decide)) (fun _ => ?_)
              refine v_aload_n hX d_M_say_120 rfl rfl ?_
              refine v_bipush (v := 10) hX d_M_say_121 (by decide) ?_
              refine v_iconst (v := 0) hX d_M_say_123 (by decide) ?_
              refine c_V hX 48 (rest := []) hl (c_M_add hM4 ⟨hOJ.1.1, hOJ.1.2.1, hOJ.1.2.2.1, hOJ.1.2.2.2.1, (by have q9 := hOJ.1.2.2.2.2; first | exact q9 | omega | (show (ooSm oJ) ≤ 4300; omega))⟩ 10 0 hT hroom.1) ml_M_141 im_M_add se_M_add in_M cd_M_add rfl q_M_add ⟨(Nat.le_of_ble_eq_true rfl), (Nat.le_of_ble_eq_true rfl)⟩ hM4.1.1 hM4.1.2.1 hM4.1.2.2 rfl rfl rfl rfl (Nat.le_of_ble_eq_true rfl) d_M_say_124 ⟨(Nat.le_of_ble_eq_true rfl), (Nat.le_of_ble_eq_true rfl)⟩ (fun rv d2 lo2 va5 kc ns hp => ?_)
              obtain ⟨rfl, rfl, rfl, rfl, _, o5, ⟨rfl, rfl⟩, hM5, hO5, hf5⟩ := hp
              show V X D CL A _ _ _ _ _ _ _ (.int (nI (ttN T)) :: [])
              refine v_goto hX d_M_say_127 (tgt := 139) (by decide) ?_
              refine v_istore (lv' := [some (.ref (ob 48)), some (.int a), some (.int b), some (.int c), some (.int d), some (.int (nI nn)), some (.int 1), some (.int (nI (ttN T))), none]) hX d_M_say_139 (Nat.le_of_ble_eq_true rfl) rfl ?_
              have hch : ttCh (adT0 T 10 0) = ttCh T := rfl
              refine v_iconst (v := 0) hX d_M_say_141 (by decide) ?_
              refine v_istore (lv' := [some (.ref (ob 48)), some (.int a), some (.int b), some (.int c), some (.int d), some (.int (nI nn)), some (.int 1), some (.int (nI (ttN T))), some (.int 0)]) hX d_M_say_142 (Nat.le_of_ble_eq_true rfl) rfl ?_
              have h4 : nn = 1 ∨ nn = 2 ∨ nn = 3 ∨ nn = 4 := by omega
              rcases h4 with rfl | rfl | rfl | rfl
              · refine v_iload hX d_M_say_144 rfl ?_
                refine v_iload hX d_M_say_146 rfl ?_
                refine v_icmp_ge hX d_M_say_148 (tgt := 208) (by decide) (fun c => absurd c (by decide)) (fun _ => ?_)
                refine v_aload_n hX d_M_say_151 rfl rfl ?_
                refine v_mget hX hM5 8 (v := .ref (ob 56)) (by decide) fl_M_31 rfl rfl d_M_say_152 ?_
                refine v_aload_n hX d_M_say_155 rfl rfl ?_
                refine v_mget hX hM5 10 (v := .int (nI (ttCh (adT0 T 10 0)))) (by decide) fl_M_104 rfl gf_characters d_M_say_156 ?_
                refine v_iload hX d_M_say_159 rfl ?_
                refine v_if_ne hX d_M_say_161 (tgt := 168) (by decide) (fun c => absurd (by decide) c) (fun _ => ?_)
                refine v_iload_n hX d_M_say_164 rfl rfl ?_
                refine v_goto hX d_M_say_165 (tgt := 190) (by decide) ?_
                refine v_i2b hX d_M_say_190 rfl ?_
                refine v_mbst hX hM5 7 C (sxTe (adT0 T 10 0) (upd (ttTe (adT0 T 10 0)) (ttCh (adT0 T 10 0)) (vp_nar .byte ((a : Int32).toInt8.toInt32)))) o5 (i := (ttCh (adT0 T 10 0))) (by decide) ga_text (by omega) (by decide) qf_text qa_text d_M_say_191 (fun va6 hM6 hf6 => ?_)
                refine v_aload_n hX d_M_say_192 rfl rfl ?_
                refine v_dup hX d_M_say_193 rfl ?_
                refine v_mget hX hM6 10 (v := .int (nI (ttCh (adT0 T 10 0)))) (by decide) fl_M_104 rfl ((nf_text 10).trans gf_characters) d_M_say_194 ?_
                refine v_iconst (v := 1) hX d_M_say_197 (by decide) ?_
                refine v_iaddE (v := nI ((ttCh (adT0 T 10 0)) + 1)) hX d_M_say_198 (nI_add (ttCh (adT0 T 10 0)) 1) ?_
                refine v_mput hX hM6 10 C (sxCh (sxTe (adT0 T 10 0) (upd (ttTe (adT0 T 10 0)) (ttCh (adT0 T 10 0)) (vp_nar .byte ((a : Int32).toInt8.toInt32)))) ((ttCh (adT0 T 10 0)) + 1)) o5 (by decide) fl_M_104 rfl rfl rfl rfl pf_characters pa_characters d_M_say_199 (fun va7 hM7 hf7 => ?_)
                refine v_iinc (y := 1) (lv' := [some (.ref (ob 48)), some (.int a), some (.int b), some (.int c), some (.int d), some (.int (nI 1)), some (.int 1), some (.int (nI (ttN T))), some (.int 1)]) hX d_M_say_202 rfl (by decide) rfl ?_
                refine v_goto hX d_M_say_205 (tgt := 144) (by decide) ?_
                refine v_iload hX d_M_say_144 rfl ?_
                refine v_iload hX d_M_say_146 rfl ?_
                refine v_icmp_ge hX d_M_say_148 (tgt := 208) (by decide) (fun _ => ?_) (fun c => absurd (by decide) c)
                refine v_aload_n hX d_M_say_208 rfl rfl ?_
                refine v_mget hX hM7 6 (v := .ref (ob 54)) (by decide) fl_M_25 rfl rfl d_M_say_209 ?_
                refine v_iload hX d_M_say_212 rfl ?_
                refine v_dup2 hX d_M_say_214 rfl rfl ?_
                refine v_mild hX hM7 5 (i := (ttN T)) (v := (nI ((ttMa (adT0 T 10 0)) (ttN T)))) ((na_characters 5).trans ((na_text 5 (by decide)).trans ga_many)) (by omega) (by decide) rfl d_M_say_215 ?_
                refine v_iload hX d_M_say_216 rfl ?_
                refine v_iaddE (v := nI (((ttMa (adT0 T 10 0)) (ttN T)) + 1)) hX d_M_say_218 (nI_add ((ttMa (adT0 T 10 0)) (ttN T)) 1) ?_
                refine v_mist hX hM7 5 C (sxMa (sxCh (sxTe (adT0 T 10 0) (upd (ttTe (adT0 T 10 0)) (ttCh (adT0 T 10 0)) (vp_nar .byte ((a : Int32).toInt8.toInt32)))) ((ttCh (adT0 T 10 0)) + 1)) (updN (ttMa (adT0 T 10 0)) (ttN T) (((ttMa (adT0 T 10 0)) (ttN T)) + 1))) o5 (i := (ttN T)) (by decide) ((na_characters 5).trans ((na_text 5 (by decide)).trans ga_many)) (by omega) (by decide) qf_many ((congrArg (fun f9 => (mar cI cB cZ C (sxCh (sxTe (adT0 T 10 0) (upd (ttTe (adT0 T 10 0)) (ttCh (adT0 T 10 0)) (vp_nar .byte ((a : Int32).toInt8.toInt32)))) ((ttCh (adT0 T 10 0)) + 1)) o5).set 5 (.inl (cI, 300, .inl f9))) (updN_nI (f := (ttMa (adT0 T 10 0))) (k := (ttN T)) (x := (((ttMa (adT0 T 10 0)) (ttN T)) + 1)))).trans qa_many) d_M_say_219 (fun va8 hM8 hf8 => ?_)
                refine v_iload hX d_M_say_220 rfl ?_
                exact v_iret hX hE d_M_say_222 (Nat.le_of_ble_eq_true rfl) (Nat.le_of_ble_eq_true rfl) ⟨rfl, rfl, rfl, rfl, (tlT (adT T 10 0) (upd (ttTe (adT0 T 10 0)) (ttCh (adT0 T 10 0)) (vp_nar .byte ((a : Int32).toInt8.toInt32))) (ttN T) 1), o5, (Or.inr ⟨hsy, (upd (ttTe (adT0 T 10 0)) (ttCh (adT0 T 10 0)) (vp_nar .byte ((a : Int32).toInt8.toInt32))), 1, (ttN T), ⟨rfl, by omega, by omega⟩, rfl, Or.inl ⟨hAn, rfl, rfl⟩⟩), (by have h9 := hM8; skip; exact (h9.tl rfl).tlad), hO5, (((((hfJ.trans hf4).trans hf5).trans hf6).trans hf7).trans hf8)⟩
              · refine v_iload hX d_M_say_144 rfl ?_
                refine v_iload hX d_M_say_146 rfl ?_
                refine v_icmp_ge hX d_M_say_148 (tgt := 208) (by decide) (fun c => absurd c (by decide)) (fun _ => ?_)
                refine v_aload_n hX d_M_say_151 rfl rfl ?_
                refine v_mget hX hM5 8 (v := .ref (ob 56)) (by decide) fl_M_31 rfl rfl d_M_say_152 ?_
                refine v_aload_n hX d_M_say_155 rfl rfl ?_
                refine v_mget hX hM5 10 (v := .int (nI (ttCh (adT0 T 10 0)))) (by decide) fl_M_104 rfl gf_characters d_M_say_156 ?_
                refine v_iload hX d_M_say_159 rfl ?_
                refine v_if_ne hX d_M_say_161 (tgt := 168) (by decide) (fun c => absurd (by decide) c) (fun _ => ?_)
                refine v_iload_n hX d_M_say_164 rfl rfl ?_
                refine v_goto hX d_M_say_165 (tgt := 190) (by decide) ?_
                refine v_i2b hX d_M_say_190 rfl ?_
                refine v_mbst hX hM5 7 C (sxTe (adT0 T 10 0) (upd (ttTe (adT0 T 10 0)) (ttCh (adT0 T 10 0)) (vp_nar .byte ((a : Int32).toInt8.toInt32)))) o5 (i := (ttCh (adT0 T 10 0))) (by decide) ga_text (by omega) (by decide) qf_text qa_text d_M_say_191 (fun va9 hM9 hf9 => ?_)
                refine v_aload_n hX d_M_say_192 rfl rfl ?_
                refine v_dup hX d_M_say_193 rfl ?_
                refine v_mget hX hM9 10 (v := .int (nI (ttCh (adT0 T 10 0)))) (by decide) fl_M_104 rfl ((nf_text 10).trans gf_characters) d_M_say_194 ?_
                refine v_iconst (v := 1) hX d_M_say_197 (by decide) ?_
                refine v_iaddE (v := nI ((ttCh (adT0 T 10 0)) + 1)) hX d_M_say_198 (nI_add (ttCh (adT0 T 10 0)) 1) ?_
                refine v_mput hX hM9 10 C (sxCh (sxTe (adT0 T 10 0) (upd (ttTe (adT0 T 10 0)) (ttCh (adT0 T 10 0)) (vp_nar .byte ((a : Int32).toInt8.toInt32)))) ((ttCh (adT0 T 10 0)) + 1)) o5 (by decide) fl_M_104 rfl rfl rfl rfl pf_characters pa_characters d_M_say_199 (fun va10 hM10 hf10 => ?_)
                refine v_iinc (y := 1) (lv' := [some (.ref (ob 48)), some (.int a), some (.int b), some (.int c), some (.int d), some (.int (nI 2)), some (.int 1), some (.int (nI (ttN T))), some (.int 1)]) hX d_M_say_202 rfl (by decide) rfl ?_
                refine v_goto hX d_M_say_205 (tgt := 144) (by decide) ?_
                refine v_iload hX d_M_say_144 rfl ?_
                refine v_iload hX d_M_say_146 rfl ?_
                refine v_icmp_ge hX d_M_say_148 (tgt := 208) (by decide) (fun c => absurd c (by decide)) (fun _ => ?_)
                refine v_aload_n hX d_M_say_151 rfl rfl ?_
                refine v_mget hX hM10 8 (v := .ref (ob 56)) (by decide) fl_M_31 rfl rfl d_M_say_152 ?_
                refine v_aload_n hX d_M_say_155 rfl rfl ?_
                refine v_mget hX hM10 10 (v := .int (nI ((ttCh (adT0 T 10 0)) + 1))) (by decide) fl_M_104 rfl hf_characters d_M_say_156 ?_
                refine v_iload hX d_M_say_159 rfl ?_
                refine v_if_ne hX d_M_say_161 (tgt := 168) (by decide) (fun _ => ?_) (fun c => absurd c (by decide))
                refine v_iload hX d_M_say_168 rfl ?_
                refine v_iconst (v := 1) hX d_M_say_170 (by decide) ?_
                refine v_icmp_ne hX d_M_say_171 (tgt := 178) (by decide) (fun c => absurd (by decide) c) (fun _ => ?_)
                refine v_iload_n hX d_M_say_174 rfl rfl ?_
                refine v_goto hX d_M_say_175 (tgt := 190) (by decide) ?_
                refine v_i2b hX d_M_say_190 rfl ?_
                refine v_mbst hX hM10 7 C (sxTe (sxCh (sxTe (adT0 T 10 0) (upd (ttTe (adT0 T 10 0)) (ttCh (adT0 T 10 0)) (vp_nar .byte ((a : Int32).toInt8.toInt32)))) ((ttCh (adT0 T 10 0)) + 1)) (upd (upd (ttTe (adT0 T 10 0)) (ttCh (adT0 T 10 0)) (vp_nar .byte ((a : Int32).toInt8.toInt32))) ((ttCh (adT0 T 10 0)) + 1) (vp_nar .byte ((b : Int32).toInt8.toInt32)))) o5 (i := ((ttCh (adT0 T 10 0)) + 1)) (by decide) ((na_characters 7).trans ha_text) (by omega) (by decide) qf_text qa_text d_M_say_191 (fun va11 hM11 hf11 => ?_)
                refine v_aload_n hX d_M_say_192 rfl rfl ?_
                refine v_dup hX d_M_say_193 rfl ?_
                refine v_mget hX hM11 10 (v := .int (nI ((ttCh (adT0 T 10 0)) + 1))) (by decide) fl_M_104 rfl ((nf_text 10).trans hf_characters) d_M_say_194 ?_
                refine v_iconst (v := 1) hX d_M_say_197 (by decide) ?_
                refine v_iaddE (v := nI (((ttCh (adT0 T 10 0)) + 1) + 1)) hX d_M_say_198 (nI_add ((ttCh (adT0 T 10 0)) + 1) 1) ?_
                refine v_mput hX hM11 10 C (sxCh (sxTe (sxCh (sxTe (adT0 T 10 0) (upd (ttTe (adT0 T 10 0)) (ttCh (adT0 T 10 0)) (vp_nar .byte ((a : Int32).toInt8.toInt32)))) ((ttCh (adT0 T 10 0)) + 1)) (upd (upd (ttTe (adT0 T 10 0)) (ttCh (adT0 T 10 0)) (vp_nar .byte ((a : Int32).toInt8.toInt32))) ((ttCh (adT0 T 10 0)) + 1) (vp_nar .byte ((b : Int32).toInt8.toInt32)))) (((ttCh (adT0 T 10 0)) + 1) + 1)) o5 (by decide) fl_M_104 rfl rfl rfl rfl pf_characters pa_characters d_M_say_199 (fun va12 hM12 hf12 => ?_)
                refine v_iinc (y := 2) (lv' := [some (.ref (ob 48)), some (.int a), some (.int b), some (.int c), some (.int d), some (.int (nI 2)), some (.int 1), some (.int (nI (ttN T))), some (.int 2)]) hX d_M_say_202 rfl (by decide) rfl ?_
                refine v_goto hX d_M_say_205 (tgt := 144) (by decide) ?_
                refine v_iload hX d_M_say_144 rfl ?_
                refine v_iload hX d_M_say_146 rfl ?_
                refine v_icmp_ge hX d_M_say_148 (tgt := 208) (by decide) (fun _ => ?_) (fun c => absurd (by decide) c)
                refine v_aload_n hX d_M_say_208 rfl rfl ?_
                refine v_mget hX hM12 6 (v := .ref (ob 54)) (by decide) fl_M_25 rfl rfl d_M_say_209 ?_
                refine v_iload hX d_M_say_212 rfl ?_
                refine v_dup2 hX d_M_say_214 rfl rfl ?_
                refine v_mild hX hM12 5 (i := (ttN T)) (v := (nI ((ttMa (adT0 T 10 0)) (ttN T)))) ((na_characters 5).trans ((na_text 5 (by decide)).trans ((na_characters 5).trans ((na_text 5 (by decide)).trans ga_many)))) (by omega) (by decide) rfl d_M_say_215 ?_
                refine v_iload hX d_M_say_216 rfl ?_
                refine v_iaddE (v := nI (((ttMa (adT0 T 10 0)) (ttN T)) + 2)) hX d_M_say_218 (nI_add ((ttMa (adT0 T 10 0)) (ttN T)) 2) ?_
                refine v_mist hX hM12 5 C (sxMa (sxCh (sxTe (sxCh (sxTe (adT0 T 10 0) (upd (ttTe (adT0 T 10 0)) (ttCh (adT0 T 10 0)) (vp_nar .byte ((a : Int32).toInt8.toInt32)))) ((ttCh (adT0 T 10 0)) + 1)) (upd (upd (ttTe (adT0 T 10 0)) (ttCh (adT0 T 10 0)) (vp_nar .byte ((a : Int32).toInt8.toInt32))) ((ttCh (adT0 T 10 0)) + 1) (vp_nar .byte ((b : Int32).toInt8.toInt32)))) (((ttCh (adT0 T 10 0)) + 1) + 1)) (updN (ttMa (adT0 T 10 0)) (ttN T) (((ttMa (adT0 T 10 0)) (ttN T)) + 2))) o5 (i := (ttN T)) (by decide) ((na_characters 5).trans ((na_text 5 (by decide)).trans ((na_characters 5).trans ((na_text 5 (by decide)).trans ga_many)))) (by omega) (by decide) qf_many ((congrArg (fun f9 => (mar cI cB cZ C (sxCh (sxTe (sxCh (sxTe (adT0 T 10 0) (upd (ttTe (adT0 T 10 0)) (ttCh (adT0 T 10 0)) (vp_nar .byte ((a : Int32).toInt8.toInt32)))) ((ttCh (adT0 T 10 0)) + 1)) (upd (upd (ttTe (adT0 T 10 0)) (ttCh (adT0 T 10 0)) (vp_nar .byte ((a : Int32).toInt8.toInt32))) ((ttCh (adT0 T 10 0)) + 1) (vp_nar .byte ((b : Int32).toInt8.toInt32)))) (((ttCh (adT0 T 10 0)) + 1) + 1)) o5).set 5 (.inl (cI, 300, .inl f9))) (updN_nI (f := (ttMa (adT0 T 10 0))) (k := (ttN T)) (x := (((ttMa (adT0 T 10 0)) (ttN T)) + 2)))).trans qa_many) d_M_say_219 (fun va13 hM13 hf13 => ?_)
                refine v_iload hX d_M_say_220 rfl ?_
                exact v_iret hX hE d_M_say_222 (Nat.le_of_ble_eq_true rfl) (Nat.le_of_ble_eq_true rfl) ⟨rfl, rfl, rfl, rfl, (tlT (adT T 10 0) (upd (upd (ttTe (adT0 T 10 0)) (ttCh (adT0 T 10 0)) (vp_nar .byte ((a : Int32).toInt8.toInt32))) ((ttCh (adT0 T 10 0)) + 1) (vp_nar .byte ((b : Int32).toInt8.toInt32))) (ttN T) 2), o5, (Or.inr ⟨hsy, (upd (upd (ttTe (adT0 T 10 0)) (ttCh (adT0 T 10 0)) (vp_nar .byte ((a : Int32).toInt8.toInt32))) ((ttCh (adT0 T 10 0)) + 1) (vp_nar .byte ((b : Int32).toInt8.toInt32))), 2, (ttN T), ⟨rfl, by omega, by omega⟩, rfl, Or.inl ⟨hAn, rfl, rfl⟩⟩), (by have h9 := hM13; rw [tlc] at h9; exact (h9.tl rfl).tlad), hO5, (((((((hfJ.trans hf4).trans hf5).trans hf9).trans hf10).trans hf11).trans hf12).trans hf13)⟩
              · refine v_iload hX d_M_say_144 rfl ?_
                refine v_iload hX d_M_say_146 rfl ?_
                refine v_icmp_ge hX d_M_say_148 (tgt := 208) (by decide) (fun c => absurd c (by decide)) (fun _ => ?_)
                refine v_aload_n hX d_M_say_151 rfl rfl ?_
                refine v_mget hX hM5 8 (v := .ref (ob 56)) (by decide) fl_M_31 rfl rfl d_M_say_152 ?_
                refine v_aload_n hX d_M_say_155 rfl rfl ?_
                refine v_mget hX hM5 10 (v := .int (nI (ttCh (adT0 T 10 0)))) (by decide) fl_M_104 rfl gf_characters d_M_say_156 ?_
                refine v_iload hX d_M_say_159 rfl ?_
                refine v_if_ne hX d_M_say_161 (tgt := 168) (by decide) (fun c => absurd (by decide) c) (fun _ => ?_)
                refine v_iload_n hX d_M_say_164 rfl rfl ?_
                refine v_goto hX d_M_say_165 (tgt := 190) (by decide) ?_
                refine v_i2b hX d_M_say_190 rfl ?_
                refine v_mbst hX hM5 7 C (sxTe (adT0 T 10 0) (upd (ttTe (adT0 T 10 0)) (ttCh (adT0 T 10 0)) (vp_nar .byte ((a : Int32).toInt8.toInt32)))) o5 (i := (ttCh (adT0 T 10 0))) (by decide) ga_text (by omega) (by decide) qf_text qa_text d_M_say_191 (fun va14 hM14 hf14 => ?_)
                refine v_aload_n hX d_M_say_192 rfl rfl ?_
                refine v_dup hX d_M_say_193 rfl ?_
                refine v_mget hX hM14 10 (v := .int (nI (ttCh (adT0 T 10 0)))) (by decide) fl_M_104 rfl ((nf_text 10).trans gf_characters) d_M_say_194 ?_
                refine v_iconst (v := 1) hX d_M_say_197 (by decide) ?_
                refine v_iaddE (v := nI ((ttCh (adT0 T 10 0)) + 1)) hX d_M_say_198 (nI_add (ttCh (adT0 T 10 0)) 1) ?_
                refine v_mput hX hM14 10 C (sxCh (sxTe (adT0 T 10 0) (upd (ttTe (adT0 T 10 0)) (ttCh (adT0 T 10 0)) (vp_nar .byte ((a : Int32).toInt8.toInt32)))) ((ttCh (adT0 T 10 0)) + 1)) o5 (by decide) fl_M_104 rfl rfl rfl rfl pf_characters pa_characters d_M_say_199 (fun va15 hM15 hf15 => ?_)
                refine v_iinc (y := 1) (lv' := [some (.ref (ob 48)), some (.int a), some (.int b), some (.int c), some (.int d), some (.int (nI 3)), some (.int 1), some (.int (nI (ttN T))), some (.int 1)]) hX d_M_say_202 rfl (by decide) rfl ?_
                refine v_goto hX d_M_say_205 (tgt := 144) (by decide) ?_
                refine v_iload hX d_M_say_144 rfl ?_
                refine v_iload hX d_M_say_146 rfl ?_
                refine v_icmp_ge hX d_M_say_148 (tgt := 208) (by decide) (fun c => absurd c (by decide)) (fun _ => ?_)
                refine v_aload_n hX d_M_say_151 rfl rfl ?_
                refine v_mget hX hM15 8 (v := .ref (ob 56)) (by decide) fl_M_31 rfl rfl d_M_say_152 ?_
                refine v_aload_n hX d_M_say_155 rfl rfl ?_
                refine v_mget hX hM15 10 (v := .int (nI ((ttCh (adT0 T 10 0)) + 1))) (by decide) fl_M_104 rfl hf_characters d_M_say_156 ?_
                refine v_iload hX d_M_say_159 rfl ?_
                refine v_if_ne hX d_M_say_161 (tgt := 168) (by decide) (fun _ => ?_) (fun c => absurd c (by decide))
                refine v_iload hX d_M_say_168 rfl ?_
                refine v_iconst (v := 1) hX d_M_say_170 (by decide) ?_
                refine v_icmp_ne hX d_M_say_171 (tgt := 178) (by decide) (fun c => absurd (by decide) c) (fun _ => ?_)
                refine v_iload_n hX d_M_say_174 rfl rfl ?_
                refine v_goto hX d_M_say_175 (tgt := 190) (by decide) ?_
                refine v_i2b hX d_M_say_190 rfl ?_
                refine v_mbst hX hM15 7 C (sxTe (sxCh (sxTe (adT0 T 10 0) (upd (ttTe (adT0 T 10 0)) (ttCh (adT0 T 10 0)) (vp_nar .byte ((a : Int32).toInt8.toInt32)))) ((ttCh (adT0 T 10 0)) + 1)) (upd (upd (ttTe (adT0 T 10 0)) (ttCh (adT0 T 10 0)) (vp_nar .byte ((a : Int32).toInt8.toInt32))) ((ttCh (adT0 T 10 0)) + 1) (vp_nar .byte ((b : Int32).toInt8.toInt32)))) o5 (i := ((ttCh (adT0 T 10 0)) + 1)) (by decide) ((na_characters 7).trans ha_text) (by omega) (by decide) qf_text qa_text d_M_say_191 (fun va16 hM16 hf16 => ?_)
                refine v_aload_n hX d_M_say_192 rfl rfl ?_
                refine v_dup hX d_M_say_193 rfl ?_
                refine v_mget hX hM16 10 (v := .int (nI ((ttCh (adT0 T 10 0)) + 1))) (by decide) fl_M_104 rfl ((nf_text 10).trans hf_characters) d_M_say_194 ?_
                refine v_iconst (v := 1) hX d_M_say_197 (by decide) ?_
                refine v_iaddE (v := nI (((ttCh (adT0 T 10 0)) + 1) + 1)) hX d_M_say_198 (nI_add ((ttCh (adT0 T 10 0)) + 1) 1) ?_
                refine v_mput hX hM16 10 C (sxCh (sxTe (sxCh (sxTe (adT0 T 10 0) (upd (ttTe (adT0 T 10 0)) (ttCh (adT0 T 10 0)) (vp_nar .byte ((a : Int32).toInt8.toInt32)))) ((ttCh (adT0 T 10 0)) + 1)) (upd (upd (ttTe (adT0 T 10 0)) (ttCh (adT0 T 10 0)) (vp_nar .byte ((a : Int32).toInt8.toInt32))) ((ttCh (adT0 T 10 0)) + 1) (vp_nar .byte ((b : Int32).toInt8.toInt32)))) (((ttCh (adT0 T 10 0)) + 1) + 1)) o5 (by decide) fl_M_104 rfl rfl rfl rfl pf_characters pa_characters d_M_say_199 (fun va17 hM17 hf17 => ?_)
                refine v_iinc (y := 2) (lv' := [some (.ref (ob 48)), some (.int a), some (.int b), some (.int c), some (.int d), some (.int (nI 3)), some (.int 1), some (.int (nI (ttN T))), some (.int 2)]) hX d_M_say_202 rfl (by decide) rfl ?_
                refine v_goto hX d_M_say_205 (tgt := 144) (by decide) ?_
                refine v_iload hX d_M_say_144 rfl ?_
                refine v_iload hX d_M_say_146 rfl ?_
                refine v_icmp_ge hX d_M_say_148 (tgt := 208) (by decide) (fun c => absurd c (by decide)) (fun _ => ?_)
                refine v_aload_n hX d_M_say_151 rfl rfl ?_
                refine v_mget hX hM17 8 (v := .ref (ob 56)) (by decide) fl_M_31 rfl rfl d_M_say_152 ?_
                refine v_aload_n hX d_M_say_155 rfl rfl ?_
                refine v_mget hX hM17 10 (v := .int (nI (((ttCh (adT0 T 10 0)) + 1) + 1))) (by decide) fl_M_104 rfl hf_characters d_M_say_156 ?_
                refine v_iload hX d_M_say_159 rfl ?_
                refine v_if_ne hX d_M_say_161 (tgt := 168) (by decide) (fun _ => ?_) (fun c => absurd c (by decide))
                refine v_iload hX d_M_say_168 rfl ?_
                refine v_iconst (v := 1) hX d_M_say_170 (by decide) ?_
                refine v_icmp_ne hX d_M_say_171 (tgt := 178) (by decide) (fun _ => ?_) (fun c => absurd c (by decide))
                refine v_iload hX d_M_say_178 rfl ?_
                refine v_iconst (v := 2) hX d_M_say_180 (by decide) ?_
                refine v_icmp_ne hX d_M_say_181 (tgt := 188) (by decide) (fun c => absurd (by decide) c) (fun _ => ?_)
                refine v_iload_n hX d_M_say_184 rfl rfl ?_
                refine v_goto hX d_M_say_185 (tgt := 190) (by decide) ?_
                refine v_i2b hX d_M_say_190 rfl ?_
                refine v_mbst hX hM17 7 C (sxTe (sxCh (sxTe (sxCh (sxTe (adT0 T 10 0) (upd (ttTe (adT0 T 10 0)) (ttCh (adT0 T 10 0)) (vp_nar .byte ((a : Int32).toInt8.toInt32)))) ((ttCh (adT0 T 10 0)) + 1)) (upd (upd (ttTe (adT0 T 10 0)) (ttCh (adT0 T 10 0)) (vp_nar .byte ((a : Int32).toInt8.toInt32))) ((ttCh (adT0 T 10 0)) + 1) (vp_nar .byte ((b : Int32).toInt8.toInt32)))) (((ttCh (adT0 T 10 0)) + 1) + 1)) (upd (upd (upd (ttTe (adT0 T 10 0)) (ttCh (adT0 T 10 0)) (vp_nar .byte ((a : Int32).toInt8.toInt32))) ((ttCh (adT0 T 10 0)) + 1) (vp_nar .byte ((b : Int32).toInt8.toInt32))) (((ttCh (adT0 T 10 0)) + 1) + 1) (vp_nar .byte ((c : Int32).toInt8.toInt32)))) o5 (i := (((ttCh (adT0 T 10 0)) + 1) + 1)) (by decide) ((na_characters 7).trans ha_text) (by omega) (by decide) qf_text qa_text d_M_say_191 (fun va18 hM18 hf18 => ?_)
                refine v_aload_n hX d_M_say_192 rfl rfl ?_
                refine v_dup hX d_M_say_193 rfl ?_
                refine v_mget hX hM18 10 (v := .int (nI (((ttCh (adT0 T 10 0)) + 1) + 1))) (by decide) fl_M_104 rfl ((nf_text 10).trans hf_characters) d_M_say_194 ?_
                refine v_iconst (v := 1) hX d_M_say_197 (by decide) ?_
                refine v_iaddE (v := nI ((((ttCh (adT0 T 10 0)) + 1) + 1) + 1)) hX d_M_say_198 (nI_add (((ttCh (adT0 T 10 0)) + 1) + 1) 1) ?_
                refine v_mput hX hM18 10 C (sxCh (sxTe (sxCh (sxTe (sxCh (sxTe (adT0 T 10 0) (upd (ttTe (adT0 T 10 0)) (ttCh (adT0 T 10 0)) (vp_nar .byte ((a : Int32).toInt8.toInt32)))) ((ttCh (adT0 T 10 0)) + 1)) (upd (upd (ttTe (adT0 T 10 0)) (ttCh (adT0 T 10 0)) (vp_nar .byte ((a : Int32).toInt8.toInt32))) ((ttCh (adT0 T 10 0)) + 1) (vp_nar .byte ((b : Int32).toInt8.toInt32)))) (((ttCh (adT0 T 10 0)) + 1) + 1)) (upd (upd (upd (ttTe (adT0 T 10 0)) (ttCh (adT0 T 10 0)) (vp_nar .byte ((a : Int32).toInt8.toInt32))) ((ttCh (adT0 T 10 0)) + 1) (vp_nar .byte ((b : Int32).toInt8.toInt32))) (((ttCh (adT0 T 10 0)) + 1) + 1) (vp_nar .byte ((c : Int32).toInt8.toInt32)))) ((((ttCh (adT0 T 10 0)) + 1) + 1) + 1)) o5 (by decide) fl_M_104 rfl rfl rfl rfl pf_characters pa_characters d_M_say_199 (fun va19 hM19 hf19 => ?_)
                refine v_iinc (y := 3) (lv' := [some (.ref (ob 48)), some (.int a), some (.int b), some (.int c), some (.int d), some (.int (nI 3)), some (.int 1), some (.int (nI (ttN T))), some (.int 3)]) hX d_M_say_202 rfl (by decide) rfl ?_
                refine v_goto hX d_M_say_205 (tgt := 144) (by decide) ?_
                refine v_iload hX d_M_say_144 rfl ?_
                refine v_iload hX d_M_say_146 rfl ?_
                refine v_icmp_ge hX d_M_say_148 (tgt := 208) (by decide) (fun _ => ?_) (fun c => absurd (by decide) c)
                refine v_aload_n hX d_M_say_208 rfl rfl ?_
                refine v_mget hX hM19 6 (v := .ref (ob 54)) (by decide) fl_M_25 rfl rfl d_M_say_209 ?_
                refine v_iload hX d_M_say_212 rfl ?_
                refine v_dup2 hX d_M_say_214 rfl rfl ?_
                refine v_mild hX hM19 5 (i := (ttN T)) (v := (nI ((ttMa (adT0 T 10 0)) (ttN T)))) ((na_characters 5).trans ((na_text 5 (by decide)).trans ((na_characters 5).trans ((na_text 5 (by decide)).trans ((na_characters 5).trans ((na_text 5 (by decide)).trans ga_many)))))) (by omega) (by decide) rfl d_M_say_215 ?_
                refine v_iload hX d_M_say_216 rfl ?_
                refine v_iaddE (v := nI (((ttMa (adT0 T 10 0)) (ttN T)) + 3)) hX d_M_say_218 (nI_add ((ttMa (adT0 T 10 0)) (ttN T)) 3) ?_
                refine v_mist hX hM19 5 C (sxMa (sxCh (sxTe (sxCh (sxTe (sxCh (sxTe (adT0 T 10 0) (upd (ttTe (adT0 T 10 0)) (ttCh (adT0 T 10 0)) (vp_nar .byte ((a : Int32).toInt8.toInt32)))) ((ttCh (adT0 T 10 0)) + 1)) (upd (upd (ttTe (adT0 T 10 0)) (ttCh (adT0 T 10 0)) (vp_nar .byte ((a : Int32).toInt8.toInt32))) ((ttCh (adT0 T 10 0)) + 1) (vp_nar .byte ((b : Int32).toInt8.toInt32)))) (((ttCh (adT0 T 10 0)) + 1) + 1)) (upd (upd (upd (ttTe (adT0 T 10 0)) (ttCh (adT0 T 10 0)) (vp_nar .byte ((a : Int32).toInt8.toInt32))) ((ttCh (adT0 T 10 0)) + 1) (vp_nar .byte ((b : Int32).toInt8.toInt32))) (((ttCh (adT0 T 10 0)) + 1) + 1) (vp_nar .byte ((c : Int32).toInt8.toInt32)))) ((((ttCh (adT0 T 10 0)) + 1) + 1) + 1)) (updN (ttMa (adT0 T 10 0)) (ttN T) (((ttMa (adT0 T 10 0)) (ttN T)) + 3))) o5 (i := (ttN T)) (by decide) ((na_characters 5).trans ((na_text 5 (by decide)).trans ((na_characters 5).trans ((na_text 5 (by decide)).trans ((na_characters 5).trans ((na_text 5 (by decide)).trans ga_many)))))) (by omega) (by decide) qf_many ((congrArg (fun f9 => (mar cI cB cZ C (sxCh (sxTe (sxCh (sxTe (sxCh (sxTe (adT0 T 10 0) (upd (ttTe (adT0 T 10 0)) (ttCh (adT0 T 10 0)) (vp_nar .byte ((a : Int32).toInt8.toInt32)))) ((ttCh (adT0 T 10 0)) + 1)) (upd (upd (ttTe (adT0 T 10 0)) (ttCh (adT0 T 10 0)) (vp_nar .byte ((a : Int32).toInt8.toInt32))) ((ttCh (adT0 T 10 0)) + 1) (vp_nar .byte ((b : Int32).toInt8.toInt32)))) (((ttCh (adT0 T 10 0)) + 1) + 1)) (upd (upd (upd (ttTe (adT0 T 10 0)) (ttCh (adT0 T 10 0)) (vp_nar .byte ((a : Int32).toInt8.toInt32))) ((ttCh (adT0 T 10 0)) + 1) (vp_nar .byte ((b : Int32).toInt8.toInt32))) (((ttCh (adT0 T 10 0)) + 1) + 1) (vp_nar .byte ((c : Int32).toInt8.toInt32)))) ((((ttCh (adT0 T 10 0)) + 1) + 1) + 1)) o5).set 5 (.inl (cI, 300, .inl f9))) (updN_nI (f := (ttMa (adT0 T 10 0))) (k := (ttN T)) (x := (((ttMa (adT0 T 10 0)) (ttN T)) + 3)))).trans qa_many) d_M_say_219 (fun va20 hM20 hf20 => ?_)
                refine v_iload hX d_M_say_220 rfl ?_
                exact v_iret hX hE d_M_say_222 (Nat.le_of_ble_eq_true rfl) (Nat.le_of_ble_eq_true rfl) ⟨rfl, rfl, rfl, rfl, (tlT (adT T 10 0) (upd (upd (upd (ttTe (adT0 T 10 0)) (ttCh (adT0 T 10 0)) (vp_nar .byte ((a : Int32).toInt8.toInt32))) ((ttCh (adT0 T 10 0)) + 1) (vp_nar .byte ((b : Int32).toInt8.toInt32))) (((ttCh (adT0 T 10 0)) + 1) + 1) (vp_nar .byte ((c : Int32).toInt8.toInt32))) (ttN T) 3), o5, (Or.inr ⟨hsy, (upd (upd (upd (ttTe (adT0 T 10 0)) (ttCh (adT0 T 10 0)) (vp_nar .byte ((a : Int32).toInt8.toInt32))) ((ttCh (adT0 T 10 0)) + 1) (vp_nar .byte ((b : Int32).toInt8.toInt32))) (((ttCh (adT0 T 10 0)) + 1) + 1) (vp_nar .byte ((c : Int32).toInt8.toInt32))), 3, (ttN T), ⟨rfl, by omega, by omega⟩, rfl, Or.inl ⟨hAn, rfl, rfl⟩⟩), (by have h9 := hM20; rw [tlc] at h9; rw [tlc] at h9; exact (h9.tl rfl).tlad), hO5, (((((((((hfJ.trans hf4).trans hf5).trans hf14).trans hf15).trans hf16).trans hf17).trans hf18).trans hf19).trans hf20)⟩
              · refine v_iload hX d_M_say_144 rfl ?_
                refine v_iload hX d_M_say_146 rfl ?_
                refine v_icmp_ge hX d_M_say_148 (tgt := 208) (by decide) (fun c => absurd c (by decide)) (fun _ => ?_)
                refine v_aload_n hX d_M_say_151 rfl rfl ?_
                refine v_mget hX hM5 8 (v := .ref (ob 56)) (by decide) fl_M_31 rfl rfl d_M_say_152 ?_
                refine v_aload_n hX d_M_say_155 rfl rfl ?_
                refine v_mget hX hM5 10 (v := .int (nI (ttCh (adT0 T 10 0)))) (by decide) fl_M_104 rfl gf_characters d_M_say_156 ?_
                refine v_iload hX d_M_say_159 rfl ?_
                refine v_if_ne hX d_M_say_161 (tgt := 168) (by decide) (fun c => absurd (by decide) c) (fun _ => ?_)
                refine v_iload_n hX d_M_say_164 rfl rfl ?_
                refine v_goto hX d_M_say_165 (tgt := 190) (by decide) ?_
                refine v_i2b hX d_M_say_190 rfl ?_
                refine v_mbst hX hM5 7 C (sxTe (adT0 T 10 0) (upd (ttTe (adT0 T 10 0)) (ttCh (adT0 T 10 0)) (vp_nar .byte ((a : Int32).toInt8.toInt32)))) o5 (i := (ttCh (adT0 T 10 0))) (by decide) ga_text (by omega) (by decide) qf_text qa_text d_M_say_191 (fun va21 hM21 hf21 => ?_)
                refine v_aload_n hX d_M_say_192 rfl rfl ?_
                refine v_dup hX d_M_say_193 rfl ?_
                refine v_mget hX hM21 10 (v := .int (nI (ttCh (adT0 T 10 0)))) (by decide) fl_M_104 rfl ((nf_text 10).trans gf_characters) d_M_say_194 ?_
                refine v_iconst (v := 1) hX d_M_say_197 (by decide) ?_
                refine v_iaddE (v := nI ((ttCh (adT0 T 10 0)) + 1)) hX d_M_say_198 (nI_add (ttCh (adT0 T 10 0)) 1) ?_
                refine v_mput hX hM21 10 C (sxCh (sxTe (adT0 T 10 0) (upd (ttTe (adT0 T 10 0)) (ttCh (adT0 T 10 0)) (vp_nar .byte ((a : Int32).toInt8.toInt32)))) ((ttCh (adT0 T 10 0)) + 1)) o5 (by decide) fl_M_104 rfl rfl rfl rfl pf_characters pa_characters d_M_say_199 (fun va22 hM22 hf22 => ?_)
                refine v_iinc (y := 1) (lv' := [some (.ref (ob 48)), some (.int a), some (.int b), some (.int c), some (.int d), some (.int (nI 4)), some (.int 1), some (.int (nI (ttN T))), some (.int 1)]) hX d_M_say_202 rfl (by decide) rfl ?_
                refine v_goto hX d_M_say_205 (tgt := 144) (by decide) ?_
                refine v_iload hX d_M_say_144 rfl ?_
                refine v_iload hX d_M_say_146 rfl ?_
                refine v_icmp_ge hX d_M_say_148 (tgt := 208) (by decide) (fun c => absurd c (by decide)) (fun _ => ?_)
                refine v_aload_n hX d_M_say_151 rfl rfl ?_
                refine v_mget hX hM22 8 (v := .ref (ob 56)) (by decide) fl_M_31 rfl rfl d_M_say_152 ?_
                refine v_aload_n hX d_M_say_155 rfl rfl ?_
                refine v_mget hX hM22 10 (v := .int (nI ((ttCh (adT0 T 10 0)) + 1))) (by decide) fl_M_104 rfl hf_characters d_M_say_156 ?_
                refine v_iload hX d_M_say_159 rfl ?_
                refine v_if_ne hX d_M_say_161 (tgt := 168) (by decide) (fun _ => ?_) (fun c => absurd c (by decide))
                refine v_iload hX d_M_say_168 rfl ?_
                refine v_iconst (v := 1) hX d_M_say_170 (by decide) ?_
                refine v_icmp_ne hX d_M_say_171 (tgt := 178) (by decide) (fun c => absurd (by decide) c) (fun _ => ?_)
                refine v_iload_n hX d_M_say_174 rfl rfl ?_
                refine v_goto hX d_M_say_175 (tgt := 190) (by decide) ?_
                refine v_i2b hX d_M_say_190 rfl ?_
                refine v_mbst hX hM22 7 C (sxTe (sxCh (sxTe (adT0 T 10 0) (upd (ttTe (adT0 T 10 0)) (ttCh (adT0 T 10 0)) (vp_nar .byte ((a : Int32).toInt8.toInt32)))) ((ttCh (adT0 T 10 0)) + 1)) (upd (upd (ttTe (adT0 T 10 0)) (ttCh (adT0 T 10 0)) (vp_nar .byte ((a : Int32).toInt8.toInt32))) ((ttCh (adT0 T 10 0)) + 1) (vp_nar .byte ((b : Int32).toInt8.toInt32)))) o5 (i := ((ttCh (adT0 T 10 0)) + 1)) (by decide) ((na_characters 7).trans ha_text) (by omega) (by decide) qf_text qa_text d_M_say_191 (fun va23 hM23 hf23 => ?_)
                refine v_aload_n hX d_M_say_192 rfl rfl ?_
                refine v_dup hX d_M_say_193 rfl ?_
                refine v_mget hX hM23 10 (v := .int (nI ((ttCh (adT0 T 10 0)) + 1))) (by decide) fl_M_104 rfl ((nf_text 10).trans hf_characters) d_M_say_194 ?_
                refine v_iconst (v := 1) hX d_M_say_197 (by decide) ?_
                refine v_iaddE (v := nI (((ttCh (adT0 T 10 0)) + 1) + 1)) hX d_M_say_198 (nI_add ((ttCh (adT0 T 10 0)) + 1) 1) ?_
                refine v_mput hX hM23 10 C (sxCh (sxTe (sxCh (sxTe (adT0 T 10 0) (upd (ttTe (adT0 T 10 0)) (ttCh (adT0 T 10 0)) (vp_nar .byte ((a : Int32).toInt8.toInt32)))) ((ttCh (adT0 T 10 0)) + 1)) (upd (upd (ttTe (adT0 T 10 0)) (ttCh (adT0 T 10 0)) (vp_nar .byte ((a : Int32).toInt8.toInt32))) ((ttCh (adT0 T 10 0)) + 1) (vp_nar .byte ((b : Int32).toInt8.toInt32)))) (((ttCh (adT0 T 10 0)) + 1) + 1)) o5 (by decide) fl_M_104 rfl rfl rfl rfl pf_characters pa_characters d_M_say_199 (fun va24 hM24 hf24 => ?_)
                refine v_iinc (y := 2) (lv' := [some (.ref (ob 48)), some (.int a), some (.int b), some (.int c), some (.int d), some (.int (nI 4)), some (.int 1), some (.int (nI (ttN T))), some (.int 2)]) hX d_M_say_202 rfl (by decide) rfl ?_
                refine v_goto hX d_M_say_205 (tgt := 144) (by decide) ?_
                refine v_iload hX d_M_say_144 rfl ?_
                refine v_iload hX d_M_say_146 rfl ?_
                refine v_icmp_ge hX d_M_say_148 (tgt := 208) (by decide) (fun c => absurd c (by decide)) (fun _ => ?_)
                refine v_aload_n hX d_M_say_151 rfl rfl ?_
                refine v_mget hX hM24 8 (v := .ref (ob 56)) (by decide) fl_M_31 rfl rfl d_M_say_152 ?_
                refine v_aload_n hX d_M_say_155 rfl rfl ?_
                refine v_mget hX hM24 10 (v := .int (nI (((ttCh (adT0 T 10 0)) + 1) + 1))) (by decide) fl_M_104 rfl hf_characters d_M_say_156 ?_
                refine v_iload hX d_M_say_159 rfl ?_
                refine v_if_ne hX d_M_say_161 (tgt := 168) (by decide) (fun _ => ?_) (fun c => absurd c (by decide))
                refine v_iload hX d_M_say_168 rfl ?_
                refine v_iconst (v := 1) hX d_M_say_170 (by decide) ?_
                refine v_icmp_ne hX d_M_say_171 (tgt := 178) (by decide) (fun _ => ?_) (fun c => absurd c (by decide))
                refine v_iload hX d_M_say_178 rfl ?_
                refine v_iconst (v := 2) hX d_M_say_180 (by decide) ?_
                refine v_icmp_ne hX d_M_say_181 (tgt := 188) (by decide) (fun c => absurd (by decide) c) (fun _ => ?_)
                refine v_iload_n hX d_M_say_184 rfl rfl ?_
                refine v_goto hX d_M_say_185 (tgt := 190) (by decide) ?_
                refine v_i2b hX d_M_say_190 rfl ?_
                refine v_mbst hX hM24 7 C (sxTe (sxCh (sxTe (sxCh (sxTe (adT0 T 10 0) (upd (ttTe (adT0 T 10 0)) (ttCh (adT0 T 10 0)) (vp_nar .byte ((a : Int32).toInt8.toInt32)))) ((ttCh (adT0 T 10 0)) + 1)) (upd (upd (ttTe (adT0 T 10 0)) (ttCh (adT0 T 10 0)) (vp_nar .byte ((a : Int32).toInt8.toInt32))) ((ttCh (adT0 T 10 0)) + 1) (vp_nar .byte ((b : Int32).toInt8.toInt32)))) (((ttCh (adT0 T 10 0)) + 1) + 1)) (upd (upd (upd (ttTe (adT0 T 10 0)) (ttCh (adT0 T 10 0)) (vp_nar .byte ((a : Int32).toInt8.toInt32))) ((ttCh (adT0 T 10 0)) + 1) (vp_nar .byte ((b : Int32).toInt8.toInt32))) (((ttCh (adT0 T 10 0)) + 1) + 1) (vp_nar .byte ((c : Int32).toInt8.toInt32)))) o5 (i := (((ttCh (adT0 T 10 0)) + 1) + 1)) (by decide) ((na_characters 7).trans ha_text) (by omega) (by decide) qf_text qa_text d_M_say_191 (fun va25 hM25 hf25 => ?_)
                refine v_aload_n hX d_M_say_192 rfl rfl ?_
                refine v_dup hX d_M_say_193 rfl ?_
                refine v_mget hX hM25 10 (v := .int (nI (((ttCh (adT0 T 10 0)) + 1) + 1))) (by decide) fl_M_104 rfl ((nf_text 10).trans hf_characters) d_M_say_194 ?_
                refine v_iconst (v := 1) hX d_M_say_197 (by decide) ?_
                refine v_iaddE (v := nI ((((ttCh (adT0 T 10 0)) + 1) + 1) + 1)) hX d_M_say_198 (nI_add (((ttCh (adT0 T 10 0)) + 1) + 1) 1) ?_
                refine v_mput hX hM25 10 C (sxCh (sxTe (sxCh (sxTe (sxCh (sxTe (adT0 T 10 0) (upd (ttTe (adT0 T 10 0)) (ttCh (adT0 T 10 0)) (vp_nar .byte ((a : Int32).toInt8.toInt32)))) ((ttCh (adT0 T 10 0)) + 1)) (upd (upd (ttTe (adT0 T 10 0)) (ttCh (adT0 T 10 0)) (vp_nar .byte ((a : Int32).toInt8.toInt32))) ((ttCh (adT0 T 10 0)) + 1) (vp_nar .byte ((b : Int32).toInt8.toInt32)))) (((ttCh (adT0 T 10 0)) + 1) + 1)) (upd (upd (upd (ttTe (adT0 T 10 0)) (ttCh (adT0 T 10 0)) (vp_nar .byte ((a : Int32).toInt8.toInt32))) ((ttCh (adT0 T 10 0)) + 1) (vp_nar .byte ((b : Int32).toInt8.toInt32))) (((ttCh (adT0 T 10 0)) + 1) + 1) (vp_nar .byte ((c : Int32).toInt8.toInt32)))) ((((ttCh (adT0 T 10 0)) + 1) + 1) + 1)) o5 (by decide) fl_M_104 rfl rfl rfl rfl pf_characters pa_characters d_M_say_199 (fun va26 hM26 hf26 => ?_)
                refine v_iinc (y := 3) (lv' := [some (.ref (ob 48)), some (.int a), some (.int b), some (.int c), some (.int d), some (.int (nI 4)), some (.int 1), some (.int (nI (ttN T))), some (.int 3)]) hX d_M_say_202 rfl (by decide) rfl ?_
                refine v_goto hX d_M_say_205 (tgt := 144) (by decide) ?_
                refine v_iload hX d_M_say_144 rfl ?_
                refine v_iload hX d_M_say_146 rfl ?_
                refine v_icmp_ge hX d_M_say_148 (tgt := 208) (by decide) (fun c => absurd c (by decide)) (fun _ => ?_)
                refine v_aload_n hX d_M_say_151 rfl rfl ?_
                refine v_mget hX hM26 8 (v := .ref (ob 56)) (by decide) fl_M_31 rfl rfl d_M_say_152 ?_
                refine v_aload_n hX d_M_say_155 rfl rfl ?_
                refine v_mget hX hM26 10 (v := .int (nI ((((ttCh (adT0 T 10 0)) + 1) + 1) + 1))) (by decide) fl_M_104 rfl hf_characters d_M_say_156 ?_
                refine v_iload hX d_M_say_159 rfl ?_
                refine v_if_ne hX d_M_say_161 (tgt := 168) (by decide) (fun _ => ?_) (fun c => absurd c (by decide))
                refine v_iload hX d_M_say_168 rfl ?_
                refine v_iconst (v := 1) hX d_M_say_170 (by decide) ?_
                refine v_icmp_ne hX d_M_say_171 (tgt := 178) (by decide) (fun _ => ?_) (fun c => absurd c (by decide))
                refine v_iload hX d_M_say_178 rfl ?_
                refine v_iconst (v := 2) hX d_M_say_180 (by decide) ?_
                refine v_icmp_ne hX d_M_say_181 (tgt := 188) (by decide) (fun _ => ?_) (fun c => absurd c (by decide))
                refine v_iload hX d_M_say_188 rfl ?_
                refine v_i2b hX d_M_say_190 rfl ?_
                refine v_mbst hX hM26 7 C (sxTe (sxCh (sxTe (sxCh (sxTe (sxCh (sxTe (adT0 T 10 0) (upd (ttTe (adT0 T 10 0)) (ttCh (adT0 T 10 0)) (vp_nar .byte ((a : Int32).toInt8.toInt32)))) ((ttCh (adT0 T 10 0)) + 1)) (upd (upd (ttTe (adT0 T 10 0)) (ttCh (adT0 T 10 0)) (vp_nar .byte ((a : Int32).toInt8.toInt32))) ((ttCh (adT0 T 10 0)) + 1) (vp_nar .byte ((b : Int32).toInt8.toInt32)))) (((ttCh (adT0 T 10 0)) + 1) + 1)) (upd (upd (upd (ttTe (adT0 T 10 0)) (ttCh (adT0 T 10 0)) (vp_nar .byte ((a : Int32).toInt8.toInt32))) ((ttCh (adT0 T 10 0)) + 1) (vp_nar .byte ((b : Int32).toInt8.toInt32))) (((ttCh (adT0 T 10 0)) + 1) + 1) (vp_nar .byte ((c : Int32).toInt8.toInt32)))) ((((ttCh (adT0 T 10 0)) + 1) + 1) + 1)) (upd (upd (upd (upd (ttTe (adT0 T 10 0)) (ttCh (adT0 T 10 0)) (vp_nar .byte ((a : Int32).toInt8.toInt32))) ((ttCh (adT0 T 10 0)) + 1) (vp_nar .byte ((b : Int32).toInt8.toInt32))) (((ttCh (adT0 T 10 0)) + 1) + 1) (vp_nar .byte ((c : Int32).toInt8.toInt32))) ((((ttCh (adT0 T 10 0)) + 1) + 1) + 1) (vp_nar .byte ((d : Int32).toInt8.toInt32)))) o5 (i := ((((ttCh (adT0 T 10 0)) + 1) + 1) + 1)) (by decide) ((na_characters 7).trans ha_text) (by omega) (by decide) qf_text qa_text d_M_say_191 (fun va27 hM27 hf27 => ?_)
                refine v_aload_n hX d_M_say_192 rfl rfl ?_
                refine v_dup hX d_M_say_193 rfl ?_
                refine v_mget hX hM27 10 (v := .int (nI ((((ttCh (adT0 T 10 0)) + 1) + 1) + 1))) (by decide) fl_M_104 rfl ((nf_text 10).trans hf_characters) d_M_say_194 ?_
                refine v_iconst (v := 1) hX d_M_say_197 (by decide) ?_
                refine v_iaddE (v := nI (((((ttCh (adT0 T 10 0)) + 1) + 1) + 1) + 1)) hX d_M_say_198 (nI_add ((((ttCh (adT0 T 10 0)) + 1) + 1) + 1) 1) ?_
                refine v_mput hX hM27 10 C (sxCh (sxTe (sxCh (sxTe (sxCh (sxTe (sxCh (sxTe (adT0 T 10 0) (upd (ttTe (adT0 T 10 0)) (ttCh (adT0 T 10 0)) (vp_nar .byte ((a : Int32).toInt8.toInt32)))) ((ttCh (adT0 T 10 0)) + 1)) (upd (upd (ttTe (adT0 T 10 0)) (ttCh (adT0 T 10 0)) (vp_nar .byte ((a : Int32).toInt8.toInt32))) ((ttCh (adT0 T 10 0)) + 1) (vp_nar .byte ((b : Int32).toInt8.toInt32)))) (((ttCh (adT0 T 10 0)) + 1) + 1)) (upd (upd (upd (ttTe (adT0 T 10 0)) (ttCh (adT0 T 10 0)) (vp_nar .byte ((a : Int32).toInt8.toInt32))) ((ttCh (adT0 T 10 0)) + 1) (vp_nar .byte ((b : Int32).toInt8.toInt32))) (((ttCh (adT0 T 10 0)) + 1) + 1) (vp_nar .byte ((c : Int32).toInt8.toInt32)))) ((((ttCh (adT0 T 10 0)) + 1) + 1) + 1)) (upd (upd (upd (upd (ttTe (adT0 T 10 0)) (ttCh (adT0 T 10 0)) (vp_nar .byte ((a : Int32).toInt8.toInt32))) ((ttCh (adT0 T 10 0)) + 1) (vp_nar .byte ((b : Int32).toInt8.toInt32))) (((ttCh (adT0 T 10 0)) + 1) + 1) (vp_nar .byte ((c : Int32).toInt8.toInt32))) ((((ttCh (adT0 T 10 0)) + 1) + 1) + 1) (vp_nar .byte ((d : Int32).toInt8.toInt32)))) (((((ttCh (adT0 T 10 0)) + 1) + 1) + 1) + 1)) o5 (by decide) fl_M_104 rfl rfl rfl rfl pf_characters pa_characters d_M_say_199 (fun va28 hM28 hf28 => ?_)
                refine v_iinc (y := 4) (lv' := [some (.ref (ob 48)), some (.int a), some (.int b), some (.int c), some (.int d), some (.int (nI 4)), some (.int 1), some (.int (nI (ttN T))), some (.int 4)]) hX d_M_say_202 rfl (by decide) rfl ?_
                refine v_goto hX d_M_say_205 (tgt := 144) (by decide) ?_
                refine v_iload hX d_M_say_144 rfl ?_
                refine v_iload hX d_M_say_146 rfl ?_
                refine v_icmp_ge hX d_M_say_148 (tgt := 208) (by decide) (fun _ => ?_) (fun c => absurd (by decide) c)
                refine v_aload_n hX d_M_say_208 rfl rfl ?_
                refine v_mget hX hM28 6 (v := .ref (ob 54)) (by decide) fl_M_25 rfl rfl d_M_say_209 ?_
                refine v_iload hX d_M_say_212 rfl ?_
                refine v_dup2 hX d_M_say_214 rfl rfl ?_
                refine v_mild hX hM28 5 (i := (ttN T)) (v := (nI ((ttMa (adT0 T 10 0)) (ttN T)))) ((na_characters 5).trans ((na_text 5 (by decide)).trans ((na_characters 5).trans ((na_text 5 (by decide)).trans ((na_characters 5).trans ((na_text 5 (by decide)).trans ((na_characters 5).trans ((na_text 5 (by decide)).trans ga_many)))))))) (by omega) (by decide) rfl d_M_say_215 ?_
                refine v_iload hX d_M_say_216 rfl ?_
                refine v_iaddE (v := nI (((ttMa (adT0 T 10 0)) (ttN T)) + 4)) hX d_M_say_218 (nI_add ((ttMa (adT0 T 10 0)) (ttN T)) 4) ?_
                refine v_mist hX hM28 5 C (sxMa (sxCh (sxTe (sxCh (sxTe (sxCh (sxTe (sxCh (sxTe (adT0 T 10 0) (upd (ttTe (adT0 T 10 0)) (ttCh (adT0 T 10 0)) (vp_nar .byte ((a : Int32).toInt8.toInt32)))) ((ttCh (adT0 T 10 0)) + 1)) (upd (upd (ttTe (adT0 T 10 0)) (ttCh (adT0 T 10 0)) (vp_nar .byte ((a : Int32).toInt8.toInt32))) ((ttCh (adT0 T 10 0)) + 1) (vp_nar .byte ((b : Int32).toInt8.toInt32)))) (((ttCh (adT0 T 10 0)) + 1) + 1)) (upd (upd (upd (ttTe (adT0 T 10 0)) (ttCh (adT0 T 10 0)) (vp_nar .byte ((a : Int32).toInt8.toInt32))) ((ttCh (adT0 T 10 0)) + 1) (vp_nar .byte ((b : Int32).toInt8.toInt32))) (((ttCh (adT0 T 10 0)) + 1) + 1) (vp_nar .byte ((c : Int32).toInt8.toInt32)))) ((((ttCh (adT0 T 10 0)) + 1) + 1) + 1)) (upd (upd (upd (upd (ttTe (adT0 T 10 0)) (ttCh (adT0 T 10 0)) (vp_nar .byte ((a : Int32).toInt8.toInt32))) ((ttCh (adT0 T 10 0)) + 1) (vp_nar .byte ((b : Int32).toInt8.toInt32))) (((ttCh (adT0 T 10 0)) + 1) + 1) (vp_nar .byte ((c : Int32).toInt8.toInt32))) ((((ttCh (adT0 T 10 0)) + 1) + 1) + 1) (vp_nar .byte ((d : Int32).toInt8.toInt32)))) (((((ttCh (adT0 T 10 0)) + 1) + 1) + 1) + 1)) (updN (ttMa (adT0 T 10 0)) (ttN T) (((ttMa (adT0 T 10 0)) (ttN T)) + 4))) o5 (i := (ttN T)) (by decide) ((na_characters 5).trans ((na_text 5 (by decide)).trans ((na_characters 5).trans ((na_text 5 (by decide)).trans ((na_characters 5).trans ((na_text 5 (by decide)).trans ((na_characters 5).trans ((na_text 5 (by decide)).trans ga_many)))))))) (by omega) (by decide) qf_many ((congrArg (fun f9 => (mar cI cB cZ C (sxCh (sxTe (sxCh (sxTe (sxCh (sxTe (sxCh (sxTe (adT0 T 10 0) (upd (ttTe (adT0 T 10 0)) (ttCh (adT0 T 10 0)) (vp_nar .byte ((a : Int32).toInt8.toInt32)))) ((ttCh (adT0 T 10 0)) + 1)) (upd (upd (ttTe (adT0 T 10 0)) (ttCh (adT0 T 10 0)) (vp_nar .byte ((a : Int32).toInt8.toInt32))) ((ttCh (adT0 T 10 0)) + 1) (vp_nar .byte ((b : Int32).toInt8.toInt32)))) (((ttCh (adT0 T 10 0)) + 1) + 1)) (upd (upd (upd (ttTe (adT0 T 10 0)) (ttCh (adT0 T 10 0)) (vp_nar .byte ((a : Int32).toInt8.toInt32))) ((ttCh (adT0 T 10 0)) + 1) (vp_nar .byte ((b : Int32).toInt8.toInt32))) (((ttCh (adT0 T 10 0)) + 1) + 1) (vp_nar .byte ((c : Int32).toInt8.toInt32)))) ((((ttCh (adT0 T 10 0)) + 1) + 1) + 1)) (upd (upd (upd (upd (ttTe (adT0 T 10 0)) (ttCh (adT0 T 10 0)) (vp_nar .byte ((a : Int32).toInt8.toInt32))) ((ttCh (adT0 T 10 0)) + 1) (vp_nar .byte ((b : Int32).toInt8.toInt32))) (((ttCh (adT0 T 10 0)) + 1) + 1) (vp_nar .byte ((c : Int32).toInt8.toInt32))) ((((ttCh (adT0 T 10 0)) + 1) + 1) + 1) (vp_nar .byte ((d : Int32).toInt8.toInt32)))) (((((ttCh (adT0 T 10 0)) + 1) + 1) + 1) + 1)) o5).set 5 (.inl (cI, 300, .inl f9))) (updN_nI (f := (ttMa (adT0 T 10 0))) (k := (ttN T)) (x := (((ttMa (adT0 T 10 0)) (ttN T)) + 4)))).trans qa_many) d_M_say_219 (fun va29 hM29 hf29 => ?_)
                refine v_iload hX d_M_say_220 rfl ?_
                exact v_iret hX hE d_M_say_222 (Nat.le_of_ble_eq_true rfl) (Nat.le_of_ble_eq_true rfl) ⟨rfl, rfl, rfl, rfl, (tlT (adT T 10 0) (upd (upd (upd (upd (ttTe (adT0 T 10 0)) (ttCh (adT0 T 10 0)) (vp_nar .byte ((a : Int32).toInt8.toInt32))) ((ttCh (adT0 T 10 0)) + 1) (vp_nar .byte ((b : Int32).toInt8.toInt32))) (((ttCh (adT0 T 10 0)) + 1) + 1) (vp_nar .byte ((c : Int32).toInt8.toInt32))) ((((ttCh (adT0 T 10 0)) + 1) + 1) + 1) (vp_nar .byte ((d : Int32).toInt8.toInt32))) (ttN T) 4), o5, (Or.inr ⟨hsy, (upd (upd (upd (upd (ttTe (adT0 T 10 0)) (ttCh (adT0 T 10 0)) (vp_nar .byte ((a : Int32).toInt8.toInt32))) ((ttCh (adT0 T 10 0)) + 1) (vp_nar .byte ((b : Int32).toInt8.toInt32))) (((ttCh (adT0 T 10 0)) + 1) + 1) (vp_nar .byte ((c : Int32).toInt8.toInt32))) ((((ttCh (adT0 T 10 0)) + 1) + 1) + 1) (vp_nar .byte ((d : Int32).toInt8.toInt32))), 4, (ttN T), ⟨rfl, by omega, by omega⟩, rfl, Or.inl ⟨hAn, rfl, rfl⟩⟩), (by have h9 := hM29; rw [tlc] at h9; rw [tlc] at h9; rw [tlc] at h9; exact (h9.tl rfl).tlad), hO5, (((((((((((hfJ.trans hf4).trans hf5).trans hf21).trans hf22).trans hf23).trans hf24).trans hf25).trans hf26).trans hf27).trans hf28).trans hf29)⟩
            · refine v_iconst (v := 2) hX d_M_say_98 (by decide) ?_
              refine v_goto hX d_M_say_99 (tgt := 103) (by decide) ?_
              refine v_mput hX hMJ 0 C T (soTh oJ 2) (by decide) fl_M_97 rfl rfl rfl rfl pf_thrown pa_thrown d_M_say_103 (fun va30 hM30 hf30 => ?_)
              refine v_aload_n hX d_M_say_106 rfl rfl ?_
              refine v_mget hX hM30 0 (v := .int 2) (by decide) fl_M_97 rfl hf_thrown d_M_say_107 ?_
              refine v_if_le hX d_M_say_110 (tgt := 115) (by decide) (fun c => absurd c (by decide)) (fun _ => ?_)
              refine v_iconst (v := 0) hX d_M_say_113 (by decide) ?_
              exact v_iret hX hE d_M_say_114 (Nat.le_of_ble_eq_true rfl) (Nat.le_of_ble_eq_true rfl) ⟨rfl, rfl, rfl, rfl, T, (soTh oJ 2), (Or.inl ⟨fun z => absurd (z.2.2.2.2 hAn) c95, rfl, rfl⟩), hM30, ⟨hOJ.1.1, hOJ.1.2.1, hOJ.1.2.2.1, hOJ.1.2.2.2.1, (by have q9 := hOJ.1.2.2.2.2; first | exact q9 | omega | (show (ooSm oJ) ≤ 4300; omega))⟩, (hfJ.trans hf30)⟩
        · refine v_iconst (v := 1) hX d_M_say_69 (by decide) ?_
          refine v_goto hX d_M_say_70 (tgt := 103) (by decide) ?_
          refine v_mput hX hMJ 0 C T (soTh oJ 1) (by decide) fl_M_97 rfl rfl rfl rfl pf_thrown pa_thrown d_M_say_103 (fun va31 hM31 hf31 => ?_)
          refine v_aload_n hX d_M_say_106 rfl rfl ?_
          refine v_mget hX hM31 0 (v := .int 1) (by decide) fl_M_97 rfl hf_thrown d_M_say_107 ?_
          refine v_if_le hX d_M_say_110 (tgt := 115) (by decide) (fun c => absurd c (by decide)) (fun _ => ?_)
          refine v_iconst (v := 0) hX d_M_say_113 (by decide) ?_
          exact v_iret hX hE d_M_say_114 (Nat.le_of_ble_eq_true rfl) (Nat.le_of_ble_eq_true rfl) ⟨rfl, rfl, rfl, rfl, T, (soTh oJ 1), (Or.inl ⟨fun z => absurd (c66.symm.trans z.2.2.1) (by decide), rfl, rfl⟩), hM31, ⟨hOJ.1.1, hOJ.1.2.1, hOJ.1.2.2.1, hOJ.1.2.2.2.1, (by have q9 := hOJ.1.2.2.2.2; first | exact q9 | omega | (show (ooSm oJ) ≤ 4300; omega))⟩, (hfJ.trans hf31)⟩
  have j39b : ∀ (jt : Nat) (CJ : CT) (oJ : OS) (vaJ : Nat → va_E), ModI cI cB cZ ob CJ T oJ dom loc vaJ → (OI oJ ∧ ooCt oJ = ooCt O) → frM val vaJ → (C = CJ) → (jt < ttN T) → (ttLa T (ttHa T) = nI jt) → (ttK T jt = 10) → V X D CL A dom loc vaJ 0 0 39 [some (.ref (ob 48)), some (.int a), some (.int b), some (.int c), some (.int d), some (.int n), some (.int 0), none, none] [] := by
    intro jt CJ oJ vaJ hMJ hOJ hfJ hCJ hjt hje hk10
    subst hCJ
    have hna : ¬ anM T := by unfold anM; rw [hje, nI_clamp (by omega)]; exact fun z => z.elim (nI_nm1 (by omega)) (fun z => z hk10)
    refine v_aload_n hX d_M_say_39 rfl rfl ?_
    refine v_iload hX d_M_say_40 rfl ?_
    refine v_iconst (v := 1) hX d_M_say_42 (by decide) ?_
    refine v_icmp_lt hX d_M_say_43 (tgt := 69) (by decide) (fun c43 => ?_) (fun c43 => ?_)
    · refine v_iconst (v := 1) hX d_M_say_69 (by decide) ?_
      refine v_goto hX d_M_say_70 (tgt := 103) (by decide) ?_
      refine v_mput hX hMJ 0 C T (soTh oJ 1) (by decide) fl_M_97 rfl rfl rfl rfl pf_thrown pa_thrown d_M_say_103 (fun va32 hM32 hf32 => ?_)
      refine v_aload_n hX d_M_say_106 rfl rfl ?_
      refine v_mget hX hM32 0 (v := .int 1) (by decide) fl_M_97 rfl hf_thrown d_M_say_107 ?_
      refine v_if_le hX d_M_say_110 (tgt := 115) (by decide) (fun c => absurd c (by decide)) (fun _ => ?_)
      refine v_iconst (v := 0) hX d_M_say_113 (by decide) ?_
      exact v_iret hX hE d_M_say_114 (Nat.le_of_ble_eq_true rfl) (Nat.le_of_ble_eq_true rfl) ⟨rfl, rfl, rfl, rfl, T, (soTh oJ 1), (Or.inl ⟨fun z => absurd c43 (Int32.not_lt.mpr z.1), rfl, rfl⟩), hM32, ⟨hOJ.1.1, hOJ.1.2.1, hOJ.1.2.2.1, hOJ.1.2.2.2.1, (by have q9 := hOJ.1.2.2.2.2; first | exact q9 | omega | (show (ooSm oJ) ≤ 4300; omega))⟩, (hfJ.trans hf32)⟩
    · refine v_iload hX d_M_say_46 rfl ?_
      refine v_iconst (v := 4) hX d_M_say_48 (by decide) ?_
      refine v_icmp_gt hX d_M_say_49 (tgt := 69) (by decide) (fun c49 => ?_) (fun c49 => ?_)
      · refine v_iconst (v := 1) hX d_M_say_69 (by decide) ?_
        refine v_goto hX d_M_say_70 (tgt := 103) (by decide) ?_
        refine v_mput hX hMJ 0 C T (soTh oJ 1) (by decide) fl_M_97 rfl rfl rfl rfl pf_thrown pa_thrown d_M_say_103 (fun va33 hM33 hf33 => ?_)
        refine v_aload_n hX d_M_say_106 rfl rfl ?_
        refine v_mget hX hM33 0 (v := .int 1) (by decide) fl_M_97 rfl hf_thrown d_M_say_107 ?_
        refine v_if_le hX d_M_say_110 (tgt := 115) (by decide) (fun c => absurd c (by decide)) (fun _ => ?_)
        refine v_iconst (v := 0) hX d_M_say_113 (by decide) ?_
        exact v_iret hX hE d_M_say_114 (Nat.le_of_ble_eq_true rfl) (Nat.le_of_ble_eq_true rfl) ⟨rfl, rfl, rfl, rfl, T, (soTh oJ 1), (Or.inl ⟨fun z => absurd c49 (Int32.not_lt.mpr z.2.1), rfl, rfl⟩), hM33, ⟨hOJ.1.1, hOJ.1.2.1, hOJ.1.2.2.1, hOJ.1.2.2.2.1, (by have q9 := hOJ.1.2.2.2.2; first | exact q9 | omega | (show (ooSm oJ) ≤ 4300; omega))⟩, (hfJ.trans hf33)⟩
      · refine v_aload_n hX d_M_say_52 rfl rfl ?_
        refine v_mget hX hMJ 1 (v := .ref (ob 49)) (by decide) fl_M_7 rfl rfl d_M_say_53 ?_
        refine v_aload_n hX d_M_say_56 rfl rfl ?_
        refine v_mget hX hMJ 11 (v := .int (nI (ttHa T))) (by decide) fl_M_107 rfl gf_hand d_M_say_57 ?_
        refine v_mild hX hMJ 0 (i := (ttHa T)) (v := ((ttK T) (ttHa T))) ga_kind (by omega) (by decide) rfl d_M_say_60 ?_
        refine v_bipush (v := 10) hX d_M_say_61 (by decide) ?_
        refine c_S hX (rest := [.ref (ob 48)]) hl (c_M_mayHold ((ttK T) (ttHa T)) 10) ml_M_132 sm_M_mayHold in_M cd_M_mayHold rfl q_M_mayHold ⟨(Nat.le_of_ble_eq_true rfl), (Nat.le_of_ble_eq_true rfl)⟩ rfl rfl rfl (Nat.le_of_ble_eq_true rfl) d_M_say_63 ⟨(Nat.le_of_ble_eq_true rfl), (Nat.le_of_ble_eq_true rfl)⟩ (fun rv d2 lo2 va2 kc ns hp => ?_)
        obtain ⟨rfl, rfl, rfl, rfl, rfl, rfl⟩ := hp
        show V X D CL A _ _ _ _ _ _ _ (.int (mh ((ttK T) (ttHa T)) 10) :: [.ref (ob 48)])
        refine v_if_ne hX d_M_say_66 (tgt := 73) (by decide) (fun c66 => ?_) (fun c66 => ?_)
        · obtain ⟨nn, hn1, hn2, rfl⟩ := n_nat c43 c49
          refine v_aload_n hX d_M_say_73 rfl rfl ?_
          refine v_mget hX hMJ 10 (v := .int (nI (ttCh T))) (by decide) fl_M_104 rfl gf_characters d_M_say_74 ?_
          refine v_iload hX d_M_say_77 rfl ?_
          refine v_iaddE (v := nI ((ttCh T) + nn)) hX d_M_say_79 (nI_add (ttCh T) nn) ?_
          refine v_sipush (v := 4000) hX d_M_say_80 (by decide) ?_
          refine v_icmp_gt hX d_M_say_83 (tgt := 98) (by decide) (fun c83 => ?_) (fun c83 => ?_)
          · have f83 : 4000 < ((ttCh T) + nn) := (nI_ltI (a := 4000) (b := ((ttCh T) + nn)) (by omega) (by omega)).mp c83
            refine v_iconst (v := 2) hX d_M_say_98 (by decide) ?_
            refine v_goto hX d_M_say_99 (tgt := 103) (by decide) ?_
            refine v_mput hX hMJ 0 C T (soTh oJ 2) (by decide) fl_M_97 rfl rfl rfl rfl pf_thrown pa_thrown d_M_say_103 (fun va34 hM34 hf34 => ?_)
            refine v_aload_n hX d_M_say_106 rfl rfl ?_
            refine v_mget hX hM34 0 (v := .int 2) (by decide) fl_M_97 rfl hf_thrown d_M_say_107 ?_
            refine v_if_le hX d_M_say_110 (tgt := 115) (by decide) (fun c => absurd c (by decide)) (fun _ => ?_)
            refine v_iconst (v := 0) hX d_M_say_113 (by decide) ?_
            exact v_iret hX hE d_M_say_114 (Nat.le_of_ble_eq_true rfl) (Nat.le_of_ble_eq_true rfl) ⟨rfl, rfl, rfl, rfl, T, (soTh oJ 2), (Or.inl ⟨fun z => by have q1 := z.2.2.2.1; rw [nI_clamp (by omega)] at q1; omega, rfl, rfl⟩), hM34, ⟨hOJ.1.1, hOJ.1.2.1, hOJ.1.2.2.1, hOJ.1.2.2.2.1, (by have q9 := hOJ.1.2.2.2.2; first | exact q9 | omega | (show (ooSm oJ) ≤ 4300; omega))⟩, (hfJ.trans hf34)⟩
          · have f83 : ¬ 4000 < ((ttCh T) + nn) := fun z => c83 ((nI_ltI (a := 4000) (b := ((ttCh T) + nn)) (by omega) (by omega)).mpr z)
            refine v_iload hX d_M_say_86 rfl ?_
            refine v_if_eq hX d_M_say_88 (tgt := 102) (by decide) (fun _ => ?_) (fun c => absurd (by decide) c)
            refine v_iconst (v := 0) hX d_M_say_102 (by decide) ?_
            refine v_mput hX hMJ 0 C T (soTh oJ 0) (by decide) fl_M_97 rfl rfl rfl rfl pf_thrown pa_thrown d_M_say_103 (fun va35 hM35 hf35 => ?_)
            refine v_aload_n hX d_M_say_106 rfl rfl ?_
            refine v_mget hX hM35 0 (v := .int 0) (by decide) fl_M_97 rfl hf_thrown d_M_say_107 ?_
            refine v_if_le hX d_M_say_110 (tgt := 115) (by decide) (fun _ => ?_) (fun c => absurd (by decide) c)
            have hsy : syM T (nI nn) := ⟨Int32.not_lt.mp c43, Int32.not_lt.mp c49, (mh_01 _ _).resolve_left c66, by rw [nI_clamp (by omega)]; omega, fun z => absurd z hna⟩
            refine v_iload hX d_M_say_115 rfl ?_
            refine v_if_eq hX d_M_say_117 (tgt := 130) (by decide) (fun _ => ?_) (fun c => absurd (by decide) c)
            refine v_aload_n hX d_M_say_130 rfl rfl ?_
            refine v_mget hX hM35 7 (v := .ref (ob 55)) (by decide) fl_M_28 rfl rfl d_M_say_131 ?_
            refine v_aload_n hX d_M_say_134 rfl rfl ?_
            refine v_mget hX hM35 11 (v := .int (nI (ttHa T))) (by decide) fl_M_107 rfl ((nf_thrown 11 (by decide)).trans gf_hand) d_M_say_135 ?_
            refine v_mild hX hM35 6 (i := (ttHa T)) (v := (nI jt)) ((na_thrown 6).trans ga_lastIn) (by omega) (by decide) hje d_M_say_138 ?_
            refine v_istore (lv' := [some (.ref (ob 48)), some (.int a), some (.int b), some (.int c), some (.int d), some (.int (nI nn)), some (.int 0), some (.int (nI jt)), none]) hX d_M_say_139 (Nat.le_of_ble_eq_true rfl) rfl ?_
            refine v_iconst (v := 0) hX d_M_say_141 (by decide) ?_
            refine v_istore (lv' := [some (.ref (ob 48)), some (.int a), some (.int b), some (.int c), some (.int d), some (.int (nI nn)), some (.int 0), some (.int (nI jt)), some (.int 0)]) hX d_M_say_142 (Nat.le_of_ble_eq_true rfl) rfl ?_
            have h4 : nn = 1 ∨ nn = 2 ∨ nn = 3 ∨ nn = 4 := by omega
            rcases h4 with rfl | rfl | rfl | rfl
            · refine v_iload hX d_M_say_144 rfl ?_
              refine v_iload hX d_M_say_146 rfl ?_
              refine v_icmp_ge hX d_M_say_148 (tgt := 208) (by decide) (fun c => absurd c (by decide)) (fun _ => ?_)
              refine v_aload_n hX d_M_say_151 rfl rfl ?_
              refine v_mget hX hM35 8 (v := .ref (ob 56)) (by decide) fl_M_31 rfl rfl d_M_say_152 ?_
              refine v_aload_n hX d_M_say_155 rfl rfl ?_
              refine v_mget hX hM35 10 (v := .int (nI (ttCh T))) (by decide) fl_M_104 rfl ((nf_thrown 10 (by decide)).trans gf_characters) d_M_say_156 ?_
              refine v_iload hX d_M_say_159 rfl ?_
              refine v_if_ne hX d_M_say_161 (tgt := 168) (by decide) (fun c => absurd (by decide) c) (fun _ => ?_)
              refine v_iload_n hX d_M_say_164 rfl rfl ?_
              refine v_goto hX d_M_say_165 (tgt := 190) (by decide) ?_
              refine v_i2b hX d_M_say_190 rfl ?_
              refine v_mbst hX hM35 7 C (sxTe T (upd (ttTe T) (ttCh T) (vp_nar .byte ((a : Int32).toInt8.toInt32)))) (soTh oJ 0) (i := (ttCh T)) (by decide) ((na_thrown 7).trans ga_text) (by omega) (by decide) qf_text qa_text d_M_say_191 (fun va36 hM36 hf36 => ?_)
              refine v_aload_n hX d_M_say_192 rfl rfl ?_
              refine v_dup hX d_M_say_193 rfl ?_
              refine v_mget hX hM36 10 (v := .int (nI (ttCh T))) (by decide) fl_M_104 rfl ((nf_text 10).trans ((nf_thrown 10 (by decide)).trans gf_characters)) d_M_say_194 ?_
              refine v_iconst (v := 1) hX d_M_say_197 (by decide) ?_
              refine v_iaddE (v := nI ((ttCh T) + 1)) hX d_M_say_198 (nI_add (ttCh T) 1) ?_
              refine v_mput hX hM36 10 C (sxCh (sxTe T (upd (ttTe T) (ttCh T) (vp_nar .byte ((a : Int32).toInt8.toInt32)))) ((ttCh T) + 1)) (soTh oJ 0) (by decide) fl_M_104 rfl rfl rfl rfl pf_characters pa_characters d_M_say_199 (fun va37 hM37 hf37 => ?_)
              refine v_iinc (y := 1) (lv' := [some (.ref (ob 48)), some (.int a), some (.int b), some (.int c), some (.int d), some (.int (nI 1)), some (.int 0), some (.int (nI jt)), some (.int 1)]) hX d_M_say_202 rfl (by decide) rfl ?_
              refine v_goto hX d_M_say_205 (tgt := 144) (by decide) ?_
              refine v_iload hX d_M_say_144 rfl ?_
              refine v_iload hX d_M_say_146 rfl ?_
              refine v_icmp_ge hX d_M_say_148 (tgt := 208) (by decide) (fun _ => ?_) (fun c => absurd (by decide) c)
              refine v_aload_n hX d_M_say_208 rfl rfl ?_
              refine v_mget hX hM37 6 (v := .ref (ob 54)) (by decide) fl_M_25 rfl rfl d_M_say_209 ?_
              refine v_iload hX d_M_say_212 rfl ?_
              refine v_dup2 hX d_M_say_214 rfl rfl ?_
              refine v_mild hX hM37 5 (i := jt) (v := (nI ((ttMa T) jt))) ((na_characters 5).trans ((na_text 5 (by decide)).trans ((na_thrown 5).trans ga_many))) (by omega) (by decide) rfl d_M_say_215 ?_
              refine v_iload hX d_M_say_216 rfl ?_
              refine v_iaddE (v := nI (((ttMa T) jt) + 1)) hX d_M_say_218 (nI_add ((ttMa T) jt) 1) ?_
              refine v_mist hX hM37 5 C (sxMa (sxCh (sxTe T (upd (ttTe T) (ttCh T) (vp_nar .byte ((a : Int32).toInt8.toInt32)))) ((ttCh T) + 1)) (updN (ttMa T) jt (((ttMa T) jt) + 1))) (soTh oJ 0) (i := jt) (by decide) ((na_characters 5).trans ((na_text 5 (by decide)).trans ((na_thrown 5).trans ga_many))) (by omega) (by decide) qf_many ((congrArg (fun f9 => (mar cI cB cZ C (sxCh (sxTe T (upd (ttTe T) (ttCh T) (vp_nar .byte ((a : Int32).toInt8.toInt32)))) ((ttCh T) + 1)) (soTh oJ 0)).set 5 (.inl (cI, 300, .inl f9))) (updN_nI (f := (ttMa T)) (k := jt) (x := (((ttMa T) jt) + 1)))).trans qa_many) d_M_say_219 (fun va38 hM38 hf38 => ?_)
              refine v_iload hX d_M_say_220 rfl ?_
              exact v_iret hX hE d_M_say_222 (Nat.le_of_ble_eq_true rfl) (Nat.le_of_ble_eq_true rfl) ⟨rfl, rfl, rfl, rfl, (tlT T (upd (ttTe T) (ttCh T) (vp_nar .byte ((a : Int32).toInt8.toInt32))) jt 1), (soTh oJ 0), (Or.inr ⟨hsy, (upd (ttTe T) (ttCh T) (vp_nar .byte ((a : Int32).toInt8.toInt32))), 1, jt, ⟨rfl, by omega, by omega⟩, rfl, Or.inr ⟨hna, hjt, hje, hk10, rfl⟩⟩), (by have h9 := hM38; skip; exact h9.tl rfl), ⟨hOJ.1.1, hOJ.1.2.1, hOJ.1.2.2.1, hOJ.1.2.2.2.1, (by have q9 := hOJ.1.2.2.2.2; first | exact q9 | omega | (show (ooSm oJ) ≤ 4300; omega))⟩, ((((hfJ.trans hf35).trans hf36).trans hf37).trans hf38)⟩
            · refine v_iload hX d_M_say_144 rfl ?_
              refine v_iload hX d_M_say_146 rfl ?_
              refine v_icmp_ge hX d_M_say_148 (tgt := 208) (by decide) (fun c => absurd c (by decide)) (fun _ => ?_)
              refine v_aload_n hX d_M_say_151 rfl rfl ?_
              refine v_mget hX hM35 8 (v := .ref (ob 56)) (by decide) fl_M_31 rfl rfl d_M_say_152 ?_
              refine v_aload_n hX d_M_say_155 rfl rfl ?_
              refine v_mget hX hM35 10 (v := .int (nI (ttCh T))) (by decide) fl_M_104 rfl ((nf_thrown 10 (by decide)).trans gf_characters) d_M_say_156 ?_
              refine v_iload hX d_M_say_159 rfl ?_
              refine v_if_ne hX d_M_say_161 (tgt := 168) (by decide) (fun c => absurd (by decide) c) (fun _ => ?_)
              refine v_iload_n hX d_M_say_164 rfl rfl ?_
              refine v_goto hX d_M_say_165 (tgt := 190) (by decide) ?_
              refine v_i2b hX d_M_say_190 rfl ?_
              refine v_mbst hX hM35 7 C (sxTe T (upd (ttTe T) (ttCh T) (vp_nar .byte ((a : Int32).toInt8.toInt32)))) (soTh oJ 0) (i := (ttCh T)) (by decide) ((na_thrown 7).trans ga_text) (by omega) (by decide) qf_text qa_text d_M_say_191 (fun va39 hM39 hf39 => ?_)
              refine v_aload_n hX d_M_say_192 rfl rfl ?_
              refine v_dup hX d_M_say_193 rfl ?_
              refine v_mget hX hM39 10 (v := .int (nI (ttCh T))) (by decide) fl_M_104 rfl ((nf_text 10).trans ((nf_thrown 10 (by decide)).trans gf_characters)) d_M_say_194 ?_
              refine v_iconst (v := 1) hX d_M_say_197 (by decide) ?_
              refine v_iaddE (v := nI ((ttCh T) + 1)) hX d_M_say_198 (nI_add (ttCh T) 1) ?_
              refine v_mput hX hM39 10 C (sxCh (sxTe T (upd (ttTe T) (ttCh T) (vp_nar .byte ((a : Int32).toInt8.toInt32)))) ((ttCh T) + 1)) (soTh oJ 0) (by decide) fl_M_104 rfl rfl rfl rfl pf_characters pa_characters d_M_say_199 (fun va40 hM40 hf40 => ?_)
              refine v_iinc (y := 1) (lv' := [some (.ref (ob 48)), some (.int a), some (.int b), some (.int c), some (.int d), some (.int (nI 2)), some (.int 0), some (.int (nI jt)), some (.int 1)]) hX d_M_say_202 rfl (by decide) rfl ?_
              refine v_goto hX d_M_say_205 (tgt := 144) (by decide) ?_
              refine v_iload hX d_M_say_144 rfl ?_
              refine v_iload hX d_M_say_146 rfl ?_
              refine v_icmp_ge hX d_M_say_148 (tgt := 208) (by decide) (fun c => absurd c (by decide)) (fun _ => ?_)
              refine v_aload_n hX d_M_say_151 rfl rfl ?_
              refine v_mget hX hM40 8 (v := .ref (ob 56)) (by decide) fl_M_31 rfl rfl d_M_say_152 ?_
              refine v_aload_n hX d_M_say_155 rfl rfl ?_
              refine v_mget hX hM40 10 (v := .int (nI ((ttCh T) + 1))) (by decide) fl_M_104 rfl ((nf_thrown 10 (by decide)).trans hf_characters) d_M_say_156 ?_
              refine v_iload hX d_M_say_159 rfl ?_
              refine v_if_ne hX d_M_say_161 (tgt := 168) (by decide) (fun _ => ?_) (fun c => absurd c (by decide))
              refine v_iload hX d_M_say_168 rfl ?_
              refine v_iconst (v := 1) hX d_M_say_170 (by decide) ?_
              refine v_icmp_ne hX d_M_say_171 (tgt := 178) (by decide) (fun c => absurd (by decide) c) (fun _ => ?_)
              refine v_iload_n hX d_M_say_174 rfl rfl ?_
              refine v_goto hX d_M_say_175 (tgt := 190) (by decide) ?_
              refine v_i2b hX d_M_say_190 rfl ?_
              refine v_mbst hX hM40 7 C (sxTe (sxCh (sxTe T (upd (ttTe T) (ttCh T) (vp_nar .byte ((a : Int32).toInt8.toInt32)))) ((ttCh T) + 1)) (upd (upd (ttTe T) (ttCh T) (vp_nar .byte ((a : Int32).toInt8.toInt32))) ((ttCh T) + 1) (vp_nar .byte ((b : Int32).toInt8.toInt32)))) (soTh oJ 0) (i := ((ttCh T) + 1)) (by decide) ((na_characters 7).trans ((na_thrown 7).trans ha_text)) (by omega) (by decide) qf_text qa_text d_M_say_191 (fun va41 hM41 hf41 => ?_)
              refine v_aload_n hX d_M_say_192 rfl rfl ?_
              refine v_dup hX d_M_say_193 rfl ?_
              refine v_mget hX hM41 10 (v := .int (nI ((ttCh T) + 1))) (by decide) fl_M_104 rfl ((nf_text 10).trans ((nf_thrown 10 (by decide)).trans hf_characters)) d_M_say_194 ?_
              refine v_iconst (v := 1) hX d_M_say_197 (by decide) ?_
              refine v_iaddE (v := nI (((ttCh T) + 1) + 1)) hX d_M_say_198 (nI_add ((ttCh T) + 1) 1) ?_
              refine v_mput hX hM41 10 C (sxCh (sxTe (sxCh (sxTe T (upd (ttTe T) (ttCh T) (vp_nar .byte ((a : Int32).toInt8.toInt32)))) ((ttCh T) + 1)) (upd (upd (ttTe T) (ttCh T) (vp_nar .byte ((a : Int32).toInt8.toInt32))) ((ttCh T) + 1) (vp_nar .byte ((b : Int32).toInt8.toInt32)))) (((ttCh T) + 1) + 1)) (soTh oJ 0) (by decide) fl_M_104 rfl rfl rfl rfl pf_characters pa_characters d_M_say_199 (fun va42 hM42 hf42 => ?_)
              refine v_iinc (y := 2) (lv' := [some (.ref (ob 48)), some (.int a), some (.int b), some (.int c), some (.int d), some (.int (nI 2)), some (.int 0), some (.int (nI jt)), some (.int 2)]) hX d_M_say_202 rfl (by decide) rfl ?_
              refine v_goto hX d_M_say_205 (tgt := 144) (by decide) ?_
              refine v_iload hX d_M_say_144 rfl ?_
              refine v_iload hX d_M_say_146 rfl ?_
              refine v_icmp_ge hX d_M_say_148 (tgt := 208) (by decide) (fun _ => ?_) (fun c => absurd (by decide) c)
              refine v_aload_n hX d_M_say_208 rfl rfl ?_
              refine v_mget hX hM42 6 (v := .ref (ob 54)) (by decide) fl_M_25 rfl rfl d_M_say_209 ?_
              refine v_iload hX d_M_say_212 rfl ?_
              refine v_dup2 hX d_M_say_214 rfl rfl ?_
              refine v_mild hX hM42 5 (i := jt) (v := (nI ((ttMa T) jt))) ((na_characters 5).trans ((na_text 5 (by decide)).trans ((na_characters 5).trans ((na_text 5 (by decide)).trans ((na_thrown 5).trans ga_many))))) (by omega) (by decide) rfl d_M_say_215 ?_
              refine v_iload hX d_M_say_216 rfl ?_
              refine v_iaddE (v := nI (((ttMa T) jt) + 2)) hX d_M_say_218 (nI_add ((ttMa T) jt) 2) ?_
              refine v_mist hX hM42 5 C (sxMa (sxCh (sxTe (sxCh (sxTe T (upd (ttTe T) (ttCh T) (vp_nar .byte ((a : Int32).toInt8.toInt32)))) ((ttCh T) + 1)) (upd (upd (ttTe T) (ttCh T) (vp_nar .byte ((a : Int32).toInt8.toInt32))) ((ttCh T) + 1) (vp_nar .byte ((b : Int32).toInt8.toInt32)))) (((ttCh T) + 1) + 1)) (updN (ttMa T) jt (((ttMa T) jt) + 2))) (soTh oJ 0) (i := jt) (by decide) ((na_characters 5).trans ((na_text 5 (by decide)).trans ((na_characters 5).trans ((na_text 5 (by decide)).trans ((na_thrown 5).trans ga_many))))) (by omega) (by decide) qf_many ((congrArg (fun f9 => (mar cI cB cZ C (sxCh (sxTe (sxCh (sxTe T (upd (ttTe T) (ttCh T) (vp_nar .byte ((a : Int32).toInt8.toInt32)))) ((ttCh T) + 1)) (upd (upd (ttTe T) (ttCh T) (vp_nar .byte ((a : Int32).toInt8.toInt32))) ((ttCh T) + 1) (vp_nar .byte ((b : Int32).toInt8.toInt32)))) (((ttCh T) + 1) + 1)) (soTh oJ 0)).set 5 (.inl (cI, 300, .inl f9))) (updN_nI (f := (ttMa T)) (k := jt) (x := (((ttMa T) jt) + 2)))).trans qa_many) d_M_say_219 (fun va43 hM43 hf43 => ?_)
              refine v_iload hX d_M_say_220 rfl ?_
              exact v_iret hX hE d_M_say_222 (Nat.le_of_ble_eq_true rfl) (Nat.le_of_ble_eq_true rfl) ⟨rfl, rfl, rfl, rfl, (tlT T (upd (upd (ttTe T) (ttCh T) (vp_nar .byte ((a : Int32).toInt8.toInt32))) ((ttCh T) + 1) (vp_nar .byte ((b : Int32).toInt8.toInt32))) jt 2), (soTh oJ 0), (Or.inr ⟨hsy, (upd (upd (ttTe T) (ttCh T) (vp_nar .byte ((a : Int32).toInt8.toInt32))) ((ttCh T) + 1) (vp_nar .byte ((b : Int32).toInt8.toInt32))), 2, jt, ⟨rfl, by omega, by omega⟩, rfl, Or.inr ⟨hna, hjt, hje, hk10, rfl⟩⟩), (by have h9 := hM43; rw [tlc] at h9; exact h9.tl rfl), ⟨hOJ.1.1, hOJ.1.2.1, hOJ.1.2.2.1, hOJ.1.2.2.2.1, (by have q9 := hOJ.1.2.2.2.2; first | exact q9 | omega | (show (ooSm oJ) ≤ 4300; omega))⟩, ((((((hfJ.trans hf35).trans hf39).trans hf40).trans hf41).trans hf42).trans hf43)⟩
            · refine v_iload hX d_M_say_144 rfl ?_
              refine v_iload hX d_M_say_146 rfl ?_
              refine v_icmp_ge hX d_M_say_148 (tgt := 208) (by decide) (fun c => absurd c (by decide)) (fun _ => ?_)
              refine v_aload_n hX d_M_say_151 rfl rfl ?_
              refine v_mget hX hM35 8 (v := .ref (ob 56)) (by decide) fl_M_31 rfl rfl d_M_say_152 ?_
              refine v_aload_n hX d_M_say_155 rfl rfl ?_
              refine v_mget hX hM35 10 (v := .int (nI (ttCh T))) (by decide) fl_M_104 rfl ((nf_thrown 10 (by decide)).trans gf_characters) d_M_say_156 ?_
              refine v_iload hX d_M_say_159 rfl ?_
              refine v_if_ne hX d_M_say_161 (tgt := 168) (by decide) (fun c => absurd (by decide) c) (fun _ => ?_)
              refine v_iload_n hX d_M_say_164 rfl rfl ?_
              refine v_goto hX d_M_say_165 (tgt := 190) (by decide) ?_
              refine v_i2b hX d_M_say_190 rfl ?_
              refine v_mbst hX hM35 7 C (sxTe T (upd (ttTe T) (ttCh T) (vp_nar .byte ((a : Int32).toInt8.toInt32)))) (soTh oJ 0) (i := (ttCh T)) (by decide) ((na_thrown 7).trans ga_text) (by omega) (by decide) qf_text qa_text d_M_say_191 (fun va44 hM44 hf44 => ?_)
              refine v_aload_n hX d_M_say_192 rfl rfl ?_
              refine v_dup hX d_M_say_193 rfl ?_
              refine v_mget hX hM44 10 (v := .int (nI (ttCh T))) (by decide) fl_M_104 rfl ((nf_text 10).trans ((nf_thrown 10 (by decide)).trans gf_characters)) d_M_say_194 ?_
              refine v_iconst (v := 1) hX d_M_say_197 (by decide) ?_
              refine v_iaddE (v := nI ((ttCh T) + 1)) hX d_M_say_198 (nI_add (ttCh T) 1) ?_
              refine v_mput hX hM44 10 C (sxCh (sxTe T (upd (ttTe T) (ttCh T) (vp_nar .byte ((a : Int32).toInt8.toInt32)))) ((ttCh T) + 1)) (soTh oJ 0) (by decide) fl_M_104 rfl rfl rfl rfl pf_characters pa_characters d_M_say_199 (fun va45 hM45 hf45 => ?_)
              refine v_iinc (y := 1) (lv' := [some (.ref (ob 48)), some (.int a), some (.int b), some (.int c), some (.int d), some (.int (nI 3)), some (.int 0), some (.int (nI jt)), some (.int 1)]) hX d_M_say_202 rfl (by decide) rfl ?_
              refine v_goto hX d_M_say_205 (tgt := 144) (by decide) ?_
              refine v_iload hX d_M_say_144 rfl ?_
              refine v_iload hX d_M_say_146 rfl ?_
              refine v_icmp_ge hX d_M_say_148 (tgt := 208) (by decide) (fun c => absurd c (by decide)) (fun _ => ?_)
              refine v_aload_n hX d_M_say_151 rfl rfl ?_
              refine v_mget hX hM45 8 (v := .ref (ob 56)) (by decide) fl_M_31 rfl rfl d_M_say_152 ?_
              refine v_aload_n hX d_M_say_155 rfl rfl ?_
              refine v_mget hX hM45 10 (v := .int (nI ((ttCh T) + 1))) (by decide) fl_M_104 rfl ((nf_thrown 10 (by decide)).trans hf_characters) d_M_say_156 ?_
              refine v_iload hX d_M_say_159 rfl ?_
              refine v_if_ne hX d_M_say_161 (tgt := 168) (by decide) (fun _ => ?_) (fun c => absurd c (by decide))
              refine v_iload hX d_M_say_168 rfl ?_
              refine v_iconst (v := 1) hX d_M_say_170 (by decide) ?_
              refine v_icmp_ne hX d_M_say_171 (tgt := 178) (by decide) (fun c => absurd (by decide) c) (fun _ => ?_)
              refine v_iload_n hX d_M_say_174 rfl rfl ?_
              refine v_goto hX d_M_say_175 (tgt := 190) (by decide) ?_
              refine v_i2b hX d_M_say_190 rfl ?_
              refine v_mbst hX hM45 7 C (sxTe (sxCh (sxTe T (upd (ttTe T) (ttCh T) (vp_nar .byte ((a : Int32).toInt8.toInt32)))) ((ttCh T) + 1)) (upd (upd (ttTe T) (ttCh T) (vp_nar .byte ((a : Int32).toInt8.toInt32))) ((ttCh T) + 1) (vp_nar .byte ((b : Int32).toInt8.toInt32)))) (soTh oJ 0) (i := ((ttCh T) + 1)) (by decide) ((na_characters 7).trans ((na_thrown 7).trans ha_text)) (by omega) (by decide) qf_text qa_text d_M_say_191 (fun va46 hM46 hf46 => ?_)
              refine v_aload_n hX d_M_say_192 rfl rfl ?_
              refine v_dup hX d_M_say_193 rfl ?_
              refine v_mget hX hM46 10 (v := .int (nI ((ttCh T) + 1))) (by decide) fl_M_104 rfl ((nf_text 10).trans ((nf_thrown 10 (by decide)).trans hf_characters)) d_M_say_194 ?_
              refine v_iconst (v := 1) hX d_M_say_197 (by decide) ?_
              refine v_iaddE (v := nI (((ttCh T) + 1) + 1)) hX d_M_say_198 (nI_add ((ttCh T) + 1) 1) ?_
              refine v_mput hX hM46 10 C (sxCh (sxTe (sxCh (sxTe T (upd (ttTe T) (ttCh T) (vp_nar .byte ((a : Int32).toInt8.toInt32)))) ((ttCh T) + 1)) (upd (upd (ttTe T) (ttCh T) (vp_nar .byte ((a : Int32).toInt8.toInt32))) ((ttCh T) + 1) (vp_nar .byte ((b : Int32).toInt8.toInt32)))) (((ttCh T) + 1) + 1)) (soTh oJ 0) (by decide) fl_M_104 rfl rfl rfl rfl pf_characters pa_characters d_M_say_199 (fun va47 hM47 hf47 => ?_)
              refine v_iinc (y := 2) (lv' := [some (.ref (ob 48)), some (.int a), some (.int b), some (.int c), some (.int d), some (.int (nI 3)), some (.int 0), some (.int (nI jt)), some (.int 2)]) hX d_M_say_202 rfl (by decide) rfl ?_
              refine v_goto hX d_M_say_205 (tgt := 144) (by decide) ?_
              refine v_iload hX d_M_say_144 rfl ?_
              refine v_iload hX d_M_say_146 rfl ?_
              refine v_icmp_ge hX d_M_say_148 (tgt := 208) (by decide) (fun c => absurd c (by decide)) (fun _ => ?_)
              refine v_aload_n hX d_M_say_151 rfl rfl ?_
              refine v_mget hX hM47 8 (v := .ref (ob 56)) (by decide) fl_M_31 rfl rfl d_M_say_152 ?_
              refine v_aload_n hX d_M_say_155 rfl rfl ?_
              refine v_mget hX hM47 10 (v := .int (nI (((ttCh T) + 1) + 1))) (by decide) fl_M_104 rfl ((nf_thrown 10 (by decide)).trans hf_characters) d_M_say_156 ?_
              refine v_iload hX d_M_say_159 rfl ?_
              refine v_if_ne hX d_M_say_161 (tgt := 168) (by decide) (fun _ => ?_) (fun c => absurd c (by decide))
              refine v_iload hX d_M_say_168 rfl ?_
              refine v_iconst (v := 1) hX d_M_say_170 (by decide) ?_
              refine v_icmp_ne hX d_M_say_171 (tgt := 178) (by decide) (fun _ => ?_) (fun c => absurd c (by decide))
              refine v_iload hX d_M_say_178 rfl ?_
              refine v_iconst (v := 2) hX d_M_say_180 (by decide) ?_
              refine v_icmp_ne hX d_M_say_181 (tgt := 188) (by decide) (fun c => absurd (by decide) c) (fun _ => ?_)
              refine v_iload_n hX d_M_say_184 rfl rfl ?_
              refine v_goto hX d_M_say_185 (tgt := 190) (by decide) ?_
              refine v_i2b hX d_M_say_190 rfl ?_
              refine v_mbst hX hM47 7 C (sxTe (sxCh (sxTe (sxCh (sxTe T (upd (ttTe T) (ttCh T) (vp_nar .byte ((a : Int32).toInt8.toInt32)))) ((ttCh T) + 1)) (upd (upd (ttTe T) (ttCh T) (vp_nar .byte ((a : Int32).toInt8.toInt32))) ((ttCh T) + 1) (vp_nar .byte ((b : Int32).toInt8.toInt32)))) (((ttCh T) + 1) + 1)) (upd (upd (upd (ttTe T) (ttCh T) (vp_nar .byte ((a : Int32).toInt8.toInt32))) ((ttCh T) + 1) (vp_nar .byte ((b : Int32).toInt8.toInt32))) (((ttCh T) + 1) + 1) (vp_nar .byte ((c : Int32).toInt8.toInt32)))) (soTh oJ 0) (i := (((ttCh T) + 1) + 1)) (by decide) ((na_characters 7).trans ((na_thrown 7).trans ha_text)) (by omega) (by decide) qf_text qa_text d_M_say_191 (fun va48 hM48 hf48 => ?_)
              refine v_aload_n hX d_M_say_192 rfl rfl ?_
              refine v_dup hX d_M_say_193 rfl ?_
              refine v_mget hX hM48 10 (v := .int (nI (((ttCh T) + 1) + 1))) (by decide) fl_M_104 rfl ((nf_text 10).trans ((nf_thrown 10 (by decide)).trans hf_characters)) d_M_say_194 ?_
              refine v_iconst (v := 1) hX d_M_say_197 (by decide) ?_
              refine v_iaddE (v := nI ((((ttCh T) + 1) + 1) + 1)) hX d_M_say_198 (nI_add (((ttCh T) + 1) + 1) 1) ?_
              refine v_mput hX hM48 10 C (sxCh (sxTe (sxCh (sxTe (sxCh (sxTe T (upd (ttTe T) (ttCh T) (vp_nar .byte ((a : Int32).toInt8.toInt32)))) ((ttCh T) + 1)) (upd (upd (ttTe T) (ttCh T) (vp_nar .byte ((a : Int32).toInt8.toInt32))) ((ttCh T) + 1) (vp_nar .byte ((b : Int32).toInt8.toInt32)))) (((ttCh T) + 1) + 1)) (upd (upd (upd (ttTe T) (ttCh T) (vp_nar .byte ((a : Int32).toInt8.toInt32))) ((ttCh T) + 1) (vp_nar .byte ((b : Int32).toInt8.toInt32))) (((ttCh T) + 1) + 1) (vp_nar .byte ((c : Int32).toInt8.toInt32)))) ((((ttCh T) + 1) + 1) + 1)) (soTh oJ 0) (by decide) fl_M_104 rfl rfl rfl rfl pf_characters pa_characters d_M_say_199 (fun va49 hM49 hf49 => ?_)
              refine v_iinc (y := 3) (lv' := [some (.ref (ob 48)), some (.int a), some (.int b), some (.int c), some (.int d), some (.int (nI 3)), some (.int 0), some (.int (nI jt)), some (.int 3)]) hX d_M_say_202 rfl (by decide) rfl ?_
              refine v_goto hX d_M_say_205 (tgt := 144) (by decide) ?_
              refine v_iload hX d_M_say_144 rfl ?_
              refine v_iload hX d_M_say_146 rfl ?_
              refine v_icmp_ge hX d_M_say_148 (tgt := 208) (by decide) (fun _ => ?_) (fun c => absurd (by decide) c)
              refine v_aload_n hX d_M_say_208 rfl rfl ?_
              refine v_mget hX hM49 6 (v := .ref (ob 54)) (by decide) fl_M_25 rfl rfl d_M_say_209 ?_
              refine v_iload hX d_M_say_212 rfl ?_
              refine v_dup2 hX d_M_say_214 rfl rfl ?_
              refine v_mild hX hM49 5 (i := jt) (v := (nI ((ttMa T) jt))) ((na_characters 5).trans ((na_text 5 (by decide)).trans ((na_characters 5).trans ((na_text 5 (by decide)).trans ((na_characters 5).trans ((na_text 5 (by decide)).trans ((na_thrown 5).trans ga_many))))))) (by omega) (by decide) rfl d_M_say_215 ?_
              refine v_iload hX d_M_say_216 rfl ?_
              refine v_iaddE (v := nI (((ttMa T) jt) + 3)) hX d_M_say_218 (nI_add ((ttMa T) jt) 3) ?_
              refine v_mist hX hM49 5 C (sxMa (sxCh (sxTe (sxCh (sxTe (sxCh (sxTe T (upd (ttTe T) (ttCh T) (vp_nar .byte ((a : Int32).toInt8.toInt32)))) ((ttCh T) + 1)) (upd (upd (ttTe T) (ttCh T) (vp_nar .byte ((a : Int32).toInt8.toInt32))) ((ttCh T) + 1) (vp_nar .byte ((b : Int32).toInt8.toInt32)))) (((ttCh T) + 1) + 1)) (upd (upd (upd (ttTe T) (ttCh T) (vp_nar .byte ((a : Int32).toInt8.toInt32))) ((ttCh T) + 1) (vp_nar .byte ((b : Int32).toInt8.toInt32))) (((ttCh T) + 1) + 1) (vp_nar .byte ((c : Int32).toInt8.toInt32)))) ((((ttCh T) + 1) + 1) + 1)) (updN (ttMa T) jt (((ttMa T) jt) + 3))) (soTh oJ 0) (i := jt) (by decide) ((na_characters 5).trans ((na_text 5 (by decide)).trans ((na_characters 5).trans ((na_text 5 (by decide)).trans ((na_characters 5).trans ((na_text 5 (by decide)).trans ((na_thrown 5).trans ga_many))))))) (by omega) (by decide) qf_many ((congrArg (fun f9 => (mar cI cB cZ C (sxCh (sxTe (sxCh (sxTe (sxCh (sxTe T (upd (ttTe T) (ttCh T) (vp_nar .byte ((a : Int32).toInt8.toInt32)))) ((ttCh T) + 1)) (upd (upd (ttTe T) (ttCh T) (vp_nar .byte ((a : Int32).toInt8.toInt32))) ((ttCh T) + 1) (vp_nar .byte ((b : Int32).toInt8.toInt32)))) (((ttCh T) + 1) + 1)) (upd (upd (upd (ttTe T) (ttCh T) (vp_nar .byte ((a : Int32).toInt8.toInt32))) ((ttCh T) + 1) (vp_nar .byte ((b : Int32).toInt8.toInt32))) (((ttCh T) + 1) + 1) (vp_nar .byte ((c : Int32).toInt8.toInt32)))) ((((ttCh T) + 1) + 1) + 1)) (soTh oJ 0)).set 5 (.inl (cI, 300, .inl f9))) (updN_nI (f := (ttMa T)) (k := jt) (x := (((ttMa T) jt) + 3)))).trans qa_many) d_M_say_219 (fun va50 hM50 hf50 => ?_)
              refine v_iload hX d_M_say_220 rfl ?_
              exact v_iret hX hE d_M_say_222 (Nat.le_of_ble_eq_true rfl) (Nat.le_of_ble_eq_true rfl) ⟨rfl, rfl, rfl, rfl, (tlT T (upd (upd (upd (ttTe T) (ttCh T) (vp_nar .byte ((a : Int32).toInt8.toInt32))) ((ttCh T) + 1) (vp_nar .byte ((b : Int32).toInt8.toInt32))) (((ttCh T) + 1) + 1) (vp_nar .byte ((c : Int32).toInt8.toInt32))) jt 3), (soTh oJ 0), (Or.inr ⟨hsy, (upd (upd (upd (ttTe T) (ttCh T) (vp_nar .byte ((a : Int32).toInt8.toInt32))) ((ttCh T) + 1) (vp_nar .byte ((b : Int32).toInt8.toInt32))) (((ttCh T) + 1) + 1) (vp_nar .byte ((c : Int32).toInt8.toInt32))), 3, jt, ⟨rfl, by omega, by omega⟩, rfl, Or.inr ⟨hna, hjt, hje, hk10, rfl⟩⟩), (by have h9 := hM50; rw [tlc] at h9; rw [tlc] at h9; exact h9.tl rfl), ⟨hOJ.1.1, hOJ.1.2.1, hOJ.1.2.2.1, hOJ.1.2.2.2.1, (by have q9 := hOJ.1.2.2.2.2; first | exact q9 | omega | (show (ooSm oJ) ≤ 4300; omega))⟩, ((((((((hfJ.trans hf35).trans hf44).trans hf45).trans hf46).trans hf47).trans hf48).trans hf49).trans hf50)⟩
            · refine v_iload hX d_M_say_144 rfl ?_
              refine v_iload hX d_M_say_146 rfl ?_
              refine v_icmp_ge hX d_M_say_148 (tgt := 208) (by decide) (fun c => absurd c (by decide)) (fun _ => ?_)
              refine v_aload_n hX d_M_say_151 rfl rfl ?_
              refine v_mget hX hM35 8 (v := .ref (ob 56)) (by decide) fl_M_31 rfl rfl d_M_say_152 ?_
              refine v_aload_n hX d_M_say_155 rfl rfl ?_
              refine v_mget hX hM35 10 (v := .int (nI (ttCh T))) (by decide) fl_M_104 rfl ((nf_thrown 10 (by decide)).trans gf_characters) d_M_say_156 ?_
              refine v_iload hX d_M_say_159 rfl ?_
              refine v_if_ne hX d_M_say_161 (tgt := 168) (by decide) (fun c => absurd (by decide) c) (fun _ => ?_)
              refine v_iload_n hX d_M_say_164 rfl rfl ?_
              refine v_goto hX d_M_say_165 (tgt := 190) (by decide) ?_
              refine v_i2b hX d_M_say_190 rfl ?_
              refine v_mbst hX hM35 7 C (sxTe T (upd (ttTe T) (ttCh T) (vp_nar .byte ((a : Int32).toInt8.toInt32)))) (soTh oJ 0) (i := (ttCh T)) (by decide) ((na_thrown 7).trans ga_text) (by omega) (by decide) qf_text qa_text d_M_say_191 (fun va51 hM51 hf51 => ?_)
              refine v_aload_n hX d_M_say_192 rfl rfl ?_
              refine v_dup hX d_M_say_193 rfl ?_
              refine v_mget hX hM51 10 (v := .int (nI (ttCh T))) (by decide) fl_M_104 rfl ((nf_text 10).trans ((nf_thrown 10 (by decide)).trans gf_characters)) d_M_say_194 ?_
              refine v_iconst (v := 1) hX d_M_say_197 (by decide) ?_
              refine v_iaddE (v := nI ((ttCh T) + 1)) hX d_M_say_198 (nI_add (ttCh T) 1) ?_
              refine v_mput hX hM51 10 C (sxCh (sxTe T (upd (ttTe T) (ttCh T) (vp_nar .byte ((a : Int32).toInt8.toInt32)))) ((ttCh T) + 1)) (soTh oJ 0) (by decide) fl_M_104 rfl rfl rfl rfl pf_characters pa_characters d_M_say_199 (fun va52 hM52 hf52 => ?_)
              refine v_iinc (y := 1) (lv' := [some (.ref (ob 48)), some (.int a), some (.int b), some (.int c), some (.int d), some (.int (nI 4)), some (.int 0), some (.int (nI jt)), some (.int 1)]) hX d_M_say_202 rfl (by decide) rfl ?_
              refine v_goto hX d_M_say_205 (tgt := 144) (by decide) ?_
              refine v_iload hX d_M_say_144 rfl ?_
              refine v_iload hX d_M_say_146 rfl ?_
              refine v_icmp_ge hX d_M_say_148 (tgt := 208) (by decide) (fun c => absurd c (by decide)) (fun _ => ?_)
              refine v_aload_n hX d_M_say_151 rfl rfl ?_
              refine v_mget hX hM52 8 (v := .ref (ob 56)) (by decide) fl_M_31 rfl rfl d_M_say_152 ?_
              refine v_aload_n hX d_M_say_155 rfl rfl ?_
              refine v_mget hX hM52 10 (v := .int (nI ((ttCh T) + 1))) (by decide) fl_M_104 rfl ((nf_thrown 10 (by decide)).trans hf_characters) d_M_say_156 ?_
              refine v_iload hX d_M_say_159 rfl ?_
              refine v_if_ne hX d_M_say_161 (tgt := 168) (by decide) (fun _ => ?_) (fun c => absurd c (by decide))
              refine v_iload hX d_M_say_168 rfl ?_
              refine v_iconst (v := 1) hX d_M_say_170 (by decide) ?_
              refine v_icmp_ne hX d_M_say_171 (tgt := 178) (by decide) (fun c => absurd (by decide) c) (fun _ => ?_)
              refine v_iload_n hX d_M_say_174 rfl rfl ?_
              refine v_goto hX d_M_say_175 (tgt := 190) (by decide) ?_
              refine v_i2b hX d_M_say_190 rfl ?_
              refine v_mbst hX hM52 7 C (sxTe (sxCh (sxTe T (upd (ttTe T) (ttCh T) (vp_nar .byte ((a : Int32).toInt8.toInt32)))) ((ttCh T) + 1)) (upd (upd (ttTe T) (ttCh T) (vp_nar .byte ((a : Int32).toInt8.toInt32))) ((ttCh T) + 1) (vp_nar .byte ((b : Int32).toInt8.toInt32)))) (soTh oJ 0) (i := ((ttCh T) + 1)) (by decide) ((na_characters 7).trans ((na_thrown 7).trans ha_text)) (by omega) (by decide) qf_text qa_text d_M_say_191 (fun va53 hM53 hf53 => ?_)
              refine v_aload_n hX d_M_say_192 rfl rfl ?_
              refine v_dup hX d_M_say_193 rfl ?_
              refine v_mget hX hM53 10 (v := .int (nI ((ttCh T) + 1))) (by decide) fl_M_104 rfl ((nf_text 10).trans ((nf_thrown 10 (by decide)).trans hf_characters)) d_M_say_194 ?_
              refine v_iconst (v := 1) hX d_M_say_197 (by decide) ?_
              refine v_iaddE (v := nI (((ttCh T) + 1) + 1)) hX d_M_say_198 (nI_add ((ttCh T) + 1) 1) ?_
              refine v_mput hX hM53 10 C (sxCh (sxTe (sxCh (sxTe T (upd (ttTe T) (ttCh T) (vp_nar .byte ((a : Int32).toInt8.toInt32)))) ((ttCh T) + 1)) (upd (upd (ttTe T) (ttCh T) (vp_nar .byte ((a : Int32).toInt8.toInt32))) ((ttCh T) + 1) (vp_nar .byte ((b : Int32).toInt8.toInt32)))) (((ttCh T) + 1) + 1)) (soTh oJ 0) (by decide) fl_M_104 rfl rfl rfl rfl pf_characters pa_characters d_M_say_199 (fun va54 hM54 hf54 => ?_)
              refine v_iinc (y := 2) (lv' := [some (.ref (ob 48)), some (.int a), some (.int b), some (.int c), some (.int d), some (.int (nI 4)), some (.int 0), some (.int (nI jt)), some (.int 2)]) hX d_M_say_202 rfl (by decide) rfl ?_
              refine v_goto hX d_M_say_205 (tgt := 144) (by decide) ?_
              refine v_iload hX d_M_say_144 rfl ?_
              refine v_iload hX d_M_say_146 rfl ?_
              refine v_icmp_ge hX d_M_say_148 (tgt := 208) (by decide) (fun c => absurd c (by decide)) (fun _ => ?_)
              refine v_aload_n hX d_M_say_151 rfl rfl ?_
              refine v_mget hX hM54 8 (v := .ref (ob 56)) (by decide) fl_M_31 rfl rfl d_M_say_152 ?_
              refine v_aload_n hX d_M_say_155 rfl rfl ?_
              refine v_mget hX hM54 10 (v := .int (nI (((ttCh T) + 1) + 1))) (by decide) fl_M_104 rfl ((nf_thrown 10 (by decide)).trans hf_characters) d_M_say_156 ?_
              refine v_iload hX d_M_say_159 rfl ?_
              refine v_if_ne hX d_M_say_161 (tgt := 168) (by decide) (fun _ => ?_) (fun c => absurd c (by decide))
              refine v_iload hX d_M_say_168 rfl ?_
              refine v_iconst (v := 1) hX d_M_say_170 (by decide) ?_
              refine v_icmp_ne hX d_M_say_171 (tgt := 178) (by decide) (fun _ => ?_) (fun c => absurd c (by decide))
              refine v_iload hX d_M_say_178 rfl ?_
              refine v_iconst (v := 2) hX d_M_say_180 (by decide) ?_
              refine v_icmp_ne hX d_M_say_181 (tgt := 188) (by decide) (fun c => absurd (by decide) c) (fun _ => ?_)
              refine v_iload_n hX d_M_say_184 rfl rfl ?_
              refine v_goto hX d_M_say_185 (tgt := 190) (by decide) ?_
              refine v_i2b hX d_M_say_190 rfl ?_
              refine v_mbst hX hM54 7 C (sxTe (sxCh (sxTe (sxCh (sxTe T (upd (ttTe T) (ttCh T) (vp_nar .byte ((a : Int32).toInt8.toInt32)))) ((ttCh T) + 1)) (upd (upd (ttTe T) (ttCh T) (vp_nar .byte ((a : Int32).toInt8.toInt32))) ((ttCh T) + 1) (vp_nar .byte ((b : Int32).toInt8.toInt32)))) (((ttCh T) + 1) + 1)) (upd (upd (upd (ttTe T) (ttCh T) (vp_nar .byte ((a : Int32).toInt8.toInt32))) ((ttCh T) + 1) (vp_nar .byte ((b : Int32).toInt8.toInt32))) (((ttCh T) + 1) + 1) (vp_nar .byte ((c : Int32).toInt8.toInt32)))) (soTh oJ 0) (i := (((ttCh T) + 1) + 1)) (by decide) ((na_characters 7).trans ((na_thrown 7).trans ha_text)) (by omega) (by decide) qf_text qa_text d_M_say_191 (fun va55 hM55 hf55 => ?_)
              refine v_aload_n hX d_M_say_192 rfl rfl ?_
              refine v_dup hX d_M_say_193 rfl ?_
              refine v_mget hX hM55 10 (v := .int (nI (((ttCh T) + 1) + 1))) (by decide) fl_M_104 rfl ((nf_text 10).trans ((nf_thrown 10 (by decide)).trans hf_characters)) d_M_say_194 ?_
              refine v_iconst (v := 1) hX d_M_say_197 (by decide) ?_
              refine v_iaddE (v := nI ((((ttCh T) + 1) + 1) + 1)) hX d_M_say_198 (nI_add (((ttCh T) + 1) + 1) 1) ?_
              refine v_mput hX hM55 10 C (sxCh (sxTe (sxCh (sxTe (sxCh (sxTe T (upd (ttTe T) (ttCh T) (vp_nar .byte ((a : Int32).toInt8.toInt32)))) ((ttCh T) + 1)) (upd (upd (ttTe T) (ttCh T) (vp_nar .byte ((a : Int32).toInt8.toInt32))) ((ttCh T) + 1) (vp_nar .byte ((b : Int32).toInt8.toInt32)))) (((ttCh T) + 1) + 1)) (upd (upd (upd (ttTe T) (ttCh T) (vp_nar .byte ((a : Int32).toInt8.toInt32))) ((ttCh T) + 1) (vp_nar .byte ((b : Int32).toInt8.toInt32))) (((ttCh T) + 1) + 1) (vp_nar .byte ((c : Int32).toInt8.toInt32)))) ((((ttCh T) + 1) + 1) + 1)) (soTh oJ 0) (by decide) fl_M_104 rfl rfl rfl rfl pf_characters pa_characters d_M_say_199 (fun va56 hM56 hf56 => ?_)
              refine v_iinc (y := 3) (lv' := [some (.ref (ob 48)), some (.int a), some (.int b), some (.int c), some (.int d), some (.int (nI 4)), some (.int 0), some (.int (nI jt)), some (.int 3)]) hX d_M_say_202 rfl (by decide) rfl ?_
              refine v_goto hX d_M_say_205 (tgt := 144) (by decide) ?_
              refine v_iload hX d_M_say_144 rfl ?_
              refine v_iload hX d_M_say_146 rfl ?_
              refine v_icmp_ge hX d_M_say_148 (tgt := 208) (by decide) (fun c => absurd c (by decide)) (fun _ => ?_)
              refine v_aload_n hX d_M_say_151 rfl rfl ?_
              refine v_mget hX hM56 8 (v := .ref (ob 56)) (by decide) fl_M_31 rfl rfl d_M_say_152 ?_
              refine v_aload_n hX d_M_say_155 rfl rfl ?_
              refine v_mget hX hM56 10 (v := .int (nI ((((ttCh T) + 1) + 1) + 1))) (by decide) fl_M_104 rfl ((nf_thrown 10 (by decide)).trans hf_characters) d_M_say_156 ?_
              refine v_iload hX d_M_say_159 rfl ?_
              refine v_if_ne hX d_M_say_161 (tgt := 168) (by decide) (fun _ => ?_) (fun c => absurd c (by decide))
              refine v_iload hX d_M_say_168 rfl ?_
              refine v_iconst (v := 1) hX d_M_say_170 (by decide) ?_
              refine v_icmp_ne hX d_M_say_171 (tgt := 178) (by decide) (fun _ => ?_) (fun c => absurd c (by decide))
              refine v_iload hX d_M_say_178 rfl ?_
              refine v_iconst (v := 2) hX d_M_say_180 (by decide) ?_
              refine v_icmp_ne hX d_M_say_181 (tgt := 188) (by decide) (fun _ => ?_) (fun c => absurd c (by decide))
              refine v_iload hX d_M_say_188 rfl ?_
              refine v_i2b hX d_M_say_190 rfl ?_
              refine v_mbst hX hM56 7 C (sxTe (sxCh (sxTe (sxCh (sxTe (sxCh (sxTe T (upd (ttTe T) (ttCh T) (vp_nar .byte ((a : Int32).toInt8.toInt32)))) ((ttCh T) + 1)) (upd (upd (ttTe T) (ttCh T) (vp_nar .byte ((a : Int32).toInt8.toInt32))) ((ttCh T) + 1) (vp_nar .byte ((b : Int32).toInt8.toInt32)))) (((ttCh T) + 1) + 1)) (upd (upd (upd (ttTe T) (ttCh T) (vp_nar .byte ((a : Int32).toInt8.toInt32))) ((ttCh T) + 1) (vp_nar .byte ((b : Int32).toInt8.toInt32))) (((ttCh T) + 1) + 1) (vp_nar .byte ((c : Int32).toInt8.toInt32)))) ((((ttCh T) + 1) + 1) + 1)) (upd (upd (upd (upd (ttTe T) (ttCh T) (vp_nar .byte ((a : Int32).toInt8.toInt32))) ((ttCh T) + 1) (vp_nar .byte ((b : Int32).toInt8.toInt32))) (((ttCh T) + 1) + 1) (vp_nar .byte ((c : Int32).toInt8.toInt32))) ((((ttCh T) + 1) + 1) + 1) (vp_nar .byte ((d : Int32).toInt8.toInt32)))) (soTh oJ 0) (i := ((((ttCh T) + 1) + 1) + 1)) (by decide) ((na_characters 7).trans ((na_thrown 7).trans ha_text)) (by omega) (by decide) qf_text qa_text d_M_say_191 (fun va57 hM57 hf57 => ?_)
              refine v_aload_n hX d_M_say_192 rfl rfl ?_
              refine v_dup hX d_M_say_193 rfl ?_
              refine v_mget hX hM57 10 (v := .int (nI ((((ttCh T) + 1) + 1) + 1))) (by decide) fl_M_104 rfl ((nf_text 10).trans ((nf_thrown 10 (by decide)).trans hf_characters)) d_M_say_194 ?_
              refine v_iconst (v := 1) hX d_M_say_197 (by decide) ?_
              refine v_iaddE (v := nI (((((ttCh T) + 1) + 1) + 1) + 1)) hX d_M_say_198 (nI_add ((((ttCh T) + 1) + 1) + 1) 1) ?_
              refine v_mput hX hM57 10 C (sxCh (sxTe (sxCh (sxTe (sxCh (sxTe (sxCh (sxTe T (upd (ttTe T) (ttCh T) (vp_nar .byte ((a : Int32).toInt8.toInt32)))) ((ttCh T) + 1)) (upd (upd (ttTe T) (ttCh T) (vp_nar .byte ((a : Int32).toInt8.toInt32))) ((ttCh T) + 1) (vp_nar .byte ((b : Int32).toInt8.toInt32)))) (((ttCh T) + 1) + 1)) (upd (upd (upd (ttTe T) (ttCh T) (vp_nar .byte ((a : Int32).toInt8.toInt32))) ((ttCh T) + 1) (vp_nar .byte ((b : Int32).toInt8.toInt32))) (((ttCh T) + 1) + 1) (vp_nar .byte ((c : Int32).toInt8.toInt32)))) ((((ttCh T) + 1) + 1) + 1)) (upd (upd (upd (upd (ttTe T) (ttCh T) (vp_nar .byte ((a : Int32).toInt8.toInt32))) ((ttCh T) + 1) (vp_nar .byte ((b : Int32).toInt8.toInt32))) (((ttCh T) + 1) + 1) (vp_nar .byte ((c : Int32).toInt8.toInt32))) ((((ttCh T) + 1) + 1) + 1) (vp_nar .byte ((d : Int32).toInt8.toInt32)))) (((((ttCh T) + 1) + 1) + 1) + 1)) (soTh oJ 0) (by decide) fl_M_104 rfl rfl rfl rfl pf_characters pa_characters d_M_say_199 (fun va58 hM58 hf58 => ?_)
              refine v_iinc (y := 4) (lv' := [some (.ref (ob 48)), some (.int a), some (.int b), some (.int c), some (.int d), some (.int (nI 4)), some (.int 0), some (.int (nI jt)), some (.int 4)]) hX d_M_say_202 rfl (by decide) rfl ?_
              refine v_goto hX d_M_say_205 (tgt := 144) (by decide) ?_
              refine v_iload hX d_M_say_144 rfl ?_
              refine v_iload hX d_M_say_146 rfl ?_
              refine v_icmp_ge hX d_M_say_148 (tgt := 208) (by decide) (fun _ => ?_) (fun c => absurd (by decide) c)
              refine v_aload_n hX d_M_say_208 rfl rfl ?_
              refine v_mget hX hM58 6 (v := .ref (ob 54)) (by decide) fl_M_25 rfl rfl d_M_say_209 ?_
              refine v_iload hX d_M_say_212 rfl ?_
              refine v_dup2 hX d_M_say_214 rfl rfl ?_
              refine v_mild hX hM58 5 (i := jt) (v := (nI ((ttMa T) jt))) ((na_characters 5).trans ((na_text 5 (by decide)).trans ((na_characters 5).trans ((na_text 5 (by decide)).trans ((na_characters 5).trans ((na_text 5 (by decide)).trans ((na_characters 5).trans ((na_text 5 (by decide)).trans ((na_thrown 5).trans ga_many))))))))) (by omega) (by decide) rfl d_M_say_215 ?_
              refine v_iload hX d_M_say_216 rfl ?_
              refine v_iaddE (v := nI (((ttMa T) jt) + 4)) hX d_M_say_218 (nI_add ((ttMa T) jt) 4) ?_
              refine v_mist hX hM58 5 C (sxMa (sxCh (sxTe (sxCh (sxTe (sxCh (sxTe (sxCh (sxTe T (upd (ttTe T) (ttCh T) (vp_nar .byte ((a : Int32).toInt8.toInt32)))) ((ttCh T) + 1)) (upd (upd (ttTe T) (ttCh T) (vp_nar .byte ((a : Int32).toInt8.toInt32))) ((ttCh T) + 1) (vp_nar .byte ((b : Int32).toInt8.toInt32)))) (((ttCh T) + 1) + 1)) (upd (upd (upd (ttTe T) (ttCh T) (vp_nar .byte ((a : Int32).toInt8.toInt32))) ((ttCh T) + 1) (vp_nar .byte ((b : Int32).toInt8.toInt32))) (((ttCh T) + 1) + 1) (vp_nar .byte ((c : Int32).toInt8.toInt32)))) ((((ttCh T) + 1) + 1) + 1)) (upd (upd (upd (upd (ttTe T) (ttCh T) (vp_nar .byte ((a : Int32).toInt8.toInt32))) ((ttCh T) + 1) (vp_nar .byte ((b : Int32).toInt8.toInt32))) (((ttCh T) + 1) + 1) (vp_nar .byte ((c : Int32).toInt8.toInt32))) ((((ttCh T) + 1) + 1) + 1) (vp_nar .byte ((d : Int32).toInt8.toInt32)))) (((((ttCh T) + 1) + 1) + 1) + 1)) (updN (ttMa T) jt (((ttMa T) jt) + 4))) (soTh oJ 0) (i := jt) (by decide) ((na_characters 5).trans ((na_text 5 (by decide)).trans ((na_characters 5).trans ((na_text 5 (by decide)).trans ((na_characters 5).trans ((na_text 5 (by decide)).trans ((na_characters 5).trans ((na_text 5 (by decide)).trans ((na_thrown 5).trans ga_many))))))))) (by omega) (by decide) qf_many ((congrArg (fun f9 => (mar cI cB cZ C (sxCh (sxTe (sxCh (sxTe (sxCh (sxTe (sxCh (sxTe T (upd (ttTe T) (ttCh T) (vp_nar .byte ((a : Int32).toInt8.toInt32)))) ((ttCh T) + 1)) (upd (upd (ttTe T) (ttCh T) (vp_nar .byte ((a : Int32).toInt8.toInt32))) ((ttCh T) + 1) (vp_nar .byte ((b : Int32).toInt8.toInt32)))) (((ttCh T) + 1) + 1)) (upd (upd (upd (ttTe T) (ttCh T) (vp_nar .byte ((a : Int32).toInt8.toInt32))) ((ttCh T) + 1) (vp_nar .byte ((b : Int32).toInt8.toInt32))) (((ttCh T) + 1) + 1) (vp_nar .byte ((c : Int32).toInt8.toInt32)))) ((((ttCh T) + 1) + 1) + 1)) (upd (upd (upd (upd (ttTe T) (ttCh T) (vp_nar .byte ((a : Int32).toInt8.toInt32))) ((ttCh T) + 1) (vp_nar .byte ((b : Int32).toInt8.toInt32))) (((ttCh T) + 1) + 1) (vp_nar .byte ((c : Int32).toInt8.toInt32))) ((((ttCh T) + 1) + 1) + 1) (vp_nar .byte ((d : Int32).toInt8.toInt32)))) (((((ttCh T) + 1) + 1) + 1) + 1)) (soTh oJ 0)).set 5 (.inl (cI, 300, .inl f9))) (updN_nI (f := (ttMa T)) (k := jt) (x := (((ttMa T) jt) + 4)))).trans qa_many) d_M_say_219 (fun va59 hM59 hf59 => ?_)
              refine v_iload hX d_M_say_220 rfl ?_
              exact v_iret hX hE d_M_say_222 (Nat.le_of_ble_eq_true rfl) (Nat.le_of_ble_eq_true rfl) ⟨rfl, rfl, rfl, rfl, (tlT T (upd (upd (upd (upd (ttTe T) (ttCh T) (vp_nar .byte ((a : Int32).toInt8.toInt32))) ((ttCh T) + 1) (vp_nar .byte ((b : Int32).toInt8.toInt32))) (((ttCh T) + 1) + 1) (vp_nar .byte ((c : Int32).toInt8.toInt32))) ((((ttCh T) + 1) + 1) + 1) (vp_nar .byte ((d : Int32).toInt8.toInt32))) jt 4), (soTh oJ 0), (Or.inr ⟨hsy, (upd (upd (upd (upd (ttTe T) (ttCh T) (vp_nar .byte ((a : Int32).toInt8.toInt32))) ((ttCh T) + 1) (vp_nar .byte ((b : Int32).toInt8.toInt32))) (((ttCh T) + 1) + 1) (vp_nar .byte ((c : Int32).toInt8.toInt32))) ((((ttCh T) + 1) + 1) + 1) (vp_nar .byte ((d : Int32).toInt8.toInt32))), 4, jt, ⟨rfl, by omega, by omega⟩, rfl, Or.inr ⟨hna, hjt, hje, hk10, rfl⟩⟩), (by have h9 := hM59; rw [tlc] at h9; rw [tlc] at h9; rw [tlc] at h9; exact h9.tl rfl), ⟨hOJ.1.1, hOJ.1.2.1, hOJ.1.2.2.1, hOJ.1.2.2.2.1, (by have q9 := hOJ.1.2.2.2.2; first | exact q9 | omega | (show (ooSm oJ) ≤ 4300; omega))⟩, ((((((((((hfJ.trans hf35).trans hf51).trans hf52).trans hf53).trans hf54).trans hf55).trans hf56).trans hf57).trans hf58).trans hf59)⟩
        · refine v_iconst (v := 1) hX d_M_say_69 (by decide) ?_
          refine v_goto hX d_M_say_70 (tgt := 103) (by decide) ?_
          refine v_mput hX hMJ 0 C T (soTh oJ 1) (by decide) fl_M_97 rfl rfl rfl rfl pf_thrown pa_thrown d_M_say_103 (fun va60 hM60 hf60 => ?_)
          refine v_aload_n hX d_M_say_106 rfl rfl ?_
          refine v_mget hX hM60 0 (v := .int 1) (by decide) fl_M_97 rfl hf_thrown d_M_say_107 ?_
          refine v_if_le hX d_M_say_110 (tgt := 115) (by decide) (fun c => absurd c (by decide)) (fun _ => ?_)
          refine v_iconst (v := 0) hX d_M_say_113 (by decide) ?_
          exact v_iret hX hE d_M_say_114 (Nat.le_of_ble_eq_true rfl) (Nat.le_of_ble_eq_true rfl) ⟨rfl, rfl, rfl, rfl, T, (soTh oJ 1), (Or.inl ⟨fun z => absurd (c66.symm.trans z.2.2.1) (by decide), rfl, rfl⟩), hM60, ⟨hOJ.1.1, hOJ.1.2.1, hOJ.1.2.2.1, hOJ.1.2.2.2.1, (by have q9 := hOJ.1.2.2.2.2; first | exact q9 | omega | (show (ooSm oJ) ≤ 4300; omega))⟩, (hfJ.trans hf60)⟩
  refine v_aload_n hX d_M_say_0 rfl rfl ?_
  refine v_mget hX hM 7 (v := .ref (ob 55)) (by decide) fl_M_28 rfl rfl d_M_say_1 ?_
  refine v_aload_n hX d_M_say_4 rfl rfl ?_
  refine v_mget hX hM 11 (v := .int (nI (ttHa T))) (by decide) fl_M_107 rfl gf_hand d_M_say_5 ?_
  refine v_mild hX hM 6 (i := (ttHa T)) (v := ((ttLa T) (ttHa T))) ga_lastIn (by omega) (by decide) rfl d_M_say_8 ?_
  refine v_iconst (v := (-1)) hX d_M_say_9 (by decide) ?_
  refine v_icmp_eq hX d_M_say_10 (tgt := 32) (by decide) (fun c10 => ?_) (fun c10 => ?_)
  · refine v_iconst (v := 1) hX d_M_say_32 (by decide) ?_
    refine v_goto hX d_M_say_33 (tgt := 37) (by decide) ?_
    refine v_istore (lv' := [some (.ref (ob 48)), some (.int a), some (.int b), some (.int c), some (.int d), some (.int n), some (.int 1), none, none]) hX d_M_say_37 (Nat.le_of_ble_eq_true rfl) rfl ?_
    exact j39a C O val hM ⟨hO, rfl⟩ frM.rf rfl (Or.inl c10)
  · obtain ⟨jt, hjt, hje⟩ := (hTX.2.2 (ttHa T) (by omega)).resolve_left c10
    refine v_aload_n hX d_M_say_13 rfl rfl ?_
    refine v_mget hX hM 1 (v := .ref (ob 49)) (by decide) fl_M_7 rfl rfl d_M_say_14 ?_
    refine v_aload_n hX d_M_say_17 rfl rfl ?_
    refine v_mget hX hM 7 (v := .ref (ob 55)) (by decide) fl_M_28 rfl rfl d_M_say_18 ?_
    refine v_aload_n hX d_M_say_21 rfl rfl ?_
    refine v_mget hX hM 11 (v := .int (nI (ttHa T))) (by decide) fl_M_107 rfl gf_hand d_M_say_22 ?_
    refine v_mild hX hM 6 (i := (ttHa T)) (v := (nI jt)) ga_lastIn (by omega) (by decide) hje d_M_say_25 ?_
    refine v_mild hX hM 0 (i := jt) (v := ((ttK T) jt)) ga_kind (by omega) (by decide) rfl d_M_say_26 ?_
    refine v_bipush (v := 10) hX d_M_say_27 (by decide) ?_
    refine v_icmp_eq hX d_M_say_29 (tgt := 36) (by decide) (fun c29 => ?_) (fun c29 => ?_)
    · refine v_iconst (v := 0) hX d_M_say_36 (by decide) ?_
      refine v_istore (lv' := [some (.ref (ob 48)), some (.int a), some (.int b), some (.int c), some (.int d), some (.int n), some (.int 0), none, none]) hX d_M_say_37 (Nat.le_of_ble_eq_true rfl) rfl ?_
      exact j39b jt C O val hM ⟨hO, rfl⟩ frM.rf rfl hjt hje c29
    · refine v_iconst (v := 1) hX d_M_say_32 (by decide) ?_
      refine v_goto hX d_M_say_33 (tgt := 37) (by decide) ?_
      refine v_istore (lv' := [some (.ref (ob 48)), some (.int a), some (.int b), some (.int c), some (.int d), some (.int n), some (.int 1), none, none]) hX d_M_say_37 (Nat.le_of_ble_eq_true rfl) rfl ?_
      exact j39a C O val hM ⟨hO, rfl⟩ frM.rf rfl (Or.inr (by rw [hje, nI_clamp (by omega)]; exact c29))
